/-! the first reader's lines: speed, worth, start, point, numbers told once -/
theorem skV_n {D : xD} {b : Int} {R : Int → Int} (h : skV D b R) : D (b + 3) 0 = R 3 := h.1
theorem skR_F {D : xD} {b : Int} {S S' : tSa} {R R' : Int → Int} {h : Int} (y : skR D b (S, R, h)) (e : ∀ i : Int, R' i = R i) : skR D b (S', R', h) := by
  have e2 : R' = R := funext e
  rw [e2]
  exact y
theorem ls_add {dd : Nat} (hd : 1 ≤ dd) {H K : xH} (hn : 210 ≤ (H.2.2.2.1 : Int)) {b s x y : Int} (hB : skB b) (hW : skW H.1 b) (kT : ttTI K) (kX : ttXX YY K) (kF : ttFr eL H K) (es : K.1 (b + 3) 0 = s) (s0 : 0 ≤ s) (s5 : s ≤ 5) (x0 : 0 ≤ x) (x1 : x ≤ 2000) (y0 : 0 ≤ y) (y1 : y ≤ 2000) {Q : Int → xH → Prop} (hq : ∀ J, ttTI J → ttXX YY J → ttFr eL H J → J = (xUp (xUp (xUp K.1 (b + 4) s x) (b + 5) s y) (b + 3) 0 (s + 1), K.2) → Q 0 J) : xCall dd 65 [(2, b + 3), (0, x), (0, y)] K Q := by
  obtain ⟨e, rfl, he⟩ := ttRun0 (n := 0) hd
  have hi := skB_in hB
  have y9 : ttTI K ∧ ttXX YY K ∧ ttFr eL H K := ⟨kT, kX, kF⟩
  refine xC_of (L := [(2, b + 3), (0, x), (0, y)]) (cd := cd_65) rfl rfl rfl ?_
  refine q_al (pc := 0) (i := 0) (x := (b + 3)) rfl rfl ?_
  refine q_gf (pc := 1) (m := 6000) (t := 0) (c := 0) rfl (sk_kx y9.1 hB (o := 3) (by decide) (by decide) (κ := 6) (len := 0) ⟨rfl, rfl⟩).1 rfl rfl ?_
  rw [show K.1 (b + 3) 0 = s from es]
  refine q_ic (pc := 2) (v := 6) rfl ?_
  refine q_i2 (pc := 3) rfl (fun h3 => ?_) (fun h3 => ?_)
  · replace h3 : 6 ≤ s := h3
    refine q_rv (pc := 22) rfl ?_
    omega
  · replace h3 : s < 6 := h3
    refine q_al (pc := 4) (i := 0) (x := (b + 3)) rfl rfl ?_
    refine q_gf (pc := 5) (m := 6012) (t := 2) (c := 1) rfl (sk_kx y9.1 hB (o := 3) (by decide) (by decide) (κ := 6) (len := 0) ⟨rfl, rfl⟩).1 rfl rfl ?_
    rw [show K.1 (b + 3) 1 = (b + 4) from (skW_fr y9.2.2 hn hB (by decide) hW).2.2.2.1.1]
    refine q_al (pc := 6) (i := 0) (x := (b + 3)) rfl rfl ?_
    refine q_gf (pc := 7) (m := 6000) (t := 0) (c := 0) rfl (sk_kx y9.1 hB (o := 3) (by decide) (by decide) (κ := 6) (len := 0) ⟨rfl, rfl⟩).1 rfl rfl ?_
    rw [show K.1 (b + 3) 0 = s from es]
    refine q_il (pc := 8) (i := 1) (x := x) rfl rfl ?_
    refine q_si (pc := 9) rfl (by omega) (sk_kx y9.1 hB (o := 4) (by decide) (by decide) (κ := 20) (len := 6) ⟨rfl, rfl⟩).1 (by omega) (by rw [(sk_kx y9.1 hB (o := 4) (by decide) (by decide) (κ := 20) (len := 6) ⟨rfl, rfl⟩).2]; omega) ?_
    have y10 := rB_put y9.1 y9.2.1 y9.2.2 (a := (b + 4)) (j := s) (x := x) 11 (sk_ro hB (o := 4) (by decide) (by decide)).1 (by omega) (ty_6 11 (Or.inl rfl) (by omega) (by omega)) ⟨(11, 0, 5), by decide, rfl, (show (0 : Int) ≤ s ∧ s ≤ 5 from ⟨by omega, by omega⟩)⟩ (by decide)
    obtain ⟨Y10, yk10⟩ : ∃ X : xH, X = (xUp K.1 (b + 4) s x, K.2) := ⟨_, rfl⟩
    rw [← yk10] at y10 ⊢
    have tr_Y10_b3_0 : Y10.1 (b + 3) 0 = s := by rw [yk10]; exact (up_ne (by omega)).trans (es)
    refine q_al (pc := 10) (i := 0) (x := (b + 3)) rfl rfl ?_
    refine q_gf (pc := 11) (m := 6022) (t := 2) (c := 2) rfl (sk_kx y10.1 hB (o := 3) (by decide) (by decide) (κ := 6) (len := 0) ⟨rfl, rfl⟩).1 rfl rfl ?_
    rw [show Y10.1 (b + 3) 2 = (b + 5) from (skW_fr y10.2.2 hn hB (by decide) hW).2.2.2.1.2]
    refine q_al (pc := 12) (i := 0) (x := (b + 3)) rfl rfl ?_
    refine q_gf (pc := 13) (m := 6000) (t := 0) (c := 0) rfl (sk_kx y10.1 hB (o := 3) (by decide) (by decide) (κ := 6) (len := 0) ⟨rfl, rfl⟩).1 rfl rfl ?_
    rw [show Y10.1 (b + 3) 0 = s from tr_Y10_b3_0]
    refine q_il (pc := 14) (i := 2) (x := y) rfl rfl ?_
    refine q_si (pc := 15) rfl (by omega) (sk_kx y10.1 hB (o := 5) (by decide) (by decide) (κ := 20) (len := 6) ⟨rfl, rfl⟩).1 (by omega) (by rw [(sk_kx y10.1 hB (o := 5) (by decide) (by decide) (κ := 20) (len := 6) ⟨rfl, rfl⟩).2]; omega) ?_
    have y11 := rB_put y10.1 y10.2.1 y10.2.2 (a := (b + 5)) (j := s) (x := y) 12 (sk_ro hB (o := 5) (by decide) (by decide)).1 (by omega) (ty_6 12 (Or.inr rfl) (by omega) (by omega)) ⟨(12, 0, 5), by decide, rfl, (show (0 : Int) ≤ s ∧ s ≤ 5 from ⟨by omega, by omega⟩)⟩ (by decide)
    obtain ⟨Y11, yk11⟩ : ∃ X : xH, X = (xUp Y10.1 (b + 5) s y, Y10.2) := ⟨_, rfl⟩
    rw [← yk11] at y11 ⊢
    have tr_Y11_b3_0 : Y11.1 (b + 3) 0 = s := by rw [yk11]; exact (up_ne (by omega)).trans (tr_Y10_b3_0)
    refine q_al (pc := 16) (i := 0) (x := (b + 3)) rfl rfl ?_
    refine q_d2 (pc := 17) rfl ?_
    refine q_gf (pc := 18) (m := 6000) (t := 0) (c := 0) rfl (sk_kx y11.1 hB (o := 3) (by decide) (by decide) (κ := 6) (len := 0) ⟨rfl, rfl⟩).1 rfl rfl ?_
    rw [show Y11.1 (b + 3) 0 = s from tr_Y11_b3_0]
    refine q_ic (pc := 19) (v := 1) rfl ?_
    refine q_ia (pc := 20) rfl (by omega) (by omega) ?_
    refine q_pf (pc := 21) (m := 6000) (c := 0) rfl (show xPt 0 0 _ _ from (sk_kx y11.1 hB (o := 3) (by decide) (by decide) (κ := 6) (len := 0) ⟨rfl, rfl⟩).1) rfl ?_
    have y12 := rB_put y11.1 y11.2.1 y11.2.2 (a := (b + 3)) (j := 0) (x := (s + 1)) 10 (sk_ro hB (o := 3) (by decide) (by decide)).1 (by omega) (show (0 : Int) ≤ (s + 1) ∧ (s + 1) ≤ 6 from ⟨by omega, by omega⟩) ⟨(10, 0, 0), by decide, rfl, (show (0 : Int) ≤ 0 ∧ 0 ≤ 0 from ⟨by omega, by omega⟩)⟩ (by decide)
    obtain ⟨Y12, yk12⟩ : ∃ X : xH, X = (xUp Y11.1 (b + 3) 0 (s + 1), Y11.2) := ⟨_, rfl⟩
    rw [← yk12] at y12 ⊢
    have tr_Y12_b3_0 : Y12.1 (b + 3) 0 = (s + 1) := by rw [yk12]; exact up_eq
    refine q_rv (pc := 22) rfl ?_
    refine hq Y12 y12.1 y12.2.1 y12.2.2 ?_
    rw [yk12, yk11, yk10]
theorem lb_readSpeed {dd : Nat} (hd : 8 ≤ dd) {H : xH} {T : tSm} {n b : Int} (hb : b = 7 ∨ b = 34) (hO : sOk T n) {Z : tZ} (zB0 : rB T H H Z.1) (h9 : H.1 3 9 = b) (hW : skW H.1 b) (hR : skR H.1 b Z) (hw : zRw Z) (m1 : Z.2.1 3 ≤ 5) {Q : Int → xH → Prop} (hq : ∀ J, rC T b H J (zSp T Z) → Q 0 J) : xCall dd 90 [(2, 3)] H Q := by
  obtain ⟨e, rfl, he⟩ := ttRun0 (n := 7) hd
  have he : 7 ≤ e := he
  have hB := skB_2 hb
  have hi := skB_in hB
  have hn := rB_n zB0
  have m0 := hw.2.2.2.1.1
  obtain ⟨s, js⟩ : ∃ s, s = Z.2.1 3 := ⟨_, rfl⟩
  have es : H.1 (b + 3) 0 = s := (skV_n hR.2.2.2.1).trans js.symm
  rw [← js] at m0 m1
  refine xC_of (L := [(2, 3), (9, 0), (9, 0)]) (cd := cd_90) rfl rfl rfl ?_
  refine q_al (pc := 0) (i := 0) (x := 3) rfl rfl ?_
  refine q_ic (pc := 1) (v := 20) rfl ?_
  refine q_ic (pc := 2) (v := 150) rfl ?_
  refine q_iv (pc := 3) (q := 640572) rfl rfl rfl (ttKc zB0.1 (a := 3) (κ := 7) (len := 0) ⟨rfl, rfl⟩ (by decide) (by decide)).1 ?_
  refine lb_num (by decide) (by omega) hO zB0 (fun ujr1 J1 zB1 jr1 => ?_)
  obtain ⟨V1, jV1⟩ : ∃ Y : tSa, Y = (sNm T Z.1 20 150).2 := ⟨_, rfl⟩
  replace zB1 : rB T H J1 V1 := by rw [jV1]; exact zB1
  have jb1 : ujr1 = 0 ∨ 20 ≤ ujr1 ∧ ujr1 ≤ 150 := by rw [jr1]; exact sNm_v
  refine q_is (pc := 4) (i := 1) (L' := [(2, 3), (0, ujr1), (9, 0)]) rfl rfl rfl ?_
  refine q_al (pc := 5) (i := 0) (x := 3) rfl rfl ?_
  refine q_sc (pc := 6) (j := 22) rfl ?_
  refine q_iv (pc := 7) (q := 632571) rfl rfl rfl ⟨by omega, (ttKc zB1.1 (a := 3) (κ := 7) (len := 0) ⟨rfl, rfl⟩ (by decide) (by decide)).1⟩ ?_
  refine lb_word (by decide) (by decide) (by omega) hO zB1 (fun J2 zB2 => ?_)
  obtain ⟨V2, jV2⟩ : ∃ Y : tSa, Y = sNd T V1 (-24) := ⟨_, rfl⟩
  replace zB2 : rB T H J2 V2 := by rw [jV2]; exact zB2
  refine q_al (pc := 8) (i := 0) (x := 3) rfl rfl ?_
  refine q_ic (pc := 9) (v := 1) rfl ?_
  refine q_ic (pc := 10) (v := 999) rfl ?_
  refine q_iv (pc := 11) (q := 640572) rfl rfl rfl (ttKc zB2.1 (a := 3) (κ := 7) (len := 0) ⟨rfl, rfl⟩ (by decide) (by decide)).1 ?_
  refine lb_num (by decide) (by omega) hO zB2 (fun ujr3 J3 zB3 jr3 => ?_)
  obtain ⟨V3, jV3⟩ : ∃ Y : tSa, Y = (sNm T V2 1 999).2 := ⟨_, rfl⟩
  replace zB3 : rB T H J3 V3 := by rw [jV3]; exact zB3
  have jb3 : ujr3 = 0 ∨ 1 ≤ ujr3 ∧ ujr3 ≤ 999 := by rw [jr3]; exact sNm_v
  refine q_is (pc := 12) (i := 2) (L' := [(2, 3), (0, ujr1), (0, ujr3)]) rfl rfl rfl ?_
  refine q_al (pc := 13) (i := 0) (x := 3) rfl rfl ?_
  refine q_gf (pc := 14) (m := 7060) (t := 0) (c := 6) rfl (ttKc zB3.1 (a := 3) (κ := 7) (len := 0) ⟨rfl, rfl⟩ (by decide) (by decide)).1 rfl rfl ?_
  rw [show J3.1 3 6 = V3.2.1 from rB_f zB3]
  refine q_if (pc := 15) rfl (fun h15 => ?_) (fun h15 => ?_)
  · replace h15 : V3.2.1 ≠ 0 := h15
    refine q_rv (pc := 22) rfl ?_
    have eZ1 : zSp T Z = (V3, sUp (sUp (sUp Z.2.1 (144 + 2 * s) ujr1) (144 + 2 * s + 1) ujr3) 3 (s + 1), Z.2.2) := by
      have u : sUp (sUp Z.2.1 (144 + 2 * s) ujr1) (144 + 2 * s + 1) ujr3 3 = s := (sUp_ne (by omega)).trans ((sUp_ne (by omega)).trans js.symm)
      have e3 : vTd T (-24) 1 999 (zPn T 20 150 (144 + 2 * s) Z) = ujr3 := by rw [jr3, jV2, jV1]; rfl
      have e4 : zTd T (-24) 1 999 (zPn T 20 150 (144 + 2 * s) Z) = (V3, sUp Z.2.1 (144 + 2 * s) ujr1, Z.2.2) := by rw [jV3, jV2, jV1, jr1]; rfl
      have e5 : zPt T (-24) 1 999 (144 + 2 * s + 1) (zPn T 20 150 (144 + 2 * s) Z) = (V3, sUp (sUp Z.2.1 (144 + 2 * s) ujr1) (144 + 2 * s + 1) ujr3, Z.2.2) := by
        unfold zPt
        rw [e3, e4]
        rfl
      unfold zSp
      rw [← js, e5]
      show (_, sUp _ 3 (sUp (sUp Z.2.1 (144 + 2 * s) ujr1) (144 + 2 * s + 1) ujr3 3 + 1), _) = _
      rw [u]
    exact hq _ (rC_f zB3 (by rw [eZ1]) h15)
  · replace h15 : V3.2.1 = 0 := h15
    refine q_al (pc := 16) (i := 0) (x := 3) rfl rfl ?_
    refine q_gf (pc := 17) (m := 7092) (t := 2) (c := 9) rfl (ttKc zB3.1 (a := 3) (κ := 7) (len := 0) ⟨rfl, rfl⟩ (by decide) (by decide)).1 rfl rfl ?_
    rw [show J3.1 3 9 = b from (rB_9 zB3).trans h9]
    refine q_gf (pc := 18) (m := 10022) (t := 2) (c := 2) rfl (sk_kb zB3.1 hB).1 rfl rfl ?_
    rw [show J3.1 b 2 = (b + 3) from (rB_W zB3 hB hW).1.2.2.1]
    refine q_il (pc := 19) (i := 1) (x := ujr1) rfl rfl ?_
    refine q_il (pc := 20) (i := 2) (x := ujr3) rfl rfl ?_
    refine q_iv (pc := 21) (q := 520495) rfl rfl rfl (sk_kx zB3.1 hB (o := 3) (by decide) (by decide) (κ := 6) (len := 0) ⟨rfl, rfl⟩).1 ?_
    refine ls_add (by omega) hn hB hW zB3.1 zB3.2.1 (rB_L zB3) ((rB_sk zB3 hB (by omega) (by omega)).trans es) m0 m1 (by omega) (by omega) (by omega) (by omega) (fun J jT jX jF jJ => ?_)
    have jc : cT J = T ∧ cS J = V3 := by rw [jJ]; exact ⟨(cT_up (K := (xUp (xUp J3.1 (b + 4) s ujr1) (b + 5) s ujr3, J3.2)) (by omega)).trans ((cT_up (K := (xUp J3.1 (b + 4) s ujr1, J3.2)) (by omega)).trans ((cT_up (by omega)).trans zB3.2.2.2.1.1)), (cS_up (K := (xUp (xUp J3.1 (b + 4) s ujr1) (b + 5) s ujr3, J3.2)) (by omega)).trans ((cS_up (K := (xUp J3.1 (b + 4) s ujr1, J3.2)) (by omega)).trans ((cS_up (by omega)).trans zB3.2.2.2.1.2))⟩
    refine q_rv (pc := 22) rfl ?_
    have eZ1 : zSp T Z = (V3, sUp (sUp (sUp Z.2.1 (144 + 2 * s) ujr1) (144 + 2 * s + 1) ujr3) 3 (s + 1), Z.2.2) := by
      have u : sUp (sUp Z.2.1 (144 + 2 * s) ujr1) (144 + 2 * s + 1) ujr3 3 = s := (sUp_ne (by omega)).trans ((sUp_ne (by omega)).trans js.symm)
      have e3 : vTd T (-24) 1 999 (zPn T 20 150 (144 + 2 * s) Z) = ujr3 := by rw [jr3, jV2, jV1]; rfl
      have e4 : zTd T (-24) 1 999 (zPn T 20 150 (144 + 2 * s) Z) = (V3, sUp Z.2.1 (144 + 2 * s) ujr1, Z.2.2) := by rw [jV3, jV2, jV1, jr1]; rfl
      have e5 : zPt T (-24) 1 999 (144 + 2 * s + 1) (zPn T 20 150 (144 + 2 * s) Z) = (V3, sUp (sUp Z.2.1 (144 + 2 * s) ujr1) (144 + 2 * s + 1) ujr3, Z.2.2) := by
        unfold zPt
        rw [e3, e4]
        rfl
      unfold zSp
      rw [← js, e5]
      show (_, sUp _ 3 (sUp (sUp Z.2.1 (144 + 2 * s) ujr1) (144 + 2 * s + 1) ujr3 3 + 1), _) = _
      rw [u]
    have hRK : skR J3.1 b Z := skR_D hR hw.2.2.2.1.2 (fun a j a0 a1 => rB_sk zB3 hB a0 a1)
    have jO : skO b H J := skO_u (K := (xUp (xUp J3.1 (b + 4) s ujr1) (b + 5) s ujr3, J3.2)) (skO_u (K := (xUp J3.1 (b + 4) s ujr1, J3.2)) (skO_u (K := J3) (skO_B zB3) (skB_2 hb) (by omega) rfl) (skB_2 hb) (by omega) rfl) (skB_2 hb) (by omega) jJ
    refine hq _ ⟨jT, jX, jF, by rw [eZ1]; exact jc, by rw [eZ1]; exact zB3.2.2.2.2, jO, fun _ => ?_⟩
    rw [eZ1, jJ]
    exact sr_speed (S := Z.1) (h := Z.2.2) (s := s) (x := ujr1) (y := ujr3) hRK m0 m1 js.symm (fun j => (up_ne (by omega)).trans ((up_ne (by omega)).trans (up_ne (by omega)))) up_eq (fun a j a0 a1 => (up_ne (by omega)).trans ((up_ne (by omega)).trans (up_ne (by omega)))) ⟨(up_ne (by omega)).trans ((up_ne (by omega)).trans up_eq), (up_ne (by omega)).trans up_eq⟩ (fun j ujj0 => ⟨(up_ne (by omega)).trans ((up_ne (by omega)).trans (up_ne (by omega))), (up_ne (by omega)).trans ((up_ne (by omega)).trans (up_ne (by omega)))⟩) ⟨(sUp_ne (by omega)).trans ((sUp_ne (by omega)).trans (sUp_eq)), (sUp_ne (by omega)).trans (sUp_eq)⟩ sUp_eq (fun i i0 i1 => (sUp_ne (by omega)).trans ((sUp_ne (by omega)).trans (sUp_ne (by omega))))
theorem lb_readWorth {dd : Nat} (hd : 8 ≤ dd) {H : xH} {T : tSm} {n b : Int} (hb : b = 7 ∨ b = 34) (hO : sOk T n) {Z : tZ} (zB0 : rB T H H Z.1) (h9 : H.1 3 9 = b) (hW : skW H.1 b) (hR : skR H.1 b Z) (hw : zRw Z) {Q : Int → xH → Prop} (hq : ∀ J, rC T b H J (zPt T (-26) 0 9999 11 (zPt T (-25) 0 99 10 (zPt T (-14) 0 9999 9 Z))) → Q 0 J) : xCall dd 91 [(2, 3)] H Q := by
  obtain ⟨e, rfl, he⟩ := ttRun0 (n := 7) hd
  have he : 7 ≤ e := he
  have hB := skB_2 hb
  have hi := skB_in hB
  have hn := rB_n zB0
  refine xC_of (L := [(2, 3)]) (cd := cd_91) rfl rfl rfl ?_
  refine q_al (pc := 0) (i := 0) (x := 3) rfl rfl ?_
  refine q_sc (pc := 1) (j := 12) rfl ?_
  refine q_iv (pc := 2) (q := 632571) rfl rfl rfl ⟨by omega, (ttKc zB0.1 (a := 3) (κ := 7) (len := 0) ⟨rfl, rfl⟩ (by decide) (by decide)).1⟩ ?_
  refine lb_word (by decide) (by decide) (by omega) hO zB0 (fun J1 zB1 => ?_)
  obtain ⟨V1, jV1⟩ : ∃ Y : tSa, Y = sNd T Z.1 (-14) := ⟨_, rfl⟩
  replace zB1 : rB T H J1 V1 := by rw [jV1]; exact zB1
  refine q_al (pc := 3) (i := 0) (x := 3) rfl rfl ?_
  refine q_gf (pc := 4) (m := 7092) (t := 2) (c := 9) rfl (ttKc zB1.1 (a := 3) (κ := 7) (len := 0) ⟨rfl, rfl⟩ (by decide) (by decide)).1 rfl rfl ?_
  rw [show J1.1 3 9 = b from (rB_9 zB1).trans h9]
  refine q_al (pc := 5) (i := 0) (x := 3) rfl rfl ?_
  refine q_ic (pc := 6) (v := 0) rfl ?_
  refine q_ic (pc := 7) (v := 9999) rfl ?_
  refine q_iv (pc := 8) (q := 640572) rfl rfl rfl (ttKc zB1.1 (a := 3) (κ := 7) (len := 0) ⟨rfl, rfl⟩ (by decide) (by decide)).1 ?_
  refine lb_num (by decide) (by omega) hO zB1 (fun ujr2 J2 zB2 jr2 => ?_)
  obtain ⟨V2, jV2⟩ : ∃ Y : tSa, Y = (sNm T V1 0 9999).2 := ⟨_, rfl⟩
  replace zB2 : rB T H J2 V2 := by rw [jV2]; exact zB2
  have jb2 : ujr2 = 0 ∨ 0 ≤ ujr2 ∧ ujr2 ≤ 9999 := by rw [jr2]; exact sNm_v
  refine q_pf (pc := 9) (m := 10110) (c := 11) rfl (show xPt 0 0 _ _ from (sk_kb zB2.1 hB).1) rfl ?_
  have y3 := rB_put zB2.1 zB2.2.1 (rB_L zB2) (a := b) (j := 11) (x := ujr2) 7 (sk_rb hB) (by omega) (show ((-2147483648) : Int) ≤ ujr2 ∧ ujr2 ≤ 2147483647 from ⟨by omega, by omega⟩) ⟨(7, 4, 18), by decide, rfl, (show (4 : Int) ≤ 11 ∧ 11 ≤ 18 from ⟨by omega, by omega⟩)⟩ (by decide)
  obtain ⟨Y3, yk3⟩ : ∃ X : xH, X = (xUp J2.1 b 11 ujr2, J2.2) := ⟨_, rfl⟩
  rw [← yk3] at y3 ⊢
  have o_Y3 : skO b H Y3 := skO_u (by first | assumption | exact skO_B (by assumption) | exact skO_t2 (by assumption) (by assumption)) (skB_2 hb) (by omega) yk3
  have cc3 : cT Y3 = T ∧ cS Y3 = V2 := by rw [yk3]; exact ⟨(cT_up (by omega)).trans zB2.2.2.2.1.1, (cS_up (by omega)).trans zB2.2.2.2.1.2⟩
  have zK3 : skR J2.1 b (Z.1, Z.2.1, Z.2.2) := skR_D hR hw.2.2.2.1.2 (fun a j a0 a1 => rB_sk zB2 hB a0 a1)
  have zR3 : skR Y3.1 b (V2, sUp (Z.2.1) 9 ujr2, Z.2.2) := by rw [yk3]; exact sr_one (S := Z.1) (h := Z.2.2) 11 9 ujr2 (by decide) (by decide) zK3 hw.2.2.2.1.2 up_eq (fun k k0 => up_ne (by omega)) (fun a k a0 a1 => up_ne (by omega)) sUp_eq (fun k k0 => sUp_ne k0)
  have zB3 : rB T Y3 Y3 V2 := ⟨y3.1, y3.2.1, ttFr_rf _ _, cc3, zB2.2.2.2.2⟩
  have n9_3 : Y3.1 3 9 = b := (fr_cl y3.2.2 (a := 3) (j := 9) (by omega) (by decide)).trans h9
  have nW_3 : skW Y3.1 b := skW_fr y3.2.2 hn hB (by decide) hW
  have nn_3 := rB_n zB3
  have nF_3 : ttFr eL H Y3 := ttFr_tr (ttFr_rf eL H) y3.2.2 (fun _ => rfl) (by decide)
  refine q_al (pc := 10) (i := 0) (x := 3) rfl rfl ?_
  refine q_sc (pc := 11) (j := 23) rfl ?_
  refine q_iv (pc := 12) (q := 632571) rfl rfl rfl ⟨by omega, (ttKc zB3.1 (a := 3) (κ := 7) (len := 0) ⟨rfl, rfl⟩ (by decide) (by decide)).1⟩ ?_
  refine lb_word (by decide) (by decide) (by omega) hO zB3 (fun J4 zB4 => ?_)
  obtain ⟨V4, jV4⟩ : ∃ Y : tSa, Y = sNd T V2 (-25) := ⟨_, rfl⟩
  replace zB4 : rB T Y3 J4 V4 := by rw [jV4]; exact zB4
  refine q_al (pc := 13) (i := 0) (x := 3) rfl rfl ?_
  refine q_gf (pc := 14) (m := 7092) (t := 2) (c := 9) rfl (ttKc zB4.1 (a := 3) (κ := 7) (len := 0) ⟨rfl, rfl⟩ (by decide) (by decide)).1 rfl rfl ?_
  rw [show J4.1 3 9 = b from (rB_9 zB4).trans n9_3]
  refine q_al (pc := 15) (i := 0) (x := 3) rfl rfl ?_
  refine q_ic (pc := 16) (v := 0) rfl ?_
  refine q_ic (pc := 17) (v := 99) rfl ?_
  refine q_iv (pc := 18) (q := 640572) rfl rfl rfl (ttKc zB4.1 (a := 3) (κ := 7) (len := 0) ⟨rfl, rfl⟩ (by decide) (by decide)).1 ?_
  refine lb_num (by decide) (by omega) hO zB4 (fun ujr5 J5 zB5 jr5 => ?_)
  obtain ⟨V5, jV5⟩ : ∃ Y : tSa, Y = (sNm T V4 0 99).2 := ⟨_, rfl⟩
  replace zB5 : rB T Y3 J5 V5 := by rw [jV5]; exact zB5
  have jb5 : ujr5 = 0 ∨ 0 ≤ ujr5 ∧ ujr5 ≤ 99 := by rw [jr5]; exact sNm_v
  refine q_pf (pc := 19) (m := 10120) (c := 12) rfl (show xPt 0 0 _ _ from (sk_kb zB5.1 hB).1) rfl ?_
  have y6 := rB_put zB5.1 zB5.2.1 (rB_L zB5) (a := b) (j := 12) (x := ujr5) 7 (sk_rb hB) (by omega) (show ((-2147483648) : Int) ≤ ujr5 ∧ ujr5 ≤ 2147483647 from ⟨by omega, by omega⟩) ⟨(7, 4, 18), by decide, rfl, (show (4 : Int) ≤ 12 ∧ 12 ≤ 18 from ⟨by omega, by omega⟩)⟩ (by decide)
  obtain ⟨Y6, yk6⟩ : ∃ X : xH, X = (xUp J5.1 b 12 ujr5, J5.2) := ⟨_, rfl⟩
  rw [← yk6] at y6 ⊢
  have o_Y6 : skO b H Y6 := skO_u (by first | assumption | exact skO_B (by assumption) | exact skO_t2 (by assumption) (by assumption)) (skB_2 hb) (by omega) yk6
  have cc6 : cT Y6 = T ∧ cS Y6 = V5 := by rw [yk6]; exact ⟨(cT_up (by omega)).trans zB5.2.2.2.1.1, (cS_up (by omega)).trans zB5.2.2.2.1.2⟩
  have zK6 : skR J5.1 b (V2, sUp (Z.2.1) 9 ujr2, Z.2.2) := skR_D zR3 (by show sUp (Z.2.1) 9 ujr2 3 ≤ 6; rw [show (sUp (Z.2.1) 9 ujr2) 3 = Z.2.1 3 from sUp_ne (by omega)]; exact hw.2.2.2.1.2) (fun a j a0 a1 => rB_sk zB5 hB a0 a1)
  have zR6 : skR Y6.1 b (V5, sUp (sUp (Z.2.1) 9 ujr2) 10 ujr5, Z.2.2) := by rw [yk6]; exact sr_one (S := V2) (h := Z.2.2) 12 10 ujr5 (by decide) (by decide) zK6 (by rw [show (sUp (Z.2.1) 9 ujr2) 3 = Z.2.1 3 from sUp_ne (by omega)]; exact hw.2.2.2.1.2) up_eq (fun k k0 => up_ne (by omega)) (fun a k a0 a1 => up_ne (by omega)) sUp_eq (fun k k0 => sUp_ne k0)
  have zB6 : rB T Y6 Y6 V5 := ⟨y6.1, y6.2.1, ttFr_rf _ _, cc6, zB5.2.2.2.2⟩
  have n9_6 : Y6.1 3 9 = b := (fr_cl y6.2.2 (a := 3) (j := 9) (by omega) (by decide)).trans n9_3
  have nW_6 : skW Y6.1 b := skW_fr y6.2.2 nn_3 hB (by decide) nW_3
  have nn_6 := rB_n zB6
  have nF_6 : ttFr eL H Y6 := ttFr_tr nF_3 y6.2.2 (fun _ => rfl) (by decide)
  refine q_al (pc := 20) (i := 0) (x := 3) rfl rfl ?_
  refine q_sc (pc := 21) (j := 24) rfl ?_
  refine q_iv (pc := 22) (q := 632571) rfl rfl rfl ⟨by omega, (ttKc zB6.1 (a := 3) (κ := 7) (len := 0) ⟨rfl, rfl⟩ (by decide) (by decide)).1⟩ ?_
  refine lb_word (by decide) (by decide) (by omega) hO zB6 (fun J7 zB7 => ?_)
  obtain ⟨V7, jV7⟩ : ∃ Y : tSa, Y = sNd T V5 (-26) := ⟨_, rfl⟩
  replace zB7 : rB T Y6 J7 V7 := by rw [jV7]; exact zB7
  refine q_al (pc := 23) (i := 0) (x := 3) rfl rfl ?_
  refine q_gf (pc := 24) (m := 7092) (t := 2) (c := 9) rfl (ttKc zB7.1 (a := 3) (κ := 7) (len := 0) ⟨rfl, rfl⟩ (by decide) (by decide)).1 rfl rfl ?_
  rw [show J7.1 3 9 = b from (rB_9 zB7).trans n9_6]
  refine q_al (pc := 25) (i := 0) (x := 3) rfl rfl ?_
  refine q_ic (pc := 26) (v := 0) rfl ?_
  refine q_ic (pc := 27) (v := 9999) rfl ?_
  refine q_iv (pc := 28) (q := 640572) rfl rfl rfl (ttKc zB7.1 (a := 3) (κ := 7) (len := 0) ⟨rfl, rfl⟩ (by decide) (by decide)).1 ?_
  refine lb_num (by decide) (by omega) hO zB7 (fun ujr8 J8 zB8 jr8 => ?_)
  obtain ⟨V8, jV8⟩ : ∃ Y : tSa, Y = (sNm T V7 0 9999).2 := ⟨_, rfl⟩
  replace zB8 : rB T Y6 J8 V8 := by rw [jV8]; exact zB8
  have jb8 : ujr8 = 0 ∨ 0 ≤ ujr8 ∧ ujr8 ≤ 9999 := by rw [jr8]; exact sNm_v
  refine q_pf (pc := 29) (m := 10130) (c := 13) rfl (show xPt 0 0 _ _ from (sk_kb zB8.1 hB).1) rfl ?_
  have y9 := rB_put zB8.1 zB8.2.1 (rB_L zB8) (a := b) (j := 13) (x := ujr8) 7 (sk_rb hB) (by omega) (show ((-2147483648) : Int) ≤ ujr8 ∧ ujr8 ≤ 2147483647 from ⟨by omega, by omega⟩) ⟨(7, 4, 18), by decide, rfl, (show (4 : Int) ≤ 13 ∧ 13 ≤ 18 from ⟨by omega, by omega⟩)⟩ (by decide)
  obtain ⟨Y9, yk9⟩ : ∃ X : xH, X = (xUp J8.1 b 13 ujr8, J8.2) := ⟨_, rfl⟩
  rw [← yk9] at y9 ⊢
  have o_Y9 : skO b H Y9 := skO_u (by first | assumption | exact skO_B (by assumption) | exact skO_t2 (by assumption) (by assumption)) (skB_2 hb) (by omega) yk9
  have cc9 : cT Y9 = T ∧ cS Y9 = V8 := by rw [yk9]; exact ⟨(cT_up (by omega)).trans zB8.2.2.2.1.1, (cS_up (by omega)).trans zB8.2.2.2.1.2⟩
  have zK9 : skR J8.1 b (V5, sUp (sUp (Z.2.1) 9 ujr2) 10 ujr5, Z.2.2) := skR_D zR6 (by show sUp (sUp (Z.2.1) 9 ujr2) 10 ujr5 3 ≤ 6; rw [show (sUp (sUp (Z.2.1) 9 ujr2) 10 ujr5) 3 = Z.2.1 3 from (sUp_ne (by omega)).trans (sUp_ne (by omega))]; exact hw.2.2.2.1.2) (fun a j a0 a1 => rB_sk zB8 hB a0 a1)
  have zR9 : skR Y9.1 b (V8, sUp (sUp (sUp (Z.2.1) 9 ujr2) 10 ujr5) 11 ujr8, Z.2.2) := by rw [yk9]; exact sr_one (S := V5) (h := Z.2.2) 13 11 ujr8 (by decide) (by decide) zK9 (by rw [show (sUp (sUp (Z.2.1) 9 ujr2) 10 ujr5) 3 = Z.2.1 3 from (sUp_ne (by omega)).trans (sUp_ne (by omega))]; exact hw.2.2.2.1.2) up_eq (fun k k0 => up_ne (by omega)) (fun a k a0 a1 => up_ne (by omega)) sUp_eq (fun k k0 => sUp_ne k0)
  have zB9 : rB T Y9 Y9 V8 := ⟨y9.1, y9.2.1, ttFr_rf _ _, cc9, zB8.2.2.2.2⟩
  have n9_9 : Y9.1 3 9 = b := (fr_cl y9.2.2 (a := 3) (j := 9) (by omega) (by decide)).trans n9_6
  have nW_9 : skW Y9.1 b := skW_fr y9.2.2 nn_6 hB (by decide) nW_6
  have nn_9 := rB_n zB9
  have nF_9 : ttFr eL H Y9 := ttFr_tr nF_6 y9.2.2 (fun _ => rfl) (by decide)
  refine q_rv (pc := 30) rfl ?_
  have eZ : zPt T (-26) 0 9999 11 (zPt T (-25) 0 99 10 (zPt T (-14) 0 9999 9 Z)) = (V8, sUp (sUp (sUp (Z.2.1) 9 ujr2) 10 ujr5) 11 ujr8, Z.2.2) := by
    rw [jV8, jr8, jV7, jV5, jr5, jV4, jV2, jr2, jV1]
    rfl
  exact hq _ ⟨zB9.1, zB9.2.1, nF_9, by rw [eZ]; exact zB9.2.2.2.1, by rw [eZ]; exact zB9.2.2.2.2, o_Y9, fun _ => by rw [eZ]; exact zR9⟩
theorem fs_16 {e : Nat} (he : 7 ≤ e) {H : xH} {T : tSm} {n b : Int} (hb : b = 7 ∨ b = 34) (hO : sOk T n) {Z : tZ} (zB0 : rB T H H Z.1) (h9 : H.1 3 9 = b) (hW : skW H.1 b) (hR : skR H.1 b Z) (hw : zRw Z) {K : xH} {S : tSa} (zB1 : rB T H K S) {x1 x2 x3 : Int} (b1 : 0 ≤ x1 ∧ x1 ≤ 7) (b2 : 0 ≤ x2 ∧ x2 ≤ 2000) (b3 : 0 ≤ x3 ∧ x3 ≤ 1) {Q : Int → xH → Prop} (hf : S.2.1 ≠ 0 → Q 0 K) (ho : S.2.1 = 0 → ∀ J, ttTI J → ttXX YY J → ttFr eL H J → skO b H J → cT J = T ∧ cS J = S → skR J.1 b (S, sUp (sUp (sUp Z.2.1 12 x1) 13 x2) 14 x3, Z.2.2) → Q 0 J) : xW e cd_92 Q (16, [(2, 3), (0, x1), (0, x2), (0, x3)], [], K) := by
  have hB := skB_2 hb
  have hi := skB_in hB
  have hn := rB_n zB0
  have hRK : skR K.1 b Z := skR_D hR hw.2.2.2.1.2 (fun a j a0 a1 => rB_sk zB1 hB a0 a1)
  refine q_al (pc := 16) (i := 0) (x := 3) rfl rfl ?_
  refine q_gf (pc := 17) (m := 7060) (t := 0) (c := 6) rfl (ttKc zB1.1 (a := 3) (κ := 7) (len := 0) ⟨rfl, rfl⟩ (by decide) (by decide)).1 rfl rfl ?_
  rw [show K.1 3 6 = S.2.1 from rB_f zB1]
  refine q_if (pc := 18) rfl (fun h18 => ?_) (fun h18 => ?_)
  · replace h18 : S.2.1 ≠ 0 := h18
    refine q_rv (pc := 31) rfl ?_
    exact hf h18
  · replace h18 : S.2.1 = 0 := h18
    refine q_al (pc := 19) (i := 0) (x := 3) rfl rfl ?_
    refine q_gf (pc := 20) (m := 7092) (t := 2) (c := 9) rfl (ttKc zB1.1 (a := 3) (κ := 7) (len := 0) ⟨rfl, rfl⟩ (by decide) (by decide)).1 rfl rfl ?_
    rw [show K.1 3 9 = b from (rB_9 zB1).trans h9]
    refine q_il (pc := 21) (i := 1) (x := x1) rfl rfl ?_
    refine q_pf (pc := 22) (m := 10150) (c := 15) rfl (show xPt 0 0 _ _ from (sk_kb zB1.1 hB).1) rfl ?_
    have y2 := rB_put zB1.1 zB1.2.1 (rB_L zB1) (a := b) (j := 15) (x := x1) 7 (sk_rb hB) (by omega) (show ((-1) : Int) ≤ x1 ∧ x1 ≤ 7 from ⟨by omega, by omega⟩) ⟨(7, 4, 18), by decide, rfl, (show (4 : Int) ≤ 15 ∧ 15 ≤ 18 from ⟨by omega, by omega⟩)⟩ (by decide)
    obtain ⟨Y2, yk2⟩ : ∃ X : xH, X = (xUp K.1 b 15 x1, K.2) := ⟨_, rfl⟩
    rw [← yk2] at y2 ⊢
    have o_Y2 : skO b H Y2 := skO_u (by first | assumption | exact skO_B (by assumption) | exact skO_t2 (by assumption) (by assumption)) (skB_2 hb) (by omega) yk2
    have cc2 : cT Y2 = T ∧ cS Y2 = S := by rw [yk2]; exact ⟨(cT_up (by omega)).trans zB1.2.2.2.1.1, (cS_up (by omega)).trans zB1.2.2.2.1.2⟩
    refine q_al (pc := 23) (i := 0) (x := 3) rfl rfl ?_
    refine q_gf (pc := 24) (m := 7092) (t := 2) (c := 9) rfl (ttKc y2.1 (a := 3) (κ := 7) (len := 0) ⟨rfl, rfl⟩ (by decide) (by decide)).1 rfl rfl ?_
    rw [show Y2.1 3 9 = b from (fr_cl y2.2.2 (a := 3) (j := 9) (by omega) (by decide)).trans h9]
    refine q_il (pc := 25) (i := 2) (x := x2) rfl rfl ?_
    refine q_pf (pc := 26) (m := 10160) (c := 16) rfl (show xPt 0 0 _ _ from (sk_kb y2.1 hB).1) rfl ?_
    have y3 := rB_put y2.1 y2.2.1 y2.2.2 (a := b) (j := 16) (x := x2) 7 (sk_rb hB) (by omega) (show ((-2147483648) : Int) ≤ x2 ∧ x2 ≤ 2147483647 from ⟨by omega, by omega⟩) ⟨(7, 4, 18), by decide, rfl, (show (4 : Int) ≤ 16 ∧ 16 ≤ 18 from ⟨by omega, by omega⟩)⟩ (by decide)
    obtain ⟨Y3, yk3⟩ : ∃ X : xH, X = (xUp Y2.1 b 16 x2, Y2.2) := ⟨_, rfl⟩
    rw [← yk3] at y3 ⊢
    have o_Y3 : skO b H Y3 := skO_u (by first | assumption | exact skO_B (by assumption) | exact skO_t2 (by assumption) (by assumption)) (skB_2 hb) (by omega) yk3
    have cc3 : cT Y3 = T ∧ cS Y3 = S := by rw [yk3]; exact ⟨(cT_up (by omega)).trans cc2.1, (cS_up (by omega)).trans cc2.2⟩
    refine q_al (pc := 27) (i := 0) (x := 3) rfl rfl ?_
    refine q_gf (pc := 28) (m := 7092) (t := 2) (c := 9) rfl (ttKc y3.1 (a := 3) (κ := 7) (len := 0) ⟨rfl, rfl⟩ (by decide) (by decide)).1 rfl rfl ?_
    rw [show Y3.1 3 9 = b from (fr_cl y3.2.2 (a := 3) (j := 9) (by omega) (by decide)).trans h9]
    refine q_il (pc := 29) (i := 3) (x := x3) rfl rfl ?_
    refine q_pf (pc := 30) (m := 10173) (c := 17) rfl (show xPt 3 0 _ _ from ⟨(sk_kb y3.1 hB).1, by omega⟩) rfl ?_
    have y4 := rB_put y3.1 y3.2.1 y3.2.2 (a := b) (j := 17) (x := x3) 7 (sk_rb hB) (by omega) (show (0 : Int) ≤ x3 ∧ x3 ≤ 1 from ⟨by omega, by omega⟩) ⟨(7, 4, 18), by decide, rfl, (show (4 : Int) ≤ 17 ∧ 17 ≤ 18 from ⟨by omega, by omega⟩)⟩ (by decide)
    obtain ⟨Y4, yk4⟩ : ∃ X : xH, X = (xUp Y3.1 b 17 x3, Y3.2) := ⟨_, rfl⟩
    rw [← yk4] at y4 ⊢
    have o_Y4 : skO b H Y4 := skO_u (by first | assumption | exact skO_B (by assumption) | exact skO_t2 (by assumption) (by assumption)) (skB_2 hb) (by omega) yk4
    have cc4 : cT Y4 = T ∧ cS Y4 = S := by rw [yk4]; exact ⟨(cT_up (by omega)).trans cc3.1, (cS_up (by omega)).trans cc3.2⟩
    refine q_rv (pc := 31) rfl ?_
    have eD : Y4.1 = xUp (xUp (xUp (K.1) b 15 x1) b 16 x2) b 17 x3 := by rw [yk4, yk3, yk2]
    refine ho h18 _ y4.1 y4.2.1 y4.2.2 o_Y4 cc4 ?_
    rw [eD]
    have w0 : skR (xUp (K.1) b 15 x1) b (S, sUp Z.2.1 12 x1, Z.2.2) := sr_one (S := Z.1) (h := Z.2.2) 15 12 x1 (by decide) (by decide) hRK hw.2.2.2.1.2 up_eq (fun k k0 => up_ne (by omega)) (fun a k a0 a1 => up_ne (by omega)) sUp_eq (fun k k0 => sUp_ne k0)
    have w1 : skR (xUp (xUp (K.1) b 15 x1) b 16 x2) b (S, sUp (sUp Z.2.1 12 x1) 13 x2, Z.2.2) := sr_one (S := S) (h := Z.2.2) 16 13 x2 (by decide) (by decide) w0 (by rw [show (sUp Z.2.1 12 x1) 3 = Z.2.1 3 from sUp_ne (by omega)]; exact hw.2.2.2.1.2) up_eq (fun k k0 => up_ne (by omega)) (fun a k a0 a1 => up_ne (by omega)) sUp_eq (fun k k0 => sUp_ne k0)
    have w2 : skR (xUp (xUp (xUp (K.1) b 15 x1) b 16 x2) b 17 x3) b (S, sUp (sUp (sUp Z.2.1 12 x1) 13 x2) 14 x3, Z.2.2) := sr_one (S := S) (h := Z.2.2) 17 14 x3 (by decide) (by decide) w1 (by rw [show (sUp (sUp Z.2.1 12 x1) 13 x2) 3 = Z.2.1 3 from (sUp_ne (by omega)).trans (sUp_ne (by omega))]; exact hw.2.2.2.1.2) up_eq (fun k k0 => up_ne (by omega)) (fun a k a0 a1 => up_ne (by omega)) sUp_eq (fun k k0 => sUp_ne k0)
    exact w2
theorem lb_readStart {dd : Nat} (hd : 8 ≤ dd) {H : xH} {T : tSm} {n b : Int} (hb : b = 7 ∨ b = 34) (hO : sOk T n) {Z : tZ} (zB0 : rB T H H Z.1) (h9 : H.1 3 9 = b) (hW : skW H.1 b) (hR : skR H.1 b Z) (hw : zRw Z) {Q : Int → xH → Prop} (hq : ∀ J, rC T b H J (zSt T Z) → Q 0 J) : xCall dd 92 [(2, 3)] H Q := by
  obtain ⟨e, rfl, he⟩ := ttRun0 (n := 7) hd
  have he : 7 ≤ e := he
  have hB := skB_2 hb
  have hi := skB_in hB
  have hn := rB_n zB0
  have w0 := hw.2.1
  obtain ⟨N, jN⟩ : ∃ N, N = Z.2.1 1 := ⟨_, rfl⟩
  have eN : H.1 b 4 = N := (skA_i hR.1 (j := 4) (i := 1) (by decide)).trans jN.symm
  rw [← jN] at w0
  refine xC_of (L := [(2, 3), (9, 0), (9, 0), (9, 0)]) (cd := cd_92) rfl rfl rfl ?_
  refine q_al (pc := 0) (i := 0) (x := 3) rfl rfl ?_
  refine q_ic (pc := 1) (v := 0) rfl ?_
  refine q_iv (pc := 2) (q := 656568) rfl rfl rfl (ttKc zB0.1 (a := 3) (κ := 7) (len := 0) ⟨rfl, rfl⟩ (by decide) (by decide)).1 ?_
  refine lb_pl hb (by omega) hO zB0 h9 eN (fun ujr1 J1 zB1 jr1 => ?_)
  obtain ⟨V1, jV1⟩ : ∃ Y : tSa, Y = (sPl T Z.1 N 0).2 := ⟨_, rfl⟩
  replace zB1 : rB T H J1 V1 := by rw [jV1]; exact zB1
  have jb1 : ujr1 = 0 ∨ 0 ≤ ujr1 ∧ ujr1 ≤ N - 1 := by rw [jr1]; exact sPl_v
  refine q_is (pc := 3) (i := 1) (L' := [(2, 3), (0, ujr1), (9, 0), (9, 0)]) rfl rfl rfl ?_
  refine q_al (pc := 4) (i := 0) (x := 3) rfl rfl ?_
  refine q_sc (pc := 5) (j := 25) rfl ?_
  refine q_iv (pc := 6) (q := 632571) rfl rfl rfl ⟨by omega, (ttKc zB1.1 (a := 3) (κ := 7) (len := 0) ⟨rfl, rfl⟩ (by decide) (by decide)).1⟩ ?_
  refine lb_word (by decide) (by decide) (by omega) hO zB1 (fun J2 zB2 => ?_)
  obtain ⟨V2, jV2⟩ : ∃ Y : tSa, Y = sNd T V1 (-27) := ⟨_, rfl⟩
  replace zB2 : rB T H J2 V2 := by rw [jV2]; exact zB2
  refine q_al (pc := 7) (i := 0) (x := 3) rfl rfl ?_
  refine q_ic (pc := 8) (v := 0) rfl ?_
  refine q_ic (pc := 9) (v := 60) rfl ?_
  refine q_iv (pc := 10) (q := 640572) rfl rfl rfl (ttKc zB2.1 (a := 3) (κ := 7) (len := 0) ⟨rfl, rfl⟩ (by decide) (by decide)).1 ?_
  refine lb_num (by decide) (by omega) hO zB2 (fun ujr3 J3 zB3 jr3 => ?_)
  obtain ⟨V3, jV3⟩ : ∃ Y : tSa, Y = (sNm T V2 0 60).2 := ⟨_, rfl⟩
  replace zB3 : rB T H J3 V3 := by rw [jV3]; exact zB3
  have jb3 : ujr3 = 0 ∨ 0 ≤ ujr3 ∧ ujr3 ≤ 60 := by rw [jr3]; exact sNm_v
  refine q_is (pc := 11) (i := 2) (L' := [(2, 3), (0, ujr1), (0, ujr3), (9, 0)]) rfl rfl rfl ?_
  refine q_al (pc := 12) (i := 0) (x := 3) rfl rfl ?_
  refine q_sc (pc := 13) (j := 26) rfl ?_
  refine q_iv (pc := 14) (q := 624568) rfl rfl rfl ⟨by omega, (ttKc zB3.1 (a := 3) (κ := 7) (len := 0) ⟨rfl, rfl⟩ (by decide) (by decide)).1⟩ ?_
  refine lb_if (by decide) (by decide) (by omega) hO zB3 (fun r J4 zB4 jr4 => ?_)
  obtain ⟨V4, jV4⟩ : ∃ Y : tSa, Y = (sTk T V3 (-28)).2 := ⟨_, rfl⟩
  replace zB4 : rB T H J4 V4 := by rw [jV4]; exact zB4
  rcases jr4 with ⟨rfl, jk4⟩ | ⟨rfl, jk4⟩
  · replace jk4 : (sTk T V3 (-28)).1 = true := jk4
    refine q_is (pc := 15) (i := 3) (L' := [(2, 3), (0, ujr1), (0, ujr3), (0, 1)]) rfl rfl rfl ?_
    have n1 : sPl T Z.1 N 0 = sNm T Z.1 0 (N - 1) := sPl_n hO zB0.2.2.2.2.1 zB0.2.2.2.2.2 w0.2
    have eA : zPq T Z = (V1, Z.2.1, Z.2.2) := by
      rw [jV1, n1, jN]
      rfl
    have eB : vPq T Z = ujr1 := by
      rw [jr1, n1, jN]
      rfl
    have eC : zTd T (-27) 0 60 (V1, Z.2.1, Z.2.2) = (V3, Z.2.1, Z.2.2) := by
      rw [jV3, jV2]
      rfl
    have eD : vTd T (-27) 0 60 (V1, Z.2.1, Z.2.2) = ujr3 := by
      rw [jr3, jV2]
      rfl
    have eE : zSt T Z = zSt1 ujr1 ujr3 (V4, sUp Z.2.1 14 1, Z.2.2) := by
      unfold zSt
      rw [eA, eB, eC, eD, jV4]
      rw [if_pos jk4]
      rfl
    refine fs_16 he hb hO zB0 h9 hW hR hw zB4 (by omega) (by omega) (by omega) (fun f0 => hq _ (rC_f zB4 (by rw [eE]; unfold zSt1; split <;> rfl) f0)) (fun f0 J jT jX jF jO jc jR => ?_)
    have eZ : zSt T Z = (V4, sUp (sUp (sUp Z.2.1 14 1) 12 ujr1) 13 ujr3, Z.2.2) := by
      rw [eE]
      exact if_pos f0
    exact hq J ⟨jT, jX, jF, by rw [eZ]; exact jc, by rw [eZ]; exact zB4.2.2.2.2, jO, fun _ => by
      rw [eZ]
      refine skR_F jR (fun i => ?_)
      unfold sUp
      (repeat' split) <;> first | rfl | omega⟩
  · replace jk4 : (sTk T V3 (-28)).1 = false := jk4
    refine q_is (pc := 15) (i := 3) (L' := [(2, 3), (0, ujr1), (0, ujr3), (0, 0)]) rfl rfl rfl ?_
    have n1 : sPl T Z.1 N 0 = sNm T Z.1 0 (N - 1) := sPl_n hO zB0.2.2.2.2.1 zB0.2.2.2.2.2 w0.2
    have eA : zPq T Z = (V1, Z.2.1, Z.2.2) := by
      rw [jV1, n1, jN]
      rfl
    have eB : vPq T Z = ujr1 := by
      rw [jr1, n1, jN]
      rfl
    have eC : zTd T (-27) 0 60 (V1, Z.2.1, Z.2.2) = (V3, Z.2.1, Z.2.2) := by
      rw [jV3, jV2]
      rfl
    have eD : vTd T (-27) 0 60 (V1, Z.2.1, Z.2.2) = ujr3 := by
      rw [jr3, jV2]
      rfl
    have eE : zSt T Z = zSt1 ujr1 ujr3 (V4, sUp Z.2.1 14 0, Z.2.2) := by
      unfold zSt
      rw [eA, eB, eC, eD, jV4]
      rw [if_neg (fun z => absurd (z.symm.trans jk4) (by decide))]
      rfl
    refine fs_16 he hb hO zB0 h9 hW hR hw zB4 (by omega) (by omega) (by omega) (fun f0 => hq _ (rC_f zB4 (by rw [eE]; unfold zSt1; split <;> rfl) f0)) (fun f0 J jT jX jF jO jc jR => ?_)
    have eZ : zSt T Z = (V4, sUp (sUp (sUp Z.2.1 14 0) 12 ujr1) 13 ujr3, Z.2.2) := by
      rw [eE]
      exact if_pos f0
    exact hq J ⟨jT, jX, jF, by rw [eZ]; exact jc, by rw [eZ]; exact zB4.2.2.2.2, jO, fun _ => by
      rw [eZ]
      refine skR_F jR (fun i => ?_)
      unfold sUp
      (repeat' split) <;> first | rfl | omega⟩
theorem fr_39 {e : Nat} (he : 7 ≤ e) {H : xH} {T : tSm} {n b : Int} (hb : b = 7 ∨ b = 34) (hO : sOk T n) {Z : tZ} (zB0 : rB T H H Z.1) (h9 : H.1 3 9 = b) (hW : skW H.1 b) (hR : skR H.1 b Z) (hw : zRw Z) {x : xV} {Q : Int → xH → Prop} (hq : ∀ J, rC T b H J (zPn T 0 999 5 Z) → Q 0 J) : xW e cd_86 Q (39, [(2, 3), x], [], H) := by
  have hB := skB_2 hb
  have hi := skB_in hB
  have hn := rB_n zB0
  refine q_al (pc := 39) (i := 0) (x := 3) rfl rfl ?_
  refine q_gf (pc := 40) (m := 7092) (t := 2) (c := 9) rfl (ttKc zB0.1 (a := 3) (κ := 7) (len := 0) ⟨rfl, rfl⟩ (by decide) (by decide)).1 rfl rfl ?_
  rw [show H.1 3 9 = b from (rB_9 zB0).trans h9]
  refine q_al (pc := 41) (i := 0) (x := 3) rfl rfl ?_
  refine q_ic (pc := 42) (v := 0) rfl ?_
  refine q_ic (pc := 43) (v := 999) rfl ?_
  refine q_iv (pc := 44) (q := 640572) rfl rfl rfl (ttKc zB0.1 (a := 3) (κ := 7) (len := 0) ⟨rfl, rfl⟩ (by decide) (by decide)).1 ?_
  refine lb_num (by decide) (by omega) hO zB0 (fun ujr1 J1 zB1 jr1 => ?_)
  obtain ⟨V1, jV1⟩ : ∃ Y : tSa, Y = (sNm T Z.1 0 999).2 := ⟨_, rfl⟩
  replace zB1 : rB T H J1 V1 := by rw [jV1]; exact zB1
  have jb1 : ujr1 = 0 ∨ 0 ≤ ujr1 ∧ ujr1 ≤ 999 := by rw [jr1]; exact sNm_v
  refine q_pf (pc := 45) (m := 10070) (c := 7) rfl (show xPt 0 0 _ _ from (sk_kb zB1.1 hB).1) rfl ?_
  have y2 := rB_put zB1.1 zB1.2.1 (rB_L zB1) (a := b) (j := 7) (x := ujr1) 7 (sk_rb hB) (by omega) (show ((-2147483648) : Int) ≤ ujr1 ∧ ujr1 ≤ 2147483647 from ⟨by omega, by omega⟩) ⟨(7, 4, 18), by decide, rfl, (show (4 : Int) ≤ 7 ∧ 7 ≤ 18 from ⟨by omega, by omega⟩)⟩ (by decide)
  obtain ⟨Y2, yk2⟩ : ∃ X : xH, X = (xUp J1.1 b 7 ujr1, J1.2) := ⟨_, rfl⟩
  rw [← yk2] at y2 ⊢
  have o_Y2 : skO b H Y2 := skO_u (by first | assumption | exact skO_B (by assumption) | exact skO_t2 (by assumption) (by assumption)) (skB_2 hb) (by omega) yk2
  have cc2 : cT Y2 = T ∧ cS Y2 = V1 := by rw [yk2]; exact ⟨(cT_up (by omega)).trans zB1.2.2.2.1.1, (cS_up (by omega)).trans zB1.2.2.2.1.2⟩
  refine q_go (pc := 46) rfl ?_
  refine q_rv (pc := 76) rfl ?_
  have eD : Y2.1 = xUp (J1.1) b 7 ujr1 := by rw [yk2]
  have eZ : zPn T 0 999 5 Z = (V1, sUp Z.2.1 5 ujr1, Z.2.2) := by rw [jV1, jr1]; rfl
  have hRK : skR J1.1 b Z := skR_D hR hw.2.2.2.1.2 (fun a j a0 a1 => rB_sk zB1 hB a0 a1)
  refine hq _ ⟨y2.1, y2.2.1, y2.2.2, by rw [eZ]; exact cc2, by rw [eZ]; exact zB1.2.2.2.2, o_Y2, fun _ => ?_⟩
  rw [eZ, eD]
  exact sr_one (S := Z.1) (h := Z.2.2) 7 5 ujr1 (by decide) (by decide) hRK hw.2.2.2.1.2 up_eq (fun k k0 => up_ne (by omega)) (fun a k a0 a1 => up_ne (by omega)) sUp_eq (fun k k0 => sUp_ne k0)
theorem fr_47 {e : Nat} (he : 7 ≤ e) {H : xH} {T : tSm} {n b : Int} (hb : b = 7 ∨ b = 34) (hO : sOk T n) {Z : tZ} (zB0 : rB T H H Z.1) (h9 : H.1 3 9 = b) (hW : skW H.1 b) (hR : skR H.1 b Z) (hw : zRw Z) {x : xV} {Q : Int → xH → Prop} (hq : ∀ J, rC T b H J (zPn T 0 50 6 Z) → Q 0 J) : xW e cd_86 Q (47, [(2, 3), x], [], H) := by
  have hB := skB_2 hb
  have hi := skB_in hB
  have hn := rB_n zB0
  refine q_al (pc := 47) (i := 0) (x := 3) rfl rfl ?_
  refine q_gf (pc := 48) (m := 7092) (t := 2) (c := 9) rfl (ttKc zB0.1 (a := 3) (κ := 7) (len := 0) ⟨rfl, rfl⟩ (by decide) (by decide)).1 rfl rfl ?_
  rw [show H.1 3 9 = b from (rB_9 zB0).trans h9]
  refine q_al (pc := 49) (i := 0) (x := 3) rfl rfl ?_
  refine q_ic (pc := 50) (v := 0) rfl ?_
  refine q_ic (pc := 51) (v := 50) rfl ?_
  refine q_iv (pc := 52) (q := 640572) rfl rfl rfl (ttKc zB0.1 (a := 3) (κ := 7) (len := 0) ⟨rfl, rfl⟩ (by decide) (by decide)).1 ?_
  refine lb_num (by decide) (by omega) hO zB0 (fun ujr1 J1 zB1 jr1 => ?_)
  obtain ⟨V1, jV1⟩ : ∃ Y : tSa, Y = (sNm T Z.1 0 50).2 := ⟨_, rfl⟩
  replace zB1 : rB T H J1 V1 := by rw [jV1]; exact zB1
  have jb1 : ujr1 = 0 ∨ 0 ≤ ujr1 ∧ ujr1 ≤ 50 := by rw [jr1]; exact sNm_v
  refine q_pf (pc := 53) (m := 10080) (c := 8) rfl (show xPt 0 0 _ _ from (sk_kb zB1.1 hB).1) rfl ?_
  have y2 := rB_put zB1.1 zB1.2.1 (rB_L zB1) (a := b) (j := 8) (x := ujr1) 7 (sk_rb hB) (by omega) (show ((-2147483648) : Int) ≤ ujr1 ∧ ujr1 ≤ 2147483647 from ⟨by omega, by omega⟩) ⟨(7, 4, 18), by decide, rfl, (show (4 : Int) ≤ 8 ∧ 8 ≤ 18 from ⟨by omega, by omega⟩)⟩ (by decide)
  obtain ⟨Y2, yk2⟩ : ∃ X : xH, X = (xUp J1.1 b 8 ujr1, J1.2) := ⟨_, rfl⟩
  rw [← yk2] at y2 ⊢
  have o_Y2 : skO b H Y2 := skO_u (by first | assumption | exact skO_B (by assumption) | exact skO_t2 (by assumption) (by assumption)) (skB_2 hb) (by omega) yk2
  have cc2 : cT Y2 = T ∧ cS Y2 = V1 := by rw [yk2]; exact ⟨(cT_up (by omega)).trans zB1.2.2.2.1.1, (cS_up (by omega)).trans zB1.2.2.2.1.2⟩
  refine q_go (pc := 54) rfl ?_
  refine q_rv (pc := 76) rfl ?_
  have eD : Y2.1 = xUp (J1.1) b 8 ujr1 := by rw [yk2]
  have eZ : zPn T 0 50 6 Z = (V1, sUp Z.2.1 6 ujr1, Z.2.2) := by rw [jV1, jr1]; rfl
  have hRK : skR J1.1 b Z := skR_D hR hw.2.2.2.1.2 (fun a j a0 a1 => rB_sk zB1 hB a0 a1)
  refine hq _ ⟨y2.1, y2.2.1, y2.2.2, by rw [eZ]; exact cc2, by rw [eZ]; exact zB1.2.2.2.2, o_Y2, fun _ => ?_⟩
  rw [eZ, eD]
  exact sr_one (S := Z.1) (h := Z.2.2) 8 6 ujr1 (by decide) (by decide) hRK hw.2.2.2.1.2 up_eq (fun k k0 => up_ne (by omega)) (fun a k a0 a1 => up_ne (by omega)) sUp_eq (fun k k0 => sUp_ne k0)
theorem fr_55 {e : Nat} (he : 7 ≤ e) {H : xH} {T : tSm} {n b : Int} (hb : b = 7 ∨ b = 34) (hO : sOk T n) {Z : tZ} (zB0 : rB T H H Z.1) (h9 : H.1 3 9 = b) (hW : skW H.1 b) (hR : skR H.1 b Z) (hw : zRw Z) {x : xV} {Q : Int → xH → Prop} (hq : ∀ J, rC T b H J (zPn T 31 60 7 Z) → Q 0 J) : xW e cd_86 Q (55, [(2, 3), x], [], H) := by
  have hB := skB_2 hb
  have hi := skB_in hB
  have hn := rB_n zB0
  refine q_al (pc := 55) (i := 0) (x := 3) rfl rfl ?_
  refine q_gf (pc := 56) (m := 7092) (t := 2) (c := 9) rfl (ttKc zB0.1 (a := 3) (κ := 7) (len := 0) ⟨rfl, rfl⟩ (by decide) (by decide)).1 rfl rfl ?_
  rw [show H.1 3 9 = b from (rB_9 zB0).trans h9]
  refine q_al (pc := 57) (i := 0) (x := 3) rfl rfl ?_
  refine q_ic (pc := 58) (v := 31) rfl ?_
  refine q_ic (pc := 59) (v := 60) rfl ?_
  refine q_iv (pc := 60) (q := 640572) rfl rfl rfl (ttKc zB0.1 (a := 3) (κ := 7) (len := 0) ⟨rfl, rfl⟩ (by decide) (by decide)).1 ?_
  refine lb_num (by decide) (by omega) hO zB0 (fun ujr1 J1 zB1 jr1 => ?_)
  obtain ⟨V1, jV1⟩ : ∃ Y : tSa, Y = (sNm T Z.1 31 60).2 := ⟨_, rfl⟩
  replace zB1 : rB T H J1 V1 := by rw [jV1]; exact zB1
  have jb1 : ujr1 = 0 ∨ 31 ≤ ujr1 ∧ ujr1 ≤ 60 := by rw [jr1]; exact sNm_v
  refine q_pf (pc := 61) (m := 10090) (c := 9) rfl (show xPt 0 0 _ _ from (sk_kb zB1.1 hB).1) rfl ?_
  have y2 := rB_put zB1.1 zB1.2.1 (rB_L zB1) (a := b) (j := 9) (x := ujr1) 7 (sk_rb hB) (by omega) (show (0 : Int) ≤ ujr1 ∧ ujr1 ≤ 60 from ⟨by omega, by omega⟩) ⟨(7, 4, 18), by decide, rfl, (show (4 : Int) ≤ 9 ∧ 9 ≤ 18 from ⟨by omega, by omega⟩)⟩ (by decide)
  obtain ⟨Y2, yk2⟩ : ∃ X : xH, X = (xUp J1.1 b 9 ujr1, J1.2) := ⟨_, rfl⟩
  rw [← yk2] at y2 ⊢
  have o_Y2 : skO b H Y2 := skO_u (by first | assumption | exact skO_B (by assumption) | exact skO_t2 (by assumption) (by assumption)) (skB_2 hb) (by omega) yk2
  have cc2 : cT Y2 = T ∧ cS Y2 = V1 := by rw [yk2]; exact ⟨(cT_up (by omega)).trans zB1.2.2.2.1.1, (cS_up (by omega)).trans zB1.2.2.2.1.2⟩
  refine q_go (pc := 62) rfl ?_
  refine q_rv (pc := 76) rfl ?_
  have eD : Y2.1 = xUp (J1.1) b 9 ujr1 := by rw [yk2]
  have eZ : zPn T 31 60 7 Z = (V1, sUp Z.2.1 7 ujr1, Z.2.2) := by rw [jV1, jr1]; rfl
  have hRK : skR J1.1 b Z := skR_D hR hw.2.2.2.1.2 (fun a j a0 a1 => rB_sk zB1 hB a0 a1)
  refine hq _ ⟨y2.1, y2.2.1, y2.2.2, by rw [eZ]; exact cc2, by rw [eZ]; exact zB1.2.2.2.2, o_Y2, fun _ => ?_⟩
  rw [eZ, eD]
  exact sr_one (S := Z.1) (h := Z.2.2) 9 7 ujr1 (by decide) (by decide) hRK hw.2.2.2.1.2 up_eq (fun k k0 => up_ne (by omega)) (fun a k a0 a1 => up_ne (by omega)) sUp_eq (fun k k0 => sUp_ne k0)
theorem fr_63 {e : Nat} (he : 7 ≤ e) {H : xH} {T : tSm} {n b : Int} (hb : b = 7 ∨ b = 34) (hO : sOk T n) {Z : tZ} (zB0 : rB T H H Z.1) (h9 : H.1 3 9 = b) (hW : skW H.1 b) (hR : skR H.1 b Z) (hw : zRw Z) {x : xV} {Q : Int → xH → Prop} (hq : ∀ J, rC T b H J (zPn T 1 47 8 Z) → Q 0 J) : xW e cd_86 Q (63, [(2, 3), x], [], H) := by
  have hB := skB_2 hb
  have hi := skB_in hB
  have hn := rB_n zB0
  refine q_al (pc := 63) (i := 0) (x := 3) rfl rfl ?_
  refine q_gf (pc := 64) (m := 7092) (t := 2) (c := 9) rfl (ttKc zB0.1 (a := 3) (κ := 7) (len := 0) ⟨rfl, rfl⟩ (by decide) (by decide)).1 rfl rfl ?_
  rw [show H.1 3 9 = b from (rB_9 zB0).trans h9]
  refine q_al (pc := 65) (i := 0) (x := 3) rfl rfl ?_
  refine q_ic (pc := 66) (v := 1) rfl ?_
  refine q_ic (pc := 67) (v := 47) rfl ?_
  refine q_iv (pc := 68) (q := 640572) rfl rfl rfl (ttKc zB0.1 (a := 3) (κ := 7) (len := 0) ⟨rfl, rfl⟩ (by decide) (by decide)).1 ?_
  refine lb_num (by decide) (by omega) hO zB0 (fun ujr1 J1 zB1 jr1 => ?_)
  obtain ⟨V1, jV1⟩ : ∃ Y : tSa, Y = (sNm T Z.1 1 47).2 := ⟨_, rfl⟩
  replace zB1 : rB T H J1 V1 := by rw [jV1]; exact zB1
  have jb1 : ujr1 = 0 ∨ 1 ≤ ujr1 ∧ ujr1 ≤ 47 := by rw [jr1]; exact sNm_v
  refine q_pf (pc := 69) (m := 10100) (c := 10) rfl (show xPt 0 0 _ _ from (sk_kb zB1.1 hB).1) rfl ?_
  have y2 := rB_put zB1.1 zB1.2.1 (rB_L zB1) (a := b) (j := 10) (x := ujr1) 7 (sk_rb hB) (by omega) (show (0 : Int) ≤ ujr1 ∧ ujr1 ≤ 47 from ⟨by omega, by omega⟩) ⟨(7, 4, 18), by decide, rfl, (show (4 : Int) ≤ 10 ∧ 10 ≤ 18 from ⟨by omega, by omega⟩)⟩ (by decide)
  obtain ⟨Y2, yk2⟩ : ∃ X : xH, X = (xUp J1.1 b 10 ujr1, J1.2) := ⟨_, rfl⟩
  rw [← yk2] at y2 ⊢
  have o_Y2 : skO b H Y2 := skO_u (by first | assumption | exact skO_B (by assumption) | exact skO_t2 (by assumption) (by assumption)) (skB_2 hb) (by omega) yk2
  have cc2 : cT Y2 = T ∧ cS Y2 = V1 := by rw [yk2]; exact ⟨(cT_up (by omega)).trans zB1.2.2.2.1.1, (cS_up (by omega)).trans zB1.2.2.2.1.2⟩
  refine q_go (pc := 70) rfl ?_
  refine q_rv (pc := 76) rfl ?_
  have eD : Y2.1 = xUp (J1.1) b 10 ujr1 := by rw [yk2]
  have eZ : zPn T 1 47 8 Z = (V1, sUp Z.2.1 8 ujr1, Z.2.2) := by rw [jV1, jr1]; rfl
  have hRK : skR J1.1 b Z := skR_D hR hw.2.2.2.1.2 (fun a j a0 a1 => rB_sk zB1 hB a0 a1)
  refine hq _ ⟨y2.1, y2.2.1, y2.2.2, by rw [eZ]; exact cc2, by rw [eZ]; exact zB1.2.2.2.2, o_Y2, fun _ => ?_⟩
  rw [eZ, eD]
  exact sr_one (S := Z.1) (h := Z.2.2) 10 8 ujr1 (by decide) (by decide) hRK hw.2.2.2.1.2 up_eq (fun k k0 => up_ne (by omega)) (fun a k a0 a1 => up_ne (by omega)) sUp_eq (fun k k0 => sUp_ne k0)
