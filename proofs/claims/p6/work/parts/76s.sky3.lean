/-! the first object: all is read -/
theorem rE_put {ef : ttEf} {H K : xH} (kT : ttTI K) (kX : ttXX YY K) (kF : ttFr ef H K) {a j x : Int} (r : Nat) (hr : ttRo a = r) (a1 : 1 ≤ a) (hm : ttM (K.2.2.2.1 : Int) (ttTy (ttTb r) j) x) (hin : ∃ q ∈ ef.2, q.1 = r ∧ q.2.1 ≤ j ∧ j ≤ q.2.2) (hff : ∀ q ∈ ttFF, q.1.1 ≠ r) : ttTI (xUp K.1 a j x, K.2) ∧ ttXX YY (xUp K.1 a j x, K.2) ∧ ttFr ef H (xUp K.1 a j x, K.2) :=
  ttPut (ttXX_out yyStab (fun _ _ => trivial)) kT kX kF a1 (fun _ _ => by rw [hr]; exact hm) (by
    obtain ⟨q, q1, q2, q3, q4⟩ := hin
    exact ⟨q, q1, ⟨⟨a1, hr.trans q2.symm⟩, q3, q4⟩⟩) (ttMay_no hr hff)
theorem sk_fr {ef : ttEf} {H K : xH} (hF : ttFr ef H K) (hn : 210 ≤ (H.2.2.2.1 : Int)) {b : Int} (hB : skB b) (he : ef.2.all (fun q => decide (q.1 < 7) || decide (24 < q.1)) = true) {a j : Int} (a0 : b ≤ a) (a1 : a ≤ b + 26) : K.1 a j = H.1 a j := by
  have bi := skB_in hB
  have w := sk_ro hB (o := a - b) (by omega) (by omega)
  rw [show b + (a - b) = a from by omega] at w
  have u : 7 ≤ ttSk (a - b).toNat ∧ ttSk (a - b).toNat ≤ 24 := by
    unfold ttSk
    split
    · rename_i h
      have := Nat.le_of_ble_eq_true h
      show 7 ≤ 7 + _ ∧ 7 + _ ≤ 24
      omega
    · split <;> decide
  refine fr_x hF (by omega) w.1 (fun q hq y _ _ => ?_)
  have v := List.all_eq_true.mp he q hq
  rw [Bool.or_eq_true, decide_eq_true_eq, decide_eq_true_eq] at v
  omega
theorem zRw_0 : zRw zZ0 := by
  unfold zRw
  decide +kernel
theorem ls_start {dd : Nat} (hd : 2 ≤ dd) {K : xH} (hT : ttTI K) {b N p : Int} (hB : skB b) (eN : K.1 b 4 = N) (ep : K.1 b 15 = p) {Q : Int → xH → Prop} (hy : 0 ≤ p ∧ p < N → Q 1 K) (hn : ¬ (0 ≤ p ∧ p < N) → Q 0 K) : xCall dd 118 [(2, b)] K Q := by
  obtain ⟨e, rfl, he⟩ := ttRun0 (n := 1) hd
  have he : 1 ≤ e := he
  refine xC_of (L := [(2, b)]) (cd := cd_118) rfl rfl rfl ?_
  refine q_al (pc := 0) (i := 0) (x := b) rfl rfl ?_
  refine q_al (pc := 1) (i := 0) (x := b) rfl rfl ?_
  refine q_gf (pc := 2) (m := 10150) (t := 0) (c := 15) rfl (sk_kb hT hB).1 rfl rfl ?_
  rw [ep]
  refine q_iv (pc := 3) (q := 904808) rfl rfl rfl (sk_kb hT hB).1 ?_
  refine ls_has (by omega) hT hB eN (fun h => ?_) (fun h => ?_)
  · refine q_rz (pc := 4) rfl (by omega) ?_
    exact hy h
  · refine q_rz (pc := 4) rfl (by omega) ?_
    exact hn h
theorem lr_39 {e : Nat} (he : 11 ≤ e) {I : xH} (hI : 210 ≤ (I.2.2.2.1 : Int)) {T : tSm} {b s : Int} (hb : b = 7 ∨ b = 34) (h9 : I.1 3 9 = b) (hW : skW I.1 b) {Q : Int → xH → Prop} (hq : ∀ r J E, zEnd T zZ0 E → ttTI J → ttXX YY J → ttFr eR I J → r = E.1.2.1 → (J.1 3 6 = E.1.2.1 ∧ J.1 3 7 = E.1.2.2) → skO b I J → (E.1.2.1 = 0 → skR J.1 b (E.1, zWd E, E.2.2)) → Q r J) {J : xH} {E : tZ} {i : Int} (hE : zEnd T zZ0 E) (jL : rL T b I J E) (hz : E.1.2.1 = 0 → zRw E ∧ zRs E) : xW e cd_71 Q (39, [(2, 3), (0, s), (2, b), (0, i)], [], J) := by
  have hB := skB_2 hb
  have hi := skB_in hB
  have zB0 := rL_b jL
  have oJ : skO b I J := jL.2.2.2.2.2.1
  have hn := rB_n zB0
  have h9k : J.1 3 9 = b := (fr_cl jL.2.2.1 (a := 3) (j := 9) (by omega) (by decide)).trans h9
  have hWk : skW J.1 b := skW_fr jL.2.2.1 hI hB (by decide) hW
  have e7 : J.1 3 7 = E.1.2.2 := by rw [← jL.2.2.2.1.2]; rfl
  have jF : ttFr eR I J := ttFr_tr (ttFr_rf eR I) jL.2.2.1 (fun _ => rfl) (by decide)
  obtain ⟨N, eN⟩ : ∃ N, J.1 b 4 = N := ⟨_, rfl⟩
  obtain ⟨p, ep⟩ : ∃ p, J.1 b 15 = p := ⟨_, rfl⟩
  obtain ⟨c, ec⟩ : ∃ c, J.1 b 9 = c := ⟨_, rfl⟩
  obtain ⟨t, et⟩ : ∃ t, J.1 b 16 = t := ⟨_, rfl⟩
  have k : ∀ j : Int, 0 ≤ j → j < 19 → ttM (J.2.2.2.1 : Int) (ttTy (ttTb 7) j) (J.1 b j) := fun j ujj0 ujj1 => by
    have w := ttMc jL.1 (a := b) (j := j) (by omega) (by omega) ujj0 (by rw [sk_rb hB]; exact ujj1)
    rw [sk_rb hB] at w
    exact w
  have kN : 0 ≤ N ∧ N ≤ 8 := by rw [← eN]; exact k 4 (by decide) (by decide)
  have kc : 0 ≤ c ∧ c ≤ 60 := by rw [← ec]; exact k 9 (by decide) (by decide)
  have kt : -2147483648 ≤ t ∧ t ≤ 2147483647 := by rw [← et]; exact k 16 (by decide) (by decide)
  refine q_al (pc := 39) (i := 0) (x := 3) rfl rfl ?_
  refine q_gf (pc := 40) (m := 7060) (t := 0) (c := 6) rfl (ttKc zB0.1 (a := 3) (κ := 7) (len := 0) ⟨rfl, rfl⟩ (by decide) (by decide)).1 rfl rfl ?_
  rw [show J.1 3 6 = E.1.2.1 from rB_f zB0]
  refine q_if (pc := 41) rfl (fun h41 => ?_) (fun h41 => ?_)
  · replace h41 : E.1.2.1 ≠ 0 := h41
    refine q_al (pc := 67) (i := 0) (x := 3) rfl rfl ?_
    refine q_gf (pc := 68) (m := 7060) (t := 0) (c := 6) rfl (ttKc zB0.1 (a := 3) (κ := 7) (len := 0) ⟨rfl, rfl⟩ (by decide) (by decide)).1 rfl rfl ?_
    rw [show J.1 3 6 = E.1.2.1 from rB_f zB0]
    refine q_ri (pc := 69) rfl ?_
    exact hq _ J E hE jL.1 jL.2.1 jF rfl ⟨rB_f zB0, e7⟩ oJ (fun f => absurd f h41)
  · replace h41 : E.1.2.1 = 0 := h41
    refine q_al (pc := 42) (i := 0) (x := 3) rfl rfl ?_
    refine q_gf (pc := 43) (m := 7092) (t := 2) (c := 9) rfl (ttKc zB0.1 (a := 3) (κ := 7) (len := 0) ⟨rfl, rfl⟩ (by decide) (by decide)).1 rfl rfl ?_
    rw [show J.1 3 9 = b from (rB_9 zB0).trans h9k]
    refine q_iv (pc := 44) (q := 944804) rfl rfl rfl (sk_kb zB0.1 hB).1 ?_
    refine ls_start (by omega) zB0.1 hB eN ep (fun hp => ?_) (fun hp => ?_)
    · skip
      obtain ⟨gr, eg⟩ : ∃ x, x = J.1 (b + 9 + p) 0 := ⟨_, rfl⟩
      have kg : 0 ≤ gr ∧ gr ≤ 30 := by
        have w := ttMc jL.1 (a := b + 9 + p) (j := 0) (by omega) (by omega) (by decide) (by rw [sk_rp hB hp.1 (by omega)]; decide)
        rw [sk_rp hB hp.1 (by omega), ← eg] at w
        exact w
      refine q_if (pc := 45) rfl (fun h45 => ?_) (fun h45 => ?_)
      · replace h45 : (1 : Int) = 0 := h45
        omega
      · replace h45 : (1 : Int) ≠ 0 := h45
        refine q_al (pc := 46) (i := 0) (x := 3) rfl rfl ?_
        refine q_gf (pc := 47) (m := 7092) (t := 2) (c := 9) rfl (ttKc zB0.1 (a := 3) (κ := 7) (len := 0) ⟨rfl, rfl⟩ (by decide) (by decide)).1 rfl rfl ?_
        rw [show J.1 3 9 = b from (rB_9 zB0).trans h9k]
        refine q_gf (pc := 48) (m := 10090) (t := 0) (c := 9) rfl (sk_kb zB0.1 hB).1 rfl rfl ?_
        rw [show J.1 b 9 = c from (rB_sk zB0 hB (by omega) (by omega)).trans ec]
        refine q_al (pc := 49) (i := 0) (x := 3) rfl rfl ?_
        refine q_gf (pc := 50) (m := 7092) (t := 2) (c := 9) rfl (ttKc zB0.1 (a := 3) (κ := 7) (len := 0) ⟨rfl, rfl⟩ (by decide) (by decide)).1 rfl rfl ?_
        rw [show J.1 3 9 = b from (rB_9 zB0).trans h9k]
        refine q_gf (pc := 51) (m := 10160) (t := 0) (c := 16) rfl (sk_kb zB0.1 hB).1 rfl rfl ?_
        rw [show J.1 b 16 = t from (rB_sk zB0 hB (by omega) (by omega)).trans et]
        refine q_mn (pc := 52) rfl rfl (by omega) ?_
        refine q_is (pc := 53) (i := 3) (L' := [(2, 3), (0, s), (2, b), (0, (min c t))]) rfl rfl rfl ?_
        refine q_al (pc := 54) (i := 0) (x := 3) rfl rfl ?_
        refine q_gf (pc := 55) (m := 7092) (t := 2) (c := 9) rfl (ttKc zB0.1 (a := 3) (κ := 7) (len := 0) ⟨rfl, rfl⟩ (by decide) (by decide)).1 rfl rfl ?_
        rw [show J.1 3 9 = b from (rB_9 zB0).trans h9k]
        refine q_al (pc := 56) (i := 0) (x := 3) rfl rfl ?_
        refine q_gf (pc := 57) (m := 7092) (t := 2) (c := 9) rfl (ttKc zB0.1 (a := 3) (κ := 7) (len := 0) ⟨rfl, rfl⟩ (by decide) (by decide)).1 rfl rfl ?_
        rw [show J.1 3 9 = b from (rB_9 zB0).trans h9k]
        refine q_gf (pc := 58) (m := 10002) (t := 2) (c := 0) rfl (sk_kb zB0.1 hB).1 rfl rfl ?_
        rw [show J.1 b 0 = (b + 1) from (rB_W zB0 hB hWk).1.1]
        refine q_al (pc := 59) (i := 0) (x := 3) rfl rfl ?_
        refine q_gf (pc := 60) (m := 7092) (t := 2) (c := 9) rfl (ttKc zB0.1 (a := 3) (κ := 7) (len := 0) ⟨rfl, rfl⟩ (by decide) (by decide)).1 rfl rfl ?_
        rw [show J.1 3 9 = b from (rB_9 zB0).trans h9k]
        refine q_gf (pc := 61) (m := 10150) (t := 0) (c := 15) rfl (sk_kb zB0.1 hB).1 rfl rfl ?_
        rw [show J.1 b 15 = p from (rB_sk zB0 hB (by omega) (by omega)).trans ep]
        refine q_aa (pc := 62) rfl (by rw [(sk_kx zB0.1 hB (o := 1) (by decide) (by decide) (κ := 25) (len := 8) ⟨rfl, rfl⟩).1]; decide) (by omega) (by rw [(sk_kx zB0.1 hB (o := 1) (by decide) (by decide) (κ := 25) (len := 8) ⟨rfl, rfl⟩).2]; omega) ?_
        rw [show J.1 (b + 1) p = (b + 9 + p) from (rB_W zB0 hB hWk).2.1 _ (by omega) (by omega)]
        refine q_gf (pc := 63) (m := 4000) (t := 0) (c := 0) rfl (sk_kp zB0.1 hB (by omega) (by omega)).1 rfl rfl ?_
        rw [← eg]
        refine q_il (pc := 64) (i := 3) (x := (min c t)) rfl rfl ?_
        refine q_mx (pc := 65) rfl rfl (by omega) ?_
        refine q_pf (pc := 66) (m := 10160) (c := 16) rfl (show xPt 0 0 _ _ from (sk_kb zB0.1 hB).1) rfl ?_
        have zL : ttFr eR J J := ttFr_rf _ _
        have y1 := rE_put (ef := eR) zB0.1 zB0.2.1 (ttFr_rf eR J) (a := b) (j := 16) (x := (max gr (min c t))) 7 (sk_rb hB) (by omega) (show ((-2147483648) : Int) ≤ (max gr (min c t)) ∧ (max gr (min c t)) ≤ 2147483647 from ⟨by omega, by omega⟩) ⟨(7, 4, 18), by decide, rfl, by decide, by decide⟩ (by decide)
        obtain ⟨Y1, yk1⟩ : ∃ X : xH, X = (xUp J.1 b 16 (max gr (min c t)), J.2) := ⟨_, rfl⟩
        rw [← yk1] at y1 ⊢
        have o_Y1 : skO b I Y1 := skO_u (by first | assumption | exact skO_r | exact skO_B (by assumption) | exact skO_t2 (by assumption) (by assumption)) hB (by omega) yk1
        have f6 : Y1.1 3 6 = E.1.2.1 := by rw [yk1]; exact (up_na (D := J.1) (a := b) (j := 16) (x := (max gr (min c t))) (b := 3) (k := 6) (by omega)).trans (rB_f zB0)
        have f7 : Y1.1 3 7 = E.1.2.2 := by rw [yk1]; exact (up_na (D := J.1) (a := b) (j := 16) (x := (max gr (min c t))) (b := 3) (k := 7) (by omega)).trans e7
        have fb : Y1.1 b 6 = J.1 b 6 := by rw [yk1]; exact up_j (D := J.1) (a := b) (j := 16) (x := (max gr (min c t))) (k := 6) (by decide)
        refine q_al (pc := 67) (i := 0) (x := 3) rfl rfl ?_
        refine q_gf (pc := 68) (m := 7060) (t := 0) (c := 6) rfl (ttKc y1.1 (a := 3) (κ := 7) (len := 0) ⟨rfl, rfl⟩ (by decide) (by decide)).1 rfl rfl ?_
        rw [f6]
        refine q_ri (pc := 69) rfl ?_
        refine hq _ Y1 E hE y1.1 y1.2.1 (ttFr_tr jF y1.2.2 (fun _ => rfl) (by decide)) rfl ⟨f6, f7⟩ o_Y1 (fun f => ?_)
        have hR := (jL.2.2.2.2.2.2 f).1
        have e12 : p = E.2.1 12 := ep.symm.trans (skA_i hR.1 (j := 15) (i := 12) (by decide))
        have e9 : c = E.2.1 7 := ec.symm.trans (skA_i hR.1 (j := 9) (i := 7) (by decide))
        have e16 : t = E.2.1 13 := et.symm.trans (skA_i hR.1 (j := 16) (i := 13) (by decide))
        have eg2 : gr = E.2.1 (20 + 8 * p) := eg.trans (hR.2.1 p hp.1 (by omega)).1.1
        rw [show zWd E = sUp E.2.1 13 (max (E.2.1 (20 + 8 * E.2.1 12)) (min (E.2.1 7) (E.2.1 13))) from if_neg (by omega), yk1, ← e12, ← e9, ← e16, ← eg2]
        exact sr_one (S := E.1) (h := E.2.2) 16 13 _ (by decide) (by decide) hR (rW3 jL.1 hB hR) up_eq (fun k k0 => up_ne (by omega)) (fun a k a0 a1 => up_ne (by omega)) sUp_eq (fun k k0 => sUp_ne k0)
    · skip
      refine q_if (pc := 45) rfl (fun h45 => ?_) (fun h45 => ?_)
      · replace h45 : (0 : Int) = 0 := h45
        refine q_al (pc := 67) (i := 0) (x := 3) rfl rfl ?_
        refine q_gf (pc := 68) (m := 7060) (t := 0) (c := 6) rfl (ttKc zB0.1 (a := 3) (κ := 7) (len := 0) ⟨rfl, rfl⟩ (by decide) (by decide)).1 rfl rfl ?_
        rw [show J.1 3 6 = E.1.2.1 from rB_f zB0]
        refine q_ri (pc := 69) rfl ?_
        refine hq _ J E hE jL.1 jL.2.1 jF rfl ⟨rB_f zB0, e7⟩ oJ (fun f => ?_)
        have hR := (jL.2.2.2.2.2.2 f).1
        have e1 : N = E.2.1 1 := eN.symm.trans (skA_i hR.1 (j := 4) (i := 1) (by decide))
        have e12 : p = E.2.1 12 := ep.symm.trans (skA_i hR.1 (j := 15) (i := 12) (by decide))
        have n12 : E.2.1 12 = -1 := by
          rcases (hz f).2 with u | u
          · exact u
          · exact absurd ⟨by omega, by omega⟩ hp
        rw [show zWd E = E.2.1 from if_pos n12]
        exact hR
      · replace h45 : (0 : Int) ≠ 0 := h45
        omega
theorem lr_all {dd : Nat} (hd : 12 ≤ dd) {H : xH} (hT : ttTI H) (hX : ttXX YY H) {b n : Int} (hb : b = 7 ∨ b = 34) (hW : skW H.1 b) (hR : skR H.1 b zZ0) (n0 : 0 ≤ n) (n1 : n ≤ 1600) {Q : Int → xH → Prop} (hq : ∀ r J T E, sOk T n → (∀ j : Int, T.1 j = H.1 2 j) → zEnd T zZ0 E → ttTI J → ttXX YY J → ttFr eR H J → r = E.1.2.1 → (J.1 3 6 = E.1.2.1 ∧ J.1 3 7 = E.1.2.2) → skO b H J → (E.1.2.1 = 0 → skR J.1 b (E.1, zWd E, E.2.2)) → Q r J) : xCall dd 71 [(2, 3), (0, n), (2, b)] H Q := by
  obtain ⟨e, rfl, he⟩ := ttRun0 (n := 11) hd
  have he : 11 ≤ e := he
  have hB := skB_2 hb
  have hi := skB_in hB
  have hn : 210 ≤ (H.2.2.2.1 : Int) := by have := hT.1; omega
  have y0 : ttTI H ∧ ttXX YY H ∧ ttFr eR H H := ⟨hT, hX, ttFr_rf _ H⟩
  refine xC_of (L := [(2, 3), (0, n), (2, b), (9, 0)]) (cd := cd_71) rfl rfl rfl ?_
  refine q_al (pc := 0) (i := 0) (x := 3) rfl rfl ?_
  refine q_al (pc := 1) (i := 2) (x := b) rfl rfl ?_
  refine q_pf (pc := 2) (m := 7092) (c := 9) rfl (show xPt 2 2 _ _ from (ttKc hT (a := 3) (κ := 7) (len := 0) ⟨rfl, rfl⟩ (by decide) (by decide)).1) rfl ?_
  have y1 := rE_put y0.1 y0.2.1 y0.2.2 (a := 3) (j := 9) (x := b) 3 rfl (by omega) (show b = 0 ∨ ((1 ≤ b ∧ b < _) ∧ ttRo b = 7) from Or.inr ⟨⟨by omega, by omega⟩, sk_rb hB⟩) ⟨(3, 4, 9), by decide, rfl, (show (4 : Int) ≤ 9 ∧ 9 ≤ 9 from ⟨by omega, by omega⟩)⟩ (by decide)
  obtain ⟨Y1, yk1⟩ : ∃ X : xH, X = (xUp H.1 3 9 b, H.2) := ⟨_, rfl⟩
  rw [← yk1] at y1 ⊢
  have o_Y1 : skO b H Y1 := skO_u (by first | assumption | exact skO_r | exact skO_B (by assumption) | exact skO_t2 (by assumption) (by assumption)) (skB_2 hb) (by omega) yk1
  refine q_al (pc := 3) (i := 0) (x := 3) rfl rfl ?_
  refine q_ic (pc := 4) (v := 0) rfl ?_
  refine q_pf (pc := 5) (m := 7050) (c := 5) rfl (show xPt 0 0 _ _ from (ttKc y1.1 (a := 3) (κ := 7) (len := 0) ⟨rfl, rfl⟩ (by decide) (by decide)).1) rfl ?_
  have y2 := rE_put y1.1 y1.2.1 y1.2.2 (a := 3) (j := 5) (x := 0) 3 rfl (by omega) (show (0 : Int) ≤ 0 ∧ 0 ≤ 1600 from ⟨by omega, by omega⟩) ⟨(3, 4, 9), by decide, rfl, (show (4 : Int) ≤ 5 ∧ 5 ≤ 9 from ⟨by omega, by omega⟩)⟩ (by decide)
  obtain ⟨Y2, yk2⟩ : ∃ X : xH, X = (xUp Y1.1 3 5 0, Y1.2) := ⟨_, rfl⟩
  rw [← yk2] at y2 ⊢
  have o_Y2 : skO b H Y2 := skO_u (by first | assumption | exact skO_r | exact skO_B (by assumption) | exact skO_t2 (by assumption) (by assumption)) (skB_2 hb) (by omega) yk2
  refine q_al (pc := 6) (i := 0) (x := 3) rfl rfl ?_
  refine q_ic (pc := 7) (v := 0) rfl ?_
  refine q_pf (pc := 8) (m := 7060) (c := 6) rfl (show xPt 0 0 _ _ from (ttKc y2.1 (a := 3) (κ := 7) (len := 0) ⟨rfl, rfl⟩ (by decide) (by decide)).1) rfl ?_
  have y3 := rE_put y2.1 y2.2.1 y2.2.2 (a := 3) (j := 6) (x := 0) 3 rfl (by omega) (show ((-2147483648) : Int) ≤ 0 ∧ 0 ≤ 2147483647 from ⟨by omega, by omega⟩) ⟨(3, 4, 9), by decide, rfl, (show (4 : Int) ≤ 6 ∧ 6 ≤ 9 from ⟨by omega, by omega⟩)⟩ (by decide)
  obtain ⟨Y3, yk3⟩ : ∃ X : xH, X = (xUp Y2.1 3 6 0, Y2.2) := ⟨_, rfl⟩
  rw [← yk3] at y3 ⊢
  have o_Y3 : skO b H Y3 := skO_u (by first | assumption | exact skO_r | exact skO_B (by assumption) | exact skO_t2 (by assumption) (by assumption)) (skB_2 hb) (by omega) yk3
  refine q_al (pc := 9) (i := 0) (x := 3) rfl rfl ?_
  refine q_ic (pc := 10) (v := (-1)) rfl ?_
  refine q_pf (pc := 11) (m := 7070) (c := 7) rfl (show xPt 0 0 _ _ from (ttKc y3.1 (a := 3) (κ := 7) (len := 0) ⟨rfl, rfl⟩ (by decide) (by decide)).1) rfl ?_
  have y4 := rE_put y3.1 y3.2.1 y3.2.2 (a := 3) (j := 7) (x := (-1)) 3 rfl (by omega) (show ((-2147483648) : Int) ≤ (-1) ∧ (-1) ≤ 2147483647 from ⟨by omega, by omega⟩) ⟨(3, 4, 9), by decide, rfl, (show (4 : Int) ≤ 7 ∧ 7 ≤ 9 from ⟨by omega, by omega⟩)⟩ (by decide)
  obtain ⟨Y4, yk4⟩ : ∃ X : xH, X = (xUp Y3.1 3 7 (-1), Y3.2) := ⟨_, rfl⟩
  rw [← yk4] at y4 ⊢
  have o_Y4 : skO b H Y4 := skO_u (by first | assumption | exact skO_r | exact skO_B (by assumption) | exact skO_t2 (by assumption) (by assumption)) (skB_2 hb) (by omega) yk4
  refine q_al (pc := 12) (i := 0) (x := 3) rfl rfl ?_
  refine q_ic (pc := 13) (v := 0) rfl ?_
  refine q_pf (pc := 14) (m := 7080) (c := 8) rfl (show xPt 0 0 _ _ from (ttKc y4.1 (a := 3) (κ := 7) (len := 0) ⟨rfl, rfl⟩ (by decide) (by decide)).1) rfl ?_
  have y5 := rE_put y4.1 y4.2.1 y4.2.2 (a := 3) (j := 8) (x := 0) 3 rfl (by omega) (show ((-2147483648) : Int) ≤ 0 ∧ 0 ≤ 2147483647 from ⟨by omega, by omega⟩) ⟨(3, 4, 9), by decide, rfl, (show (4 : Int) ≤ 8 ∧ 8 ≤ 9 from ⟨by omega, by omega⟩)⟩ (by decide)
  obtain ⟨Y5, yk5⟩ : ∃ X : xH, X = (xUp Y4.1 3 8 0, Y4.2) := ⟨_, rfl⟩
  rw [← yk5] at y5 ⊢
  have o_Y5 : skO b H Y5 := skO_u (by first | assumption | exact skO_r | exact skO_B (by assumption) | exact skO_t2 (by assumption) (by assumption)) (skB_2 hb) (by omega) yk5
  refine q_al (pc := 15) (i := 0) (x := 3) rfl rfl ?_
  refine q_il (pc := 16) (i := 1) (x := n) rfl rfl ?_
  refine q_ic (pc := 17) (v := 1600) rfl ?_
  refine q_mn (pc := 18) rfl rfl (by omega) ?_
  refine q_iv (pc := 19) (q := 576571) rfl rfl rfl (ttKc y5.1 (a := 3) (κ := 7) (len := 0) ⟨rfl, rfl⟩ (by decide) (by decide)).1 ?_
  rw [show min n 1600 = n from by omega]
  have eD : Y5.1 = xUp (xUp (xUp (xUp (xUp (H.1) 3 9 b) 3 5 0) 3 6 0) 3 7 (-1)) 3 8 0 := by rw [yk5, yk4, yk3, yk2, yk1]
  have c9 : Y5.1 3 9 = b := by rw [eD]; exact (up_ne (by omega)).trans ((up_ne (by omega)).trans ((up_ne (by omega)).trans ((up_ne (by omega)).trans (up_eq))))
  have c5 : Y5.1 3 5 = 0 := by rw [eD]; exact (up_ne (by omega)).trans ((up_ne (by omega)).trans ((up_ne (by omega)).trans (up_eq)))
  have c6 : Y5.1 3 6 = 0 := by rw [eD]; exact (up_ne (by omega)).trans ((up_ne (by omega)).trans (up_eq))
  have c7 : Y5.1 3 7 = -1 := by rw [eD]; exact (up_ne (by omega)).trans (up_eq)
  have c8 : Y5.1 3 8 = 0 := by rw [eD]; exact up_eq
  have co : ∀ a j : Int, a ≠ 3 → Y5.1 a j = H.1 a j := fun a j h => by rw [eD]; exact (up_ne (by omega)).trans ((up_ne (by omega)).trans ((up_ne (by omega)).trans ((up_ne (by omega)).trans (up_ne (by omega)))))
  have yn : 210 ≤ (Y5.2.2.2.1 : Int) := by have := y5.1.1; omega
  refine lx_split (by omega) y5.1 y5.2.1 n0 n1 (fun K kT kX kF kt => ?_)
  have kn : 210 ≤ (K.2.2.2.1 : Int) := by have := kT.1; omega
  have k2 : K.1 2 = Y5.1 2 := funext (fun j => fr_no kF 2 (by omega) rfl (by decide))
  have hO : sOk (cT K) n := ⟨⟨n0, n1⟩, by
    show tSt (K.1 2) n (K.1 4) (K.1 5) (K.1 6) (K.1 3 4)
    rw [k2]; exact kt⟩
  have d9 : K.1 3 9 = b := (fr_cl kF (a := 3) (j := 9) (by omega) (by decide)).trans c9
  have d5 : K.1 3 5 = 0 := (fr_cl kF (a := 3) (j := 5) (by omega) (by decide)).trans c5
  have d6 : K.1 3 6 = 0 := (fr_cl kF (a := 3) (j := 6) (by omega) (by decide)).trans c6
  have d7 : K.1 3 7 = -1 := (fr_cl kF (a := 3) (j := 7) (by omega) (by decide)).trans c7
  have d8 : K.1 3 8 = 0 := (fr_cl kF (a := 3) (j := 8) (by omega) (by decide)).trans c8
  have kE : ttFr eR H K := ttFr_tr y5.2.2 kF (fun _ => rfl) (by decide)
  have kW : skW K.1 b := skW_fr kE hn hB (by decide) hW
  have kR : skR K.1 b zZ0 := skR_D hR (by decide) (fun a j a0 a1 => by
    have w := sk_ro hB (o := a - b) (by omega) (by omega)
    rw [show b + (a - b) = a from by omega] at w
    have z : ∀ q ∈ ([(3, 4, 4), (4, 0, 1600), (5, 0, 1600), (6, 0, 1600)] : ttE3), q.1 ≠ ttSk (a - b).toNat := fun q hq y => by
      have u : 7 ≤ ttSk (a - b).toNat := by
        unfold ttSk
        split
        · show 7 ≤ 7 + _
          omega
        · split <;> decide
      rw [← y] at u
      exact absurd u ((by decide : ∀ q ∈ ([(3, 4, 4), (4, 0, 1600), (5, 0, 1600), (6, 0, 1600)] : ttE3), ¬ 7 ≤ q.1) q hq)
    exact (fr_x kF (by omega) w.1 (fun q hq y _ _ => z q hq y)).trans (co a j (by omega)))
  have oK : skO b H K := fun c hc hne a j a0 a1 => (sk_fr kF (by omega) hc (by decide) a0 a1).trans (o_Y5 c hc hne a j a0 a1)
  have kL : rL (cT K) b K K zZ0 := ⟨kT, kX, ttFr_rf _ K, ⟨rfl, by unfold cS; rw [d5, d6, d7]; rfl⟩, ⟨by decide, by have := hO.2.1; show (0 : Int) < _; omega⟩, skO_r, fun _ => ⟨kR, by rw [d8]; rfl⟩⟩
  refine q_ic (pc := 20) (v := 0) rfl ?_
  refine q_is (pc := 21) (i := 3) (L' := [(2, 3), (0, n), (2, b), (0, 0)]) rfl rfl rfl ?_
  refine lj_loop he kn hb hO d9 kW 1601 K zZ0 0 (by have := sOk_m hO; show (cT K).2.2.2.2 - 0 ≤ ((1601 : Nat) : Int); omega) (by decide) (by decide) kL (fun _ => ⟨⟨zRw_0, zRs_0⟩, by decide⟩) (fun J E i hE jL jz => ?_)
  refine lr_39 he kn hb d9 kW (fun r J2 E2 hE2 jT jX jF jr ujj7 jO ujj6 => hq r J2 (cT K) E2 hO (fun j => (congrFun k2 j).trans (co 2 j (by decide))) hE2 jT jX (ttFr_tr kE jF (fun _ => rfl) (by decide)) jr ujj7 (skO_t oK jO) ujj6) hE jL jz
abbrev eS : ttEf := (true, [(1, 1, 1), (1, 3, 6), (3, 4, 9), (4, 0, 1600), (5, 0, 1600), (6, 0, 1600), (7, 4, 18), (10, 0, 0), (11, 0, 5), (12, 0, 5), (13, 0, 0), (16, 0, 6), (24, 0, 5), (63, 6, 6), (64, 0, 16), (65, 0, 239), (66, 0, 239), (67, 0, 239), (68, 0, 239), (69, 0, 239), (70, 0, 15), (210, 9, 9)])
/-- what the first object has when its sky is read -/
def r1W (b b2 : Int) (E : tZ) (r : Int) (K : xH) : Prop := (K.1 1 3 = E.1.2.1 ∧ K.1 1 4 = E.1.2.2) ∧ K.1 1 1 = 0 ∧ (E.1.2.1 ≠ 0 → r = -4 ∧ K.1 1 5 = b2 ∧ K.1 1 6 = b) ∧ (E.1.2.1 = 0 → r = E.2.1 0 ∧ K.1 1 5 = b ∧ K.1 1 6 = b2 ∧ skR K.1 b (E.1, zWd E, E.2.2))
theorem lx_sky {dd : Nat} (hd : 13 ≤ dd) {H : xH} (hT : ttTI H) (hX : ttXX YY H) {b b2 n : Int} (hb : b = 7 ∨ b = 34) (hb2 : b2 = 7 ∨ b2 = 34) (h6 : H.1 1 6 = b) (h5 : H.1 1 5 = b2) (hW : skW H.1 b) (en : H.1 1 1 = n) {Q : Int → xH → Prop} (hq : ∀ r K T E, sOk T n → (∀ j : Int, T.1 j = H.1 2 j) → zEnd T zZ0 E → r1W b b2 E r K → skO b H K → Q r K) : xCall dd 136 [(2, 1)] H Q := by
  obtain ⟨e, rfl, he⟩ := ttRun0 (n := 12) hd
  have he : 12 ≤ e := he
  have hB := skB_2 hb
  have hB2 := skB_2 hb2
  have hi := skB_in hB
  have hi2 := skB_in hB2
  have hn : 210 ≤ (H.2.2.2.1 : Int) := by have := hT.1; omega
  have n0 : 0 ≤ n ∧ n ≤ 1600 := by rw [← en]; exact ttMc hT (a := 1) (j := 1) (by decide) (by decide) (by decide) (by decide)
  refine xC_of (L := [(2, 1), (9, 0)]) (cd := cd_136) rfl rfl rfl ?_
  refine q_al (pc := 0) (i := 0) (x := 1) rfl rfl ?_
  refine q_gf (pc := 1) (m := 11062) (t := 2) (c := 6) rfl (ttKc hT (a := 1) (κ := 11) (len := 0) ⟨rfl, rfl⟩ (by decide) (by decide)).1 rfl rfl ?_
  rw [show H.1 1 6 = b from h6]
  refine q_iv (pc := 2) (q := 888807) rfl rfl rfl (sk_kb hT hB).1 ?_
  refine lc_clear (by omega) hT hX hB hW (fun J jT jX jF jO jR => ?_)
  have jn : 210 ≤ (J.2.2.2.1 : Int) := by have := jT.1; omega
  have jW : skW J.1 b := skW_fr jF hn hB (by decide) hW
  have q5 : J.1 1 5 = b2 := (fr_no jF 1 (by omega) rfl (by decide)).trans h5
  have q6 : J.1 1 6 = b := (fr_no jF 1 (by omega) rfl (by decide)).trans h6
  have q1 : J.1 1 1 = n := (fr_no jF 1 (by omega) rfl (by decide)).trans en
  refine q_al (pc := 3) (i := 0) (x := 1) rfl rfl ?_
  refine q_al (pc := 4) (i := 0) (x := 1) rfl rfl ?_
  refine q_gf (pc := 5) (m := 11022) (t := 2) (c := 2) rfl (ttKc jT (a := 1) (κ := 11) (len := 0) ⟨rfl, rfl⟩ (by decide) (by decide)).1 rfl rfl ?_
  rw [show J.1 1 2 = 3 from ttFx jT (by decide) (by decide) rfl rfl rfl]
  refine q_al (pc := 6) (i := 0) (x := 1) rfl rfl ?_
  refine q_gf (pc := 7) (m := 11010) (t := 0) (c := 1) rfl (ttKc jT (a := 1) (κ := 11) (len := 0) ⟨rfl, rfl⟩ (by decide) (by decide)).1 rfl rfl ?_
  rw [show J.1 1 1 = n from q1]
  refine q_al (pc := 8) (i := 0) (x := 1) rfl rfl ?_
  refine q_gf (pc := 9) (m := 11062) (t := 2) (c := 6) rfl (ttKc jT (a := 1) (κ := 11) (len := 0) ⟨rfl, rfl⟩ (by decide) (by decide)).1 rfl rfl ?_
  rw [show J.1 1 6 = b from q6]
  refine q_iv (pc := 10) (q := 568572) rfl rfl rfl ⟨by omega, (ttKc jT (a := 3) (κ := 7) (len := 0) ⟨rfl, rfl⟩ (by decide) (by decide)).1⟩ ?_
  refine lr_all (by omega) jT jX hb jW jR n0.1 n0.2 (fun r K T E hO hTx hE kT kX kF kr k7 kO k6 => ?_)
  have oK : skO b H K := skO_t jO kO
  have kn : 210 ≤ (K.2.2.2.1 : Int) := by have := kT.1; omega
  have hTy : ∀ j : Int, T.1 j = H.1 2 j := fun j => (hTx j).trans (fr_no jF 2 (by omega) rfl (by decide))
  have p5 : K.1 1 5 = b2 := (fr_no kF 1 (by omega) rfl (by decide)).trans q5
  have p6 : K.1 1 6 = b := (fr_no kF 1 (by omega) rfl (by decide)).trans q6
  have m0 := ttMc kT (a := 3) (j := 7) (by decide) (by decide) (by decide) (by decide)
  have m1 : -2147483648 ≤ E.1.2.2 ∧ E.1.2.2 ≤ 2147483647 := by rw [← k7.2]; exact m0
  have m2 := ttMc kT (a := 3) (j := 6) (by decide) (by decide) (by decide) (by decide)
  have m3 : -2147483648 ≤ r ∧ r ≤ 2147483647 := by rw [kr, ← k7.1]; exact m2
  refine q_pf (pc := 11) (m := 11030) (c := 3) rfl (show xPt 0 0 _ _ from (ttKc kT (a := 1) (κ := 11) (len := 0) ⟨rfl, rfl⟩ (by decide) (by decide)).1) rfl ?_
  have y1 := rE_put (ef := eS) kT kX (ttFr_rf eS K) (a := 1) (j := 3) (x := r) 1 rfl (by decide) (show ((-2147483648) : Int) ≤ r ∧ r ≤ 2147483647 from ⟨by omega, by omega⟩) ⟨(1, 3, 6), by decide, rfl, by decide, by decide⟩ (by decide)
  obtain ⟨Y1, yk1⟩ : ∃ X : xH, X = (xUp K.1 1 3 r, K.2) := ⟨_, rfl⟩
  rw [← yk1] at y1 ⊢
  have o_Y1 : skO b H Y1 := skO_u (by first | assumption | exact skO_r | exact skO_B (by assumption) | exact skO_t2 (by assumption) (by assumption)) (skB_2 hb) (by omega) yk1
  have u1_5 : Y1.1 1 5 = b2 := by rw [yk1]; exact (up_ne (D := K.1) (a := 1) (j := 3) (x := r) (b := 1) (k := 5) (by omega)).trans (p5)
  have u1_6 : Y1.1 1 6 = b := by rw [yk1]; exact (up_ne (D := K.1) (a := 1) (j := 3) (x := r) (b := 1) (k := 6) (by omega)).trans (p6)
  have u1_37 : Y1.1 3 7 = (E.1.2.2) := by rw [yk1]; exact (up_ne (D := K.1) (a := 1) (j := 3) (x := r) (b := 3) (k := 7) (by omega)).trans (k7.2)
  have u1_3 : Y1.1 1 3 = r := by rw [yk1]; exact up_eq (D := K.1) (a := 1) (j := 3) (x := r)
  have v1 : ∀ a j : Int, a ≠ 1 → Y1.1 a j = K.1 a j := fun a j h => by rw [yk1]; exact (up_na h)
  refine q_al (pc := 12) (i := 0) (x := 1) rfl rfl ?_
  refine q_al (pc := 13) (i := 0) (x := 1) rfl rfl ?_
  refine q_gf (pc := 14) (m := 11022) (t := 2) (c := 2) rfl (ttKc y1.1 (a := 1) (κ := 11) (len := 0) ⟨rfl, rfl⟩ (by decide) (by decide)).1 rfl rfl ?_
  rw [show Y1.1 1 2 = 3 from ttFx y1.1 (by decide) (by decide) rfl rfl rfl]
  refine q_gf (pc := 15) (m := 7070) (t := 0) (c := 7) rfl (ttKc y1.1 (a := 3) (κ := 7) (len := 0) ⟨rfl, rfl⟩ (by decide) (by decide)).1 rfl rfl ?_
  rw [show Y1.1 3 7 = (E.1.2.2) from u1_37]
  refine q_pf (pc := 16) (m := 11040) (c := 4) rfl (show xPt 0 0 _ _ from (ttKc y1.1 (a := 1) (κ := 11) (len := 0) ⟨rfl, rfl⟩ (by decide) (by decide)).1) rfl ?_
  have y2 := rE_put (ef := eS) y1.1 y1.2.1 y1.2.2 (a := 1) (j := 4) (x := (E.1.2.2)) 1 rfl (by decide) (show ((-2147483648) : Int) ≤ (E.1.2.2) ∧ (E.1.2.2) ≤ 2147483647 from ⟨by omega, by omega⟩) ⟨(1, 3, 6), by decide, rfl, by decide, by decide⟩ (by decide)
  obtain ⟨Y2, yk2⟩ : ∃ X : xH, X = (xUp Y1.1 1 4 (E.1.2.2), Y1.2) := ⟨_, rfl⟩
  rw [← yk2] at y2 ⊢
  have o_Y2 : skO b H Y2 := skO_u (by first | assumption | exact skO_r | exact skO_B (by assumption) | exact skO_t2 (by assumption) (by assumption)) (skB_2 hb) (by omega) yk2
  have u2_5 : Y2.1 1 5 = b2 := by rw [yk2]; exact (up_ne (D := Y1.1) (a := 1) (j := 4) (x := (E.1.2.2)) (b := 1) (k := 5) (by omega)).trans (u1_5)
  have u2_6 : Y2.1 1 6 = b := by rw [yk2]; exact (up_ne (D := Y1.1) (a := 1) (j := 4) (x := (E.1.2.2)) (b := 1) (k := 6) (by omega)).trans (u1_6)
  have u2_37 : Y2.1 3 7 = (E.1.2.2) := by rw [yk2]; exact (up_ne (D := Y1.1) (a := 1) (j := 4) (x := (E.1.2.2)) (b := 3) (k := 7) (by omega)).trans (u1_37)
  have u2_3 : Y2.1 1 3 = r := by rw [yk2]; exact (up_ne (D := Y1.1) (a := 1) (j := 4) (x := (E.1.2.2)) (b := 1) (k := 3) (by omega)).trans (u1_3)
  have u2_4 : Y2.1 1 4 = (E.1.2.2) := by rw [yk2]; exact up_eq (D := Y1.1) (a := 1) (j := 4) (x := (E.1.2.2))
  have v2 : ∀ a j : Int, a ≠ 1 → Y2.1 a j = K.1 a j := fun a j h => by rw [yk2]; exact (up_na h).trans (v1 a j h)
  refine q_al (pc := 17) (i := 0) (x := 1) rfl rfl ?_
  refine q_ic (pc := 18) (v := 0) rfl ?_
  refine q_pf (pc := 19) (m := 11010) (c := 1) rfl (show xPt 0 0 _ _ from (ttKc y2.1 (a := 1) (κ := 11) (len := 0) ⟨rfl, rfl⟩ (by decide) (by decide)).1) rfl ?_
  have y3 := rE_put (ef := eS) y2.1 y2.2.1 y2.2.2 (a := 1) (j := 1) (x := 0) 1 rfl (by decide) (show (0 : Int) ≤ 0 ∧ 0 ≤ 1600 from ⟨by omega, by omega⟩) ⟨(1, 1, 1), by decide, rfl, by decide, by decide⟩ (by decide)
  obtain ⟨Y3, yk3⟩ : ∃ X : xH, X = (xUp Y2.1 1 1 0, Y2.2) := ⟨_, rfl⟩
  rw [← yk3] at y3 ⊢
  have o_Y3 : skO b H Y3 := skO_u (by first | assumption | exact skO_r | exact skO_B (by assumption) | exact skO_t2 (by assumption) (by assumption)) (skB_2 hb) (by omega) yk3
  have u3_5 : Y3.1 1 5 = b2 := by rw [yk3]; exact (up_ne (D := Y2.1) (a := 1) (j := 1) (x := 0) (b := 1) (k := 5) (by omega)).trans (u2_5)
  have u3_6 : Y3.1 1 6 = b := by rw [yk3]; exact (up_ne (D := Y2.1) (a := 1) (j := 1) (x := 0) (b := 1) (k := 6) (by omega)).trans (u2_6)
  have u3_37 : Y3.1 3 7 = (E.1.2.2) := by rw [yk3]; exact (up_ne (D := Y2.1) (a := 1) (j := 1) (x := 0) (b := 3) (k := 7) (by omega)).trans (u2_37)
  have u3_3 : Y3.1 1 3 = r := by rw [yk3]; exact (up_ne (D := Y2.1) (a := 1) (j := 1) (x := 0) (b := 1) (k := 3) (by omega)).trans (u2_3)
  have u3_4 : Y3.1 1 4 = (E.1.2.2) := by rw [yk3]; exact (up_ne (D := Y2.1) (a := 1) (j := 1) (x := 0) (b := 1) (k := 4) (by omega)).trans (u2_4)
  have u3_1 : Y3.1 1 1 = 0 := by rw [yk3]; exact up_eq (D := Y2.1) (a := 1) (j := 1) (x := 0)
  have v3 : ∀ a j : Int, a ≠ 1 → Y3.1 a j = K.1 a j := fun a j h => by rw [yk3]; exact (up_na h).trans (v2 a j h)
  refine q_al (pc := 20) (i := 0) (x := 1) rfl rfl ?_
  refine q_gf (pc := 21) (m := 11030) (t := 0) (c := 3) rfl (ttKc y3.1 (a := 1) (κ := 11) (len := 0) ⟨rfl, rfl⟩ (by decide) (by decide)).1 rfl rfl ?_
  rw [show Y3.1 1 3 = r from u3_3]
  refine q_if (pc := 22) rfl (fun h22 => ?_) (fun h22 => ?_)
  · replace h22 : r = 0 := h22
    refine q_al (pc := 25) (i := 0) (x := 1) rfl rfl ?_
    refine q_gf (pc := 26) (m := 11052) (t := 2) (c := 5) rfl (ttKc y3.1 (a := 1) (κ := 11) (len := 0) ⟨rfl, rfl⟩ (by decide) (by decide)).1 rfl rfl ?_
    rw [show Y3.1 1 5 = b2 from u3_5]
    refine q_as (pc := 27) (i := 1) (L' := [(2, 1), (2, b2)]) rfl rfl rfl (by omega) ?_
    refine q_al (pc := 28) (i := 0) (x := 1) rfl rfl ?_
    refine q_al (pc := 29) (i := 0) (x := 1) rfl rfl ?_
    refine q_gf (pc := 30) (m := 11062) (t := 2) (c := 6) rfl (ttKc y3.1 (a := 1) (κ := 11) (len := 0) ⟨rfl, rfl⟩ (by decide) (by decide)).1 rfl rfl ?_
    rw [show Y3.1 1 6 = b from u3_6]
    refine q_pf (pc := 31) (m := 11052) (c := 5) rfl (show xPt 2 2 _ _ from (ttKc y3.1 (a := 1) (κ := 11) (len := 0) ⟨rfl, rfl⟩ (by decide) (by decide)).1) rfl ?_
    have y4 := rE_put (ef := eS) y3.1 y3.2.1 y3.2.2 (a := 1) (j := 5) (x := b) 1 rfl (by decide) (show (1 ≤ b ∧ b < (Y3.2.2.2.1 : Int)) ∧ ttRo b = 7 from ⟨⟨by omega, by have := y3.1.1; omega⟩, sk_rb hB⟩) ⟨(1, 3, 6), by decide, rfl, by decide, by decide⟩ (by decide)
    obtain ⟨Y4, yk4⟩ : ∃ X : xH, X = (xUp Y3.1 1 5 b, Y3.2) := ⟨_, rfl⟩
    rw [← yk4] at y4 ⊢
    have o_Y4 : skO b H Y4 := skO_u (by first | assumption | exact skO_r | exact skO_B (by assumption) | exact skO_t2 (by assumption) (by assumption)) (skB_2 hb) (by omega) yk4
    have u4_6 : Y4.1 1 6 = b := by rw [yk4]; exact (up_ne (D := Y3.1) (a := 1) (j := 5) (x := b) (b := 1) (k := 6) (by omega)).trans (u3_6)
    have u4_37 : Y4.1 3 7 = (E.1.2.2) := by rw [yk4]; exact (up_ne (D := Y3.1) (a := 1) (j := 5) (x := b) (b := 3) (k := 7) (by omega)).trans (u3_37)
    have u4_3 : Y4.1 1 3 = r := by rw [yk4]; exact (up_ne (D := Y3.1) (a := 1) (j := 5) (x := b) (b := 1) (k := 3) (by omega)).trans (u3_3)
    have u4_4 : Y4.1 1 4 = (E.1.2.2) := by rw [yk4]; exact (up_ne (D := Y3.1) (a := 1) (j := 5) (x := b) (b := 1) (k := 4) (by omega)).trans (u3_4)
    have u4_1 : Y4.1 1 1 = 0 := by rw [yk4]; exact (up_ne (D := Y3.1) (a := 1) (j := 5) (x := b) (b := 1) (k := 1) (by omega)).trans (u3_1)
    have u4_5 : Y4.1 1 5 = b := by rw [yk4]; exact up_eq (D := Y3.1) (a := 1) (j := 5) (x := b)
    have v4 : ∀ a j : Int, a ≠ 1 → Y4.1 a j = K.1 a j := fun a j h => by rw [yk4]; exact (up_na h).trans (v3 a j h)
    refine q_al (pc := 32) (i := 0) (x := 1) rfl rfl ?_
    refine q_al (pc := 33) (i := 1) (x := b2) rfl rfl ?_
    refine q_pf (pc := 34) (m := 11062) (c := 6) rfl (show xPt 2 2 _ _ from (ttKc y4.1 (a := 1) (κ := 11) (len := 0) ⟨rfl, rfl⟩ (by decide) (by decide)).1) rfl ?_
    have y5 := rE_put (ef := eS) y4.1 y4.2.1 y4.2.2 (a := 1) (j := 6) (x := b2) 1 rfl (by decide) (show (1 ≤ b2 ∧ b2 < (Y4.2.2.2.1 : Int)) ∧ ttRo b2 = 7 from ⟨⟨by omega, by have := y4.1.1; omega⟩, sk_rb hB2⟩) ⟨(1, 3, 6), by decide, rfl, by decide, by decide⟩ (by decide)
    obtain ⟨Y5, yk5⟩ : ∃ X : xH, X = (xUp Y4.1 1 6 b2, Y4.2) := ⟨_, rfl⟩
    rw [← yk5] at y5 ⊢
    have o_Y5 : skO b H Y5 := skO_u (by first | assumption | exact skO_r | exact skO_B (by assumption) | exact skO_t2 (by assumption) (by assumption)) (skB_2 hb) (by omega) yk5
    have u5_37 : Y5.1 3 7 = (E.1.2.2) := by rw [yk5]; exact (up_ne (D := Y4.1) (a := 1) (j := 6) (x := b2) (b := 3) (k := 7) (by omega)).trans (u4_37)
    have u5_3 : Y5.1 1 3 = r := by rw [yk5]; exact (up_ne (D := Y4.1) (a := 1) (j := 6) (x := b2) (b := 1) (k := 3) (by omega)).trans (u4_3)
    have u5_4 : Y5.1 1 4 = (E.1.2.2) := by rw [yk5]; exact (up_ne (D := Y4.1) (a := 1) (j := 6) (x := b2) (b := 1) (k := 4) (by omega)).trans (u4_4)
    have u5_1 : Y5.1 1 1 = 0 := by rw [yk5]; exact (up_ne (D := Y4.1) (a := 1) (j := 6) (x := b2) (b := 1) (k := 1) (by omega)).trans (u4_1)
    have u5_5 : Y5.1 1 5 = b := by rw [yk5]; exact (up_ne (D := Y4.1) (a := 1) (j := 6) (x := b2) (b := 1) (k := 5) (by omega)).trans (u4_5)
    have u5_6 : Y5.1 1 6 = b2 := by rw [yk5]; exact up_eq (D := Y4.1) (a := 1) (j := 6) (x := b2)
    have v5 : ∀ a j : Int, a ≠ 1 → Y5.1 a j = K.1 a j := fun a j h => by rw [yk5]; exact (up_na h).trans (v4 a j h)
    refine q_al (pc := 35) (i := 0) (x := 1) rfl rfl ?_
    refine q_gf (pc := 36) (m := 11092) (t := 2) (c := 9) rfl (ttKc y5.1 (a := 1) (κ := 11) (len := 0) ⟨rfl, rfl⟩ (by decide) (by decide)).1 rfl rfl ?_
    rw [show Y5.1 1 9 = 63 from ttFx y5.1 (by decide) (by decide) rfl rfl rfl]
    refine q_al (pc := 37) (i := 0) (x := 1) rfl rfl ?_
    refine q_gf (pc := 38) (m := 11052) (t := 2) (c := 5) rfl (ttKc y5.1 (a := 1) (κ := 11) (len := 0) ⟨rfl, rfl⟩ (by decide) (by decide)).1 rfl rfl ?_
    rw [show Y5.1 1 5 = b from u5_5]
    refine q_iv (pc := 39) (q := 136091) rfl rfl rfl ⟨by omega, (ttKc y5.1 (a := 63) (κ := 1) (len := 0) ⟨rfl, rfl⟩ (by decide) (by decide)).1⟩ ?_
    have ny : 210 ≤ (Y5.2.2.2.1 : Int) := by have := y5.1.1; omega
    refine hc_11 (ttXX_out yyStab (fun _ _ => trivial)) e (by show 6 ≤ e; omega) [(2, 63), (2, b)] Y5 y5.1 y5.2.1 ⟨⟨rfl, ttPk_of rfl⟩, ⟨rfl, ⟨b, by show b = 1 * b + 0; omega, ⟨⟨by omega, by omega⟩, sk_rb hB⟩⟩⟩, trivial⟩ (fun _ hq => absurd hq List.not_mem_nil) _ (fun ujr2 G gT gX gF gr _ => ?_)
    have gn : 210 ≤ (G.2.2.2.1 : Int) := by have := gT.1; omega
    have g1 : G.1 1 1 = 0 := (fr_no gF 1 (by omega) rfl (by decide)).trans u5_1
    have g3 : G.1 1 3 = r := (fr_no gF 1 (by omega) rfl (by decide)).trans u5_3
    have g4 : G.1 1 4 = (E.1.2.2) := (fr_no gF 1 (by omega) rfl (by decide)).trans u5_4
    have g5 : G.1 1 5 = b := (fr_no gF 1 (by omega) rfl (by decide)).trans u5_5
    have g6 : G.1 1 6 = b2 := (fr_no gF 1 (by omega) rfl (by decide)).trans u5_6
    have gs : ∀ a j : Int, b ≤ a → a ≤ b + 26 → G.1 a j = K.1 a j := fun a j a0 a1 => (sk_fr gF ny hB (by decide) a0 a1).trans (v5 a j (by omega))
    have gb6 : G.1 b 6 = K.1 b 6 := gs b 6 (by omega) (by omega)
    refine q_al (pc := 40) (i := 0) (x := 1) rfl rfl ?_
    refine q_iv (pc := 41) (q := 1104887) rfl rfl rfl (ttKc gT (a := 1) (κ := 11) (len := 0) ⟨rfl, rfl⟩ (by decide) (by decide)).1 ?_
    refine hc_4 (ttXX_out yyStab (fun _ _ => trivial)) e (by show 1 ≤ e; omega) [(2, 1)] G gT gX ⟨⟨rfl, ttPk_of rfl⟩, trivial⟩ (fun _ hq => absurd hq List.not_mem_nil) _ (fun ujr3 M mT mX mF mr _ => ?_)
    have h1_m : M.1 1 1 = 0 := (fr_no mF 1 (by omega) rfl (by decide)).trans g1
    have h3_m : M.1 1 3 = r := (fr_no mF 1 (by omega) rfl (by decide)).trans g3
    have h4_m : M.1 1 4 = (E.1.2.2) := (fr_no mF 1 (by omega) rfl (by decide)).trans g4
    have h5_m : M.1 1 5 = b := (fr_no mF 1 (by omega) rfl (by decide)).trans g5
    have h6_m : M.1 1 6 = b2 := (fr_no mF 1 (by omega) rfl (by decide)).trans g6
    have hb6 : M.1 b 6 = K.1 b 6 := (fr_no mF 7 (by omega) (sk_rb hB) (by decide)).trans gb6
    have hs : ∀ a j : Int, b ≤ a → a ≤ b + 26 → M.1 a j = K.1 a j := fun a j a0 a1 => (sk_fr mF gn hB (by decide) a0 a1).trans (gs a j a0 a1)
    refine q_al (pc := 42) (i := 0) (x := 1) rfl rfl ?_
    refine q_gf (pc := 43) (m := 11052) (t := 2) (c := 5) rfl (ttKc mT (a := 1) (κ := 11) (len := 0) ⟨rfl, rfl⟩ (by decide) (by decide)).1 rfl rfl ?_
    rw [show M.1 1 5 = b from h5_m]
    refine q_gf (pc := 44) (m := 10060) (t := 0) (c := 6) rfl (sk_kb mT hB).1 rfl rfl ?_
    rw [show M.1 b 6 = (K.1 b 6) from hb6]
    refine q_ri (pc := 45) rfl ?_
    refine hq _ M T E hO hTy hE ⟨⟨h3_m.trans kr, h4_m⟩, h1_m, fun f => absurd (kr.symm.trans h22) f, fun f => ⟨?_, h5_m, h6_m, skR_D (k6 f) ?_ hs⟩⟩ (fun c hc hne a j a0 a1 => (sk_fr mF gn hc (by decide) a0 a1).trans ((sk_fr gF ny hc (by decide) a0 a1).trans (o_Y5 c hc hne a j a0 a1)))
    · exact (skA_i (k6 f).1 (j := 6) (i := 0) (by decide)).trans (zWd_n (by decide))
    · show zWd E 3 ≤ 6
      have u := rW3 kT hB (k6 f)
      exact u
  · replace h22 : r ≠ 0 := h22
    refine q_ic (pc := 23) (v := (-4)) rfl ?_
    refine q_ri (pc := 24) rfl ?_
    refine hq _ Y3 T E hO hTy hE ⟨⟨u3_3.trans kr, u3_4⟩, u3_1, fun _ => ⟨rfl, u3_5, u3_6⟩, fun f => absurd (kr.trans f) h22⟩ o_Y3
