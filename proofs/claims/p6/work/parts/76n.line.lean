/-! the first reader: a line -/
abbrev eM : ttEf := (true, [(3, 5, 8), (7, 4, 18), (10, 0, 0), (11, 0, 5), (12, 0, 5), (16, 0, 6), (24, 0, 5)])
/-- memory J, reached from H, tells Z where nothing is wrong, with what was told once -/
def rL (T : tSm) (b : Int) (H J : xH) (Z : tZ) : Prop := ttTI J ∧ ttXX YY J ∧ ttFr eM H J ∧ (cT J = T ∧ cS J = Z.1) ∧ (0 ≤ Z.1.1 ∧ Z.1.1 < T.2.2.2.2) ∧ skO b H J ∧ (Z.1.2.1 = 0 → skR J.1 b Z ∧ J.1 3 8 = 32 * Z.2.1 16)
theorem rL_C {T : tSm} {b : Int} {H K J : xH} {Z : tZ} (hF : ttFr eM H K) (hn : 210 ≤ (K.2.2.2.1 : Int)) (h : rC T b K J Z) (hO : skO b H K) (h8 : K.1 3 8 = 32 * Z.2.1 16) : rL T b H J Z := ⟨h.1, h.2.1, ttFr_tr hF h.2.2.1 (fun _ => rfl) (by decide), h.2.2.2.1, h.2.2.2.2.1, skO_t hO h.2.2.2.2.2.1, fun y => ⟨h.2.2.2.2.2.2 y, (fr_cl h.2.2.1 (a := 3) (j := 8) (by omega) (by decide)).trans h8⟩⟩
theorem rB_M {T : tSm} {H K : xH} {S : tSa} (h : rB T H K S) : ttFr eM H K := ttFr_tr (ttFr_rf eM H) h.2.2.1 (fun _ => rfl) (by decide)
theorem rB_8 {T : tSm} {H K : xH} {S : tSa} (h : rB T H K S) : K.1 3 8 = H.1 3 8 := by
  have hn := rB_n h
  exact fr_cl h.2.2.1 (a := 3) (j := 8) (by omega) (by decide)
theorem rB_rf {T : tSm} {H K : xH} {S : tSa} (h : rB T H K S) : rB T K K S := ⟨h.1, h.2.1, ttFr_rf _ K, h.2.2.2.1, h.2.2.2.2⟩
theorem tl_o {r : Int} (ujr0 : 0 ≤ r) (ujr1 : r ≤ 63) {k : Int} (k0 : 0 ≤ k) (k1 : k ≤ 5) : xOr (32 * r) (xShl 1 (k + 5)) = 32 * xOr r (xShl 1 k) := by
  obtain ⟨a, rfl⟩ := Int.eq_ofNat_of_zero_le ujr0
  obtain ⟨c, rfl⟩ := Int.eq_ofNat_of_zero_le k0
  exact tl_3 a (by omega) c (by omega)
theorem tl_lo {r : Int} (ujr0 : 0 ≤ r) (ujr1 : r ≤ 63) {c : Int} (c0 : 0 ≤ c) (c1 : c ≤ 4) : xAnd (xShr (32 * r) c) 1 = 0 := by
  obtain ⟨a, rfl⟩ := Int.eq_ofNat_of_zero_le ujr0
  obtain ⟨k, rfl⟩ := Int.eq_ofNat_of_zero_le c0
  exact tl_1 a (by omega) k (by omega)
theorem tl_hi {r : Int} (ujr0 : 0 ≤ r) (ujr1 : r ≤ 63) {k : Int} (k0 : 0 ≤ k) (k1 : k ≤ 5) : xAnd (xShr (32 * r) (k + 5)) 1 = yyHb r k := by
  obtain ⟨a, rfl⟩ := Int.eq_ofNat_of_zero_le ujr0
  obtain ⟨c, rfl⟩ := Int.eq_ofNat_of_zero_le k0
  exact tl_2 a (by omega) c (by omega)
theorem tl_b {r : Int} (ujr0 : 0 ≤ r) (ujr1 : r ≤ 63) {k : Int} (k0 : 0 ≤ k) (k1 : k ≤ 5) : yyHb r k = 0 ∨ yyHb r k = 1 := by
  obtain ⟨a, rfl⟩ := Int.eq_ofNat_of_zero_le ujr0
  obtain ⟨c, rfl⟩ := Int.eq_ofNat_of_zero_le k0
  exact tl_4 a (by omega) c (by omega)
theorem cT_8 {K : xH} {x : Int} : cT (xUp K.1 3 8 x, K.2) = cT K := by
  have e : ∀ c : Int, c ≠ 3 → xUp K.1 3 8 x c = K.1 c := fun c hc => by
    funext k
    exact up_na hc
  unfold cT
  rw [show (xUp K.1 3 8 x, K.2).1 = xUp K.1 3 8 x from rfl, e 2 (by decide), e 4 (by decide), e 5 (by decide), e 6 (by decide), show xUp K.1 3 8 x 3 4 = K.1 3 4 from up_j (by decide)]
theorem cS_8 {K : xH} {x : Int} : cS (xUp K.1 3 8 x, K.2) = cS K := by
  unfold cS
  rw [show (xUp K.1 3 8 x, K.2).1 = xUp K.1 3 8 x from rfl, show xUp K.1 3 8 x 3 5 = K.1 3 5 from up_j (by decide), show xUp K.1 3 8 x 3 6 = K.1 3 6 from up_j (by decide), show xUp K.1 3 8 x 3 7 = K.1 3 7 from up_j (by decide)]
theorem lr_0 {dd : Nat} (hd : 9 ≤ dd) {H : xH} {T : tSm} {n b : Int} (hb : b = 7 ∨ b = 34) (hO : sOk T n) {Z : tZ} (zB0 : rB T H H Z.1) (h9 : H.1 3 9 = b) (hW : skW H.1 b) (hR : skR H.1 b Z) (hw : zRw Z) (m1 : Z.2.1 1 ≤ 7) {Q : Int → xH → Prop} (hq : ∀ J, rC T b H J (zPl T Z) → Q 0 J) : xCall dd 86 [(2, 3), (0, 0)] H Q := by
  obtain ⟨e, rfl, he⟩ := ttRun0 (n := 8) hd
  have he : 8 ≤ e := he
  have hB := skB_2 hb
  have hi := skB_in hB
  have hn := rB_n zB0
  refine xC_of (L := [(2, 3), (0, 0)]) (cd := cd_86) rfl rfl rfl ?_
  refine q_il (pc := 0) (i := 1) (x := 0) rfl rfl ?_
  refine q_ic (pc := 1) (v := 5) rfl ?_
  refine q_i2 (pc := 2) rfl (fun h2 => ?_) (fun h2 => ?_)
  · replace h2 : (0 : Int) < 5 := h2
    refine q_il (pc := 11) (i := 1) (x := 0) rfl rfl ?_
    refine q_tq (pc := 12) (t := 74) (lo := 0) (hi := 9) (ts := #[13, 16, 19, 22, 25, 39, 47, 55, 63, 71]) rfl ⟨fun hc => ?_, fun hc => absurd hc (by decide), fun hc => absurd hc (by decide), fun hc => absurd hc (by decide), fun hc => absurd hc (by decide), fun hc => absurd hc (by decide), fun hc => absurd hc (by decide), fun hc => absurd hc (by decide), fun hc => absurd hc (by decide), fun hc => absurd hc (by decide), trivial⟩ (fun hc => absurd hc (by decide))
    refine q_al (pc := 13) (i := 0) (x := 3) rfl rfl ?_
    refine q_iv (pc := 14) (q := 696567) rfl rfl rfl (ttKc zB0.1 (a := 3) (κ := 7) (len := 0) ⟨rfl, rfl⟩ (by decide) (by decide)).1 ?_
    refine lb_readPlace (by omega) hb hO zB0 h9 hW hR hw m1 (fun J jC => ?_)
    refine q_go (pc := 15) rfl ?_
    refine q_rv (pc := 76) rfl ?_
    exact hq J jC
  · replace h2 : 5 ≤ (0 : Int) := h2
    omega
theorem lr_1 {dd : Nat} (hd : 9 ≤ dd) {H : xH} {T : tSm} {n b : Int} (hb : b = 7 ∨ b = 34) (hO : sOk T n) {Z : tZ} (zB0 : rB T H H Z.1) (h9 : H.1 3 9 = b) (hW : skW H.1 b) (hR : skR H.1 b Z) (hw : zRw Z) (m1 : Z.2.1 2 ≤ 9) {Q : Int → xH → Prop} (hq : ∀ J, rC T b H J (zLe T Z) → Q 0 J) : xCall dd 86 [(2, 3), (0, 1)] H Q := by
  obtain ⟨e, rfl, he⟩ := ttRun0 (n := 8) hd
  have he : 8 ≤ e := he
  have hB := skB_2 hb
  have hi := skB_in hB
  have hn := rB_n zB0
  refine xC_of (L := [(2, 3), (0, 1)]) (cd := cd_86) rfl rfl rfl ?_
  refine q_il (pc := 0) (i := 1) (x := 1) rfl rfl ?_
  refine q_ic (pc := 1) (v := 5) rfl ?_
  refine q_i2 (pc := 2) rfl (fun h2 => ?_) (fun h2 => ?_)
  · replace h2 : (1 : Int) < 5 := h2
    refine q_il (pc := 11) (i := 1) (x := 1) rfl rfl ?_
    refine q_tq (pc := 12) (t := 74) (lo := 0) (hi := 9) (ts := #[13, 16, 19, 22, 25, 39, 47, 55, 63, 71]) rfl ⟨fun hc => absurd hc (by decide), fun hc => ?_, fun hc => absurd hc (by decide), fun hc => absurd hc (by decide), fun hc => absurd hc (by decide), fun hc => absurd hc (by decide), fun hc => absurd hc (by decide), fun hc => absurd hc (by decide), fun hc => absurd hc (by decide), fun hc => absurd hc (by decide), trivial⟩ (fun hc => absurd hc (by decide))
    refine q_al (pc := 16) (i := 0) (x := 3) rfl rfl ?_
    refine q_iv (pc := 17) (q := 704567) rfl rfl rfl (ttKc zB0.1 (a := 3) (κ := 7) (len := 0) ⟨rfl, rfl⟩ (by decide) (by decide)).1 ?_
    refine lb_readLeg (by omega) hb hO zB0 h9 hW hR hw m1 (fun J jC => ?_)
    refine q_go (pc := 18) rfl ?_
    refine q_rv (pc := 76) rfl ?_
    exact hq J jC
  · replace h2 : 5 ≤ (1 : Int) := h2
    omega
theorem lr_2 {dd : Nat} (hd : 9 ≤ dd) {H : xH} {T : tSm} {n b : Int} (hb : b = 7 ∨ b = 34) (hO : sOk T n) {Z : tZ} (zB0 : rB T H H Z.1) (h9 : H.1 3 9 = b) (hW : skW H.1 b) (hR : skR H.1 b Z) (hw : zRw Z) {Q : Int → xH → Prop} (hq : ∀ J, rC T b H J (zLi T Z) → Q 0 J) : xCall dd 86 [(2, 3), (0, 2)] H Q := by
  obtain ⟨e, rfl, he⟩ := ttRun0 (n := 8) hd
  have he : 8 ≤ e := he
  have hB := skB_2 hb
  have hi := skB_in hB
  have hn := rB_n zB0
  refine xC_of (L := [(2, 3), (0, 2)]) (cd := cd_86) rfl rfl rfl ?_
  refine q_il (pc := 0) (i := 1) (x := 2) rfl rfl ?_
  refine q_ic (pc := 1) (v := 5) rfl ?_
  refine q_i2 (pc := 2) rfl (fun h2 => ?_) (fun h2 => ?_)
  · replace h2 : (2 : Int) < 5 := h2
    refine q_il (pc := 11) (i := 1) (x := 2) rfl rfl ?_
    refine q_tq (pc := 12) (t := 74) (lo := 0) (hi := 9) (ts := #[13, 16, 19, 22, 25, 39, 47, 55, 63, 71]) rfl ⟨fun hc => absurd hc (by decide), fun hc => absurd hc (by decide), fun hc => ?_, fun hc => absurd hc (by decide), fun hc => absurd hc (by decide), fun hc => absurd hc (by decide), fun hc => absurd hc (by decide), fun hc => absurd hc (by decide), fun hc => absurd hc (by decide), fun hc => absurd hc (by decide), trivial⟩ (fun hc => absurd hc (by decide))
    refine q_al (pc := 19) (i := 0) (x := 3) rfl rfl ?_
    refine q_iv (pc := 20) (q := 712567) rfl rfl rfl (ttKc zB0.1 (a := 3) (κ := 7) (len := 0) ⟨rfl, rfl⟩ (by decide) (by decide)).1 ?_
    refine lb_readLift (by omega) hb hO zB0 h9 hW hR hw (fun J jC => ?_)
    refine q_go (pc := 21) rfl ?_
    refine q_rv (pc := 76) rfl ?_
    exact hq J jC
  · replace h2 : 5 ≤ (2 : Int) := h2
    omega
theorem lr_3 {dd : Nat} (hd : 9 ≤ dd) {H : xH} {T : tSm} {n b : Int} (hb : b = 7 ∨ b = 34) (hO : sOk T n) {Z : tZ} (zB0 : rB T H H Z.1) (h9 : H.1 3 9 = b) (hW : skW H.1 b) (hR : skR H.1 b Z) (hw : zRw Z) (m1 : Z.2.1 3 ≤ 5) {Q : Int → xH → Prop} (hq : ∀ J, rC T b H J (zSp T Z) → Q 0 J) : xCall dd 86 [(2, 3), (0, 3)] H Q := by
  obtain ⟨e, rfl, he⟩ := ttRun0 (n := 8) hd
  have he : 8 ≤ e := he
  have hB := skB_2 hb
  have hi := skB_in hB
  have hn := rB_n zB0
  refine xC_of (L := [(2, 3), (0, 3)]) (cd := cd_86) rfl rfl rfl ?_
  refine q_il (pc := 0) (i := 1) (x := 3) rfl rfl ?_
  refine q_ic (pc := 1) (v := 5) rfl ?_
  refine q_i2 (pc := 2) rfl (fun h2 => ?_) (fun h2 => ?_)
  · replace h2 : (3 : Int) < 5 := h2
    refine q_il (pc := 11) (i := 1) (x := 3) rfl rfl ?_
    refine q_tq (pc := 12) (t := 74) (lo := 0) (hi := 9) (ts := #[13, 16, 19, 22, 25, 39, 47, 55, 63, 71]) rfl ⟨fun hc => absurd hc (by decide), fun hc => absurd hc (by decide), fun hc => absurd hc (by decide), fun hc => ?_, fun hc => absurd hc (by decide), fun hc => absurd hc (by decide), fun hc => absurd hc (by decide), fun hc => absurd hc (by decide), fun hc => absurd hc (by decide), fun hc => absurd hc (by decide), trivial⟩ (fun hc => absurd hc (by decide))
    refine q_al (pc := 22) (i := 0) (x := 3) rfl rfl ?_
    refine q_iv (pc := 23) (q := 720567) rfl rfl rfl (ttKc zB0.1 (a := 3) (κ := 7) (len := 0) ⟨rfl, rfl⟩ (by decide) (by decide)).1 ?_
    refine lb_readSpeed (by omega) hb hO zB0 h9 hW hR hw m1 (fun J jC => ?_)
    refine q_go (pc := 24) rfl ?_
    refine q_rv (pc := 76) rfl ?_
    exact hq J jC
  · replace h2 : 5 ≤ (3 : Int) := h2
    omega
theorem lr_4 {dd : Nat} (hd : 9 ≤ dd) {H : xH} {T : tSm} {n b : Int} (hb : b = 7 ∨ b = 34) (hO : sOk T n) {Z : tZ} (zB0 : rB T H H Z.1) (h9 : H.1 3 9 = b) (hW : skW H.1 b) (hR : skR H.1 b Z) (hw : zRw Z) {Q : Int → xH → Prop} (hq : ∀ J, rC T b H J (zPo T Z) → Q 0 J) : xCall dd 86 [(2, 3), (0, 4)] H Q := by
  obtain ⟨e, rfl, he⟩ := ttRun0 (n := 8) hd
  have he : 8 ≤ e := he
  have hB := skB_2 hb
  have hi := skB_in hB
  have hn := rB_n zB0
  have w0 := hw.2.1
  have w5 := hw.2.2.2.2.1.1
  obtain ⟨N, jN⟩ : ∃ N, N = Z.2.1 1 := ⟨_, rfl⟩
  have eN : H.1 b 4 = N := (skA_i hR.1 (j := 4) (i := 1) (by decide)).trans jN.symm
  rw [← jN] at w0
  obtain ⟨B, jB⟩ : ∃ B, B = Z.2.1 15 := ⟨_, rfl⟩
  have eB : H.1 b 18 = B := (skA_i hR.1 (j := 18) (i := 15) (by decide)).trans jB.symm
  rw [← jB] at w5
  refine xC_of (L := [(2, 3), (0, 4)]) (cd := cd_86) rfl rfl rfl ?_
  refine q_il (pc := 0) (i := 1) (x := 4) rfl rfl ?_
  refine q_ic (pc := 1) (v := 5) rfl ?_
  refine q_i2 (pc := 2) rfl (fun h2 => ?_) (fun h2 => ?_)
  · replace h2 : (4 : Int) < 5 := h2
    refine q_il (pc := 11) (i := 1) (x := 4) rfl rfl ?_
    refine q_tq (pc := 12) (t := 74) (lo := 0) (hi := 9) (ts := #[13, 16, 19, 22, 25, 39, 47, 55, 63, 71]) rfl ⟨fun hc => absurd hc (by decide), fun hc => absurd hc (by decide), fun hc => absurd hc (by decide), fun hc => absurd hc (by decide), fun hc => ?_, fun hc => absurd hc (by decide), fun hc => absurd hc (by decide), fun hc => absurd hc (by decide), fun hc => absurd hc (by decide), fun hc => absurd hc (by decide), trivial⟩ (fun hc => absurd hc (by decide))
    refine q_al (pc := 25) (i := 0) (x := 3) rfl rfl ?_
    refine q_gf (pc := 26) (m := 7092) (t := 2) (c := 9) rfl (ttKc zB0.1 (a := 3) (κ := 7) (len := 0) ⟨rfl, rfl⟩ (by decide) (by decide)).1 rfl rfl ?_
    rw [show H.1 3 9 = b from (rB_9 zB0).trans h9]
    refine q_d2 (pc := 27) rfl ?_
    refine q_gf (pc := 28) (m := 10180) (t := 0) (c := 18) rfl (sk_kb zB0.1 hB).1 rfl rfl ?_
    rw [show H.1 b 18 = B from (rB_sk zB0 hB (by omega) (by omega)).trans eB]
    refine q_ic (pc := 29) (v := 1) rfl ?_
    refine q_al (pc := 30) (i := 0) (x := 3) rfl rfl ?_
    refine q_al (pc := 31) (i := 0) (x := 3) rfl rfl ?_
    refine q_gf (pc := 32) (m := 7092) (t := 2) (c := 9) rfl (ttKc zB0.1 (a := 3) (κ := 7) (len := 0) ⟨rfl, rfl⟩ (by decide) (by decide)).1 rfl rfl ?_
    rw [show H.1 3 9 = b from (rB_9 zB0).trans h9]
    refine q_gf (pc := 33) (m := 10180) (t := 0) (c := 18) rfl (sk_kb zB0.1 hB).1 rfl rfl ?_
    rw [show H.1 b 18 = B from (rB_sk zB0 hB (by omega) (by omega)).trans eB]
    refine q_iv (pc := 34) (q := 656568) rfl rfl rfl (ttKc zB0.1 (a := 3) (κ := 7) (len := 0) ⟨rfl, rfl⟩ (by decide) (by decide)).1 ?_
    refine lb_pl hb (by omega) hO zB0 h9 eN (fun ujr1 J1 zB1 jr1 => ?_)
    obtain ⟨V1, jV1⟩ : ∃ Y : tSa, Y = (sPl T Z.1 N B).2 := ⟨_, rfl⟩
    replace zB1 : rB T H J1 V1 := by rw [jV1]; exact zB1
    have jb1 : ujr1 = 0 ∨ 0 ≤ ujr1 ∧ ujr1 ≤ N - 1 := by rw [jr1]; exact sPl_v
    refine q_sl (pc := 35) rfl ?_
    refine q_or (pc := 36) rfl ?_
    have o2 := pt_or2 w5.1 w5.2 (p := ujr1) (by omega) (by omega)
    refine q_pf (pc := 37) (m := 10180) (c := 18) rfl (show xPt 0 0 _ _ from (sk_kb zB1.1 hB).1) rfl ?_
    have y2 := rB_put zB1.1 zB1.2.1 (rB_L zB1) (a := b) (j := 18) (x := (xOr B (xShl 1 ujr1))) 7 (sk_rb hB) (by omega) (show ((-2147483648) : Int) ≤ (xOr B (xShl 1 ujr1)) ∧ (xOr B (xShl 1 ujr1)) ≤ 2147483647 from ⟨by omega, by omega⟩) ⟨(7, 4, 18), by decide, rfl, (show (4 : Int) ≤ 18 ∧ 18 ≤ 18 from ⟨by omega, by omega⟩)⟩ (by decide)
    obtain ⟨Y2, yk2⟩ : ∃ X : xH, X = (xUp J1.1 b 18 (xOr B (xShl 1 ujr1)), J1.2) := ⟨_, rfl⟩
    rw [← yk2] at y2 ⊢
    have o_Y2 : skO b H Y2 := skO_u (by first | assumption | exact skO_B (by assumption) | exact skO_t2 (by assumption) (by assumption)) (skB_2 hb) (by omega) yk2
    have cc2 : cT Y2 = T ∧ cS Y2 = V1 := by rw [yk2]; exact ⟨(cT_up (by omega)).trans zB1.2.2.2.1.1, (cS_up (by omega)).trans zB1.2.2.2.1.2⟩
    have tr_Y2_b_18 : Y2.1 b 18 = (xOr B (xShl 1 ujr1)) := by rw [yk2]; exact up_eq
    refine q_go (pc := 38) rfl ?_
    refine q_rv (pc := 76) rfl ?_
    have eD : Y2.1 = xUp (J1.1) b 18 (xOr B (xShl 1 ujr1)) := by rw [yk2]
    obtain ⟨S1, eS, c1, c2⟩ := zBp_e (T := T) (S := Z.1) (R := Z.2.1) (h := Z.2.2)
    rw [← jN, ← jB] at c1 c2
    have eC := sPl_b (S1 := S1) (bar := B) hO zB0.2.2.2.2.1 zB0.2.2.2.2.2 w0.2 (fun w => xAnd (xShr B w) 1 = 1) (fun w u2 u3 => sBa_3 w5.1 w5.2 u2 (by omega)) (fun a1 a2 a3 a4 a5 => by
      have mn : min 99999 (sVt T Z.1.1) = sVt T Z.1.1 := by omega
      exact c1 ⟨a1, a2, by rw [mn]; exact ⟨a3, a4⟩, by rw [mn]; exact a5⟩) (fun y => Or.inl (c2 (fun z => y ⟨z.1, z.2.1, by have := z.2.2.1.2; omega, by
      have mn : min 99999 (sVt T Z.1.1) = sVt T Z.1.1 := by have := z.2.2.1.2; omega
      have u := z.2.2.2
      rw [mn] at u
      exact u⟩)))
    obtain ⟨q, jq⟩ : ∃ q, q = (sNm T S1 0 (N - 1)).1 := ⟨_, rfl⟩
    rw [← jq, ← jV1] at eC
    have eV : vPq T (zBp T Z) = q := by
      rw [show zBp T Z = (S1, Z.2.1, Z.2.2) from eS, jq, jN]
      rfl
    have eP : zPq T (zBp T Z) = (V1, Z.2.1, Z.2.2) := by
      rw [show zBp T Z = (S1, Z.2.1, Z.2.2) from eS, eC.1, jN]
      rfl
    have eL1 : zPo T Z = zPo1 q (V1, Z.2.1, Z.2.2) := by
      unfold zPo
      rw [eV, eP]
    have eF : (zPo T Z).1 = V1 := by
      rw [eL1]
      unfold zPo1
      split <;> rfl
    refine hq _ ⟨y2.1, y2.2.1, y2.2.2, by rw [eF]; exact cc2, by rw [eF]; exact zB1.2.2.2.2, o_Y2, fun f0 => ?_⟩
    rw [eF] at f0
    have eq : q = ujr1 := by rw [jr1]; exact (eC.2 f0).symm
    have eZ : zPo T Z = (V1, sUp Z.2.1 15 (xOr B (xShl 1 ujr1)), Z.2.2) := by
      rw [eL1, eq, jB]
      exact if_pos f0
    have hRK : skR J1.1 b Z := skR_D hR hw.2.2.2.1.2 (fun a j a0 a1 => rB_sk zB1 hB a0 a1)
    rw [eZ, eD]
    exact sr_one (S := Z.1) (h := Z.2.2) 18 15 _ (by decide) (by decide) hRK hw.2.2.2.1.2 up_eq (fun k k0 => up_ne (by omega)) (fun a k a0 a1 => up_ne (by omega)) sUp_eq (fun k k0 => sUp_ne k0)
  · replace h2 : 5 ≤ (4 : Int) := h2
    omega
theorem lr_5 {dd : Nat} (hd : 9 ≤ dd) {H : xH} {T : tSm} {n b : Int} (hb : b = 7 ∨ b = 34) (hO : sOk T n) {Z : tZ} (zB0 : rB T H H Z.1) (h9 : H.1 3 9 = b) (hW : skW H.1 b) (hR : skR H.1 b Z) (hw : zRw Z) (h8 : H.1 3 8 = 32 * Z.2.1 16) {Q : Int → xH → Prop} (hq : ∀ J, rL T b H J (zPn T 0 999 5 (zP 16 (xOr (Z.2.1 16) (xShl 1 0)) Z)) → Q 0 J) : xCall dd 86 [(2, 3), (0, 5)] H Q := by
  obtain ⟨e, rfl, he⟩ := ttRun0 (n := 8) hd
  have he : 8 ≤ e := he
  have hB := skB_2 hb
  have hi := skB_in hB
  have hn := rB_n zB0
  have w6 := hw.2.2.2.2.2
  obtain ⟨r, jr⟩ : ∃ r, r = Z.2.1 16 := ⟨_, rfl⟩
  rw [← jr] at h8 w6 hq
  have o2 := od_or2 w6.1 w6.2 (p := 0) (by decide) (by decide)
  refine xC_of (L := [(2, 3), (0, 5)]) (cd := cd_86) rfl rfl rfl ?_
  refine q_il (pc := 0) (i := 1) (x := 5) rfl rfl ?_
  refine q_ic (pc := 1) (v := 5) rfl ?_
  refine q_i2 (pc := 2) rfl (fun h2 => ?_) (fun h2 => ?_)
  · replace h2 : (5 : Int) < 5 := h2
    omega
  · replace h2 : 5 ≤ (5 : Int) := h2
    refine q_al (pc := 3) (i := 0) (x := 3) rfl rfl ?_
    refine q_d2 (pc := 4) rfl ?_
    refine q_gf (pc := 5) (m := 7080) (t := 0) (c := 8) rfl (ttKc zB0.1 (a := 3) (κ := 7) (len := 0) ⟨rfl, rfl⟩ (by decide) (by decide)).1 rfl rfl ?_
    rw [h8]
    refine q_ic (pc := 6) (v := 1) rfl ?_
    refine q_il (pc := 7) (i := 1) (x := 5) rfl rfl ?_
    refine q_sl (pc := 8) rfl ?_
    refine q_or (pc := 9) rfl ?_
    rw [show xOr (32 * r) (xShl 1 5) = 32 * xOr r (xShl 1 0) from tl_o w6.1 w6.2 (k := 0) (by decide) (by decide)]
    refine q_pf (pc := 10) (m := 7080) (c := 8) rfl (show xPt 0 0 _ _ from (ttKc zB0.1 (a := 3) (κ := 7) (len := 0) ⟨rfl, rfl⟩ (by decide) (by decide)).1) rfl ?_
    have y9 := ttPut (ttXX_out yyStab (fun _ _ => trivial)) zB0.1 zB0.2.1 (ttFr_rf eM H) (a := 3) (j := 8) (x := (32 * xOr r (xShl 1 0))) (by decide) (fun _ _ => show ((-2147483648) : Int) ≤ (32 * xOr r (xShl 1 0)) ∧ (32 * xOr r (xShl 1 0)) ≤ 2147483647 from ⟨by omega, by omega⟩) ⟨(3, 5, 8), by decide, ⟨⟨by decide, rfl⟩, by decide, by decide⟩⟩ (ttMay_no (r := 3) rfl (by decide))
    obtain ⟨Y9, yk9⟩ : ∃ X : xH, X = (xUp H.1 3 8 (32 * xOr r (xShl 1 0)), H.2) := ⟨_, rfl⟩
    rw [← yk9] at y9 ⊢
    have o_Y9 : skO b H Y9 := skO_u (by first | assumption | exact skO_B (by assumption) | exact skO_t2 (by assumption) (by assumption)) (skB_2 hb) (by omega) yk9
    have zB9 : rB T Y9 Y9 Z.1 := ⟨y9.1, y9.2.1, ttFr_rf _ _, by rw [yk9]; exact ⟨cT_8.trans zB0.2.2.2.1.1, cS_8.trans zB0.2.2.2.1.2⟩, zB0.2.2.2.2⟩
    have n9_9 : Y9.1 3 9 = b := by rw [yk9]; exact (up_j (D := H.1) (a := 3) (j := 8) (x := (32 * xOr r (xShl 1 0))) (k := 9) (by decide)).trans h9
    have nW_9 : skW Y9.1 b := skW_fr y9.2.2 hn hB (by decide) hW
    have nn_9 := rB_n zB9
    have n8_9 : Y9.1 3 8 = (32 * xOr r (xShl 1 0)) := by rw [yk9]; exact up_eq (D := H.1) (a := 3) (j := 8) (x := (32 * xOr r (xShl 1 0)))
    have hR9 : skR Y9.1 b (Z.1, sUp Z.2.1 16 (xOr r (xShl 1 0)), Z.2.2) := skR_16 (S := Z.1) (skR_D hR hw.2.2.2.1.2 (fun a j a0 a1 => by rw [yk9]; exact up_na (by omega))) hw.2.2.2.1.2
    have eu : ∀ i : Int, i ≠ 16 → sUp Z.2.1 16 (xOr r (xShl 1 0)) i = Z.2.1 i := fun i hi => sUp_ne hi
    have hw9 : zRw (Z.1, sUp Z.2.1 16 (xOr r (xShl 1 0)), Z.2.2) := by
      obtain ⟨u0, u1, u2, u3, u4, -⟩ := hw
      refine ⟨?_, ?_, ?_, ?_, ?_, ?_⟩
      · show 0 ≤ sUp Z.2.1 16 (xOr r (xShl 1 0)) 0 ∧ sUp Z.2.1 16 (xOr r (xShl 1 0)) 0 ≤ 60
        rw [eu 0 (by decide)]; exact u0
      · show 0 ≤ sUp Z.2.1 16 (xOr r (xShl 1 0)) 1 ∧ sUp Z.2.1 16 (xOr r (xShl 1 0)) 1 ≤ 8
        rw [eu 1 (by decide)]; exact u1
      · show 0 ≤ sUp Z.2.1 16 (xOr r (xShl 1 0)) 2 ∧ sUp Z.2.1 16 (xOr r (xShl 1 0)) 2 ≤ 10
        rw [eu 2 (by decide)]; exact u2
      · show 0 ≤ sUp Z.2.1 16 (xOr r (xShl 1 0)) 3 ∧ sUp Z.2.1 16 (xOr r (xShl 1 0)) 3 ≤ 6
        rw [eu 3 (by decide)]; exact u3
      · show (0 ≤ sUp Z.2.1 16 (xOr r (xShl 1 0)) 15 ∧ sUp Z.2.1 16 (xOr r (xShl 1 0)) 15 ≤ 255) ∧ yyP (sUp Z.2.1 16 (xOr r (xShl 1 0)) 15) ≤ 3
        rw [eu 15 (by decide)]; exact u4
      · show 0 ≤ sUp Z.2.1 16 (xOr r (xShl 1 0)) 16 ∧ sUp Z.2.1 16 (xOr r (xShl 1 0)) 16 ≤ 63
        rw [sUp_eq]; exact o2
    refine q_il (pc := 11) (i := 1) (x := 5) rfl rfl ?_
    refine q_tq (pc := 12) (t := 74) (lo := 0) (hi := 9) (ts := #[13, 16, 19, 22, 25, 39, 47, 55, 63, 71]) rfl ⟨fun hc => absurd hc (by decide), fun hc => absurd hc (by decide), fun hc => absurd hc (by decide), fun hc => absurd hc (by decide), fun hc => absurd hc (by decide), fun hc => ?_, fun hc => absurd hc (by decide), fun hc => absurd hc (by decide), fun hc => absurd hc (by decide), fun hc => absurd hc (by decide), trivial⟩ (fun hc => absurd hc (by decide))
    exact fr_39 (by omega) hb hO (Z := (zP 16 (xOr r (xShl 1 0)) Z)) zB9 n9_9 nW_9 hR9 hw9 (fun J jC => hq J (rL_C y9.2.2 nn_9 jC o_Y9 (by rw [n8_9, show (zPn T 0 999 5 (zP 16 (xOr r (xShl 1 0)) Z)).2.1 16 = xOr r (xShl 1 0) from (zPn_16 (by decide)).trans (show sUp Z.2.1 16 (xOr r (xShl 1 0)) 16 = _ from sUp_eq)])))
theorem lr_6 {dd : Nat} (hd : 9 ≤ dd) {H : xH} {T : tSm} {n b : Int} (hb : b = 7 ∨ b = 34) (hO : sOk T n) {Z : tZ} (zB0 : rB T H H Z.1) (h9 : H.1 3 9 = b) (hW : skW H.1 b) (hR : skR H.1 b Z) (hw : zRw Z) (h8 : H.1 3 8 = 32 * Z.2.1 16) {Q : Int → xH → Prop} (hq : ∀ J, rL T b H J (zPn T 0 50 6 (zP 16 (xOr (Z.2.1 16) (xShl 1 1)) Z)) → Q 0 J) : xCall dd 86 [(2, 3), (0, 6)] H Q := by
  obtain ⟨e, rfl, he⟩ := ttRun0 (n := 8) hd
  have he : 8 ≤ e := he
  have hB := skB_2 hb
  have hi := skB_in hB
  have hn := rB_n zB0
  have w6 := hw.2.2.2.2.2
  obtain ⟨r, jr⟩ : ∃ r, r = Z.2.1 16 := ⟨_, rfl⟩
  rw [← jr] at h8 w6 hq
  have o2 := od_or2 w6.1 w6.2 (p := 1) (by decide) (by decide)
  refine xC_of (L := [(2, 3), (0, 6)]) (cd := cd_86) rfl rfl rfl ?_
  refine q_il (pc := 0) (i := 1) (x := 6) rfl rfl ?_
  refine q_ic (pc := 1) (v := 5) rfl ?_
  refine q_i2 (pc := 2) rfl (fun h2 => ?_) (fun h2 => ?_)
  · replace h2 : (6 : Int) < 5 := h2
    omega
  · replace h2 : 5 ≤ (6 : Int) := h2
    refine q_al (pc := 3) (i := 0) (x := 3) rfl rfl ?_
    refine q_d2 (pc := 4) rfl ?_
    refine q_gf (pc := 5) (m := 7080) (t := 0) (c := 8) rfl (ttKc zB0.1 (a := 3) (κ := 7) (len := 0) ⟨rfl, rfl⟩ (by decide) (by decide)).1 rfl rfl ?_
    rw [h8]
    refine q_ic (pc := 6) (v := 1) rfl ?_
    refine q_il (pc := 7) (i := 1) (x := 6) rfl rfl ?_
    refine q_sl (pc := 8) rfl ?_
    refine q_or (pc := 9) rfl ?_
    rw [show xOr (32 * r) (xShl 1 6) = 32 * xOr r (xShl 1 1) from tl_o w6.1 w6.2 (k := 1) (by decide) (by decide)]
    refine q_pf (pc := 10) (m := 7080) (c := 8) rfl (show xPt 0 0 _ _ from (ttKc zB0.1 (a := 3) (κ := 7) (len := 0) ⟨rfl, rfl⟩ (by decide) (by decide)).1) rfl ?_
    have y9 := ttPut (ttXX_out yyStab (fun _ _ => trivial)) zB0.1 zB0.2.1 (ttFr_rf eM H) (a := 3) (j := 8) (x := (32 * xOr r (xShl 1 1))) (by decide) (fun _ _ => show ((-2147483648) : Int) ≤ (32 * xOr r (xShl 1 1)) ∧ (32 * xOr r (xShl 1 1)) ≤ 2147483647 from ⟨by omega, by omega⟩) ⟨(3, 5, 8), by decide, ⟨⟨by decide, rfl⟩, by decide, by decide⟩⟩ (ttMay_no (r := 3) rfl (by decide))
    obtain ⟨Y9, yk9⟩ : ∃ X : xH, X = (xUp H.1 3 8 (32 * xOr r (xShl 1 1)), H.2) := ⟨_, rfl⟩
    rw [← yk9] at y9 ⊢
    have o_Y9 : skO b H Y9 := skO_u (by first | assumption | exact skO_B (by assumption) | exact skO_t2 (by assumption) (by assumption)) (skB_2 hb) (by omega) yk9
    have zB9 : rB T Y9 Y9 Z.1 := ⟨y9.1, y9.2.1, ttFr_rf _ _, by rw [yk9]; exact ⟨cT_8.trans zB0.2.2.2.1.1, cS_8.trans zB0.2.2.2.1.2⟩, zB0.2.2.2.2⟩
    have n9_9 : Y9.1 3 9 = b := by rw [yk9]; exact (up_j (D := H.1) (a := 3) (j := 8) (x := (32 * xOr r (xShl 1 1))) (k := 9) (by decide)).trans h9
    have nW_9 : skW Y9.1 b := skW_fr y9.2.2 hn hB (by decide) hW
    have nn_9 := rB_n zB9
    have n8_9 : Y9.1 3 8 = (32 * xOr r (xShl 1 1)) := by rw [yk9]; exact up_eq (D := H.1) (a := 3) (j := 8) (x := (32 * xOr r (xShl 1 1)))
    have hR9 : skR Y9.1 b (Z.1, sUp Z.2.1 16 (xOr r (xShl 1 1)), Z.2.2) := skR_16 (S := Z.1) (skR_D hR hw.2.2.2.1.2 (fun a j a0 a1 => by rw [yk9]; exact up_na (by omega))) hw.2.2.2.1.2
    have eu : ∀ i : Int, i ≠ 16 → sUp Z.2.1 16 (xOr r (xShl 1 1)) i = Z.2.1 i := fun i hi => sUp_ne hi
    have hw9 : zRw (Z.1, sUp Z.2.1 16 (xOr r (xShl 1 1)), Z.2.2) := by
      obtain ⟨u0, u1, u2, u3, u4, -⟩ := hw
      refine ⟨?_, ?_, ?_, ?_, ?_, ?_⟩
      · show 0 ≤ sUp Z.2.1 16 (xOr r (xShl 1 1)) 0 ∧ sUp Z.2.1 16 (xOr r (xShl 1 1)) 0 ≤ 60
        rw [eu 0 (by decide)]; exact u0
      · show 0 ≤ sUp Z.2.1 16 (xOr r (xShl 1 1)) 1 ∧ sUp Z.2.1 16 (xOr r (xShl 1 1)) 1 ≤ 8
        rw [eu 1 (by decide)]; exact u1
      · show 0 ≤ sUp Z.2.1 16 (xOr r (xShl 1 1)) 2 ∧ sUp Z.2.1 16 (xOr r (xShl 1 1)) 2 ≤ 10
        rw [eu 2 (by decide)]; exact u2
      · show 0 ≤ sUp Z.2.1 16 (xOr r (xShl 1 1)) 3 ∧ sUp Z.2.1 16 (xOr r (xShl 1 1)) 3 ≤ 6
        rw [eu 3 (by decide)]; exact u3
      · show (0 ≤ sUp Z.2.1 16 (xOr r (xShl 1 1)) 15 ∧ sUp Z.2.1 16 (xOr r (xShl 1 1)) 15 ≤ 255) ∧ yyP (sUp Z.2.1 16 (xOr r (xShl 1 1)) 15) ≤ 3
        rw [eu 15 (by decide)]; exact u4
      · show 0 ≤ sUp Z.2.1 16 (xOr r (xShl 1 1)) 16 ∧ sUp Z.2.1 16 (xOr r (xShl 1 1)) 16 ≤ 63
        rw [sUp_eq]; exact o2
    refine q_il (pc := 11) (i := 1) (x := 6) rfl rfl ?_
    refine q_tq (pc := 12) (t := 74) (lo := 0) (hi := 9) (ts := #[13, 16, 19, 22, 25, 39, 47, 55, 63, 71]) rfl ⟨fun hc => absurd hc (by decide), fun hc => absurd hc (by decide), fun hc => absurd hc (by decide), fun hc => absurd hc (by decide), fun hc => absurd hc (by decide), fun hc => absurd hc (by decide), fun hc => ?_, fun hc => absurd hc (by decide), fun hc => absurd hc (by decide), fun hc => absurd hc (by decide), trivial⟩ (fun hc => absurd hc (by decide))
    exact fr_47 (by omega) hb hO (Z := (zP 16 (xOr r (xShl 1 1)) Z)) zB9 n9_9 nW_9 hR9 hw9 (fun J jC => hq J (rL_C y9.2.2 nn_9 jC o_Y9 (by rw [n8_9, show (zPn T 0 50 6 (zP 16 (xOr r (xShl 1 1)) Z)).2.1 16 = xOr r (xShl 1 1) from (zPn_16 (by decide)).trans (show sUp Z.2.1 16 (xOr r (xShl 1 1)) 16 = _ from sUp_eq)])))
theorem lr_7 {dd : Nat} (hd : 9 ≤ dd) {H : xH} {T : tSm} {n b : Int} (hb : b = 7 ∨ b = 34) (hO : sOk T n) {Z : tZ} (zB0 : rB T H H Z.1) (h9 : H.1 3 9 = b) (hW : skW H.1 b) (hR : skR H.1 b Z) (hw : zRw Z) (h8 : H.1 3 8 = 32 * Z.2.1 16) {Q : Int → xH → Prop} (hq : ∀ J, rL T b H J (zPn T 31 60 7 (zP 16 (xOr (Z.2.1 16) (xShl 1 2)) Z)) → Q 0 J) : xCall dd 86 [(2, 3), (0, 7)] H Q := by
  obtain ⟨e, rfl, he⟩ := ttRun0 (n := 8) hd
  have he : 8 ≤ e := he
  have hB := skB_2 hb
  have hi := skB_in hB
  have hn := rB_n zB0
  have w6 := hw.2.2.2.2.2
  obtain ⟨r, jr⟩ : ∃ r, r = Z.2.1 16 := ⟨_, rfl⟩
  rw [← jr] at h8 w6 hq
  have o2 := od_or2 w6.1 w6.2 (p := 2) (by decide) (by decide)
  refine xC_of (L := [(2, 3), (0, 7)]) (cd := cd_86) rfl rfl rfl ?_
  refine q_il (pc := 0) (i := 1) (x := 7) rfl rfl ?_
  refine q_ic (pc := 1) (v := 5) rfl ?_
  refine q_i2 (pc := 2) rfl (fun h2 => ?_) (fun h2 => ?_)
  · replace h2 : (7 : Int) < 5 := h2
    omega
  · replace h2 : 5 ≤ (7 : Int) := h2
    refine q_al (pc := 3) (i := 0) (x := 3) rfl rfl ?_
    refine q_d2 (pc := 4) rfl ?_
    refine q_gf (pc := 5) (m := 7080) (t := 0) (c := 8) rfl (ttKc zB0.1 (a := 3) (κ := 7) (len := 0) ⟨rfl, rfl⟩ (by decide) (by decide)).1 rfl rfl ?_
    rw [h8]
    refine q_ic (pc := 6) (v := 1) rfl ?_
    refine q_il (pc := 7) (i := 1) (x := 7) rfl rfl ?_
    refine q_sl (pc := 8) rfl ?_
    refine q_or (pc := 9) rfl ?_
    rw [show xOr (32 * r) (xShl 1 7) = 32 * xOr r (xShl 1 2) from tl_o w6.1 w6.2 (k := 2) (by decide) (by decide)]
    refine q_pf (pc := 10) (m := 7080) (c := 8) rfl (show xPt 0 0 _ _ from (ttKc zB0.1 (a := 3) (κ := 7) (len := 0) ⟨rfl, rfl⟩ (by decide) (by decide)).1) rfl ?_
    have y9 := ttPut (ttXX_out yyStab (fun _ _ => trivial)) zB0.1 zB0.2.1 (ttFr_rf eM H) (a := 3) (j := 8) (x := (32 * xOr r (xShl 1 2))) (by decide) (fun _ _ => show ((-2147483648) : Int) ≤ (32 * xOr r (xShl 1 2)) ∧ (32 * xOr r (xShl 1 2)) ≤ 2147483647 from ⟨by omega, by omega⟩) ⟨(3, 5, 8), by decide, ⟨⟨by decide, rfl⟩, by decide, by decide⟩⟩ (ttMay_no (r := 3) rfl (by decide))
    obtain ⟨Y9, yk9⟩ : ∃ X : xH, X = (xUp H.1 3 8 (32 * xOr r (xShl 1 2)), H.2) := ⟨_, rfl⟩
    rw [← yk9] at y9 ⊢
    have o_Y9 : skO b H Y9 := skO_u (by first | assumption | exact skO_B (by assumption) | exact skO_t2 (by assumption) (by assumption)) (skB_2 hb) (by omega) yk9
    have zB9 : rB T Y9 Y9 Z.1 := ⟨y9.1, y9.2.1, ttFr_rf _ _, by rw [yk9]; exact ⟨cT_8.trans zB0.2.2.2.1.1, cS_8.trans zB0.2.2.2.1.2⟩, zB0.2.2.2.2⟩
    have n9_9 : Y9.1 3 9 = b := by rw [yk9]; exact (up_j (D := H.1) (a := 3) (j := 8) (x := (32 * xOr r (xShl 1 2))) (k := 9) (by decide)).trans h9
    have nW_9 : skW Y9.1 b := skW_fr y9.2.2 hn hB (by decide) hW
    have nn_9 := rB_n zB9
    have n8_9 : Y9.1 3 8 = (32 * xOr r (xShl 1 2)) := by rw [yk9]; exact up_eq (D := H.1) (a := 3) (j := 8) (x := (32 * xOr r (xShl 1 2)))
    have hR9 : skR Y9.1 b (Z.1, sUp Z.2.1 16 (xOr r (xShl 1 2)), Z.2.2) := skR_16 (S := Z.1) (skR_D hR hw.2.2.2.1.2 (fun a j a0 a1 => by rw [yk9]; exact up_na (by omega))) hw.2.2.2.1.2
    have eu : ∀ i : Int, i ≠ 16 → sUp Z.2.1 16 (xOr r (xShl 1 2)) i = Z.2.1 i := fun i hi => sUp_ne hi
    have hw9 : zRw (Z.1, sUp Z.2.1 16 (xOr r (xShl 1 2)), Z.2.2) := by
      obtain ⟨u0, u1, u2, u3, u4, -⟩ := hw
      refine ⟨?_, ?_, ?_, ?_, ?_, ?_⟩
      · show 0 ≤ sUp Z.2.1 16 (xOr r (xShl 1 2)) 0 ∧ sUp Z.2.1 16 (xOr r (xShl 1 2)) 0 ≤ 60
        rw [eu 0 (by decide)]; exact u0
      · show 0 ≤ sUp Z.2.1 16 (xOr r (xShl 1 2)) 1 ∧ sUp Z.2.1 16 (xOr r (xShl 1 2)) 1 ≤ 8
        rw [eu 1 (by decide)]; exact u1
      · show 0 ≤ sUp Z.2.1 16 (xOr r (xShl 1 2)) 2 ∧ sUp Z.2.1 16 (xOr r (xShl 1 2)) 2 ≤ 10
        rw [eu 2 (by decide)]; exact u2
      · show 0 ≤ sUp Z.2.1 16 (xOr r (xShl 1 2)) 3 ∧ sUp Z.2.1 16 (xOr r (xShl 1 2)) 3 ≤ 6
        rw [eu 3 (by decide)]; exact u3
      · show (0 ≤ sUp Z.2.1 16 (xOr r (xShl 1 2)) 15 ∧ sUp Z.2.1 16 (xOr r (xShl 1 2)) 15 ≤ 255) ∧ yyP (sUp Z.2.1 16 (xOr r (xShl 1 2)) 15) ≤ 3
        rw [eu 15 (by decide)]; exact u4
      · show 0 ≤ sUp Z.2.1 16 (xOr r (xShl 1 2)) 16 ∧ sUp Z.2.1 16 (xOr r (xShl 1 2)) 16 ≤ 63
        rw [sUp_eq]; exact o2
    refine q_il (pc := 11) (i := 1) (x := 7) rfl rfl ?_
    refine q_tq (pc := 12) (t := 74) (lo := 0) (hi := 9) (ts := #[13, 16, 19, 22, 25, 39, 47, 55, 63, 71]) rfl ⟨fun hc => absurd hc (by decide), fun hc => absurd hc (by decide), fun hc => absurd hc (by decide), fun hc => absurd hc (by decide), fun hc => absurd hc (by decide), fun hc => absurd hc (by decide), fun hc => absurd hc (by decide), fun hc => ?_, fun hc => absurd hc (by decide), fun hc => absurd hc (by decide), trivial⟩ (fun hc => absurd hc (by decide))
    exact fr_55 (by omega) hb hO (Z := (zP 16 (xOr r (xShl 1 2)) Z)) zB9 n9_9 nW_9 hR9 hw9 (fun J jC => hq J (rL_C y9.2.2 nn_9 jC o_Y9 (by rw [n8_9, show (zPn T 31 60 7 (zP 16 (xOr r (xShl 1 2)) Z)).2.1 16 = xOr r (xShl 1 2) from (zPn_16 (by decide)).trans (show sUp Z.2.1 16 (xOr r (xShl 1 2)) 16 = _ from sUp_eq)])))
theorem lr_8 {dd : Nat} (hd : 9 ≤ dd) {H : xH} {T : tSm} {n b : Int} (hb : b = 7 ∨ b = 34) (hO : sOk T n) {Z : tZ} (zB0 : rB T H H Z.1) (h9 : H.1 3 9 = b) (hW : skW H.1 b) (hR : skR H.1 b Z) (hw : zRw Z) (h8 : H.1 3 8 = 32 * Z.2.1 16) {Q : Int → xH → Prop} (hq : ∀ J, rL T b H J (zPn T 1 47 8 (zP 16 (xOr (Z.2.1 16) (xShl 1 3)) Z)) → Q 0 J) : xCall dd 86 [(2, 3), (0, 8)] H Q := by
  obtain ⟨e, rfl, he⟩ := ttRun0 (n := 8) hd
  have he : 8 ≤ e := he
  have hB := skB_2 hb
  have hi := skB_in hB
  have hn := rB_n zB0
  have w6 := hw.2.2.2.2.2
  obtain ⟨r, jr⟩ : ∃ r, r = Z.2.1 16 := ⟨_, rfl⟩
  rw [← jr] at h8 w6 hq
  have o2 := od_or2 w6.1 w6.2 (p := 3) (by decide) (by decide)
  refine xC_of (L := [(2, 3), (0, 8)]) (cd := cd_86) rfl rfl rfl ?_
  refine q_il (pc := 0) (i := 1) (x := 8) rfl rfl ?_
  refine q_ic (pc := 1) (v := 5) rfl ?_
  refine q_i2 (pc := 2) rfl (fun h2 => ?_) (fun h2 => ?_)
  · replace h2 : (8 : Int) < 5 := h2
    omega
  · replace h2 : 5 ≤ (8 : Int) := h2
    refine q_al (pc := 3) (i := 0) (x := 3) rfl rfl ?_
    refine q_d2 (pc := 4) rfl ?_
    refine q_gf (pc := 5) (m := 7080) (t := 0) (c := 8) rfl (ttKc zB0.1 (a := 3) (κ := 7) (len := 0) ⟨rfl, rfl⟩ (by decide) (by decide)).1 rfl rfl ?_
    rw [h8]
    refine q_ic (pc := 6) (v := 1) rfl ?_
    refine q_il (pc := 7) (i := 1) (x := 8) rfl rfl ?_
    refine q_sl (pc := 8) rfl ?_
    refine q_or (pc := 9) rfl ?_
    rw [show xOr (32 * r) (xShl 1 8) = 32 * xOr r (xShl 1 3) from tl_o w6.1 w6.2 (k := 3) (by decide) (by decide)]
    refine q_pf (pc := 10) (m := 7080) (c := 8) rfl (show xPt 0 0 _ _ from (ttKc zB0.1 (a := 3) (κ := 7) (len := 0) ⟨rfl, rfl⟩ (by decide) (by decide)).1) rfl ?_
    have y9 := ttPut (ttXX_out yyStab (fun _ _ => trivial)) zB0.1 zB0.2.1 (ttFr_rf eM H) (a := 3) (j := 8) (x := (32 * xOr r (xShl 1 3))) (by decide) (fun _ _ => show ((-2147483648) : Int) ≤ (32 * xOr r (xShl 1 3)) ∧ (32 * xOr r (xShl 1 3)) ≤ 2147483647 from ⟨by omega, by omega⟩) ⟨(3, 5, 8), by decide, ⟨⟨by decide, rfl⟩, by decide, by decide⟩⟩ (ttMay_no (r := 3) rfl (by decide))
    obtain ⟨Y9, yk9⟩ : ∃ X : xH, X = (xUp H.1 3 8 (32 * xOr r (xShl 1 3)), H.2) := ⟨_, rfl⟩
    rw [← yk9] at y9 ⊢
    have o_Y9 : skO b H Y9 := skO_u (by first | assumption | exact skO_B (by assumption) | exact skO_t2 (by assumption) (by assumption)) (skB_2 hb) (by omega) yk9
    have zB9 : rB T Y9 Y9 Z.1 := ⟨y9.1, y9.2.1, ttFr_rf _ _, by rw [yk9]; exact ⟨cT_8.trans zB0.2.2.2.1.1, cS_8.trans zB0.2.2.2.1.2⟩, zB0.2.2.2.2⟩
    have n9_9 : Y9.1 3 9 = b := by rw [yk9]; exact (up_j (D := H.1) (a := 3) (j := 8) (x := (32 * xOr r (xShl 1 3))) (k := 9) (by decide)).trans h9
    have nW_9 : skW Y9.1 b := skW_fr y9.2.2 hn hB (by decide) hW
    have nn_9 := rB_n zB9
    have n8_9 : Y9.1 3 8 = (32 * xOr r (xShl 1 3)) := by rw [yk9]; exact up_eq (D := H.1) (a := 3) (j := 8) (x := (32 * xOr r (xShl 1 3)))
    have hR9 : skR Y9.1 b (Z.1, sUp Z.2.1 16 (xOr r (xShl 1 3)), Z.2.2) := skR_16 (S := Z.1) (skR_D hR hw.2.2.2.1.2 (fun a j a0 a1 => by rw [yk9]; exact up_na (by omega))) hw.2.2.2.1.2
    have eu : ∀ i : Int, i ≠ 16 → sUp Z.2.1 16 (xOr r (xShl 1 3)) i = Z.2.1 i := fun i hi => sUp_ne hi
    have hw9 : zRw (Z.1, sUp Z.2.1 16 (xOr r (xShl 1 3)), Z.2.2) := by
      obtain ⟨u0, u1, u2, u3, u4, -⟩ := hw
      refine ⟨?_, ?_, ?_, ?_, ?_, ?_⟩
      · show 0 ≤ sUp Z.2.1 16 (xOr r (xShl 1 3)) 0 ∧ sUp Z.2.1 16 (xOr r (xShl 1 3)) 0 ≤ 60
        rw [eu 0 (by decide)]; exact u0
      · show 0 ≤ sUp Z.2.1 16 (xOr r (xShl 1 3)) 1 ∧ sUp Z.2.1 16 (xOr r (xShl 1 3)) 1 ≤ 8
        rw [eu 1 (by decide)]; exact u1
      · show 0 ≤ sUp Z.2.1 16 (xOr r (xShl 1 3)) 2 ∧ sUp Z.2.1 16 (xOr r (xShl 1 3)) 2 ≤ 10
        rw [eu 2 (by decide)]; exact u2
      · show 0 ≤ sUp Z.2.1 16 (xOr r (xShl 1 3)) 3 ∧ sUp Z.2.1 16 (xOr r (xShl 1 3)) 3 ≤ 6
        rw [eu 3 (by decide)]; exact u3
      · show (0 ≤ sUp Z.2.1 16 (xOr r (xShl 1 3)) 15 ∧ sUp Z.2.1 16 (xOr r (xShl 1 3)) 15 ≤ 255) ∧ yyP (sUp Z.2.1 16 (xOr r (xShl 1 3)) 15) ≤ 3
        rw [eu 15 (by decide)]; exact u4
      · show 0 ≤ sUp Z.2.1 16 (xOr r (xShl 1 3)) 16 ∧ sUp Z.2.1 16 (xOr r (xShl 1 3)) 16 ≤ 63
        rw [sUp_eq]; exact o2
    refine q_il (pc := 11) (i := 1) (x := 8) rfl rfl ?_
    refine q_tq (pc := 12) (t := 74) (lo := 0) (hi := 9) (ts := #[13, 16, 19, 22, 25, 39, 47, 55, 63, 71]) rfl ⟨fun hc => absurd hc (by decide), fun hc => absurd hc (by decide), fun hc => absurd hc (by decide), fun hc => absurd hc (by decide), fun hc => absurd hc (by decide), fun hc => absurd hc (by decide), fun hc => absurd hc (by decide), fun hc => absurd hc (by decide), fun hc => ?_, fun hc => absurd hc (by decide), trivial⟩ (fun hc => absurd hc (by decide))
    exact fr_63 (by omega) hb hO (Z := (zP 16 (xOr r (xShl 1 3)) Z)) zB9 n9_9 nW_9 hR9 hw9 (fun J jC => hq J (rL_C y9.2.2 nn_9 jC o_Y9 (by rw [n8_9, show (zPn T 1 47 8 (zP 16 (xOr r (xShl 1 3)) Z)).2.1 16 = xOr r (xShl 1 3) from (zPn_16 (by decide)).trans (show sUp Z.2.1 16 (xOr r (xShl 1 3)) 16 = _ from sUp_eq)])))
theorem lr_9 {dd : Nat} (hd : 9 ≤ dd) {H : xH} {T : tSm} {n b : Int} (hb : b = 7 ∨ b = 34) (hO : sOk T n) {Z : tZ} (zB0 : rB T H H Z.1) (h9 : H.1 3 9 = b) (hW : skW H.1 b) (hR : skR H.1 b Z) (hw : zRw Z) (h8 : H.1 3 8 = 32 * Z.2.1 16) {Q : Int → xH → Prop} (hq : ∀ J, rL T b H J (zPt T (-26) 0 9999 11 (zPt T (-25) 0 99 10 (zPt T (-14) 0 9999 9 (zP 16 (xOr (Z.2.1 16) (xShl 1 4)) Z)))) → Q 0 J) : xCall dd 86 [(2, 3), (0, 9)] H Q := by
  obtain ⟨e, rfl, he⟩ := ttRun0 (n := 8) hd
  have he : 8 ≤ e := he
  have hB := skB_2 hb
  have hi := skB_in hB
  have hn := rB_n zB0
  have w6 := hw.2.2.2.2.2
  obtain ⟨r, jr⟩ : ∃ r, r = Z.2.1 16 := ⟨_, rfl⟩
  rw [← jr] at h8 w6 hq
  have o2 := od_or2 w6.1 w6.2 (p := 4) (by decide) (by decide)
  refine xC_of (L := [(2, 3), (0, 9)]) (cd := cd_86) rfl rfl rfl ?_
  refine q_il (pc := 0) (i := 1) (x := 9) rfl rfl ?_
  refine q_ic (pc := 1) (v := 5) rfl ?_
  refine q_i2 (pc := 2) rfl (fun h2 => ?_) (fun h2 => ?_)
  · replace h2 : (9 : Int) < 5 := h2
    omega
  · replace h2 : 5 ≤ (9 : Int) := h2
    refine q_al (pc := 3) (i := 0) (x := 3) rfl rfl ?_
    refine q_d2 (pc := 4) rfl ?_
    refine q_gf (pc := 5) (m := 7080) (t := 0) (c := 8) rfl (ttKc zB0.1 (a := 3) (κ := 7) (len := 0) ⟨rfl, rfl⟩ (by decide) (by decide)).1 rfl rfl ?_
    rw [h8]
    refine q_ic (pc := 6) (v := 1) rfl ?_
    refine q_il (pc := 7) (i := 1) (x := 9) rfl rfl ?_
    refine q_sl (pc := 8) rfl ?_
    refine q_or (pc := 9) rfl ?_
    rw [show xOr (32 * r) (xShl 1 9) = 32 * xOr r (xShl 1 4) from tl_o w6.1 w6.2 (k := 4) (by decide) (by decide)]
    refine q_pf (pc := 10) (m := 7080) (c := 8) rfl (show xPt 0 0 _ _ from (ttKc zB0.1 (a := 3) (κ := 7) (len := 0) ⟨rfl, rfl⟩ (by decide) (by decide)).1) rfl ?_
    have y9 := ttPut (ttXX_out yyStab (fun _ _ => trivial)) zB0.1 zB0.2.1 (ttFr_rf eM H) (a := 3) (j := 8) (x := (32 * xOr r (xShl 1 4))) (by decide) (fun _ _ => show ((-2147483648) : Int) ≤ (32 * xOr r (xShl 1 4)) ∧ (32 * xOr r (xShl 1 4)) ≤ 2147483647 from ⟨by omega, by omega⟩) ⟨(3, 5, 8), by decide, ⟨⟨by decide, rfl⟩, by decide, by decide⟩⟩ (ttMay_no (r := 3) rfl (by decide))
    obtain ⟨Y9, yk9⟩ : ∃ X : xH, X = (xUp H.1 3 8 (32 * xOr r (xShl 1 4)), H.2) := ⟨_, rfl⟩
    rw [← yk9] at y9 ⊢
    have o_Y9 : skO b H Y9 := skO_u (by first | assumption | exact skO_B (by assumption) | exact skO_t2 (by assumption) (by assumption)) (skB_2 hb) (by omega) yk9
    have zB9 : rB T Y9 Y9 Z.1 := ⟨y9.1, y9.2.1, ttFr_rf _ _, by rw [yk9]; exact ⟨cT_8.trans zB0.2.2.2.1.1, cS_8.trans zB0.2.2.2.1.2⟩, zB0.2.2.2.2⟩
    have n9_9 : Y9.1 3 9 = b := by rw [yk9]; exact (up_j (D := H.1) (a := 3) (j := 8) (x := (32 * xOr r (xShl 1 4))) (k := 9) (by decide)).trans h9
    have nW_9 : skW Y9.1 b := skW_fr y9.2.2 hn hB (by decide) hW
    have nn_9 := rB_n zB9
    have n8_9 : Y9.1 3 8 = (32 * xOr r (xShl 1 4)) := by rw [yk9]; exact up_eq (D := H.1) (a := 3) (j := 8) (x := (32 * xOr r (xShl 1 4)))
    have hR9 : skR Y9.1 b (Z.1, sUp Z.2.1 16 (xOr r (xShl 1 4)), Z.2.2) := skR_16 (S := Z.1) (skR_D hR hw.2.2.2.1.2 (fun a j a0 a1 => by rw [yk9]; exact up_na (by omega))) hw.2.2.2.1.2
    have eu : ∀ i : Int, i ≠ 16 → sUp Z.2.1 16 (xOr r (xShl 1 4)) i = Z.2.1 i := fun i hi => sUp_ne hi
    have hw9 : zRw (Z.1, sUp Z.2.1 16 (xOr r (xShl 1 4)), Z.2.2) := by
      obtain ⟨u0, u1, u2, u3, u4, -⟩ := hw
      refine ⟨?_, ?_, ?_, ?_, ?_, ?_⟩
      · show 0 ≤ sUp Z.2.1 16 (xOr r (xShl 1 4)) 0 ∧ sUp Z.2.1 16 (xOr r (xShl 1 4)) 0 ≤ 60
        rw [eu 0 (by decide)]; exact u0
      · show 0 ≤ sUp Z.2.1 16 (xOr r (xShl 1 4)) 1 ∧ sUp Z.2.1 16 (xOr r (xShl 1 4)) 1 ≤ 8
        rw [eu 1 (by decide)]; exact u1
      · show 0 ≤ sUp Z.2.1 16 (xOr r (xShl 1 4)) 2 ∧ sUp Z.2.1 16 (xOr r (xShl 1 4)) 2 ≤ 10
        rw [eu 2 (by decide)]; exact u2
      · show 0 ≤ sUp Z.2.1 16 (xOr r (xShl 1 4)) 3 ∧ sUp Z.2.1 16 (xOr r (xShl 1 4)) 3 ≤ 6
        rw [eu 3 (by decide)]; exact u3
      · show (0 ≤ sUp Z.2.1 16 (xOr r (xShl 1 4)) 15 ∧ sUp Z.2.1 16 (xOr r (xShl 1 4)) 15 ≤ 255) ∧ yyP (sUp Z.2.1 16 (xOr r (xShl 1 4)) 15) ≤ 3
        rw [eu 15 (by decide)]; exact u4
      · show 0 ≤ sUp Z.2.1 16 (xOr r (xShl 1 4)) 16 ∧ sUp Z.2.1 16 (xOr r (xShl 1 4)) 16 ≤ 63
        rw [sUp_eq]; exact o2
    refine q_il (pc := 11) (i := 1) (x := 9) rfl rfl ?_
    refine q_tq (pc := 12) (t := 74) (lo := 0) (hi := 9) (ts := #[13, 16, 19, 22, 25, 39, 47, 55, 63, 71]) rfl ⟨fun hc => absurd hc (by decide), fun hc => absurd hc (by decide), fun hc => absurd hc (by decide), fun hc => absurd hc (by decide), fun hc => absurd hc (by decide), fun hc => absurd hc (by decide), fun hc => absurd hc (by decide), fun hc => absurd hc (by decide), fun hc => absurd hc (by decide), fun hc => ?_, trivial⟩ (fun hc => absurd hc (by decide))
    refine q_al (pc := 71) (i := 0) (x := 3) rfl rfl ?_
    refine q_iv (pc := 72) (q := 728567) rfl rfl rfl (ttKc zB9.1 (a := 3) (κ := 7) (len := 0) ⟨rfl, rfl⟩ (by decide) (by decide)).1 ?_
    refine lb_readWorth (by omega) hb hO (Z := (zP 16 (xOr r (xShl 1 4)) Z)) zB9 n9_9 nW_9 hR9 hw9 (fun J jC => ?_)
    refine q_go (pc := 73) rfl ?_
    refine q_rv (pc := 76) rfl ?_
    exact hq J (rL_C y9.2.2 nn_9 jC o_Y9 (by rw [n8_9, show (zPt T (-26) 0 9999 11 (zPt T (-25) 0 99 10 (zPt T (-14) 0 9999 9 (zP 16 (xOr r (xShl 1 4)) Z)))).2.1 16 = xOr r (xShl 1 4) from ((zPt_16 (by decide)).trans ((zPt_16 (by decide)).trans (zPt_16 (by decide)))).trans (show sUp Z.2.1 16 (xOr r (xShl 1 4)) 16 = _ from sUp_eq)]))
theorem lr_10 {dd : Nat} (hd : 9 ≤ dd) {H : xH} {T : tSm} {n b : Int} (hb : b = 7 ∨ b = 34) (hO : sOk T n) {Z : tZ} (zB0 : rB T H H Z.1) (h9 : H.1 3 9 = b) (hW : skW H.1 b) (hR : skR H.1 b Z) (hw : zRw Z) (h8 : H.1 3 8 = 32 * Z.2.1 16) {Q : Int → xH → Prop} (hq : ∀ J, rL T b H J (zSt T (zP 16 (xOr (Z.2.1 16) (xShl 1 5)) Z)) → Q 0 J) : xCall dd 86 [(2, 3), (0, 10)] H Q := by
  obtain ⟨e, rfl, he⟩ := ttRun0 (n := 8) hd
  have he : 8 ≤ e := he
  have hB := skB_2 hb
  have hi := skB_in hB
  have hn := rB_n zB0
  have w6 := hw.2.2.2.2.2
  obtain ⟨r, jr⟩ : ∃ r, r = Z.2.1 16 := ⟨_, rfl⟩
  rw [← jr] at h8 w6 hq
  have o2 := od_or2 w6.1 w6.2 (p := 5) (by decide) (by decide)
  refine xC_of (L := [(2, 3), (0, 10)]) (cd := cd_86) rfl rfl rfl ?_
  refine q_il (pc := 0) (i := 1) (x := 10) rfl rfl ?_
  refine q_ic (pc := 1) (v := 5) rfl ?_
  refine q_i2 (pc := 2) rfl (fun h2 => ?_) (fun h2 => ?_)
  · replace h2 : (10 : Int) < 5 := h2
    omega
  · replace h2 : 5 ≤ (10 : Int) := h2
    refine q_al (pc := 3) (i := 0) (x := 3) rfl rfl ?_
    refine q_d2 (pc := 4) rfl ?_
    refine q_gf (pc := 5) (m := 7080) (t := 0) (c := 8) rfl (ttKc zB0.1 (a := 3) (κ := 7) (len := 0) ⟨rfl, rfl⟩ (by decide) (by decide)).1 rfl rfl ?_
    rw [h8]
    refine q_ic (pc := 6) (v := 1) rfl ?_
    refine q_il (pc := 7) (i := 1) (x := 10) rfl rfl ?_
    refine q_sl (pc := 8) rfl ?_
    refine q_or (pc := 9) rfl ?_
    rw [show xOr (32 * r) (xShl 1 10) = 32 * xOr r (xShl 1 5) from tl_o w6.1 w6.2 (k := 5) (by decide) (by decide)]
    refine q_pf (pc := 10) (m := 7080) (c := 8) rfl (show xPt 0 0 _ _ from (ttKc zB0.1 (a := 3) (κ := 7) (len := 0) ⟨rfl, rfl⟩ (by decide) (by decide)).1) rfl ?_
    have y9 := ttPut (ttXX_out yyStab (fun _ _ => trivial)) zB0.1 zB0.2.1 (ttFr_rf eM H) (a := 3) (j := 8) (x := (32 * xOr r (xShl 1 5))) (by decide) (fun _ _ => show ((-2147483648) : Int) ≤ (32 * xOr r (xShl 1 5)) ∧ (32 * xOr r (xShl 1 5)) ≤ 2147483647 from ⟨by omega, by omega⟩) ⟨(3, 5, 8), by decide, ⟨⟨by decide, rfl⟩, by decide, by decide⟩⟩ (ttMay_no (r := 3) rfl (by decide))
    obtain ⟨Y9, yk9⟩ : ∃ X : xH, X = (xUp H.1 3 8 (32 * xOr r (xShl 1 5)), H.2) := ⟨_, rfl⟩
    rw [← yk9] at y9 ⊢
    have o_Y9 : skO b H Y9 := skO_u (by first | assumption | exact skO_B (by assumption) | exact skO_t2 (by assumption) (by assumption)) (skB_2 hb) (by omega) yk9
    have zB9 : rB T Y9 Y9 Z.1 := ⟨y9.1, y9.2.1, ttFr_rf _ _, by rw [yk9]; exact ⟨cT_8.trans zB0.2.2.2.1.1, cS_8.trans zB0.2.2.2.1.2⟩, zB0.2.2.2.2⟩
    have n9_9 : Y9.1 3 9 = b := by rw [yk9]; exact (up_j (D := H.1) (a := 3) (j := 8) (x := (32 * xOr r (xShl 1 5))) (k := 9) (by decide)).trans h9
    have nW_9 : skW Y9.1 b := skW_fr y9.2.2 hn hB (by decide) hW
    have nn_9 := rB_n zB9
    have n8_9 : Y9.1 3 8 = (32 * xOr r (xShl 1 5)) := by rw [yk9]; exact up_eq (D := H.1) (a := 3) (j := 8) (x := (32 * xOr r (xShl 1 5)))
    have hR9 : skR Y9.1 b (Z.1, sUp Z.2.1 16 (xOr r (xShl 1 5)), Z.2.2) := skR_16 (S := Z.1) (skR_D hR hw.2.2.2.1.2 (fun a j a0 a1 => by rw [yk9]; exact up_na (by omega))) hw.2.2.2.1.2
    have eu : ∀ i : Int, i ≠ 16 → sUp Z.2.1 16 (xOr r (xShl 1 5)) i = Z.2.1 i := fun i hi => sUp_ne hi
    have hw9 : zRw (Z.1, sUp Z.2.1 16 (xOr r (xShl 1 5)), Z.2.2) := by
      obtain ⟨u0, u1, u2, u3, u4, -⟩ := hw
      refine ⟨?_, ?_, ?_, ?_, ?_, ?_⟩
      · show 0 ≤ sUp Z.2.1 16 (xOr r (xShl 1 5)) 0 ∧ sUp Z.2.1 16 (xOr r (xShl 1 5)) 0 ≤ 60
        rw [eu 0 (by decide)]; exact u0
      · show 0 ≤ sUp Z.2.1 16 (xOr r (xShl 1 5)) 1 ∧ sUp Z.2.1 16 (xOr r (xShl 1 5)) 1 ≤ 8
        rw [eu 1 (by decide)]; exact u1
      · show 0 ≤ sUp Z.2.1 16 (xOr r (xShl 1 5)) 2 ∧ sUp Z.2.1 16 (xOr r (xShl 1 5)) 2 ≤ 10
        rw [eu 2 (by decide)]; exact u2
      · show 0 ≤ sUp Z.2.1 16 (xOr r (xShl 1 5)) 3 ∧ sUp Z.2.1 16 (xOr r (xShl 1 5)) 3 ≤ 6
        rw [eu 3 (by decide)]; exact u3
      · show (0 ≤ sUp Z.2.1 16 (xOr r (xShl 1 5)) 15 ∧ sUp Z.2.1 16 (xOr r (xShl 1 5)) 15 ≤ 255) ∧ yyP (sUp Z.2.1 16 (xOr r (xShl 1 5)) 15) ≤ 3
        rw [eu 15 (by decide)]; exact u4
      · show 0 ≤ sUp Z.2.1 16 (xOr r (xShl 1 5)) 16 ∧ sUp Z.2.1 16 (xOr r (xShl 1 5)) 16 ≤ 63
        rw [sUp_eq]; exact o2
    refine q_il (pc := 11) (i := 1) (x := 10) rfl rfl ?_
    refine q_tq (pc := 12) (t := 74) (lo := 0) (hi := 9) (ts := #[13, 16, 19, 22, 25, 39, 47, 55, 63, 71]) rfl ⟨fun hc => absurd hc (by decide), fun hc => absurd hc (by decide), fun hc => absurd hc (by decide), fun hc => absurd hc (by decide), fun hc => absurd hc (by decide), fun hc => absurd hc (by decide), fun hc => absurd hc (by decide), fun hc => absurd hc (by decide), fun hc => absurd hc (by decide), fun hc => absurd hc (by decide), trivial⟩ (fun hc => ?_)
    refine q_al (pc := 74) (i := 0) (x := 3) rfl rfl ?_
    refine q_iv (pc := 75) (q := 736567) rfl rfl rfl (ttKc zB9.1 (a := 3) (κ := 7) (len := 0) ⟨rfl, rfl⟩ (by decide) (by decide)).1 ?_
    refine lb_readStart (by omega) hb hO (Z := (zP 16 (xOr r (xShl 1 5)) Z)) zB9 n9_9 nW_9 hR9 hw9 (fun J jC => ?_)
    refine q_rv (pc := 76) rfl ?_
    exact hq J (rL_C y9.2.2 nn_9 jC o_Y9 (by rw [n8_9, show (zSt T (zP 16 (xOr r (xShl 1 5)) Z)).2.1 16 = xOr r (xShl 1 5) from (zSt_16).trans (show sUp Z.2.1 16 (xOr r (xShl 1 5)) 16 = _ from sUp_eq)]))
theorem rW3 {J : xH} (hT : ttTI J) {b : Int} (hB : skB b) {Z : tZ} (h : skR J.1 b Z) : Z.2.1 3 ≤ 6 := by
  have w := sk_ro hB (o := 3) (by decide) (by decide)
  have u := ttMc hT (a := b + 3) (j := 0) w.2.1 w.2.2 (by decide) (by rw [w.1]; decide)
  rw [w.1] at u
  have v : 0 ≤ J.1 (b + 3) 0 ∧ J.1 (b + 3) 0 ≤ 6 := u
  have e : J.1 (b + 3) 0 = Z.2.1 3 := h.2.2.2.1.1
  omega
theorem lj_line {dd : Nat} (hd : 11 ≤ dd) {H : xH} {T : tSm} {n b : Int} (hb : b = 7 ∨ b = 34) (hO : sOk T n) {Z : tZ} (zB0 : rB T H H Z.1) (h9 : H.1 3 9 = b) (hW : skW H.1 b) (hR : skR H.1 b Z) (hw : zRw Z) (h8 : H.1 3 8 = 32 * Z.2.1 16) (hg : Z.1.2.1 = 0) {c : Int} (c0 : 0 ≤ c) (c1 : c ≤ 10) (hc : sW T Z.1.1 (-2 - c) = true) (hK : zKn T Z) (hT2 : zTw T Z ↔ xAnd (xShr (32 * Z.2.1 16) c) 1 ≠ 0) (hF : zFu T Z ↔ Z.2.1 0 = 60 ∨ ((c = 0 ∧ Z.2.1 1 = 8) ∨ (c = 1 ∧ Z.2.1 2 = 10) ∨ (c = 3 ∧ Z.2.1 3 = 6) ∨ (c = 4 ∧ yyP (Z.2.1 15) = 3))) (hb0 : (zBd T Z).2.1 0 = Z.2.1 0) (hrest : ¬ zFu T Z → ∀ K : xH, rB T H K (zNx T Z).1 → ∀ {e : Nat}, 9 ≤ e → ∀ {Q2 : Int → xH → Prop}, (∀ J, rL T b H J (zBd T Z) → Q2 0 J) → xCall e 86 [(2, 3), (0, c)] K Q2) {Q : Int → xH → Prop} (hq : ∀ J, rL T b H J (zLn T Z) → Q 0 J) : xCall dd 83 [(2, 3)] H Q := by
  obtain ⟨e, rfl, he⟩ := ttRun0 (n := 10) hd
  have he : 10 ≤ e := he
  have hB := skB_2 hb
  have hi := skB_in hB
  have hn := rB_n zB0
  have w0 := hw.1
  have e6 : H.1 b 6 = Z.2.1 0 := skA_i hR.1 (j := 6) (i := 0) (by decide)
  refine xC_of (L := [(2, 3), (9, 0)]) (cd := cd_83) rfl rfl rfl ?_
  refine q_al (pc := 0) (i := 0) (x := 3) rfl rfl ?_
  refine q_iv (pc := 1) (q := 672564) rfl rfl rfl (ttKc zB0.1 (a := 3) (κ := 7) (len := 0) ⟨rfl, rfl⟩ (by decide) (by decide)).1 ?_
  refine lj_kind (by omega) hO zB0 (fun x hx => ?_)
  have ex : x = c := by
    rcases hx with ⟨-, y⟩ | ⟨⟨y0, y1⟩, y⟩
    · exact absurd ((y (-2 - c) (by omega) (by omega)).symm.trans hc) (by decide)
    · by_cases z : x = c
      · exact z
      · exact absurd ((wd_u c0 c1 (s := -2 - x) (by omega) (by omega) hc (by omega)).symm.trans y) (by decide)
  rw [ex]
  refine q_is (pc := 2) (i := 1) (L' := [(2, 3), (0, c)]) rfl rfl rfl ?_
  refine q_il (pc := 3) (i := 1) (x := c) rfl rfl ?_
  refine q_ic (pc := 4) (v := (-1)) rfl ?_
  refine q_i2 (pc := 5) rfl (fun h5 => ?_) (fun h5 => ?_)
  · replace h5 : c ≠ (-1) := h5
    refine q_al (pc := 10) (i := 0) (x := 3) rfl rfl ?_
    refine q_gf (pc := 11) (m := 7080) (t := 0) (c := 8) rfl (ttKc zB0.1 (a := 3) (κ := 7) (len := 0) ⟨rfl, rfl⟩ (by decide) (by decide)).1 rfl rfl ?_
    rw [h8]
    refine q_il (pc := 12) (i := 1) (x := c) rfl rfl ?_
    refine q_sr (pc := 13) rfl ?_
    refine q_ic (pc := 14) (v := 1) rfl ?_
    refine q_an (pc := 15) rfl ?_
    refine q_if (pc := 16) rfl (fun h16 => ?_) (fun h16 => ?_)
    · replace h16 : (xAnd (xShr (32 * Z.2.1 16) c) 1) = 0 := h16
      refine q_al (pc := 21) (i := 0) (x := 3) rfl rfl ?_
      refine q_gf (pc := 22) (m := 7092) (t := 2) (c := 9) rfl (ttKc zB0.1 (a := 3) (κ := 7) (len := 0) ⟨rfl, rfl⟩ (by decide) (by decide)).1 rfl rfl ?_
      rw [show H.1 3 9 = b from (rB_9 zB0).trans h9]
      refine q_gf (pc := 23) (m := 10060) (t := 0) (c := 6) rfl (sk_kb zB0.1 hB).1 rfl rfl ?_
      rw [show H.1 b 6 = (Z.2.1 0) from (rB_sk zB0 hB (by omega) (by omega)).trans e6]
      refine q_ic (pc := 24) (v := 60) rfl ?_
      refine q_i2 (pc := 25) rfl (fun h25 => ?_) (fun h25 => ?_)
      · replace h25 : 60 ≤ (Z.2.1 0) := h25
        refine q_al (pc := 30) (i := 0) (x := 3) rfl rfl ?_
        refine q_ic (pc := 31) (v := 3) rfl ?_
        refine q_iv (pc := 32) (q := 600571) rfl rfl rfl (ttKc zB0.1 (a := 3) (κ := 7) (len := 0) ⟨rfl, rfl⟩ (by decide) (by decide)).1 ?_
        refine lb_fail (by decide) (by decide) (by omega) zB0 (fun J1 zB1 => ?_)
        obtain ⟨V1, jV1⟩ : ∃ Y : tSa, Y = sEr T Z.1 3 := ⟨_, rfl⟩
        replace zB1 : rB T H J1 V1 := by rw [jV1]; exact zB1
        refine q_go (pc := 33) rfl ?_
        refine q_rv (pc := 61) rfl ?_
        have eq : zLn T Z = zEr T 3 Z := (if_neg (fun z => z hK)).trans ((if_neg (fun z => (hT2.mp z) h16)).trans (if_pos (hF.mpr (Or.inl (by omega)))))
        refine hq _ ⟨zB1.1, zB1.2.1, rB_M zB1, ?_, ?_, skO_B zB1, fun y => ?_⟩
        · rw [eq, show (zEr T 3 Z).1 = V1 from jV1.symm]; exact zB1.2.2.2.1
        · rw [eq, show (zEr T 3 Z).1 = V1 from jV1.symm]; exact zB1.2.2.2.2
        · rw [eq] at y; exact absurd y (sEr_k (by decide))
      · replace h25 : (Z.2.1 0) < 60 := h25
        refine q_al (pc := 26) (i := 0) (x := 3) rfl rfl ?_
        refine q_il (pc := 27) (i := 1) (x := c) rfl rfl ?_
        refine q_iv (pc := 28) (q := 680568) rfl rfl rfl (ttKc zB0.1 (a := 3) (κ := 7) (len := 0) ⟨rfl, rfl⟩ (by decide) (by decide)).1 ?_
        refine lj_full (by omega) hb hO zB0 h9 hW hR hw (fun hf => ?_) (fun hf => ?_)
        · skip
          refine q_if (pc := 29) rfl (fun h29 => ?_) (fun h29 => ?_)
          · replace h29 : (1 : Int) = 0 := h29
            omega
          · replace h29 : (1 : Int) ≠ 0 := h29
            refine q_al (pc := 30) (i := 0) (x := 3) rfl rfl ?_
            refine q_ic (pc := 31) (v := 3) rfl ?_
            refine q_iv (pc := 32) (q := 600571) rfl rfl rfl (ttKc zB0.1 (a := 3) (κ := 7) (len := 0) ⟨rfl, rfl⟩ (by decide) (by decide)).1 ?_
            refine lb_fail (by decide) (by decide) (by omega) zB0 (fun J2 zB2 => ?_)
            obtain ⟨V2, jV2⟩ : ∃ Y : tSa, Y = sEr T Z.1 3 := ⟨_, rfl⟩
            replace zB2 : rB T H J2 V2 := by rw [jV2]; exact zB2
            refine q_go (pc := 33) rfl ?_
            refine q_rv (pc := 61) rfl ?_
            have eq : zLn T Z = zEr T 3 Z := (if_neg (fun z => z hK)).trans ((if_neg (fun z => (hT2.mp z) h16)).trans (if_pos (hF.mpr (Or.inr hf))))
            refine hq _ ⟨zB2.1, zB2.2.1, rB_M zB2, ?_, ?_, skO_B zB2, fun y => ?_⟩
            · rw [eq, show (zEr T 3 Z).1 = V2 from jV2.symm]; exact zB2.2.2.2.1
            · rw [eq, show (zEr T 3 Z).1 = V2 from jV2.symm]; exact zB2.2.2.2.2
            · rw [eq] at y; exact absurd y (sEr_k (by decide))
        · skip
          refine q_if (pc := 29) rfl (fun h29 => ?_) (fun h29 => ?_)
          · replace h29 : (0 : Int) = 0 := h29
            refine q_al (pc := 34) (i := 0) (x := 3) rfl rfl ?_
            refine q_iv (pc := 35) (q := 608567) rfl rfl rfl (ttKc zB0.1 (a := 3) (κ := 7) (len := 0) ⟨rfl, rfl⟩ (by decide) (by decide)).1 ?_
            refine lb_go (by omega) zB0 (fun J3 zB3 => ?_)
            obtain ⟨V3, jV3⟩ : ∃ Y : tSa, Y = (sNx T Z.1.1, Z.1.2) := ⟨_, rfl⟩
            replace zB3 : rB T H J3 V3 := by rw [jV3]; exact zB3
            refine q_al (pc := 36) (i := 0) (x := 3) rfl rfl ?_
            refine q_il (pc := 37) (i := 1) (x := c) rfl rfl ?_
            refine q_iv (pc := 38) (q := 688571) rfl rfl rfl (ttKc zB3.1 (a := 3) (κ := 7) (len := 0) ⟨rfl, rfl⟩ (by decide) (by decide)).1 ?_
            have nz : ¬ zTw T Z := fun z => (hT2.mp z) h16
            have nf : ¬ zFu T Z := fun z => by
              rcases hF.mp z with u | u
              · omega
              · exact hf u
            refine hrest nf J3 (by rw [jV3] at zB3; exact zB3) (by omega) (fun J jL => ?_)
            obtain ⟨W, jW⟩ : ∃ W, W = zBd T Z := ⟨_, rfl⟩
            rw [← jW] at jL hb0
            have eq : zLn T Z = zEd T W := by rw [jW]; exact (if_neg (fun z => z hK)).trans ((if_neg nz).trans (if_neg nf))
            rw [eq] at hq
            have zJ : rB T J J W.1 := ⟨jL.1, jL.2.1, ttFr_rf _ J, jL.2.2.2.1, jL.2.2.2.2.1⟩
            have ujj9 : J.1 3 9 = b := (fr_cl jL.2.2.1 (a := 3) (j := 9) (by omega) (by decide)).trans h9
            have jW2 : skW J.1 b := skW_fr jL.2.2.1 hn hB (by decide) hW
            have jn := rB_n zJ
            have zw : 0 ≤ W.1.1 ∧ W.1.1 ≤ 1600 := by rw [← rB_a zJ]; exact (rd_ty jL.1).2
            refine q_al (pc := 39) (i := 0) (x := 3) rfl rfl ?_
            refine q_gf (pc := 40) (m := 7012) (t := 2) (c := 1) rfl (ttKc zJ.1 (a := 3) (κ := 7) (len := 0) ⟨rfl, rfl⟩ (by decide) (by decide)).1 rfl rfl ?_
            rw [show J.1 3 1 = 4 from ttFx zJ.1 (by decide) (by decide) rfl rfl rfl]
            refine q_al (pc := 41) (i := 0) (x := 3) rfl rfl ?_
            refine q_gf (pc := 42) (m := 7050) (t := 0) (c := 5) rfl (ttKc zJ.1 (a := 3) (κ := 7) (len := 0) ⟨rfl, rfl⟩ (by decide) (by decide)).1 rfl rfl ?_
            rw [show J.1 3 5 = W.1.1 from rB_a zJ]
            refine q_ai (pc := 43) rfl (ttKc zJ.1 (a := 4) (κ := 20) (len := 1601) ⟨rfl, rfl⟩ (by decide) (by decide)).1 (by omega) (by rw [(ttKc zJ.1 (a := 4) (κ := 20) (len := 1601) ⟨rfl, rfl⟩ (by decide) (by decide)).2]; omega) ?_
            rw [show J.1 4 W.1.1 = (T.2.1 W.1.1) from rB_k zJ _]
            refine q_ic (pc := 44) (v := 3) rfl ?_
            refine q_i2 (pc := 45) rfl (fun h45 => ?_) (fun h45 => ?_)
            · replace h45 : (T.2.1 W.1.1) = 3 := h45
              refine q_al (pc := 49) (i := 0) (x := 3) rfl rfl ?_
              refine q_gf (pc := 50) (m := 7060) (t := 0) (c := 6) rfl (ttKc zJ.1 (a := 3) (κ := 7) (len := 0) ⟨rfl, rfl⟩ (by decide) (by decide)).1 rfl rfl ?_
              rw [show J.1 3 6 = W.1.2.1 from rB_f zJ]
              refine q_if (pc := 51) rfl (fun h51 => ?_) (fun h51 => ?_)
              · replace h51 : W.1.2.1 ≠ 0 := h51
                refine q_rv (pc := 61) rfl ?_
                have e1 : zE1 T W = W := if_neg (fun z => z.2 h45)
                have e2 : (zE1 T W).1 = W.1 := by rw [e1]
                have e3 : (zEd T W).1 = W.1 := by
                  have u : zGo T (zE1 T W) = zE1 T W := if_neg (by rw [e2]; exact h51)
                  show (zGo T (zE1 T W)).1 = _
                  rw [u]; exact e2
                exact hq _ ⟨zJ.1, zJ.2.1, ttFr_tr jL.2.2.1 zJ.2.2.1 (fun _ => rfl) (by decide), by rw [e3]; exact zJ.2.2.2.1, by rw [e3]; exact zJ.2.2.2.2, jL.2.2.2.2.2.1, fun y => absurd (by rw [← e3]; exact y) h51⟩
              · replace h51 : W.1.2.1 = 0 := h51
                have e6w : J.1 b 6 = W.2.1 0 := skA_i (jL.2.2.2.2.2.2 h51).1.1 (j := 6) (i := 0) (by decide)
                refine q_al (pc := 52) (i := 0) (x := 3) rfl rfl ?_
                refine q_iv (pc := 53) (q := 608567) rfl rfl rfl (ttKc zJ.1 (a := 3) (κ := 7) (len := 0) ⟨rfl, rfl⟩ (by decide) (by decide)).1 ?_
                refine lb_go (by omega) zJ (fun J4 zB4 => ?_)
                obtain ⟨V4, jV4⟩ : ∃ Y : tSa, Y = (sNx T W.1.1, W.1.2) := ⟨_, rfl⟩
                replace zB4 : rB T J J4 V4 := by rw [jV4]; exact zB4
                refine q_al (pc := 54) (i := 0) (x := 3) rfl rfl ?_
                refine q_gf (pc := 55) (m := 7092) (t := 2) (c := 9) rfl (ttKc zB4.1 (a := 3) (κ := 7) (len := 0) ⟨rfl, rfl⟩ (by decide) (by decide)).1 rfl rfl ?_
                rw [show J4.1 3 9 = b from (rB_9 zB4).trans ujj9]
                refine q_d2 (pc := 56) rfl ?_
                refine q_gf (pc := 57) (m := 10060) (t := 0) (c := 6) rfl (sk_kb zB4.1 hB).1 rfl rfl ?_
                rw [show J4.1 b 6 = (W.2.1 0) from (rB_sk zB4 hB (by omega) (by omega)).trans e6w]
                refine q_ic (pc := 58) (v := 1) rfl ?_
                refine q_ia (pc := 59) rfl (by omega) (by omega) ?_
                refine q_pf (pc := 60) (m := 10060) (c := 6) rfl (show xPt 0 0 _ _ from (sk_kb zB4.1 hB).1) rfl ?_
                have y5 := rB_put zB4.1 zB4.2.1 (rB_L zB4) (a := b) (j := 6) (x := ((W.2.1 0) + 1)) 7 (sk_rb hB) (by omega) (show ((-2147483648) : Int) ≤ ((W.2.1 0) + 1) ∧ ((W.2.1 0) + 1) ≤ 2147483647 from ⟨by omega, by omega⟩) ⟨(7, 4, 18), by decide, rfl, (show (4 : Int) ≤ 6 ∧ 6 ≤ 18 from ⟨by omega, by omega⟩)⟩ (by decide)
                obtain ⟨Y5, yk5⟩ : ∃ X : xH, X = (xUp J4.1 b 6 ((W.2.1 0) + 1), J4.2) := ⟨_, rfl⟩
                rw [← yk5] at y5 ⊢
                have o_Y5 : skO b J Y5 := skO_u (by first | assumption | exact skO_B (by assumption) | exact skO_t2 (by assumption) (by assumption)) (skB_2 hb) (by omega) yk5
                have cc5 : cT Y5 = T ∧ cS Y5 = V4 := by rw [yk5]; exact ⟨(cT_up (by omega)).trans zB4.2.2.2.1.1, (cS_up (by omega)).trans zB4.2.2.2.1.2⟩
                have tr_Y5_b_6 : Y5.1 b 6 = ((W.2.1 0) + 1) := by rw [yk5]; exact up_eq
                refine q_rv (pc := 61) rfl ?_
                have eD : Y5.1 = xUp (J4.1) b 6 ((W.2.1 0) + 1) := by rw [yk5]
                have e1 : zE1 T W = W := if_neg (fun z => z.2 h45)
                have e2 : zEd T W = (V4, sUp W.2.1 0 (W.2.1 0 + 1), W.2.2) := by
                  unfold zEd
                  rw [e1, show zGo T W = zNx T W from if_pos h51, jV4]
                  rfl
                obtain ⟨ujr1, ujr2⟩ := jL.2.2.2.2.2.2 h51
                have hRK : skR J4.1 b W := skR_D ujr1 (rW3 jL.1 hB ujr1) (fun a j a0 a1 => rB_sk zB4 hB a0 a1)
                refine hq _ ⟨y5.1, y5.2.1, ttFr_tr jL.2.2.1 y5.2.2 (fun _ => rfl) (by decide), by rw [e2]; exact cc5, by rw [e2]; exact zB4.2.2.2.2, skO_t jL.2.2.2.2.2.1 o_Y5, fun _ => ?_⟩
                rw [e2]
                refine ⟨?_, ?_⟩
                · rw [eD]
                  exact sr_one (S := W.1) (h := W.2.2) 6 0 (W.2.1 0 + 1) (by decide) (by decide) hRK (rW3 jL.1 hB ujr1) up_eq (fun k k0 => up_ne (by omega)) (fun a k a0 a1 => up_ne (by omega)) sUp_eq (fun k k0 => sUp_ne k0)
                · show Y5.1 3 8 = 32 * sUp W.2.1 0 (W.2.1 0 + 1) 16
                  rw [show sUp W.2.1 0 (W.2.1 0 + 1) 16 = W.2.1 16 from sUp_ne (by decide), ← ujr2]
                  exact (fr_cl y5.2.2 (a := 3) (j := 8) (by omega) (by decide))
            · replace h45 : (T.2.1 W.1.1) ≠ 3 := h45
              refine q_al (pc := 46) (i := 0) (x := 3) rfl rfl ?_
              refine q_ic (pc := 47) (v := 1) rfl ?_
              refine q_iv (pc := 48) (q := 600571) rfl rfl rfl (ttKc zJ.1 (a := 3) (κ := 7) (len := 0) ⟨rfl, rfl⟩ (by decide) (by decide)).1 ?_
              refine lb_fail (by decide) (by decide) (by omega) zJ (fun J6 zB6 => ?_)
              obtain ⟨V6, jV6⟩ : ∃ Y : tSa, Y = sEr T W.1 1 := ⟨_, rfl⟩
              replace zB6 : rB T J J6 V6 := by rw [jV6]; exact zB6
              refine q_al (pc := 49) (i := 0) (x := 3) rfl rfl ?_
              refine q_gf (pc := 50) (m := 7060) (t := 0) (c := 6) rfl (ttKc zB6.1 (a := 3) (κ := 7) (len := 0) ⟨rfl, rfl⟩ (by decide) (by decide)).1 rfl rfl ?_
              rw [show J6.1 3 6 = V6.2.1 from rB_f zB6]
              refine q_if (pc := 51) rfl (fun h51 => ?_) (fun h51 => ?_)
              · replace h51 : V6.2.1 ≠ 0 := h51
                refine q_rv (pc := 61) rfl ?_
                have e1 : (zE1 T W).1 = V6 := by
                  rw [jV6]
                  unfold zE1
                  by_cases z : W.1.2.1 = 0
                  · rw [if_pos ⟨z, h45⟩]; rfl
                  · rw [if_neg (fun y => z y.1), sEr_f z]
                have e2 : (zE1 T W).1 = V6 := e1
                have e3 : (zEd T W).1 = V6 := by
                  have u : zGo T (zE1 T W) = zE1 T W := if_neg (by rw [e2]; exact h51)
                  show (zGo T (zE1 T W)).1 = _
                  rw [u]; exact e2
                exact hq _ ⟨zB6.1, zB6.2.1, ttFr_tr jL.2.2.1 zB6.2.2.1 (fun _ => rfl) (by decide), by rw [e3]; exact zB6.2.2.2.1, by rw [e3]; exact zB6.2.2.2.2, skO_t jL.2.2.2.2.2.1 (skO_B zB6), fun y => absurd (by rw [← e3]; exact y) h51⟩
              · replace h51 : V6.2.1 = 0 := h51
                have e6w : J.1 b 6 = W.2.1 0 := absurd h51 (by rw [jV6]; exact sEr_k (by decide))
                refine q_al (pc := 52) (i := 0) (x := 3) rfl rfl ?_
                refine q_iv (pc := 53) (q := 608567) rfl rfl rfl (ttKc zB6.1 (a := 3) (κ := 7) (len := 0) ⟨rfl, rfl⟩ (by decide) (by decide)).1 ?_
                refine lb_go (by omega) zB6 (fun J7 zB7 => ?_)
                obtain ⟨V7, jV7⟩ : ∃ Y : tSa, Y = (sNx T V6.1, V6.2) := ⟨_, rfl⟩
                replace zB7 : rB T J J7 V7 := by rw [jV7]; exact zB7
                refine q_al (pc := 54) (i := 0) (x := 3) rfl rfl ?_
                refine q_gf (pc := 55) (m := 7092) (t := 2) (c := 9) rfl (ttKc zB7.1 (a := 3) (κ := 7) (len := 0) ⟨rfl, rfl⟩ (by decide) (by decide)).1 rfl rfl ?_
                rw [show J7.1 3 9 = b from (rB_9 zB7).trans ujj9]
                refine q_d2 (pc := 56) rfl ?_
                refine q_gf (pc := 57) (m := 10060) (t := 0) (c := 6) rfl (sk_kb zB7.1 hB).1 rfl rfl ?_
                rw [show J7.1 b 6 = (W.2.1 0) from (rB_sk zB7 hB (by omega) (by omega)).trans e6w]
                refine q_ic (pc := 58) (v := 1) rfl ?_
                refine q_ia (pc := 59) rfl (by omega) (by omega) ?_
                refine q_pf (pc := 60) (m := 10060) (c := 6) rfl (show xPt 0 0 _ _ from (sk_kb zB7.1 hB).1) rfl ?_
                have y8 := rB_put zB7.1 zB7.2.1 (rB_L zB7) (a := b) (j := 6) (x := ((W.2.1 0) + 1)) 7 (sk_rb hB) (by omega) (show ((-2147483648) : Int) ≤ ((W.2.1 0) + 1) ∧ ((W.2.1 0) + 1) ≤ 2147483647 from ⟨by omega, by omega⟩) ⟨(7, 4, 18), by decide, rfl, (show (4 : Int) ≤ 6 ∧ 6 ≤ 18 from ⟨by omega, by omega⟩)⟩ (by decide)
                obtain ⟨Y8, yk8⟩ : ∃ X : xH, X = (xUp J7.1 b 6 ((W.2.1 0) + 1), J7.2) := ⟨_, rfl⟩
                rw [← yk8] at y8 ⊢
                have cc8 : cT Y8 = T ∧ cS Y8 = V7 := by rw [yk8]; exact ⟨(cT_up (by omega)).trans zB7.2.2.2.1.1, (cS_up (by omega)).trans zB7.2.2.2.1.2⟩
                have tr_Y8_b_6 : Y8.1 b 6 = ((W.2.1 0) + 1) := by rw [yk8]; exact up_eq
                refine q_rv (pc := 61) rfl ?_
                have eD : Y8.1 = xUp (J7.1) b 6 ((W.2.1 0) + 1) := by rw [yk8]
                exact absurd h51 (by rw [jV6]; exact sEr_k (by decide))
          · replace h29 : (0 : Int) ≠ 0 := h29
            omega
    · replace h16 : (xAnd (xShr (32 * Z.2.1 16) c) 1) ≠ 0 := h16
      refine q_al (pc := 17) (i := 0) (x := 3) rfl rfl ?_
      refine q_ic (pc := 18) (v := 2) rfl ?_
      refine q_iv (pc := 19) (q := 600571) rfl rfl rfl (ttKc zB0.1 (a := 3) (κ := 7) (len := 0) ⟨rfl, rfl⟩ (by decide) (by decide)).1 ?_
      refine lb_fail (by decide) (by decide) (by omega) zB0 (fun J9 zB9 => ?_)
      obtain ⟨V9, jV9⟩ : ∃ Y : tSa, Y = sEr T Z.1 2 := ⟨_, rfl⟩
      replace zB9 : rB T H J9 V9 := by rw [jV9]; exact zB9
      refine q_go (pc := 20) rfl ?_
      refine q_rv (pc := 61) rfl ?_
      have eq : zLn T Z = zEr T 2 Z := (if_neg (fun z => z hK)).trans (if_pos (hT2.mpr h16))
      refine hq _ ⟨zB9.1, zB9.2.1, rB_M zB9, ?_, ?_, skO_B zB9, fun y => ?_⟩
      · rw [eq, show (zEr T 2 Z).1 = V9 from jV9.symm]; exact zB9.2.2.2.1
      · rw [eq, show (zEr T 2 Z).1 = V9 from jV9.symm]; exact zB9.2.2.2.2
      · rw [eq] at y; exact absurd y (sEr_k (by decide))
  · replace h5 : c = (-1) := h5
    refine q_al (pc := 6) (i := 0) (x := 3) rfl rfl ?_
    refine q_ic (pc := 7) (v := 1) rfl ?_
    refine q_iv (pc := 8) (q := 600571) rfl rfl rfl (ttKc zB0.1 (a := 3) (κ := 7) (len := 0) ⟨rfl, rfl⟩ (by decide) (by decide)).1 ?_
    refine lb_fail (by decide) (by decide) (by omega) zB0 (fun J10 zB10 => ?_)
    obtain ⟨V10, jV10⟩ : ∃ Y : tSa, Y = sEr T Z.1 1 := ⟨_, rfl⟩
    replace zB10 : rB T H J10 V10 := by rw [jV10]; exact zB10
    refine q_go (pc := 9) rfl ?_
    refine q_rv (pc := 61) rfl ?_
    omega
theorem rL_T {T : tSm} {b : Int} {H K J : xH} {Z : tZ} (hF : ttFr eM H K) (hO : skO b H K) (h : rL T b K J Z) : rL T b H J Z := ⟨h.1, h.2.1, ttFr_tr hF h.2.2.1 (fun _ => rfl) (by decide), h.2.2.2.1, h.2.2.2.2.1, skO_t hO h.2.2.2.2.2.1, h.2.2.2.2.2.2⟩
theorem lj_none {dd : Nat} (hd : 8 ≤ dd) {H : xH} {T : tSm} {n b : Int} (hb : b = 7 ∨ b = 34) (hO : sOk T n) {Z : tZ} (zB0 : rB T H H Z.1) (h9 : H.1 3 9 = b) (hW : skW H.1 b) (hR : skR H.1 b Z) (hw : zRw Z) (hg : Z.1.2.1 = 0) (hc : ∀ c : Int, 0 ≤ c → c ≤ 10 → sW T Z.1.1 (-2 - c) = false) {Q : Int → xH → Prop} (hq : ∀ J, rL T b H J (zLn T Z) → Q 0 J) : xCall dd 83 [(2, 3)] H Q := by
  obtain ⟨e, rfl, he⟩ := ttRun0 (n := 7) hd
  have he : 7 ≤ e := he
  have nn : ∀ s : Int, -12 ≤ s → s ≤ -2 → ¬ sI T Z s := fun s s0 s1 z => by
    have u := hc (-2 - s) (by omega) (by omega)
    rw [show -2 - (-2 - s) = s from by omega] at u
    exact absurd (u.symm.trans z.2) (by decide)
  have eo : oH T Z = -1 := (if_neg (nn (-7) (by decide) (by decide))).trans ((if_neg (nn (-8) (by decide) (by decide))).trans ((if_neg (nn (-9) (by decide) (by decide))).trans ((if_neg (nn (-10) (by decide) (by decide))).trans ((if_neg (nn (-11) (by decide) (by decide))).trans (if_neg (nn (-12) (by decide) (by decide)))))))
  have nk : ¬ zKn T Z := fun z => by
    rcases z eo with u | u | u | u | u
    · exact nn _ (by decide) (by decide) u
    · exact nn _ (by decide) (by decide) u
    · exact nn _ (by decide) (by decide) u
    · exact nn _ (by decide) (by decide) u
    · exact nn _ (by decide) (by decide) u
  have eq : zLn T Z = zEr T 1 Z := if_pos nk
  rw [eq] at hq
  have hB := skB_2 hb
  have hn := rB_n zB0
  refine xC_of (L := [(2, 3), (9, 0)]) (cd := cd_83) rfl rfl rfl ?_
  refine q_al (pc := 0) (i := 0) (x := 3) rfl rfl ?_
  refine q_iv (pc := 1) (q := 672564) rfl rfl rfl (ttKc zB0.1 (a := 3) (κ := 7) (len := 0) ⟨rfl, rfl⟩ (by decide) (by decide)).1 ?_
  refine lj_kind (by omega) hO zB0 (fun x hx => ?_)
  obtain rfl : x = -1 := by
    rcases hx with ⟨y, -⟩ | ⟨⟨y0, y1⟩, y⟩
    · exact y
    · exact absurd ((hc x y0 y1).symm.trans y) (by decide)
  refine q_is (pc := 2) (i := 1) (L' := [(2, 3), (0, (-1))]) rfl rfl rfl ?_
  refine q_il (pc := 3) (i := 1) (x := (-1)) rfl rfl ?_
  refine q_ic (pc := 4) (v := (-1)) rfl ?_
  refine q_i2 (pc := 5) rfl (fun h5 => ?_) (fun h5 => ?_)
  · replace h5 : (-1 : Int) ≠ (-1) := h5
    omega
  · replace h5 : (-1 : Int) = (-1) := h5
    refine q_al (pc := 6) (i := 0) (x := 3) rfl rfl ?_
    refine q_ic (pc := 7) (v := 1) rfl ?_
    refine q_iv (pc := 8) (q := 600571) rfl rfl rfl (ttKc zB0.1 (a := 3) (κ := 7) (len := 0) ⟨rfl, rfl⟩ (by decide) (by decide)).1 ?_
    refine lb_fail (by decide) (by decide) (by omega) zB0 (fun J1 zB1 => ?_)
    obtain ⟨V1, jV1⟩ : ∃ Y : tSa, Y = sEr T Z.1 1 := ⟨_, rfl⟩
    replace zB1 : rB T H J1 V1 := by rw [jV1]; exact zB1
    refine q_go (pc := 9) rfl ?_
    refine q_rv (pc := 61) rfl ?_
    refine hq _ ⟨zB1.1, zB1.2.1, rB_M zB1, ?_, ?_, skO_B zB1, fun y => ?_⟩
    · rw [show (zEr T 1 Z).1 = V1 from jV1.symm]; exact zB1.2.2.2.1
    · rw [show (zEr T 1 Z).1 = V1 from jV1.symm]; exact zB1.2.2.2.2
    · exact absurd y (sEr_k (by decide))
theorem lj_read {dd : Nat} (hd : 11 ≤ dd) {H : xH} {T : tSm} {n b : Int} (hb : b = 7 ∨ b = 34) (hO : sOk T n) {Z : tZ} (zB0 : rB T H H Z.1) (h9 : H.1 3 9 = b) (hW : skW H.1 b) (hR : skR H.1 b Z) (hw : zRw Z) (h8 : H.1 3 8 = 32 * Z.2.1 16) (hg : Z.1.2.1 = 0) {Q : Int → xH → Prop} (hq : ∀ J, rL T b H J (zLn T Z) → Q 0 J) : xCall dd 83 [(2, 3)] H Q := by
  by_cases hx : ∃ c : Int, (0 ≤ c ∧ c ≤ 10) ∧ sW T Z.1.1 (-2 - c) = true
  · obtain ⟨c, ⟨c0, c1⟩, hc⟩ := hx
    have w6 := hw.2.2.2.2.2
    have hB := skB_2 hb
    have bk : ∀ {K : xH}, rB T H K (zNx T Z).1 → (rB T K K (zNx T Z).1 ∧ K.1 3 9 = b ∧ skW K.1 b ∧ skR K.1 b (zNx T Z) ∧ zRw (zNx T Z) ∧ K.1 3 8 = 32 * Z.2.1 16) := fun {K} h => ⟨rB_rf h, (rB_9 h).trans h9, rB_W h hB hW, skR_D hR hw.2.2.2.1.2 (fun a j a0 a1 => rB_sk h hB a0 a1), hw, (rB_8 h).trans h8⟩
    obtain rfl | rfl | rfl | rfl | rfl | rfl | rfl | rfl | rfl | rfl | rfl : c = 0 ∨ c = 1 ∨ c = 2 ∨ c = 3 ∨ c = 4 ∨ c = 5 ∨ c = 6 ∨ c = 7 ∨ c = 8 ∨ c = 9 ∨ c = 10 := by omega
    · have z := zk_0 hg hc
      refine lj_line hd hb hO zB0 h9 hW hR hw h8 hg (c := 0) (by decide) (by decide) hc z.1.1 ⟨fun u => absurd z.1.2 u.1, fun u => absurd (tl_lo w6.1 w6.2 (c := 0) (by decide) (by decide)) u⟩ z.2.2 (by rw [z.2.1]; exact zPl_0) (fun nf K hK e he {Q2} hq2 => ?_) hq
      obtain ⟨k1, k2, k3, k4, k5, k6⟩ := bk hK
      rw [z.2.1] at hq2
      exact lr_0 he hb hO k1 k2 k3 k4 k5 (by have u1 : Z.2.1 1 ≠ 8 := fun u => nf (z.2.2.mpr (Or.inr (Or.inl ⟨rfl, u⟩))); have u2 := hw.2.1; show Z.2.1 1 ≤ 7; omega) (fun J jC => hq2 J (rL_C (rB_M hK) (rB_n k1) jC (skO_B hK) (by rw [zPl_16]; exact k6)))
    · have z := zk_1 hg hc
      refine lj_line hd hb hO zB0 h9 hW hR hw h8 hg (c := 1) (by decide) (by decide) hc z.1.1 ⟨fun u => absurd z.1.2 u.1, fun u => absurd (tl_lo w6.1 w6.2 (c := 1) (by decide) (by decide)) u⟩ z.2.2 (by rw [z.2.1]; exact zLe_0 (T := T) (Z := zNx T Z) hw.2.2.1.1) (fun nf K hK e he {Q2} hq2 => ?_) hq
      obtain ⟨k1, k2, k3, k4, k5, k6⟩ := bk hK
      rw [z.2.1] at hq2
      exact lr_1 he hb hO k1 k2 k3 k4 k5 (by have u1 : Z.2.1 2 ≠ 10 := fun u => nf (z.2.2.mpr (Or.inr (Or.inr (Or.inl ⟨rfl, u⟩)))); have u2 := hw.2.2.1; show Z.2.1 2 ≤ 9; omega) (fun J jC => hq2 J (rL_C (rB_M hK) (rB_n k1) jC (skO_B hK) (by rw [zLe_16 (T := T) (Z := zNx T Z) hw.2.2.1.1]; exact k6)))
    · have z := zk_2 hg hc
      refine lj_line hd hb hO zB0 h9 hW hR hw h8 hg (c := 2) (by decide) (by decide) hc z.1.1 ⟨fun u => absurd z.1.2 u.1, fun u => absurd (tl_lo w6.1 w6.2 (c := 2) (by decide) (by decide)) u⟩ z.2.2 (by rw [z.2.1]; exact zLi_0) (fun nf K hK e he {Q2} hq2 => ?_) hq
      obtain ⟨k1, k2, k3, k4, k5, k6⟩ := bk hK
      rw [z.2.1] at hq2
      exact lr_2 he hb hO k1 k2 k3 k4 k5 (fun J jC => hq2 J (rL_C (rB_M hK) (rB_n k1) jC (skO_B hK) (by rw [zLi_16]; exact k6)))
    · have z := zk_3 hg hc
      refine lj_line hd hb hO zB0 h9 hW hR hw h8 hg (c := 3) (by decide) (by decide) hc z.1.1 ⟨fun u => absurd z.1.2 u.1, fun u => absurd (tl_lo w6.1 w6.2 (c := 3) (by decide) (by decide)) u⟩ z.2.2 (by rw [z.2.1]; exact zSp_0 (T := T) (Z := zNx T Z) hw.2.2.2.1.1) (fun nf K hK e he {Q2} hq2 => ?_) hq
      obtain ⟨k1, k2, k3, k4, k5, k6⟩ := bk hK
      rw [z.2.1] at hq2
      exact lr_3 he hb hO k1 k2 k3 k4 k5 (by have u1 : Z.2.1 3 ≠ 6 := fun u => nf (z.2.2.mpr (Or.inr (Or.inr (Or.inr (Or.inl ⟨rfl, u⟩))))); have u2 := hw.2.2.2.1; show Z.2.1 3 ≤ 5; omega) (fun J jC => hq2 J (rL_C (rB_M hK) (rB_n k1) jC (skO_B hK) (by rw [zSp_16 (T := T) (Z := zNx T Z) hw.2.2.2.1.1]; exact k6)))
    · have z := zk_4 hg hc
      refine lj_line hd hb hO zB0 h9 hW hR hw h8 hg (c := 4) (by decide) (by decide) hc z.1.1 ⟨fun u => absurd z.1.2 u.1, fun u => absurd (tl_lo w6.1 w6.2 (c := 4) (by decide) (by decide)) u⟩ z.2.2 (by rw [z.2.1]; exact zPo_0) (fun nf K hK e he {Q2} hq2 => ?_) hq
      obtain ⟨k1, k2, k3, k4, k5, k6⟩ := bk hK
      rw [z.2.1] at hq2
      exact lr_4 he hb hO k1 k2 k3 k4 k5 (fun J jC => hq2 J (rL_C (rB_M hK) (rB_n k1) jC (skO_B hK) (by rw [zPo_16]; exact k6)))
    · have z := zk_5 hg hc
      refine lj_line hd hb hO zB0 h9 hW hR hw h8 hg (c := 5) (by decide) (by decide) hc z.1.1 ?_ z.2.2 (by rw [z.2.1]; exact zOn_0 (by decide)) (fun nf K hK e he {Q2} hq2 => ?_) hq
      · have t1 := tl_hi w6.1 w6.2 (k := 0) (by decide) (by decide)
        have t2 := tl_b w6.1 w6.2 (k := 0) (by decide) (by decide)
        rw [show xAnd (xShr (32 * Z.2.1 16) 5) 1 = yyHb (Z.2.1 16) 0 from t1]
        unfold zTw
        rw [z.1.2]
        exact ⟨fun u => by rw [u.2]; decide, fun u => ⟨by decide, by omega⟩⟩
      · obtain ⟨k1, k2, k3, k4, k5, k6⟩ := bk hK
        rw [z.2.1] at hq2
        exact lr_5 he hb hO k1 k2 k3 k4 k5 k6 (fun J jC => hq2 J (rL_T (rB_M hK) (skO_B hK) jC))
    · have z := zk_6 hg hc
      refine lj_line hd hb hO zB0 h9 hW hR hw h8 hg (c := 6) (by decide) (by decide) hc z.1.1 ?_ z.2.2 (by rw [z.2.1]; exact zOn_0 (by decide)) (fun nf K hK e he {Q2} hq2 => ?_) hq
      · have t1 := tl_hi w6.1 w6.2 (k := 1) (by decide) (by decide)
        have t2 := tl_b w6.1 w6.2 (k := 1) (by decide) (by decide)
        rw [show xAnd (xShr (32 * Z.2.1 16) 6) 1 = yyHb (Z.2.1 16) 1 from t1]
        unfold zTw
        rw [z.1.2]
        exact ⟨fun u => by rw [u.2]; decide, fun u => ⟨by decide, by omega⟩⟩
      · obtain ⟨k1, k2, k3, k4, k5, k6⟩ := bk hK
        rw [z.2.1] at hq2
        exact lr_6 he hb hO k1 k2 k3 k4 k5 k6 (fun J jC => hq2 J (rL_T (rB_M hK) (skO_B hK) jC))
    · have z := zk_7 hg hc
      refine lj_line hd hb hO zB0 h9 hW hR hw h8 hg (c := 7) (by decide) (by decide) hc z.1.1 ?_ z.2.2 (by rw [z.2.1]; exact zOn_0 (by decide)) (fun nf K hK e he {Q2} hq2 => ?_) hq
      · have t1 := tl_hi w6.1 w6.2 (k := 2) (by decide) (by decide)
        have t2 := tl_b w6.1 w6.2 (k := 2) (by decide) (by decide)
        rw [show xAnd (xShr (32 * Z.2.1 16) 7) 1 = yyHb (Z.2.1 16) 2 from t1]
        unfold zTw
        rw [z.1.2]
        exact ⟨fun u => by rw [u.2]; decide, fun u => ⟨by decide, by omega⟩⟩
      · obtain ⟨k1, k2, k3, k4, k5, k6⟩ := bk hK
        rw [z.2.1] at hq2
        exact lr_7 he hb hO k1 k2 k3 k4 k5 k6 (fun J jC => hq2 J (rL_T (rB_M hK) (skO_B hK) jC))
    · have z := zk_8 hg hc
      refine lj_line hd hb hO zB0 h9 hW hR hw h8 hg (c := 8) (by decide) (by decide) hc z.1.1 ?_ z.2.2 (by rw [z.2.1]; exact zOn_0 (by decide)) (fun nf K hK e he {Q2} hq2 => ?_) hq
      · have t1 := tl_hi w6.1 w6.2 (k := 3) (by decide) (by decide)
        have t2 := tl_b w6.1 w6.2 (k := 3) (by decide) (by decide)
        rw [show xAnd (xShr (32 * Z.2.1 16) 8) 1 = yyHb (Z.2.1 16) 3 from t1]
        unfold zTw
        rw [z.1.2]
        exact ⟨fun u => by rw [u.2]; decide, fun u => ⟨by decide, by omega⟩⟩
      · obtain ⟨k1, k2, k3, k4, k5, k6⟩ := bk hK
        rw [z.2.1] at hq2
        exact lr_8 he hb hO k1 k2 k3 k4 k5 k6 (fun J jC => hq2 J (rL_T (rB_M hK) (skO_B hK) jC))
    · have z := zk_9 hg hc
      refine lj_line hd hb hO zB0 h9 hW hR hw h8 hg (c := 9) (by decide) (by decide) hc z.1.1 ?_ z.2.2 (by rw [z.2.1]; exact zOn_0 (by decide)) (fun nf K hK e he {Q2} hq2 => ?_) hq
      · have t1 := tl_hi w6.1 w6.2 (k := 4) (by decide) (by decide)
        have t2 := tl_b w6.1 w6.2 (k := 4) (by decide) (by decide)
        rw [show xAnd (xShr (32 * Z.2.1 16) 9) 1 = yyHb (Z.2.1 16) 4 from t1]
        unfold zTw
        rw [z.1.2]
        exact ⟨fun u => by rw [u.2]; decide, fun u => ⟨by decide, by omega⟩⟩
      · obtain ⟨k1, k2, k3, k4, k5, k6⟩ := bk hK
        rw [z.2.1] at hq2
        exact lr_9 he hb hO k1 k2 k3 k4 k5 k6 (fun J jC => hq2 J (rL_T (rB_M hK) (skO_B hK) jC))
    · have z := zk_10 hg hc
      refine lj_line hd hb hO zB0 h9 hW hR hw h8 hg (c := 10) (by decide) (by decide) hc z.1.1 ?_ z.2.2 (by rw [z.2.1]; exact zOn_0 (by decide)) (fun nf K hK e he {Q2} hq2 => ?_) hq
      · have t1 := tl_hi w6.1 w6.2 (k := 5) (by decide) (by decide)
        have t2 := tl_b w6.1 w6.2 (k := 5) (by decide) (by decide)
        rw [show xAnd (xShr (32 * Z.2.1 16) 10) 1 = yyHb (Z.2.1 16) 5 from t1]
        unfold zTw
        rw [z.1.2]
        exact ⟨fun u => by rw [u.2]; decide, fun u => ⟨by decide, by omega⟩⟩
      · obtain ⟨k1, k2, k3, k4, k5, k6⟩ := bk hK
        rw [z.2.1] at hq2
        exact lr_10 he hb hO k1 k2 k3 k4 k5 k6 (fun J jC => hq2 J (rL_T (rB_M hK) (skO_B hK) jC))
  · refine lj_none (by omega) hb hO zB0 h9 hW hR hw hg (fun c c0 c1 => ?_) hq
    cases e : sW T Z.1.1 (-2 - c) with
    | false => rfl
    | true => exact absurd ⟨c, ⟨c0, c1⟩, e⟩ hx
