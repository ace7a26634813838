/-! the first reader's lines: lift, speed, worth, start -/
theorem fld_pl {K : xH} (hT : ttTI K) {b p : Int} (hB : skB b) (p0 : 0 ≤ p) (p1 : p ≤ 7) : 0 ≤ K.1 (b + 9 + p) 2 ∧ K.1 (b + 9 + p) 2 ≤ 1 := by
  have bi := skB_in hB
  have w := ttMc hT (a := b + 9 + p) (j := 2) (by omega) (by omega) (by decide) (by rw [sk_rp hB p0 p1]; decide)
  rw [sk_rp hB p0 p1] at w
  exact w
theorem ls_bits {dd : Nat} (hd : 1 ≤ dd) {K : xH} (hT : ttTI K) {b N : Int} (hB : skB b) (hW : skW K.1 b) (eN : K.1 b 4 = N) (n0 : 0 ≤ N) (n8 : N ≤ 8) {Q : Int → xH → Prop} (hq : ∀ r : Int, 0 ≤ r → r ≤ 255 → (∀ w : Int, 0 ≤ w → w ≤ N - 1 → (sBa r w ↔ K.1 (b + 9 + w) 2 = 1)) → Q r K) : xCall dd 122 [(2, b)] K Q := by
  obtain ⟨e, rfl, he⟩ := ttRun0 (n := 0) hd
  have hi := skB_in hB
  have hl : ∀ n : Nat, ∀ r i : Int, 0 ≤ i → i ≤ N → N - i ≤ (n : Int) → 0 ≤ r → r ≤ 255 → (∀ w : Int, 0 ≤ w → w ≤ 7 → (sBa r w ↔ w < i ∧ K.1 (b + 9 + w) 2 = 1)) → xW e cd_122 Q (4, [(2, b), (0, r), (0, i)], [], K) := by
    intro n
    induction n with
    | zero => 
      intro r i i0 i1 hk ujr0 ujr1 hh
      refine q_il (pc := 4) (i := 2) (x := i) rfl rfl ?_
      refine q_al (pc := 5) (i := 0) (x := b) rfl rfl ?_
      refine q_gf (pc := 6) (m := 10040) (t := 0) (c := 4) rfl (sk_kb hT hB).1 rfl rfl ?_
      rw [eN]
      refine q_i2 (pc := 7) rfl (fun h7 => ?_) (fun h7 => ?_)
      · replace h7 : N ≤ i := h7
        refine q_il (pc := 22) (i := 1) (x := r) rfl rfl ?_
        refine q_ri (pc := 23) rfl ?_
        exact hq r ujr0 ujr1 (fun w w0 w1 => (hh w w0 (by omega)).trans ⟨fun y => y.2, fun y => ⟨by omega, y⟩⟩)
      · replace h7 : i < N := h7
        refine q_al (pc := 8) (i := 0) (x := b) rfl rfl ?_
        refine q_gf (pc := 9) (m := 10002) (t := 2) (c := 0) rfl (sk_kb hT hB).1 rfl rfl ?_
        rw [hW.1.1]
        refine q_il (pc := 10) (i := 2) (x := i) rfl rfl ?_
        refine q_aa (pc := 11) rfl (by rw [(sk_kx hT hB (o := 1) (by decide) (by decide) (κ := 25) (len := 8) ⟨rfl, rfl⟩).1]; decide) (by omega) (by rw [(sk_kx hT hB (o := 1) (by decide) (by decide) (κ := 25) (len := 8) ⟨rfl, rfl⟩).2]; omega) ?_
        rw [hW.2.1 i (by omega) (by omega)]
        refine q_gf (pc := 12) (m := 4020) (t := 0) (c := 2) rfl (sk_kp hT hB (by omega) (by omega)).1 rfl rfl ?_
        refine q_if (pc := 13) rfl (fun h13 => ?_) (fun h13 => ?_)
        · replace h13 : (K.1 (b + 9 + i) 2) = 0 := h13
          refine q_ii (pc := 20) (i := 2) (c := 1) (x := i) (L' := [(2, b), (0, r), (0, (i + 1))]) rfl rfl rfl (by omega) (by omega) rfl ?_
          refine q_go (pc := 21) rfl ?_
          omega
        · replace h13 : (K.1 (b + 9 + i) 2) ≠ 0 := h13
          refine q_il (pc := 14) (i := 1) (x := r) rfl rfl ?_
          refine q_ic (pc := 15) (v := 1) rfl ?_
          refine q_il (pc := 16) (i := 2) (x := i) rfl rfl ?_
          refine q_sl (pc := 17) rfl ?_
          refine q_or (pc := 18) rfl ?_
          refine q_is (pc := 19) (i := 1) (L' := [(2, b), (0, (xOr r (xShl 1 i))), (0, i)]) rfl rfl rfl ?_
          refine q_ii (pc := 20) (i := 2) (c := 1) (x := i) (L' := [(2, b), (0, (xOr r (xShl 1 i))), (0, (i + 1))]) rfl rfl rfl (by omega) (by omega) rfl ?_
          refine q_go (pc := 21) rfl ?_
          omega
    | succ n ih => 
      intro r i i0 i1 hk ujr0 ujr1 hh
      refine q_il (pc := 4) (i := 2) (x := i) rfl rfl ?_
      refine q_al (pc := 5) (i := 0) (x := b) rfl rfl ?_
      refine q_gf (pc := 6) (m := 10040) (t := 0) (c := 4) rfl (sk_kb hT hB).1 rfl rfl ?_
      rw [eN]
      refine q_i2 (pc := 7) rfl (fun h7 => ?_) (fun h7 => ?_)
      · replace h7 : N ≤ i := h7
        refine q_il (pc := 22) (i := 1) (x := r) rfl rfl ?_
        refine q_ri (pc := 23) rfl ?_
        exact hq r ujr0 ujr1 (fun w w0 w1 => (hh w w0 (by omega)).trans ⟨fun y => y.2, fun y => ⟨by omega, y⟩⟩)
      · replace h7 : i < N := h7
        refine q_al (pc := 8) (i := 0) (x := b) rfl rfl ?_
        refine q_gf (pc := 9) (m := 10002) (t := 2) (c := 0) rfl (sk_kb hT hB).1 rfl rfl ?_
        rw [hW.1.1]
        refine q_il (pc := 10) (i := 2) (x := i) rfl rfl ?_
        refine q_aa (pc := 11) rfl (by rw [(sk_kx hT hB (o := 1) (by decide) (by decide) (κ := 25) (len := 8) ⟨rfl, rfl⟩).1]; decide) (by omega) (by rw [(sk_kx hT hB (o := 1) (by decide) (by decide) (κ := 25) (len := 8) ⟨rfl, rfl⟩).2]; omega) ?_
        rw [hW.2.1 i (by omega) (by omega)]
        refine q_gf (pc := 12) (m := 4020) (t := 0) (c := 2) rfl (sk_kp hT hB (by omega) (by omega)).1 rfl rfl ?_
        refine q_if (pc := 13) rfl (fun h13 => ?_) (fun h13 => ?_)
        · replace h13 : (K.1 (b + 9 + i) 2) = 0 := h13
          refine q_ii (pc := 20) (i := 2) (c := 1) (x := i) (L' := [(2, b), (0, r), (0, (i + 1))]) rfl rfl rfl (by omega) (by omega) rfl ?_
          refine q_go (pc := 21) rfl ?_
          refine ih _ _ (by omega) (by omega) (by omega) ujr0 ujr1 (fun w w0 w1 => ?_)
          rw [hh w w0 w1]
          constructor
          · exact fun y => ⟨by omega, y.2⟩
          · intro y
            have ne : w ≠ i := fun z => by rw [z, h13] at y; exact absurd y.2 (by decide)
            exact ⟨by omega, y.2⟩
        · replace h13 : (K.1 (b + 9 + i) 2) ≠ 0 := h13
          refine q_il (pc := 14) (i := 1) (x := r) rfl rfl ?_
          refine q_ic (pc := 15) (v := 1) rfl ?_
          refine q_il (pc := 16) (i := 2) (x := i) rfl rfl ?_
          refine q_sl (pc := 17) rfl ?_
          refine q_or (pc := 18) rfl ?_
          refine q_is (pc := 19) (i := 1) (L' := [(2, b), (0, (xOr r (xShl 1 i))), (0, i)]) rfl rfl rfl ?_
          refine q_ii (pc := 20) (i := 2) (c := 1) (x := i) (L' := [(2, b), (0, (xOr r (xShl 1 i))), (0, (i + 1))]) rfl rfl rfl (by omega) (by omega) rfl ?_
          refine q_go (pc := 21) rfl ?_
          have o2 := pt_or2 ujr0 ujr1 (p := i) i0 (by omega)
          refine ih _ _ (by omega) (by omega) (by omega) o2.1 o2.2.1 (fun w w0 w1 => ?_)
          rw [sBa_2 ujr0 ujr1 i0 (by omega) w0 w1, hh w w0 w1]
          have fl := fld_pl hT hB (p := i) i0 (by omega)
          constructor
          · rintro (y | y)
            · exact ⟨by omega, y.2⟩
            · rw [y]; exact ⟨by omega, by omega⟩
          · intro y
            by_cases z : w = i
            · exact Or.inr z
            · exact Or.inl ⟨by omega, y.2⟩
  refine xC_of (L := [(2, b), (9, 0), (9, 0)]) (cd := cd_122) rfl rfl rfl ?_
  refine q_ic (pc := 0) (v := 0) rfl ?_
  refine q_is (pc := 1) (i := 1) (L' := [(2, b), (0, 0), (9, 0)]) rfl rfl rfl ?_
  refine q_ic (pc := 2) (v := 0) rfl ?_
  refine q_is (pc := 3) (i := 2) (L' := [(2, b), (0, 0), (0, 0)]) rfl rfl rfl ?_
  exact hl 8 0 0 (by decide) n0 (by omega) (by decide) (by decide) (fun w w0 w1 => ⟨fun y => absurd y (sBa_0 w0 w1), fun y => absurd y.1 (by omega)⟩)
theorem ls_has {dd : Nat} (hd : 1 ≤ dd) {K : xH} (hT : ttTI K) {b N p : Int} (hB : skB b) (eN : K.1 b 4 = N) {Q : Int → xH → Prop} (hy : 0 ≤ p ∧ p < N → Q 1 K) (hn : ¬ (0 ≤ p ∧ p < N) → Q 0 K) : xCall dd 113 [(2, b), (0, p)] K Q := by
  obtain ⟨e, rfl, he⟩ := ttRun0 (n := 0) hd
  refine xC_of (L := [(2, b), (0, p)]) (cd := cd_113) rfl rfl rfl ?_
  refine q_il (pc := 0) (i := 1) (x := p) rfl rfl ?_
  refine q_if (pc := 1) rfl (fun h1 => ?_) (fun h1 => ?_)
  · replace h1 : p < 0 := h1
    refine q_ic (pc := 8) (v := 0) rfl ?_
    refine q_rz (pc := 9) rfl (by omega) ?_
    exact hn (fun z => by omega)
  · replace h1 : 0 ≤ p := h1
    refine q_il (pc := 2) (i := 1) (x := p) rfl rfl ?_
    refine q_al (pc := 3) (i := 0) (x := b) rfl rfl ?_
    refine q_gf (pc := 4) (m := 10040) (t := 0) (c := 4) rfl (sk_kb hT hB).1 rfl rfl ?_
    rw [eN]
    refine q_i2 (pc := 5) rfl (fun h5 => ?_) (fun h5 => ?_)
    · replace h5 : N ≤ p := h5
      refine q_ic (pc := 8) (v := 0) rfl ?_
      refine q_rz (pc := 9) rfl (by omega) ?_
      exact hn (fun z => by omega)
    · replace h5 : p < N := h5
      refine q_ic (pc := 6) (v := 1) rfl ?_
      refine q_go (pc := 7) rfl ?_
      refine q_rz (pc := 9) rfl (by omega) ?_
      exact hy ⟨by omega, by omega⟩
theorem ff_40 {e : Nat} (he : 7 ≤ e) {H : xH} {T : tSm} {n b : Int} (hb : b = 7 ∨ b = 34) (hO : sOk T n) {Z : tZ} (zB0 : rB T H H Z.1) (h9 : H.1 3 9 = b) (hW : skW H.1 b) (hR : skR H.1 b Z) (hw : zRw Z) {K : xH} {S : tSa} (zB1 : rB T H K S) {x1 x2 x3 x4 x5 : Int} (b1 : S.2.1 = 0 → 0 ≤ x1 ∧ x1 < Z.2.1 1) (b2 : 0 ≤ x2 ∧ x2 ≤ 2000) (b3 : 0 ≤ x3 ∧ x3 ≤ 2000) (b4 : 0 ≤ x4 ∧ x4 ≤ 2000) (b5 : 0 ≤ x5 ∧ x5 ≤ 2000) {Q : Int → xH → Prop} (hf : S.2.1 ≠ 0 → Q 0 K) (ho : S.2.1 = 0 → ∀ J, ttTI J → ttXX YY J → ttFr eL H J → skO b H J → cT J = T ∧ cS J = S → (∀ R1 : Int → Int, (R1 (20 + 8 * x1 + 3) = 1 ∧ R1 (20 + 8 * x1 + 4) = x2 ∧ R1 (20 + 8 * x1 + 5) = x3 ∧ R1 (20 + 8 * x1 + 6) = x4 ∧ R1 (20 + 8 * x1 + 7) = x5) → (∀ i : Int, (i < 20 + 8 * x1 + 3 ∨ 20 + 8 * x1 + 7 < i) → R1 i = Z.2.1 i) → skR J.1 b (S, R1, Z.2.2)) → Q 0 J) : xW e cd_89 Q (40, [(2, 3), (0, x1), (0, x2), (0, x3), (0, x4), (0, x5), (9, 0)], [], K) := by
  have hB := skB_2 hb
  have hi := skB_in hB
  have hn := rB_n zB0
  have m0 := hw.2.1
  obtain ⟨N, jN⟩ : ∃ N, N = Z.2.1 1 := ⟨_, rfl⟩
  have eN : H.1 b 4 = N := (skA_i hR.1 (j := 4) (i := 1) (by decide)).trans jN.symm
  rw [← jN] at m0 b1
  have hRK : skR K.1 b Z := skR_D hR hw.2.2.2.1.2 (fun a j a0 a1 => rB_sk zB1 hB a0 a1)
  refine q_al (pc := 40) (i := 0) (x := 3) rfl rfl ?_
  refine q_gf (pc := 41) (m := 7060) (t := 0) (c := 6) rfl (ttKc zB1.1 (a := 3) (κ := 7) (len := 0) ⟨rfl, rfl⟩ (by decide) (by decide)).1 rfl rfl ?_
  rw [show K.1 3 6 = S.2.1 from rB_f zB1]
  refine q_if (pc := 42) rfl (fun h42 => ?_) (fun h42 => ?_)
  · replace h42 : S.2.1 ≠ 0 := h42
    refine q_rv (pc := 69) rfl ?_
    exact hf h42
  · replace h42 : S.2.1 = 0 := h42
    refine q_al (pc := 43) (i := 0) (x := 3) rfl rfl ?_
    refine q_gf (pc := 44) (m := 7092) (t := 2) (c := 9) rfl (ttKc zB1.1 (a := 3) (κ := 7) (len := 0) ⟨rfl, rfl⟩ (by decide) (by decide)).1 rfl rfl ?_
    rw [show K.1 3 9 = b from (rB_9 zB1).trans h9]
    refine q_il (pc := 45) (i := 1) (x := x1) rfl rfl ?_
    refine q_iv (pc := 46) (q := 904808) rfl rfl rfl (sk_kb zB1.1 hB).1 ?_
    refine ls_has (by omega) zB1.1 hB ((rB_sk zB1 hB (by omega) (by omega)).trans eN) (fun hp => ?_) (fun hp => ?_)
    · skip
      refine q_if (pc := 47) rfl (fun h47 => ?_) (fun h47 => ?_)
      · replace h47 : (1 : Int) = 0 := h47
        omega
      · replace h47 : (1 : Int) ≠ 0 := h47
        refine q_al (pc := 48) (i := 0) (x := 3) rfl rfl ?_
        refine q_gf (pc := 49) (m := 7092) (t := 2) (c := 9) rfl (ttKc zB1.1 (a := 3) (κ := 7) (len := 0) ⟨rfl, rfl⟩ (by decide) (by decide)).1 rfl rfl ?_
        rw [show K.1 3 9 = b from (rB_9 zB1).trans h9]
        refine q_gf (pc := 50) (m := 10002) (t := 2) (c := 0) rfl (sk_kb zB1.1 hB).1 rfl rfl ?_
        rw [show K.1 b 0 = (b + 1) from (rB_W zB1 hB hW).1.1]
        refine q_il (pc := 51) (i := 1) (x := x1) rfl rfl ?_
        refine q_aa (pc := 52) rfl (by rw [(sk_kx zB1.1 hB (o := 1) (by decide) (by decide) (κ := 25) (len := 8) ⟨rfl, rfl⟩).1]; decide) (by omega) (by rw [(sk_kx zB1.1 hB (o := 1) (by decide) (by decide) (κ := 25) (len := 8) ⟨rfl, rfl⟩).2]; omega) ?_
        rw [show K.1 (b + 1) x1 = (b + 9 + x1) from (rB_W zB1 hB hW).2.1 _ (by omega) (by omega)]
        refine q_as (pc := 53) (i := 6) (L' := [(2, 3), (0, x1), (0, x2), (0, x3), (0, x4), (0, x5), (2, (b + 9 + x1))]) rfl rfl rfl (by omega) ?_
        refine q_al (pc := 54) (i := 6) (x := (b + 9 + x1)) rfl rfl ?_
        refine q_ic (pc := 55) (v := 1) rfl ?_
        refine q_pf (pc := 56) (m := 4023) (c := 2) rfl (show xPt 3 0 _ _ from ⟨(sk_kp zB1.1 hB (by omega) (by omega)).1, by omega⟩) rfl ?_
        have y2 := rB_put zB1.1 zB1.2.1 (rB_L zB1) (a := (b + 9 + x1)) (j := 2) (x := 1) 16 (sk_rp hB (by omega) (by omega)) (by omega) (show (0 : Int) ≤ 1 ∧ 1 ≤ 1 from ⟨by omega, by omega⟩) ⟨(16, 0, 6), by decide, rfl, (show (0 : Int) ≤ 2 ∧ 2 ≤ 6 from ⟨by omega, by omega⟩)⟩ (by decide)
        obtain ⟨Y2, yk2⟩ : ∃ X : xH, X = (xUp K.1 (b + 9 + x1) 2 1, K.2) := ⟨_, rfl⟩
        rw [← yk2] at y2 ⊢
        have o_Y2 : skO b H Y2 := skO_u (by first | assumption | exact skO_B (by assumption) | exact skO_t2 (by assumption) (by assumption)) (skB_2 hb) (by omega) yk2
        have cc2 : cT Y2 = T ∧ cS Y2 = S := by rw [yk2]; exact ⟨(cT_up (by omega)).trans zB1.2.2.2.1.1, (cS_up (by omega)).trans zB1.2.2.2.1.2⟩
        refine q_al (pc := 57) (i := 6) (x := (b + 9 + x1)) rfl rfl ?_
        refine q_il (pc := 58) (i := 2) (x := x2) rfl rfl ?_
        refine q_pf (pc := 59) (m := 4030) (c := 3) rfl (show xPt 0 0 _ _ from (sk_kp y2.1 hB (by omega) (by omega)).1) rfl ?_
        have y3 := rB_put y2.1 y2.2.1 y2.2.2 (a := (b + 9 + x1)) (j := 3) (x := x2) 16 (sk_rp hB (by omega) (by omega)) (by omega) (show ((-2147483648) : Int) ≤ x2 ∧ x2 ≤ 2147483647 from ⟨by omega, by omega⟩) ⟨(16, 0, 6), by decide, rfl, (show (0 : Int) ≤ 3 ∧ 3 ≤ 6 from ⟨by omega, by omega⟩)⟩ (by decide)
        obtain ⟨Y3, yk3⟩ : ∃ X : xH, X = (xUp Y2.1 (b + 9 + x1) 3 x2, Y2.2) := ⟨_, rfl⟩
        rw [← yk3] at y3 ⊢
        have o_Y3 : skO b H Y3 := skO_u (by first | assumption | exact skO_B (by assumption) | exact skO_t2 (by assumption) (by assumption)) (skB_2 hb) (by omega) yk3
        have cc3 : cT Y3 = T ∧ cS Y3 = S := by rw [yk3]; exact ⟨(cT_up (by omega)).trans cc2.1, (cS_up (by omega)).trans cc2.2⟩
        refine q_al (pc := 60) (i := 6) (x := (b + 9 + x1)) rfl rfl ?_
        refine q_il (pc := 61) (i := 3) (x := x3) rfl rfl ?_
        refine q_pf (pc := 62) (m := 4040) (c := 4) rfl (show xPt 0 0 _ _ from (sk_kp y3.1 hB (by omega) (by omega)).1) rfl ?_
        have y4 := rB_put y3.1 y3.2.1 y3.2.2 (a := (b + 9 + x1)) (j := 4) (x := x3) 16 (sk_rp hB (by omega) (by omega)) (by omega) (show ((-2147483648) : Int) ≤ x3 ∧ x3 ≤ 2147483647 from ⟨by omega, by omega⟩) ⟨(16, 0, 6), by decide, rfl, (show (0 : Int) ≤ 4 ∧ 4 ≤ 6 from ⟨by omega, by omega⟩)⟩ (by decide)
        obtain ⟨Y4, yk4⟩ : ∃ X : xH, X = (xUp Y3.1 (b + 9 + x1) 4 x3, Y3.2) := ⟨_, rfl⟩
        rw [← yk4] at y4 ⊢
        have o_Y4 : skO b H Y4 := skO_u (by first | assumption | exact skO_B (by assumption) | exact skO_t2 (by assumption) (by assumption)) (skB_2 hb) (by omega) yk4
        have cc4 : cT Y4 = T ∧ cS Y4 = S := by rw [yk4]; exact ⟨(cT_up (by omega)).trans cc3.1, (cS_up (by omega)).trans cc3.2⟩
        refine q_al (pc := 63) (i := 6) (x := (b + 9 + x1)) rfl rfl ?_
        refine q_il (pc := 64) (i := 4) (x := x4) rfl rfl ?_
        refine q_pf (pc := 65) (m := 4050) (c := 5) rfl (show xPt 0 0 _ _ from (sk_kp y4.1 hB (by omega) (by omega)).1) rfl ?_
        have y5 := rB_put y4.1 y4.2.1 y4.2.2 (a := (b + 9 + x1)) (j := 5) (x := x4) 16 (sk_rp hB (by omega) (by omega)) (by omega) (show ((-2147483648) : Int) ≤ x4 ∧ x4 ≤ 2147483647 from ⟨by omega, by omega⟩) ⟨(16, 0, 6), by decide, rfl, (show (0 : Int) ≤ 5 ∧ 5 ≤ 6 from ⟨by omega, by omega⟩)⟩ (by decide)
        obtain ⟨Y5, yk5⟩ : ∃ X : xH, X = (xUp Y4.1 (b + 9 + x1) 5 x4, Y4.2) := ⟨_, rfl⟩
        rw [← yk5] at y5 ⊢
        have o_Y5 : skO b H Y5 := skO_u (by first | assumption | exact skO_B (by assumption) | exact skO_t2 (by assumption) (by assumption)) (skB_2 hb) (by omega) yk5
        have cc5 : cT Y5 = T ∧ cS Y5 = S := by rw [yk5]; exact ⟨(cT_up (by omega)).trans cc4.1, (cS_up (by omega)).trans cc4.2⟩
        refine q_al (pc := 66) (i := 6) (x := (b + 9 + x1)) rfl rfl ?_
        refine q_il (pc := 67) (i := 5) (x := x5) rfl rfl ?_
        refine q_pf (pc := 68) (m := 4060) (c := 6) rfl (show xPt 0 0 _ _ from (sk_kp y5.1 hB (by omega) (by omega)).1) rfl ?_
        have y6 := rB_put y5.1 y5.2.1 y5.2.2 (a := (b + 9 + x1)) (j := 6) (x := x5) 16 (sk_rp hB (by omega) (by omega)) (by omega) (show ((-2147483648) : Int) ≤ x5 ∧ x5 ≤ 2147483647 from ⟨by omega, by omega⟩) ⟨(16, 0, 6), by decide, rfl, (show (0 : Int) ≤ 6 ∧ 6 ≤ 6 from ⟨by omega, by omega⟩)⟩ (by decide)
        obtain ⟨Y6, yk6⟩ : ∃ X : xH, X = (xUp Y5.1 (b + 9 + x1) 6 x5, Y5.2) := ⟨_, rfl⟩
        rw [← yk6] at y6 ⊢
        have o_Y6 : skO b H Y6 := skO_u (by first | assumption | exact skO_B (by assumption) | exact skO_t2 (by assumption) (by assumption)) (skB_2 hb) (by omega) yk6
        have cc6 : cT Y6 = T ∧ cS Y6 = S := by rw [yk6]; exact ⟨(cT_up (by omega)).trans cc5.1, (cS_up (by omega)).trans cc5.2⟩
        refine q_rv (pc := 69) rfl ?_
        have eD : Y6.1 = xUp (xUp (xUp (xUp (xUp (K.1) (b + 9 + x1) 2 1) (b + 9 + x1) 3 x2) (b + 9 + x1) 4 x3) (b + 9 + x1) 5 x4) (b + 9 + x1) 6 x5 := by rw [yk6, yk5, yk4, yk3, yk2]
        refine ho h42 _ y6.1 y6.2.1 y6.2.2 o_Y6 cc6 (fun R1 hr rN => ?_)
        rw [eD]
        exact sr_lift (S := Z.1) (h := Z.2.2) (p := x1) hRK hw.2.2.2.1.2 hp.1 (by omega) (fun j => (up_ne (by omega)).trans ((up_ne (by omega)).trans ((up_ne (by omega)).trans ((up_ne (by omega)).trans (up_ne (by omega)))))) (fun a j a0 a1 a2 => (up_ne (by omega)).trans ((up_ne (by omega)).trans ((up_ne (by omega)).trans ((up_ne (by omega)).trans (up_ne (by omega)))))) ⟨⟨(up_ne (by omega)).trans ((up_ne (by omega)).trans ((up_ne (by omega)).trans ((up_ne (by omega)).trans ((up_ne (by omega)))))), (up_ne (by omega)).trans ((up_ne (by omega)).trans ((up_ne (by omega)).trans ((up_ne (by omega)).trans ((up_ne (by omega))))))⟩, (up_ne (by omega)).trans ((up_ne (by omega)).trans ((up_ne (by omega)).trans ((up_ne (by omega)).trans (up_eq)))), (up_ne (by omega)).trans ((up_ne (by omega)).trans ((up_ne (by omega)).trans (up_eq))), (up_ne (by omega)).trans ((up_ne (by omega)).trans (up_eq)), (up_ne (by omega)).trans (up_eq), up_eq⟩ hr rN
    · skip
      refine q_if (pc := 47) rfl (fun h47 => ?_) (fun h47 => ?_)
      · replace h47 : (0 : Int) = 0 := h47
        refine q_rv (pc := 69) rfl ?_
        exact absurd (b1 h42) hp
      · replace h47 : (0 : Int) ≠ 0 := h47
        omega
theorem lb_readLift {dd : Nat} (hd : 8 ≤ dd) {H : xH} {T : tSm} {n b : Int} (hb : b = 7 ∨ b = 34) (hO : sOk T n) {Z : tZ} (zB0 : rB T H H Z.1) (h9 : H.1 3 9 = b) (hW : skW H.1 b) (hR : skR H.1 b Z) (hw : zRw Z) {Q : Int → xH → Prop} (hq : ∀ J, rC T b H J (zLi T Z) → Q 0 J) : xCall dd 89 [(2, 3)] H Q := by
  obtain ⟨e, rfl, he⟩ := ttRun0 (n := 7) hd
  have he : 7 ≤ e := he
  have hB := skB_2 hb
  have hi := skB_in hB
  have hn := rB_n zB0
  have w0 := hw.2.1
  obtain ⟨N, jN⟩ : ∃ N, N = Z.2.1 1 := ⟨_, rfl⟩
  have eN : H.1 b 4 = N := (skA_i hR.1 (j := 4) (i := 1) (by decide)).trans jN.symm
  rw [← jN] at w0
  refine xC_of (L := [(2, 3), (9, 0), (9, 0), (9, 0), (9, 0), (9, 0), (9, 0)]) (cd := cd_89) rfl rfl rfl ?_
  refine q_al (pc := 0) (i := 0) (x := 3) rfl rfl ?_
  refine q_al (pc := 1) (i := 0) (x := 3) rfl rfl ?_
  refine q_gf (pc := 2) (m := 7092) (t := 2) (c := 9) rfl (ttKc zB0.1 (a := 3) (κ := 7) (len := 0) ⟨rfl, rfl⟩ (by decide) (by decide)).1 rfl rfl ?_
  rw [show H.1 3 9 = b from (rB_9 zB0).trans h9]
  refine q_iv (pc := 3) (q := 976804) rfl rfl rfl (sk_kb zB0.1 hB).1 ?_
  refine ls_bits (by omega) zB0.1 hB hW eN w0.1 w0.2 (fun m u0 u1 um => ?_)
  refine q_iv (pc := 4) (q := 656568) rfl rfl rfl (ttKc zB0.1 (a := 3) (κ := 7) (len := 0) ⟨rfl, rfl⟩ (by decide) (by decide)).1 ?_
  refine lb_pl hb (by omega) hO zB0 h9 eN (fun ujr1 J1 zB1 jr1 => ?_)
  obtain ⟨V1, jV1⟩ : ∃ Y : tSa, Y = (sPl T Z.1 N m).2 := ⟨_, rfl⟩
  replace zB1 : rB T H J1 V1 := by rw [jV1]; exact zB1
  have jb1 : ujr1 = 0 ∨ 0 ≤ ujr1 ∧ ujr1 ≤ N - 1 := by rw [jr1]; exact sPl_v
  refine q_is (pc := 5) (i := 1) (L' := [(2, 3), (0, ujr1), (9, 0), (9, 0), (9, 0), (9, 0), (9, 0)]) rfl rfl rfl ?_
  refine q_al (pc := 6) (i := 0) (x := 3) rfl rfl ?_
  refine q_sc (pc := 7) (j := 19) rfl ?_
  refine q_iv (pc := 8) (q := 632571) rfl rfl rfl ⟨by omega, (ttKc zB1.1 (a := 3) (κ := 7) (len := 0) ⟨rfl, rfl⟩ (by decide) (by decide)).1⟩ ?_
  refine lb_word (by decide) (by decide) (by omega) hO zB1 (fun J2 zB2 => ?_)
  obtain ⟨V2, jV2⟩ : ∃ Y : tSa, Y = sNd T V1 (-21) := ⟨_, rfl⟩
  replace zB2 : rB T H J2 V2 := by rw [jV2]; exact zB2
  refine q_al (pc := 9) (i := 0) (x := 3) rfl rfl ?_
  refine q_ic (pc := 10) (v := 0) rfl ?_
  refine q_ic (pc := 11) (v := 100) rfl ?_
  refine q_iv (pc := 12) (q := 640572) rfl rfl rfl (ttKc zB2.1 (a := 3) (κ := 7) (len := 0) ⟨rfl, rfl⟩ (by decide) (by decide)).1 ?_
  refine lb_num (by decide) (by omega) hO zB2 (fun ujr3 J3 zB3 jr3 => ?_)
  obtain ⟨V3, jV3⟩ : ∃ Y : tSa, Y = (sNm T V2 0 100).2 := ⟨_, rfl⟩
  replace zB3 : rB T H J3 V3 := by rw [jV3]; exact zB3
  have jb3 : ujr3 = 0 ∨ 0 ≤ ujr3 ∧ ujr3 ≤ 100 := by rw [jr3]; exact sNm_v
  refine q_is (pc := 13) (i := 2) (L' := [(2, 3), (0, ujr1), (0, ujr3), (9, 0), (9, 0), (9, 0), (9, 0)]) rfl rfl rfl ?_
  refine q_al (pc := 14) (i := 0) (x := 3) rfl rfl ?_
  refine q_sc (pc := 15) (j := 20) rfl ?_
  refine q_iv (pc := 16) (q := 632571) rfl rfl rfl ⟨by omega, (ttKc zB3.1 (a := 3) (κ := 7) (len := 0) ⟨rfl, rfl⟩ (by decide) (by decide)).1⟩ ?_
  refine lb_word (by decide) (by decide) (by omega) hO zB3 (fun J4 zB4 => ?_)
  obtain ⟨V4, jV4⟩ : ∃ Y : tSa, Y = sNd T V3 (-22) := ⟨_, rfl⟩
  replace zB4 : rB T H J4 V4 := by rw [jV4]; exact zB4
  refine q_al (pc := 17) (i := 0) (x := 3) rfl rfl ?_
  refine q_ic (pc := 18) (v := 0) rfl ?_
  refine q_ic (pc := 19) (v := 2000) rfl ?_
  refine q_iv (pc := 20) (q := 640572) rfl rfl rfl (ttKc zB4.1 (a := 3) (κ := 7) (len := 0) ⟨rfl, rfl⟩ (by decide) (by decide)).1 ?_
  refine lb_num (by decide) (by omega) hO zB4 (fun ujr5 J5 zB5 jr5 => ?_)
  obtain ⟨V5, jV5⟩ : ∃ Y : tSa, Y = (sNm T V4 0 2000).2 := ⟨_, rfl⟩
  replace zB5 : rB T H J5 V5 := by rw [jV5]; exact zB5
  have jb5 : ujr5 = 0 ∨ 0 ≤ ujr5 ∧ ujr5 ≤ 2000 := by rw [jr5]; exact sNm_v
  refine q_is (pc := 21) (i := 3) (L' := [(2, 3), (0, ujr1), (0, ujr3), (0, ujr5), (9, 0), (9, 0), (9, 0)]) rfl rfl rfl ?_
  refine q_ic (pc := 22) (v := 0) rfl ?_
  refine q_is (pc := 23) (i := 4) (L' := [(2, 3), (0, ujr1), (0, ujr3), (0, ujr5), (0, 0), (9, 0), (9, 0)]) rfl rfl rfl ?_
  refine q_ic (pc := 24) (v := 0) rfl ?_
  refine q_is (pc := 25) (i := 5) (L' := [(2, 3), (0, ujr1), (0, ujr3), (0, ujr5), (0, 0), (0, 0), (9, 0)]) rfl rfl rfl ?_
  refine q_al (pc := 26) (i := 0) (x := 3) rfl rfl ?_
  refine q_sc (pc := 27) (j := 21) rfl ?_
  refine q_iv (pc := 28) (q := 624568) rfl rfl rfl ⟨by omega, (ttKc zB5.1 (a := 3) (κ := 7) (len := 0) ⟨rfl, rfl⟩ (by decide) (by decide)).1⟩ ?_
  refine lb_if (by decide) (by decide) (by omega) hO zB5 (fun r J6 zB6 jr6 => ?_)
  obtain ⟨V6, jV6⟩ : ∃ Y : tSa, Y = (sTk T V5 (-23)).2 := ⟨_, rfl⟩
  replace zB6 : rB T H J6 V6 := by rw [jV6]; exact zB6
  rcases jr6 with ⟨rfl, jk6⟩ | ⟨rfl, jk6⟩
  · replace jk6 : (sTk T V5 (-23)).1 = true := jk6
    refine q_if (pc := 29) rfl (fun h29 => ?_) (fun h29 => ?_)
    · replace h29 : (1 : Int) = 0 := h29
      omega
    · replace h29 : (1 : Int) ≠ 0 := h29
      refine q_al (pc := 30) (i := 0) (x := 3) rfl rfl ?_
      refine q_ic (pc := 31) (v := 0) rfl ?_
      refine q_ic (pc := 32) (v := 100) rfl ?_
      refine q_iv (pc := 33) (q := 640572) rfl rfl rfl (ttKc zB6.1 (a := 3) (κ := 7) (len := 0) ⟨rfl, rfl⟩ (by decide) (by decide)).1 ?_
      refine lb_num (by decide) (by omega) hO zB6 (fun ujr7 J7 zB7 jr7 => ?_)
      obtain ⟨V7, jV7⟩ : ∃ Y : tSa, Y = (sNm T V6 0 100).2 := ⟨_, rfl⟩
      replace zB7 : rB T H J7 V7 := by rw [jV7]; exact zB7
      have jb7 : ujr7 = 0 ∨ 0 ≤ ujr7 ∧ ujr7 ≤ 100 := by rw [jr7]; exact sNm_v
      refine q_is (pc := 34) (i := 4) (L' := [(2, 3), (0, ujr1), (0, ujr3), (0, ujr5), (0, ujr7), (0, 0), (9, 0)]) rfl rfl rfl ?_
      refine q_al (pc := 35) (i := 0) (x := 3) rfl rfl ?_
      refine q_ic (pc := 36) (v := 0) rfl ?_
      refine q_ic (pc := 37) (v := 100) rfl ?_
      refine q_iv (pc := 38) (q := 640572) rfl rfl rfl (ttKc zB7.1 (a := 3) (κ := 7) (len := 0) ⟨rfl, rfl⟩ (by decide) (by decide)).1 ?_
      refine lb_num (by decide) (by omega) hO zB7 (fun ujr8 J8 zB8 jr8 => ?_)
      obtain ⟨V8, jV8⟩ : ∃ Y : tSa, Y = (sNm T V7 0 100).2 := ⟨_, rfl⟩
      replace zB8 : rB T H J8 V8 := by rw [jV8]; exact zB8
      have jb8 : ujr8 = 0 ∨ 0 ≤ ujr8 ∧ ujr8 ≤ 100 := by rw [jr8]; exact sNm_v
      refine q_is (pc := 39) (i := 5) (L' := [(2, 3), (0, ujr1), (0, ujr3), (0, ujr5), (0, ujr7), (0, ujr8), (9, 0)]) rfl rfl rfl ?_
      obtain ⟨S1, eB, c1, c2⟩ := zBf_e (T := T) (S := Z.1) (R := Z.2.1) (h := Z.2.2)
      rw [← jN] at c1 c2
      have pw : ∀ w : Int, 0 ≤ w → w ≤ N - 1 → H.1 (b + 9 + w) 2 = Z.2.1 (20 + 8 * w + 3) := fun w u2 u3 => (hR.2.1 w u2 (by omega)).1.2.2.1
      have eC := sPl_b (S1 := S1) (bar := m) hO zB0.2.2.2.2.1 zB0.2.2.2.2.2 w0.2 (fun w => Z.2.1 (20 + 8 * w + 3) = 1) (fun w u2 u3 => by rw [um w u2 u3, pw w u2 u3]) (fun a1 a2 a3 a4 a5 => by
        have mn : min 99999 (sVt T Z.1.1) = sVt T Z.1.1 := by omega
        exact c1 ⟨a1, a2, by rw [mn]; exact ⟨a3, a4⟩, by rw [mn]; exact a5⟩) (fun y => Or.inl (c2 (fun z => y ⟨z.1, z.2.1, by have := z.2.2.1.2; omega, by
        have mn : min 99999 (sVt T Z.1.1) = sVt T Z.1.1 := by have := z.2.2.1.2; omega
        have u := z.2.2.2
        rw [mn] at u
        exact u⟩)))
      obtain ⟨q, jq⟩ : ∃ q, q = (sNm T S1 0 (N - 1)).1 := ⟨_, rfl⟩
      rw [← jq] at eC
      rw [← jV1] at eC
      have eV : vPq T (zBf T Z) = q := by
        rw [show zBf T Z = (S1, Z.2.1, Z.2.2) from eB, jq, jN]
        rfl
      have eP : zPq T (zBf T Z) = (V1, Z.2.1, Z.2.2) := by
        rw [show zBf T Z = (S1, Z.2.1, Z.2.2) from eB, eC.1, jN]
        rfl
      have e3 : vTd T (-21) 0 100 (V1, Z.2.1, Z.2.2) = ujr3 := by rw [jr3, jV2]; rfl
      have e4 : zTd T (-21) 0 100 (V1, Z.2.1, Z.2.2) = (V3, Z.2.1, Z.2.2) := by rw [jV3, jV2]; rfl
      have e5 : vTd T (-22) 0 2000 (V3, Z.2.1, Z.2.2) = ujr5 := by rw [jr5, jV4]; rfl
      have e6 : zTd T (-22) 0 2000 (V3, Z.2.1, Z.2.2) = (V5, Z.2.1, Z.2.2) := by rw [jV5, jV4]; rfl
      have eL1 : zLi T Z = zLi1 T (20 + 8 * q) ujr3 ujr5 (V5, Z.2.1, Z.2.2) := by
        unfold zLi
        rw [eV, eP, e3, e4, e5, e6]
      have bk : V5.2.1 = 0 → V1.2.1 = 0 := fun f5 => by
        have f4 : V4.2.1 = 0 := (sNm_0 (by rw [← jV5]; exact f5)).1
        have f3 : V3.2.1 = 0 := sNd_0 (by rw [← jV4]; exact f4)
        have f2 : V2.2.1 = 0 := (sNm_0 (by rw [← jV3]; exact f3)).1
        exact sNd_0 (by rw [← jV2]; exact f2)
      have bq : V5.2.1 = 0 → q = ujr1 := fun f5 => by rw [jr1]; exact (eC.2 (bk f5)).symm
      have br : V5.2.1 = 0 → 0 ≤ ujr1 ∧ ujr1 < Z.2.1 1 := fun f5 => by
        have u := (sPl_0 (T := T) (S := Z.1) (N := N) (bar := m) (by rw [← jV1]; exact bk f5)).2
        rw [← jr1] at u
        omega
      have f5 := (sTk_t jk6).1
      have eZ : zLi T Z = (V8, sUp (sUp (sUp (sUp (sUp Z.2.1 (20 + 8 * q + 3) 1) (20 + 8 * q + 4) ujr3) (20 + 8 * q + 5) ujr5) (20 + 8 * q + 6) ujr7) (20 + 8 * q + 7) ujr8, Z.2.2) := by
        rw [eL1]
        refine (if_pos f5).trans ((if_pos jk6).trans ?_)
        rw [jV8, jr8, jV7, jr7, jV6]
        rfl
      refine ff_40 he hb hO zB0 h9 hW hR hw zB8 (fun _ => br f5) (by omega) (by omega) (by omega) (by omega) (fun f0 => hq _ (rC_f zB8 (by rw [eZ]) f0)) (fun f0 J jT jX jF jO jc jR => hq J ⟨jT, jX, jF, by rw [eZ]; exact jc, by rw [eZ]; exact zB8.2.2.2.2, jO, fun _ => ?_⟩)
      rw [eZ, bq f5]
      exact jR _ ⟨(sUp_ne (by omega)).trans ((sUp_ne (by omega)).trans ((sUp_ne (by omega)).trans ((sUp_ne (by omega)).trans (sUp_eq)))), (sUp_ne (by omega)).trans ((sUp_ne (by omega)).trans ((sUp_ne (by omega)).trans (sUp_eq))), (sUp_ne (by omega)).trans ((sUp_ne (by omega)).trans (sUp_eq)), (sUp_ne (by omega)).trans (sUp_eq), sUp_eq⟩ (fun i i0 => (sUp_ne (by omega)).trans ((sUp_ne (by omega)).trans ((sUp_ne (by omega)).trans ((sUp_ne (by omega)).trans (sUp_ne (by omega))))))
  · replace jk6 : (sTk T V5 (-23)).1 = false := jk6
    refine q_if (pc := 29) rfl (fun h29 => ?_) (fun h29 => ?_)
    · replace h29 : (0 : Int) = 0 := h29
      obtain ⟨S1, eB, c1, c2⟩ := zBf_e (T := T) (S := Z.1) (R := Z.2.1) (h := Z.2.2)
      rw [← jN] at c1 c2
      have pw : ∀ w : Int, 0 ≤ w → w ≤ N - 1 → H.1 (b + 9 + w) 2 = Z.2.1 (20 + 8 * w + 3) := fun w u2 u3 => (hR.2.1 w u2 (by omega)).1.2.2.1
      have eC := sPl_b (S1 := S1) (bar := m) hO zB0.2.2.2.2.1 zB0.2.2.2.2.2 w0.2 (fun w => Z.2.1 (20 + 8 * w + 3) = 1) (fun w u2 u3 => by rw [um w u2 u3, pw w u2 u3]) (fun a1 a2 a3 a4 a5 => by
        have mn : min 99999 (sVt T Z.1.1) = sVt T Z.1.1 := by omega
        exact c1 ⟨a1, a2, by rw [mn]; exact ⟨a3, a4⟩, by rw [mn]; exact a5⟩) (fun y => Or.inl (c2 (fun z => y ⟨z.1, z.2.1, by have := z.2.2.1.2; omega, by
        have mn : min 99999 (sVt T Z.1.1) = sVt T Z.1.1 := by have := z.2.2.1.2; omega
        have u := z.2.2.2
        rw [mn] at u
        exact u⟩)))
      obtain ⟨q, jq⟩ : ∃ q, q = (sNm T S1 0 (N - 1)).1 := ⟨_, rfl⟩
      rw [← jq] at eC
      rw [← jV1] at eC
      have eV : vPq T (zBf T Z) = q := by
        rw [show zBf T Z = (S1, Z.2.1, Z.2.2) from eB, jq, jN]
        rfl
      have eP : zPq T (zBf T Z) = (V1, Z.2.1, Z.2.2) := by
        rw [show zBf T Z = (S1, Z.2.1, Z.2.2) from eB, eC.1, jN]
        rfl
      have e3 : vTd T (-21) 0 100 (V1, Z.2.1, Z.2.2) = ujr3 := by rw [jr3, jV2]; rfl
      have e4 : zTd T (-21) 0 100 (V1, Z.2.1, Z.2.2) = (V3, Z.2.1, Z.2.2) := by rw [jV3, jV2]; rfl
      have e5 : vTd T (-22) 0 2000 (V3, Z.2.1, Z.2.2) = ujr5 := by rw [jr5, jV4]; rfl
      have e6 : zTd T (-22) 0 2000 (V3, Z.2.1, Z.2.2) = (V5, Z.2.1, Z.2.2) := by rw [jV5, jV4]; rfl
      have eL1 : zLi T Z = zLi1 T (20 + 8 * q) ujr3 ujr5 (V5, Z.2.1, Z.2.2) := by
        unfold zLi
        rw [eV, eP, e3, e4, e5, e6]
      have bk : V5.2.1 = 0 → V1.2.1 = 0 := fun f5 => by
        have f4 : V4.2.1 = 0 := (sNm_0 (by rw [← jV5]; exact f5)).1
        have f3 : V3.2.1 = 0 := sNd_0 (by rw [← jV4]; exact f4)
        have f2 : V2.2.1 = 0 := (sNm_0 (by rw [← jV3]; exact f3)).1
        exact sNd_0 (by rw [← jV2]; exact f2)
      have bq : V5.2.1 = 0 → q = ujr1 := fun f5 => by rw [jr1]; exact (eC.2 (bk f5)).symm
      have br : V5.2.1 = 0 → 0 ≤ ujr1 ∧ ujr1 < Z.2.1 1 := fun f5 => by
        have u := (sPl_0 (T := T) (S := Z.1) (N := N) (bar := m) (by rw [← jV1]; exact bk f5)).2
        rw [← jr1] at u
        omega
      have e7 : V6 = V5 := by rw [jV6, sTk_ff (sTk_n jk6)]
      by_cases f5 : V5.2.1 = 0
      · have eZ : zLi T Z = (V6, sUp (sUp (sUp Z.2.1 (20 + 8 * q + 3) 1) (20 + 8 * q + 4) ujr3) (20 + 8 * q + 5) ujr5, Z.2.2) := by
          rw [eL1]
          refine (if_pos f5).trans ((if_neg (fun z => absurd (z.symm.trans jk6) (by decide))).trans ?_)
          rw [e7]
          rfl
        refine ff_40 he hb hO zB0 h9 hW hR hw zB6 (fun _ => br f5) (by omega) (by omega) (by omega) (by omega) (fun f0 => hq _ (rC_f zB6 (by rw [eZ]) f0)) (fun f0 J jT jX jF jO jc jR => hq J ⟨jT, jX, jF, by rw [eZ]; exact jc, by rw [eZ]; exact zB6.2.2.2.2, jO, fun _ => ?_⟩)
        have qb := br f5
        have qc := bq f5
        rw [qc] at eZ
        rw [eZ]
        have ob := hR.2.1 ujr1 qb.1 (by omega)
        have oc : Z.2.1 (20 + 8 * ujr1 + 6) = 0 ∧ Z.2.1 (20 + 8 * ujr1 + 7) = 0 := ob.1.2.2.2.2 (fun y => ?_)
        · exact jR _ ⟨(sUp_ne (by omega)).trans ((sUp_ne (by omega)).trans (sUp_eq)), (sUp_ne (by omega)).trans (sUp_eq), sUp_eq, ((sUp_ne (by omega)).trans ((sUp_ne (by omega)).trans (sUp_ne (by omega)))).trans oc.1, ((sUp_ne (by omega)).trans ((sUp_ne (by omega)).trans (sUp_ne (by omega)))).trans oc.2⟩ (fun i i0 => (sUp_ne (by omega)).trans ((sUp_ne (by omega)).trans (sUp_ne (by omega))))
        · have w1 := (um ujr1 qb.1 (by omega)).mpr (by rw [pw ujr1 qb.1 (by omega)]; exact y)
          have f1 := bk f5
          have u : sPl T Z.1 N m = (ujr1, V1) := by rw [jr1, jV1]
          unfold sPl at u
          split at u
          · have w2 := congrArg (fun p => p.2.2.1) u
            exact absurd (show (2 : Int) = 0 from w2.trans f1) (by decide)
          · rename_i nn
            rw [u] at nn
            exact nn ⟨f1, @decide_eq_true _ (Classical.propDecidable _) w1⟩
      · have eZ : zLi T Z = (V6, Z.2.1, Z.2.2) := by
          rw [eL1, e7]
          exact if_neg f5
        refine ff_40 he hb hO zB0 h9 hW hR hw zB6 (fun y => absurd (by rw [← e7]; exact y) f5) (by omega) (by omega) (by omega) (by omega) (fun f0 => hq _ (rC_f zB6 (by rw [eZ]) f0)) (fun f0 => absurd (by rw [← e7]; exact f0) f5)
    · replace h29 : (0 : Int) ≠ 0 := h29
      omega
