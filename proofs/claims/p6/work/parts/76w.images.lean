/-! keep and back, exactly -/
theorem lc_copyT {dd : Nat} (hd : 3 ≤ dd) {H : xH} (hT : ttTI H) (hX : ttXX YY H) {b c : Int} (hB : skB b) (hC : skB c) (hne : b ≠ c) (wb : skW H.1 b) (wc : skW H.1 c) {Q : Int → xH → Prop} (hq : ∀ J, ttTI J → ttXX YY J → ttFr c_122.2.2.2.2.2.2 H J → J.2 = H.2 → (∀ x j : Int, (x < b ∨ b + 26 < x) → J.1 x j = H.1 x j) → skE H.1 c J.1 b → Q 0 J) : xCall dd 112 [(2, b), (2, c)] H Q := by
  have hn : 210 ≤ (H.2.2.2.1 : Int) := by have := hT.1; omega
  have bi := skB_in hB
  have ci := skB_in hC
  exact xCall_and ((hc_122 (ttXX_out yyStab (fun _ _ => trivial))) dd hd [(2, b), (2, c)] H hT hX ⟨⟨rfl, b, by show b = 1 * b + 0; omega, ⟨⟨by omega, by omega⟩, sk_rb hB⟩⟩, ⟨rfl, c, by show c = 1 * c + 0; omega, ⟨⟨by omega, by omega⟩, sk_rb hC⟩⟩, trivial⟩ (fun _ hq => absurd hq List.not_mem_nil) (fun _ J => ttTI J ∧ ttXX YY J ∧ ttFr c_122.2.2.2.2.2.2 H J) (fun _ _ t x f _ _ => ⟨t, x, f⟩)) (lc_copy hd hT hB hC hne wb wc (Q := fun r J => r = 0 ∧ J.2 = H.2 ∧ (∀ x j : Int, (x < b ∨ b + 26 < x) → J.1 x j = H.1 x j) ∧ skE H.1 c J.1 b) (fun J a1 a2 a3 => ⟨rfl, a1, a2, a3⟩)) (fun r J f g => by
    rw [g.1]
    exact hq J f.1 f.2.1 f.2.2 g.2.1 g.2.2.1 g.2.2.2)
theorem im_c {k : Int} (k0 : 0 ≤ k) (k2 : k ≤ 2) : skB (102 + 27 * k) := by
  have h : k = 0 ∨ k = 1 ∨ k = 2 := by omega
  rcases h with rfl | rfl | rfl
  · exact Or.inr (Or.inr (Or.inl rfl))
  · exact Or.inr (Or.inr (Or.inr (Or.inl rfl)))
  · exact Or.inr (Or.inr (Or.inr (Or.inr rfl)))
theorem ty_im {k i : Int} (k0 : 0 ≤ k) (k2 : k ≤ 2) (i0 : 0 ≤ i) (i1 : i < 196) : ttTy (ttTb 185) (196 * k + i) = ttTy (ttTb (ttRo 184)) i := by
  show (ttTb 185).2.2.2.2.getD ((196 * k + i) % 196).toNat (9, 0, 0) = (ttTb 184).2.2.2.2.getD (i % 196).toNat (9, 0, 0)
  rw [show (196 * k + i) % 196 = i % 196 from by omega]
  rfl
theorem lx_keepC1 {dd : Nat} (hd : 4 ≤ dd) {H : xH} (hT : ttTI H) (hX : ttXX YY H) {b : Int} (hb : b = 7 ∨ b = 34) (h5 : H.1 1 5 = b) (hW : skW H.1 b) (hI : ∀ k : Int, 0 ≤ k → k ≤ 2 → H.1 61 k = 102 + 27 * k ∧ skW H.1 (102 + 27 * k)) {k : Int} {Q : Int → xH → Prop} (hq : ∀ r K, (0 ≤ k ∧ k ≤ 2 → (∀ x j : Int, (x < 102 + 27 * k ∨ 128 + 27 * k < x) → x ≠ 62 → K.1 x j = H.1 x j) ∧ skE H.1 b K.1 (102 + 27 * k)) → (¬ (0 ≤ k ∧ k ≤ 2) → K.1 = H.1) → Q r K) : xCall dd 193 [(2, 1), (0, k)] H Q := by
  obtain ⟨e, rfl, he⟩ := ttRun0 (n := 3) hd
  have he : 3 ≤ e := he
  have hB := skB_2 hb
  have hi := skB_in hB
  have hn : 210 ≤ (H.2.2.2.1 : Int) := by have := hT.1; omega
  refine xC_of (L := [(2, 1), (0, k)]) (cd := cd_193) rfl rfl rfl ?_
  refine q_il (pc := 0) (i := 1) (x := k) rfl rfl ?_
  refine q_if (pc := 1) rfl (fun h1 => ?_) (fun h1 => ?_)
  · replace h1 : k < 0 := h1
    refine q_ic (pc := 5) (v := (-2)) rfl ?_
    refine q_ri (pc := 6) rfl ?_
    exact hq _ H (fun z => absurd z (by omega)) (fun _ => rfl)
  · replace h1 : 0 ≤ k := h1
    refine q_il (pc := 2) (i := 1) (x := k) rfl rfl ?_
    refine q_ic (pc := 3) (v := 3) rfl ?_
    refine q_i2 (pc := 4) rfl (fun h4 => ?_) (fun h4 => ?_)
    · replace h4 : k < 3 := h4
      refine q_al (pc := 7) (i := 0) (x := 1) rfl rfl ?_
      refine q_gf (pc := 8) (m := 11072) (t := 2) (c := 7) rfl (ttKc hT (a := 1) (κ := 11) (len := 0) ⟨rfl, rfl⟩ (by decide) (by decide)).1 rfl rfl ?_
      rw [show H.1 1 7 = 61 from ttFx hT (by decide) (by decide) rfl rfl rfl]
      refine q_il (pc := 9) (i := 1) (x := k) rfl rfl ?_
      refine q_aa (pc := 10) rfl (by rw [(ttKc hT (a := 61) (κ := 27) (len := 3) ⟨rfl, rfl⟩ (by decide) (by decide)).1]; decide) (by omega) (by rw [(ttKc hT (a := 61) (κ := 27) (len := 3) ⟨rfl, rfl⟩ (by decide) (by decide)).2]; omega) ?_
      rw [(hI k (by omega) (by omega)).1]
      refine q_al (pc := 11) (i := 0) (x := 1) rfl rfl ?_
      refine q_gf (pc := 12) (m := 11052) (t := 2) (c := 5) rfl (ttKc hT (a := 1) (κ := 11) (len := 0) ⟨rfl, rfl⟩ (by decide) (by decide)).1 rfl rfl ?_
      rw [show H.1 1 5 = b from h5]
      have hC := im_c (k := k) (by omega) (by omega)
      refine q_iv (pc := 13) (q := 896811) rfl rfl rfl ⟨by omega, (sk_kb hT hC).1⟩ ?_
      refine lc_copyT (by omega) hT hX hC hB (by omega) (hI k (by omega) (by omega)).2 hW (fun J jT jX jF ujj2 jo jE => ?_)
      refine q_al (pc := 14) (i := 0) (x := 1) rfl rfl ?_
      refine q_gf (pc := 15) (m := 11082) (t := 2) (c := 8) rfl (ttKc jT (a := 1) (κ := 11) (len := 0) ⟨rfl, rfl⟩ (by decide) (by decide)).1 rfl rfl ?_
      rw [show J.1 1 8 = 62 from ttFx jT (by decide) (by decide) rfl rfl rfl]
      refine q_il (pc := 16) (i := 1) (x := k) rfl rfl ?_
      refine q_ic (pc := 17) (v := 1) rfl ?_
      refine q_sc2 (pc := 18) rfl (by decide) (ttKc jT (a := 62) (κ := 22) (len := 3) ⟨rfl, rfl⟩ (by decide) (by decide)).1 (by omega) (by rw [(ttKc jT (a := 62) (κ := 22) (len := 3) ⟨rfl, rfl⟩ (by decide) (by decide)).2]; omega) (by omega) ?_
      obtain ⟨Y, jY⟩ : ∃ X : xH, X = (xUp J.1 62 k 1, J.2) := ⟨_, rfl⟩
      rw [← jY]
      have yd : Y.1 = xUp J.1 62 k 1 := by rw [jY]
      refine q_ic (pc := 19) (v := 0) rfl ?_
      refine q_ri (pc := 20) rfl ?_
      have yo : ∀ x j : Int, x ≠ 62 → Y.1 x j = J.1 x j := fun x j h => by rw [yd]; exact up_na h
      obtain ⟨e1, e2, e3, ⟨e4, e5⟩, e6, e7⟩ := jE
      refine hq _ Y (fun _ => ⟨fun x j h h2 => (yo x j h2).trans (jo x j (by omega)), fun j ujj0 ujj1 => (yo _ _ (by omega)).trans (e1 j ujj0 ujj1), fun p j p0 p1 ujj0 ujj1 => (yo _ _ (by omega)).trans (e2 p j p0 p1 ujj0 ujj1), fun l j l0 l1 ujj0 ujj1 => (yo _ _ (by omega)).trans (e3 l j l0 l1 ujj0 ujj1), ⟨(yo _ _ (by omega)).trans e4, fun s s0 s1 => ⟨(yo _ _ (by omega)).trans (e5 s s0 s1).1, (yo _ _ (by omega)).trans (e5 s s0 s1).2⟩⟩, ⟨(yo _ _ (by omega)).trans e6, fun s s0 s1 => ⟨(yo _ _ (by omega)).trans (e7 s s0 s1).1, (yo _ _ (by omega)).trans (e7 s s0 s1).2⟩⟩⟩) (fun z => absurd ⟨by omega, by omega⟩ z)
    · replace h4 : 3 ≤ k := h4
      refine q_ic (pc := 5) (v := (-2)) rfl ?_
      refine q_ri (pc := 6) rfl ?_
      exact hq _ H (fun z => absurd z (by omega)) (fun _ => rfl)
theorem lx_backC1 {dd : Nat} (hd : 7 ≤ dd) {H : xH} (hT : ttTI H) (hX : ttXX YY H) {b : Int} (hb : b = 7 ∨ b = 34) (h5 : H.1 1 5 = b) (hW : skW H.1 b) (hI : ∀ k : Int, 0 ≤ k → k ≤ 2 → H.1 61 k = 102 + 27 * k ∧ skW H.1 (102 + 27 * k)) {k : Int} {Q : Int → xH → Prop} (hq : ∀ r K, ((0 ≤ k ∧ k ≤ 2) ∧ H.1 62 k ≠ 0 → skE H.1 (102 + 27 * k) K.1 b ∧ skO b H K) → (¬ ((0 ≤ k ∧ k ≤ 2) ∧ H.1 62 k ≠ 0) → K.1 = H.1) → Q r K) : xCall dd 194 [(2, 1), (0, k)] H Q := by
  obtain ⟨e, rfl, he⟩ := ttRun0 (n := 6) hd
  have he : 6 ≤ e := he
  have hB := skB_2 hb
  have hi := skB_in hB
  have hn : 210 ≤ (H.2.2.2.1 : Int) := by have := hT.1; omega
  refine xC_of (L := [(2, 1), (0, k)]) (cd := cd_194) rfl rfl rfl ?_
  refine q_il (pc := 0) (i := 1) (x := k) rfl rfl ?_
  refine q_if (pc := 1) rfl (fun h1 => ?_) (fun h1 => ?_)
  · replace h1 : k < 0 := h1
    refine q_ic (pc := 5) (v := (-2)) rfl ?_
    refine q_ri (pc := 6) rfl ?_
    exact hq _ H (fun z => absurd z (by omega)) (fun _ => rfl)
  · replace h1 : 0 ≤ k := h1
    refine q_il (pc := 2) (i := 1) (x := k) rfl rfl ?_
    refine q_ic (pc := 3) (v := 3) rfl ?_
    refine q_i2 (pc := 4) rfl (fun h4 => ?_) (fun h4 => ?_)
    · replace h4 : k < 3 := h4
      refine q_al (pc := 7) (i := 0) (x := 1) rfl rfl ?_
      refine q_gf (pc := 8) (m := 11082) (t := 2) (c := 8) rfl (ttKc hT (a := 1) (κ := 11) (len := 0) ⟨rfl, rfl⟩ (by decide) (by decide)).1 rfl rfl ?_
      rw [show H.1 1 8 = 62 from ttFx hT (by decide) (by decide) rfl rfl rfl]
      refine q_il (pc := 9) (i := 1) (x := k) rfl rfl ?_
      refine q_ac (pc := 10) rfl (ttKc hT (a := 62) (κ := 22) (len := 3) ⟨rfl, rfl⟩ (by decide) (by decide)).1 (by omega) (by rw [(ttKc hT (a := 62) (κ := 22) (len := 3) ⟨rfl, rfl⟩ (by decide) (by decide)).2]; omega) ?_
      refine q_if (pc := 11) rfl (fun h11 => ?_) (fun h11 => ?_)
      · replace h11 : (H.1 62 k) ≠ 0 := h11
        refine q_al (pc := 14) (i := 0) (x := 1) rfl rfl ?_
        refine q_gf (pc := 15) (m := 11052) (t := 2) (c := 5) rfl (ttKc hT (a := 1) (κ := 11) (len := 0) ⟨rfl, rfl⟩ (by decide) (by decide)).1 rfl rfl ?_
        rw [show H.1 1 5 = b from h5]
        refine q_al (pc := 16) (i := 0) (x := 1) rfl rfl ?_
        refine q_gf (pc := 17) (m := 11072) (t := 2) (c := 7) rfl (ttKc hT (a := 1) (κ := 11) (len := 0) ⟨rfl, rfl⟩ (by decide) (by decide)).1 rfl rfl ?_
        rw [show H.1 1 7 = 61 from ttFx hT (by decide) (by decide) rfl rfl rfl]
        refine q_il (pc := 18) (i := 1) (x := k) rfl rfl ?_
        refine q_aa (pc := 19) rfl (by rw [(ttKc hT (a := 61) (κ := 27) (len := 3) ⟨rfl, rfl⟩ (by decide) (by decide)).1]; decide) (by omega) (by rw [(ttKc hT (a := 61) (κ := 27) (len := 3) ⟨rfl, rfl⟩ (by decide) (by decide)).2]; omega) ?_
        rw [(hI k (by omega) (by omega)).1]
        have hC := im_c (k := k) (by omega) (by omega)
        refine q_iv (pc := 20) (q := 896811) rfl rfl rfl ⟨by omega, (sk_kb hT hB).1⟩ ?_
        refine lc_copyT (by omega) hT hX hB hC (by omega) hW (hI k (by omega) (by omega)).2 (fun J jT jX jF ujj2 jo jE => ?_)
        have jn : 210 ≤ (J.2.2.2.1 : Int) := by have := jT.1; omega
        have ujj5 : J.1 1 5 = b := (jo 1 5 (by omega)).trans h5
        refine q_al (pc := 21) (i := 0) (x := 1) rfl rfl ?_
        refine q_gf (pc := 22) (m := 11092) (t := 2) (c := 9) rfl (ttKc jT (a := 1) (κ := 11) (len := 0) ⟨rfl, rfl⟩ (by decide) (by decide)).1 rfl rfl ?_
        rw [show J.1 1 9 = 63 from ttFx jT (by decide) (by decide) rfl rfl rfl]
        refine q_al (pc := 23) (i := 0) (x := 1) rfl rfl ?_
        refine q_gf (pc := 24) (m := 11052) (t := 2) (c := 5) rfl (ttKc jT (a := 1) (κ := 11) (len := 0) ⟨rfl, rfl⟩ (by decide) (by decide)).1 rfl rfl ?_
        rw [show J.1 1 5 = b from ujj5]
        refine q_iv (pc := 25) (q := 136091) rfl rfl rfl ⟨by omega, (ttKc jT (a := 63) (κ := 1) (len := 0) ⟨rfl, rfl⟩ (by decide) (by decide)).1⟩ ?_
        refine hc_11 (ttXX_out yyStab (fun _ _ => trivial)) e (by show 6 ≤ e; omega) [(2, 63), (2, b)] J jT jX ⟨⟨rfl, ttPk_of rfl⟩, ⟨rfl, ⟨b, by show b = 1 * b + 0; omega, ⟨⟨by omega, by omega⟩, sk_rb hB⟩⟩⟩, trivial⟩ (fun _ hq => absurd hq List.not_mem_nil) _ (fun ujr2 G gT gX gF gr _ => ?_)
        have gn : 210 ≤ (G.2.2.2.1 : Int) := by have := gT.1; omega
        refine q_al (pc := 26) (i := 0) (x := 1) rfl rfl ?_
        refine q_iv (pc := 27) (q := 1104887) rfl rfl rfl (ttKc gT (a := 1) (κ := 11) (len := 0) ⟨rfl, rfl⟩ (by decide) (by decide)).1 ?_
        refine hc_4 (ttXX_out yyStab (fun _ _ => trivial)) e (by show 1 ≤ e; omega) [(2, 1)] G gT gX ⟨⟨rfl, ttPk_of rfl⟩, trivial⟩ (fun _ hq => absurd hq List.not_mem_nil) _ (fun ujr3 M mT mX mF mr _ => ?_)
        have ms : ∀ a j : Int, b ≤ a → a ≤ b + 26 → M.1 a j = J.1 a j := fun a j a0 a1 => (sk_fr mF gn hB (by decide) a0 a1).trans (sk_fr gF jn hB (by decide) a0 a1)
        refine q_ic (pc := 28) (v := 0) rfl ?_
        refine q_ri (pc := 29) rfl ?_
        obtain ⟨e1, e2, e3, ⟨e4, e5⟩, e6, e7⟩ := jE
        refine hq _ M (fun _ => ⟨⟨fun j ujj0 ujj1 => (ms _ _ (by omega) (by omega)).trans (e1 j ujj0 ujj1), fun p j p0 p1 ujj0 ujj1 => (ms _ _ (by omega) (by omega)).trans (e2 p j p0 p1 ujj0 ujj1), fun l j l0 l1 ujj0 ujj1 => (ms _ _ (by omega) (by omega)).trans (e3 l j l0 l1 ujj0 ujj1), ⟨(ms _ _ (by omega) (by omega)).trans e4, fun s s0 s1 => ⟨(ms _ _ (by omega) (by omega)).trans (e5 s s0 s1).1, (ms _ _ (by omega) (by omega)).trans (e5 s s0 s1).2⟩⟩, ⟨(ms _ _ (by omega) (by omega)).trans e6, fun s s0 s1 => ⟨(ms _ _ (by omega) (by omega)).trans (e7 s s0 s1).1, (ms _ _ (by omega) (by omega)).trans (e7 s s0 s1).2⟩⟩⟩, fun c hc hne a j a0 a1 => (sk_fr mF gn hc (by decide) a0 a1).trans ((sk_fr gF jn hc (by decide) a0 a1).trans (jo a j (by unfold skB at hc; omega)))⟩) (fun z => absurd ⟨⟨by omega, by omega⟩, by omega⟩ z)
      · replace h11 : (H.1 62 k) = 0 := h11
        refine q_ic (pc := 12) (v := (-6)) rfl ?_
        refine q_ri (pc := 13) rfl ?_
        exact hq _ H (fun z => absurd z (by omega)) (fun _ => rfl)
    · replace h4 : 3 ≤ k := h4
      refine q_ic (pc := 5) (v := (-2)) rfl ?_
      refine q_ri (pc := 6) rfl ?_
      exact hq _ H (fun z => absurd z (by omega)) (fun _ => rfl)
theorem lx_keepC2 {dd : Nat} (hd : 2 ≤ dd) {H : xH} (hT : ttTI H) {k : Int} {Q : Int → xH → Prop} (hq : ∀ r K, (0 ≤ k ∧ k ≤ 2 → (∀ j : Int, 0 ≤ j → j < 196 → K.1 185 (196 * k + j) = H.1 184 j) ∧ (∀ j : Int, (j < 196 * k ∨ 196 * k + 195 < j) → K.1 185 j = H.1 185 j)) → (¬ (0 ≤ k ∧ k ≤ 2) → K.1 = H.1) → Q r K) : xCall dd 205 [(2, 183), (0, k)] H Q := by
  obtain ⟨e, rfl, he⟩ := ttRun0 (n := 1) hd
  have he : 1 ≤ e := he
  have hl : 0 ≤ k → k ≤ 2 → ∀ n : Nat, ∀ (K : xH) (i : Int), 0 ≤ i → i ≤ 196 → 196 - i ≤ (n : Int) → ttTI K → (∀ j : Int, K.1 184 j = H.1 184 j) → (∀ j : Int, 0 ≤ j → j < i → K.1 185 (196 * k + j) = H.1 184 j) → (∀ j : Int, (j < 196 * k ∨ 196 * k + 195 < j) → K.1 185 j = H.1 185 j) → xW e cd_205 Q (10, [(2, 183), (0, k), (0, i)], [], K) := by
    intro k0 k2 n
    induction n with
    | zero =>
      intro K i i0 i1 hk kT ka kb kc
      refine q_il (pc := 10) (i := 2) (x := i) rfl rfl ?_
      refine q_ic (pc := 11) (v := 196) rfl ?_
      refine q_i2 (pc := 12) rfl (fun h12 => ?_) (fun h12 => ?_)
      · replace h12 : 196 ≤ i := h12
        refine q_al (pc := 27) (i := 0) (x := 183) rfl rfl ?_
        refine q_gf (pc := 28) (m := 12032) (t := 2) (c := 3) rfl (ttKc kT (a := 183) (κ := 12) (len := 0) ⟨rfl, rfl⟩ (by decide) (by decide)).1 rfl rfl ?_
        rw [show K.1 183 3 = 186 from ttFx kT (by decide) (by decide) rfl rfl rfl]
        refine q_il (pc := 29) (i := 1) (x := k) rfl rfl ?_
        refine q_ic (pc := 30) (v := 1) rfl ?_
        refine q_sc2 (pc := 31) rfl (by decide) (ttKc kT (a := 186) (κ := 22) (len := 3) ⟨rfl, rfl⟩ (by decide) (by decide)).1 (by omega) (by rw [(ttKc kT (a := 186) (κ := 22) (len := 3) ⟨rfl, rfl⟩ (by decide) (by decide)).2]; omega) (by omega) ?_
        obtain ⟨V, jV⟩ : ∃ X : xH, X = (xUp K.1 186 k 1, K.2) := ⟨_, rfl⟩
        rw [← jV]
        have vd : V.1 = xUp K.1 186 k 1 := by rw [jV]
        refine q_ic (pc := 32) (v := 0) rfl ?_
        refine q_ri (pc := 33) rfl ?_
        refine hq _ V (fun _ => ⟨fun j ujj0 ujj1 => by rw [vd]; exact (up_na (by decide)).trans (kb j ujj0 (by omega)), fun j h => by rw [vd]; exact (up_na (by decide)).trans (kc j h)⟩) (fun z => absurd ⟨k0, k2⟩ z)
      · replace h12 : i < 196 := h12
        omega
    | succ n ih =>
      intro K i i0 i1 hk kT ka kb kc
      refine q_il (pc := 10) (i := 2) (x := i) rfl rfl ?_
      refine q_ic (pc := 11) (v := 196) rfl ?_
      refine q_i2 (pc := 12) rfl (fun h12 => ?_) (fun h12 => ?_)
      · replace h12 : 196 ≤ i := h12
        refine q_al (pc := 27) (i := 0) (x := 183) rfl rfl ?_
        refine q_gf (pc := 28) (m := 12032) (t := 2) (c := 3) rfl (ttKc kT (a := 183) (κ := 12) (len := 0) ⟨rfl, rfl⟩ (by decide) (by decide)).1 rfl rfl ?_
        rw [show K.1 183 3 = 186 from ttFx kT (by decide) (by decide) rfl rfl rfl]
        refine q_il (pc := 29) (i := 1) (x := k) rfl rfl ?_
        refine q_ic (pc := 30) (v := 1) rfl ?_
        refine q_sc2 (pc := 31) rfl (by decide) (ttKc kT (a := 186) (κ := 22) (len := 3) ⟨rfl, rfl⟩ (by decide) (by decide)).1 (by omega) (by rw [(ttKc kT (a := 186) (κ := 22) (len := 3) ⟨rfl, rfl⟩ (by decide) (by decide)).2]; omega) (by omega) ?_
        obtain ⟨V, jV⟩ : ∃ X : xH, X = (xUp K.1 186 k 1, K.2) := ⟨_, rfl⟩
        rw [← jV]
        have vd : V.1 = xUp K.1 186 k 1 := by rw [jV]
        refine q_ic (pc := 32) (v := 0) rfl ?_
        refine q_ri (pc := 33) rfl ?_
        refine hq _ V (fun _ => ⟨fun j ujj0 ujj1 => by rw [vd]; exact (up_na (by decide)).trans (kb j ujj0 (by omega)), fun j h => by rw [vd]; exact (up_na (by decide)).trans (kc j h)⟩) (fun z => absurd ⟨k0, k2⟩ z)
      · replace h12 : i < 196 := h12
        refine q_al (pc := 13) (i := 0) (x := 183) rfl rfl ?_
        refine q_gf (pc := 14) (m := 12022) (t := 2) (c := 2) rfl (ttKc kT (a := 183) (κ := 12) (len := 0) ⟨rfl, rfl⟩ (by decide) (by decide)).1 rfl rfl ?_
        rw [show K.1 183 2 = 185 from ttFx kT (by decide) (by decide) rfl rfl rfl]
        refine q_ic (pc := 15) (v := 196) rfl ?_
        refine q_il (pc := 16) (i := 1) (x := k) rfl rfl ?_
        refine q_im (pc := 17) rfl (by omega) (by omega) ?_
        refine q_il (pc := 18) (i := 2) (x := i) rfl rfl ?_
        refine q_ia (pc := 19) rfl (by omega) (by omega) ?_
        refine q_al (pc := 20) (i := 0) (x := 183) rfl rfl ?_
        refine q_gf (pc := 21) (m := 12012) (t := 2) (c := 1) rfl (ttKc kT (a := 183) (κ := 12) (len := 0) ⟨rfl, rfl⟩ (by decide) (by decide)).1 rfl rfl ?_
        rw [show K.1 183 1 = 184 from ttFx kT (by decide) (by decide) rfl rfl rfl]
        refine q_il (pc := 22) (i := 2) (x := i) rfl rfl ?_
        refine q_ai (pc := 23) rfl (ttKc kT (a := 184) (κ := 20) (len := 196) ⟨rfl, rfl⟩ (by decide) (by decide)).1 (by omega) (by rw [(ttKc kT (a := 184) (κ := 20) (len := 196) ⟨rfl, rfl⟩ (by decide) (by decide)).2]; omega) ?_
        rw [ka i]
        refine q_si (pc := 24) rfl (by decide) (ttKc kT (a := 185) (κ := 20) (len := 588) ⟨rfl, rfl⟩ (by decide) (by decide)).1 (by omega) (by rw [(ttKc kT (a := 185) (κ := 20) (len := 588) ⟨rfl, rfl⟩ (by decide) (by decide)).2]; omega) ?_
        have w := ttMc kT (a := 184) (j := i) (by decide) (by decide) i0 (by show i < 196; omega)
        rw [ka i] at w
        have c := ttPuT kT (ttFr_rf (true, [(185, 0, 587)]) K) (a := 185) (j := 196 * k + i) (x := H.1 184 i) (by decide) (fun _ _ => by rw [show ttRo 185 = 185 from rfl, ty_im k0 k2 i0 (by omega)]; exact w) ⟨(185, 0, 587), by simp, ⟨⟨by decide, rfl⟩, by show (0 : Int) ≤ 196 * k + i; omega, by show 196 * k + i ≤ (587 : Int); omega⟩⟩
        obtain ⟨Y, jY⟩ : ∃ X : xH, X = (xUp K.1 185 (196 * k + i) (H.1 184 i), K.2) := ⟨_, rfl⟩
        rw [← jY] at c ⊢
        have yd : Y.1 = xUp K.1 185 (196 * k + i) (H.1 184 i) := by rw [jY]
        refine q_ii (pc := 25) (i := 2) (c := 1) (x := i) (L' := [(2, 183), (0, k), (0, (i + 1))]) rfl rfl rfl (by omega) (by omega) rfl ?_
        refine q_go (pc := 26) rfl ?_
        refine ih Y (i + 1) (by omega) (by omega) (by omega) c.1 (fun j => by rw [yd]; exact (up_na (by decide)).trans (ka j)) (fun j ujj0 ujj1 => ?_) (fun j h => by rw [yd]; exact (up_j (by omega)).trans (kc j h))
        rw [yd]
        by_cases z : j = i
        · rw [z]; exact up_eq
        · exact (up_j (by omega)).trans (kb j ujj0 (by omega))
  refine xC_of (L := [(2, 183), (0, k), (9, 0)]) (cd := cd_205) rfl rfl rfl ?_
  refine q_il (pc := 0) (i := 1) (x := k) rfl rfl ?_
  refine q_2l (pc := 1) rfl ?_
  refine q_lc (pc := 2) (v := 0) rfl ?_
  refine q_lc (pc := 3) (v := 2) rfl ?_
  refine q_ij (pc := 4) (q := 1615932) rfl rfl rfl trivial ?_
  refine lf_in (by omega) (fun jn4 => ?_) (fun jn4 => ?_)
  · skip
    refine q_if (pc := 5) rfl (fun h5 => ?_) (fun h5 => ?_)
    · replace h5 : (1 : Int) ≠ 0 := h5
      refine q_ic (pc := 8) (v := 0) rfl ?_
      refine q_is (pc := 9) (i := 2) (L' := [(2, 183), (0, k), (0, 0)]) rfl rfl rfl ?_
      exact hl jn4.1 jn4.2 196 H 0 (by decide) (by decide) (by decide) hT (fun _ => rfl) (fun j ujj0 ujj1 => absurd ujj1 (by omega)) (fun _ _ => rfl)
    · replace h5 : (1 : Int) = 0 := h5
      omega
  · skip
    refine q_if (pc := 5) rfl (fun h5 => ?_) (fun h5 => ?_)
    · replace h5 : (0 : Int) ≠ 0 := h5
      omega
    · replace h5 : (0 : Int) = 0 := h5
      refine q_ic (pc := 6) (v := (-2)) rfl ?_
      refine q_ri (pc := 7) rfl ?_
      exact hq _ H (fun z => absurd z jn4) (fun _ => rfl)
theorem lx_backC2 {dd : Nat} (hd : 2 ≤ dd) {H : xH} (hT : ttTI H) {k : Int} {Q : Int → xH → Prop} (hq : ∀ r K, ((0 ≤ k ∧ k ≤ 2) ∧ H.1 186 k ≠ 0 → ∀ j : Int, 0 ≤ j → j < 196 → K.1 184 j = H.1 185 (196 * k + j)) → (¬ ((0 ≤ k ∧ k ≤ 2) ∧ H.1 186 k ≠ 0) → K.1 = H.1) → Q r K) : xCall dd 206 [(2, 183), (0, k)] H Q := by
  obtain ⟨e, rfl, he⟩ := ttRun0 (n := 1) hd
  have he : 1 ≤ e := he
  have hl : 0 ≤ k → k ≤ 2 → H.1 186 k ≠ 0 → ∀ n : Nat, ∀ (K : xH) (i : Int), 0 ≤ i → i ≤ 196 → 196 - i ≤ (n : Int) → ttTI K → (∀ j : Int, K.1 185 j = H.1 185 j) → (∀ j : Int, 0 ≤ j → j < i → K.1 184 j = H.1 185 (196 * k + j)) → xW e cd_206 Q (17, [(2, 183), (0, k), (0, i)], [], K) := by
    intro k0 k2 kn n
    induction n with
    | zero =>
      intro K i i0 i1 hk kT ka kb
      refine q_il (pc := 17) (i := 2) (x := i) rfl rfl ?_
      refine q_ic (pc := 18) (v := 196) rfl ?_
      refine q_i2 (pc := 19) rfl (fun h19 => ?_) (fun h19 => ?_)
      · replace h19 : 196 ≤ i := h19
        refine q_al (pc := 34) (i := 0) (x := 183) rfl rfl ?_
        refine q_iv (pc := 35) (q := 2128967) rfl rfl rfl (ttKc kT (a := 183) (κ := 12) (len := 0) ⟨rfl, rfl⟩ (by decide) (by decide)).1 ?_
        refine lf_forgets (by omega) kT (fun M mT mF m22 m29 => ?_)
        refine q_ic (pc := 36) (v := 0) rfl ?_
        refine q_ri (pc := 37) rfl ?_
        exact hq _ M (fun _ j ujj0 ujj1 => (fr_no mF 184 (by have := kT.1; omega) rfl (by decide)).trans (kb j ujj0 (by omega))) (fun z => absurd ⟨⟨k0, k2⟩, kn⟩ z)
      · replace h19 : i < 196 := h19
        omega
    | succ n ih =>
      intro K i i0 i1 hk kT ka kb
      refine q_il (pc := 17) (i := 2) (x := i) rfl rfl ?_
      refine q_ic (pc := 18) (v := 196) rfl ?_
      refine q_i2 (pc := 19) rfl (fun h19 => ?_) (fun h19 => ?_)
      · replace h19 : 196 ≤ i := h19
        refine q_al (pc := 34) (i := 0) (x := 183) rfl rfl ?_
        refine q_iv (pc := 35) (q := 2128967) rfl rfl rfl (ttKc kT (a := 183) (κ := 12) (len := 0) ⟨rfl, rfl⟩ (by decide) (by decide)).1 ?_
        refine lf_forgets (by omega) kT (fun M mT mF m22 m29 => ?_)
        refine q_ic (pc := 36) (v := 0) rfl ?_
        refine q_ri (pc := 37) rfl ?_
        exact hq _ M (fun _ j ujj0 ujj1 => (fr_no mF 184 (by have := kT.1; omega) rfl (by decide)).trans (kb j ujj0 (by omega))) (fun z => absurd ⟨⟨k0, k2⟩, kn⟩ z)
      · replace h19 : i < 196 := h19
        refine q_al (pc := 20) (i := 0) (x := 183) rfl rfl ?_
        refine q_gf (pc := 21) (m := 12012) (t := 2) (c := 1) rfl (ttKc kT (a := 183) (κ := 12) (len := 0) ⟨rfl, rfl⟩ (by decide) (by decide)).1 rfl rfl ?_
        rw [show K.1 183 1 = 184 from ttFx kT (by decide) (by decide) rfl rfl rfl]
        refine q_il (pc := 22) (i := 2) (x := i) rfl rfl ?_
        refine q_al (pc := 23) (i := 0) (x := 183) rfl rfl ?_
        refine q_gf (pc := 24) (m := 12022) (t := 2) (c := 2) rfl (ttKc kT (a := 183) (κ := 12) (len := 0) ⟨rfl, rfl⟩ (by decide) (by decide)).1 rfl rfl ?_
        rw [show K.1 183 2 = 185 from ttFx kT (by decide) (by decide) rfl rfl rfl]
        refine q_ic (pc := 25) (v := 196) rfl ?_
        refine q_il (pc := 26) (i := 1) (x := k) rfl rfl ?_
        refine q_im (pc := 27) rfl (by omega) (by omega) ?_
        refine q_il (pc := 28) (i := 2) (x := i) rfl rfl ?_
        refine q_ia (pc := 29) rfl (by omega) (by omega) ?_
        refine q_ai (pc := 30) rfl (ttKc kT (a := 185) (κ := 20) (len := 588) ⟨rfl, rfl⟩ (by decide) (by decide)).1 (by omega) (by rw [(ttKc kT (a := 185) (κ := 20) (len := 588) ⟨rfl, rfl⟩ (by decide) (by decide)).2]; omega) ?_
        rw [ka]
        refine q_si (pc := 31) rfl (by decide) (ttKc kT (a := 184) (κ := 20) (len := 196) ⟨rfl, rfl⟩ (by decide) (by decide)).1 (by omega) (by rw [(ttKc kT (a := 184) (κ := 20) (len := 196) ⟨rfl, rfl⟩ (by decide) (by decide)).2]; omega) ?_
        have w := ttMc kT (a := 185) (j := 196 * k + i) (by decide) (by decide) (by omega) (by show 196 * k + i < 588; omega)
        rw [ka, show ttRo 185 = 185 from rfl, ty_im k0 k2 i0 (by omega)] at w
        have c := ttPuT kT (ttFr_rf (true, [(184, 0, 195)]) K) (a := 184) (j := i) (x := H.1 185 (196 * k + i)) (by decide) (fun _ _ => w) ⟨(184, 0, 195), by simp, ⟨⟨by decide, rfl⟩, by show (0 : Int) ≤ i; omega, by show i ≤ (195 : Int); omega⟩⟩
        obtain ⟨Y, jY⟩ : ∃ X : xH, X = (xUp K.1 184 i (H.1 185 (196 * k + i)), K.2) := ⟨_, rfl⟩
        rw [← jY] at c ⊢
        have yd : Y.1 = xUp K.1 184 i (H.1 185 (196 * k + i)) := by rw [jY]
        refine q_ii (pc := 32) (i := 2) (c := 1) (x := i) (L' := [(2, 183), (0, k), (0, (i + 1))]) rfl rfl rfl (by omega) (by omega) rfl ?_
        refine q_go (pc := 33) rfl ?_
        refine ih Y (i + 1) (by omega) (by omega) (by omega) c.1 (fun j => by rw [yd]; exact (up_na (by decide)).trans (ka j)) (fun j ujj0 ujj1 => ?_)
        rw [yd]
        by_cases z : j = i
        · rw [z]; exact up_eq
        · exact (up_j z).trans (kb j ujj0 (by omega))
  refine xC_of (L := [(2, 183), (0, k), (9, 0)]) (cd := cd_206) rfl rfl rfl ?_
  refine q_il (pc := 0) (i := 1) (x := k) rfl rfl ?_
  refine q_2l (pc := 1) rfl ?_
  refine q_lc (pc := 2) (v := 0) rfl ?_
  refine q_lc (pc := 3) (v := 2) rfl ?_
  refine q_ij (pc := 4) (q := 1615932) rfl rfl rfl trivial ?_
  refine lf_in (by omega) (fun jn4 => ?_) (fun jn4 => ?_)
  · skip
    refine q_if (pc := 5) rfl (fun h5 => ?_) (fun h5 => ?_)
    · replace h5 : (1 : Int) ≠ 0 := h5
      refine q_al (pc := 8) (i := 0) (x := 183) rfl rfl ?_
      refine q_gf (pc := 9) (m := 12032) (t := 2) (c := 3) rfl (ttKc hT (a := 183) (κ := 12) (len := 0) ⟨rfl, rfl⟩ (by decide) (by decide)).1 rfl rfl ?_
      rw [show H.1 183 3 = 186 from ttFx hT (by decide) (by decide) rfl rfl rfl]
      refine q_il (pc := 10) (i := 1) (x := k) rfl rfl ?_
      refine q_ac (pc := 11) rfl (ttKc hT (a := 186) (κ := 22) (len := 3) ⟨rfl, rfl⟩ (by decide) (by decide)).1 (by omega) (by rw [(ttKc hT (a := 186) (κ := 22) (len := 3) ⟨rfl, rfl⟩ (by decide) (by decide)).2]; omega) ?_
      refine q_if (pc := 12) rfl (fun h12 => ?_) (fun h12 => ?_)
      · replace h12 : (H.1 186 k) ≠ 0 := h12
        refine q_ic (pc := 15) (v := 0) rfl ?_
        refine q_is (pc := 16) (i := 2) (L' := [(2, 183), (0, k), (0, 0)]) rfl rfl rfl ?_
        exact hl jn4.1 jn4.2 h12 196 H 0 (by decide) (by decide) (by decide) hT (fun _ => rfl) (fun j ujj0 ujj1 => absurd ujj1 (by omega))
      · replace h12 : (H.1 186 k) = 0 := h12
        refine q_ic (pc := 13) (v := (-6)) rfl ?_
        refine q_ri (pc := 14) rfl ?_
        exact hq _ H (fun z => absurd h12 z.2) (fun _ => rfl)
    · replace h5 : (1 : Int) = 0 := h5
      omega
  · skip
    refine q_if (pc := 5) rfl (fun h5 => ?_) (fun h5 => ?_)
    · replace h5 : (0 : Int) ≠ 0 := h5
      omega
    · replace h5 : (0 : Int) = 0 := h5
      refine q_ic (pc := 6) (v := (-2)) rfl ?_
      refine q_ri (pc := 7) rfl ?_
      exact hq _ H (fun z => absurd z.1 jn4) (fun _ => rfl)
