/-! the first glides, exactly -/
def hpS (f : Int → Int) : Int := f 0 + f 1 + f 2 + f 3 + f 4 + f 5 + f 6 + f 7
theorem hpS_up {f g : Int → Int} {q v : Int} (q0 : 0 ≤ q) (q7 : q ≤ 7) (e : g q = v) (o : ∀ j : Int, j ≠ q → g j = f j) : hpS g = hpS f - f q + v := by
  have k0 := o 0
  have k1 := o 1
  have k2 := o 2
  have k3 := o 3
  have k4 := o 4
  have k5 := o 5
  have k6 := o 6
  have k7 := o 7
  unfold hpS
  have hj : q = 0 ∨ q = 1 ∨ q = 2 ∨ q = 3 ∨ q = 4 ∨ q = 5 ∨ q = 6 ∨ q = 7 := by omega
  rcases hj with rfl | rfl | rfl | rfl | rfl | rfl | rfl | rfl <;> omega
/-- what a hop asks for and gives -/
def hpQ (R f : Int → Int) (p : Int) (T X M : Int → Int) (n : Int) : Prop := ∀ i : Int, 0 ≤ i → i < n → M i ≤ f p → min (R 7) (f p - X i) ≤ f (T i)
theorem hp_to {dd : Nat} (hd : 1 ≤ dd) {q v : Int} {H : xH} (hT : ttTI H) (q0 : 0 ≤ q) (q7 : q ≤ 7) (v0 : -2147483648 ≤ v) (v1 : v ≤ 2147483647) {Q : Int → xH → Prop} (hy : H.1 71 q < v → Q 1 (xUp H.1 71 q v, H.2)) (hn : v ≤ H.1 71 q → Q 0 H) : xCall dd 27 [(2, 63), (0, q), (0, v)] H Q := by
  obtain ⟨e, rfl, he⟩ := ttRun0 (n := 0) hd
  refine xC_of (L := [(2, 63), (0, q), (0, v)]) (cd := cd_27) rfl rfl rfl ?_
  refine q_il (pc := 0) (i := 1) (x := q) rfl rfl ?_
  refine q_if (pc := 1) rfl (fun h1 => ?_) (fun h1 => ?_)
  · replace h1 : q < 0 := h1
    refine q_ic (pc := 11) (v := 0) rfl ?_
    refine q_rz (pc := 12) rfl (by omega) ?_
    first | exact hn (by omega) | omega
  · replace h1 : 0 ≤ q := h1
    refine q_il (pc := 2) (i := 1) (x := q) rfl rfl ?_
    refine q_ic (pc := 3) (v := 8) rfl ?_
    refine q_i2 (pc := 4) rfl (fun h4 => ?_) (fun h4 => ?_)
    · replace h4 : 8 ≤ q := h4
      refine q_ic (pc := 11) (v := 0) rfl ?_
      refine q_rz (pc := 12) rfl (by omega) ?_
      first | exact hn (by omega) | omega
    · replace h4 : q < 8 := h4
      refine q_il (pc := 5) (i := 2) (x := v) rfl rfl ?_
      refine q_al (pc := 6) (i := 0) (x := 63) rfl rfl ?_
      refine q_gf (pc := 7) (m := 1082) (t := 2) (c := 8) rfl (ttKc hT (a := 63) (κ := 1) (len := 0) ⟨rfl, rfl⟩ (by decide) (by decide)).1 rfl rfl ?_
      rw [show H.1 63 8 = 71 from ttFx hT (by decide) (by decide) rfl rfl rfl]
      refine q_il (pc := 8) (i := 1) (x := q) rfl rfl ?_
      refine q_ai (pc := 9) rfl (ttKc hT (a := 71) (κ := 20) (len := 8) ⟨rfl, rfl⟩ (by decide) (by decide)).1 (by omega) (by rw [(ttKc hT (a := 71) (κ := 20) (len := 8) ⟨rfl, rfl⟩ (by decide) (by decide)).2]; omega) ?_
      refine q_i2 (pc := 10) rfl (fun h10 => ?_) (fun h10 => ?_)
      · replace h10 : (H.1 71 q) < v := h10
        refine q_al (pc := 13) (i := 0) (x := 63) rfl rfl ?_
        refine q_gf (pc := 14) (m := 1082) (t := 2) (c := 8) rfl (ttKc hT (a := 63) (κ := 1) (len := 0) ⟨rfl, rfl⟩ (by decide) (by decide)).1 rfl rfl ?_
        rw [show H.1 63 8 = 71 from ttFx hT (by decide) (by decide) rfl rfl rfl]
        refine q_il (pc := 15) (i := 1) (x := q) rfl rfl ?_
        refine q_il (pc := 16) (i := 2) (x := v) rfl rfl ?_
        refine q_si (pc := 17) rfl (by decide) (ttKc hT (a := 71) (κ := 20) (len := 8) ⟨rfl, rfl⟩ (by decide) (by decide)).1 (by omega) (by rw [(ttKc hT (a := 71) (κ := 20) (len := 8) ⟨rfl, rfl⟩ (by decide) (by decide)).2]; omega) ?_
        refine q_ic (pc := 18) (v := 1) rfl ?_
        refine q_rz (pc := 19) rfl (by omega) ?_
        exact hy (by omega)
      · replace h10 : v ≤ (H.1 71 q) := h10
        refine q_ic (pc := 11) (v := 0) rfl ?_
        refine q_rz (pc := 12) rfl (by omega) ?_
        first | exact hn (by omega) | omega
theorem hp_cap {dd : Nat} (hd : 2 ≤ dd) {x C : Int} {H : xH} (hT : ttTI H) {b : Int} (hB : skB b) (e7 : H.1 b 9 = C) {Q : Int → xH → Prop} (hq : Q (min C x) H) : xCall dd 128 [(2, b), (0, x)] H Q := by
  obtain ⟨e, rfl, he⟩ := ttRun0 (n := 1) hd
  have he : 1 ≤ e := he
  refine xC_of (L := [(2, b), (0, x)]) (cd := cd_128) rfl rfl rfl ?_
  refine q_al (pc := 0) (i := 0) (x := b) rfl rfl ?_
  refine q_gf (pc := 1) (m := 10090) (t := 0) (c := 9) rfl (sk_kb hT hB).1 rfl rfl ?_
  rw [show H.1 b 9 = C from e7]
  refine q_il (pc := 2) (i := 1) (x := x) rfl rfl ?_
  refine q_mn (pc := 3) rfl rfl (by omega) ?_
  refine q_ri (pc := 4) rfl ?_
  exact hq
theorem hp_at {dd : Nat} (hd : 1 ≤ dd) {q : Int} {H : xH} (hT : ttTI H) (q0 : 0 ≤ q) (q7 : q ≤ 7) {Q : Int → xH → Prop} (hq : Q (H.1 71 q) H) : xCall dd 21 [(2, 63), (0, q)] H Q := by
  obtain ⟨e, rfl, he⟩ := ttRun0 (n := 0) hd
  refine xC_of (L := [(2, 63), (0, q)]) (cd := cd_21) rfl rfl rfl ?_
  refine q_il (pc := 0) (i := 1) (x := q) rfl rfl ?_
  refine q_if (pc := 1) rfl (fun h1 => ?_) (fun h1 => ?_)
  · replace h1 : q < 0 := h1
    refine q_ic (pc := 10) (v := (-1)) rfl ?_
    refine q_ri (pc := 11) rfl ?_
    omega
  · replace h1 : 0 ≤ q := h1
    refine q_il (pc := 2) (i := 1) (x := q) rfl rfl ?_
    refine q_ic (pc := 3) (v := 8) rfl ?_
    refine q_i2 (pc := 4) rfl (fun h4 => ?_) (fun h4 => ?_)
    · replace h4 : 8 ≤ q := h4
      refine q_ic (pc := 10) (v := (-1)) rfl ?_
      refine q_ri (pc := 11) rfl ?_
      omega
    · replace h4 : q < 8 := h4
      refine q_al (pc := 5) (i := 0) (x := 63) rfl rfl ?_
      refine q_gf (pc := 6) (m := 1082) (t := 2) (c := 8) rfl (ttKc hT (a := 63) (κ := 1) (len := 0) ⟨rfl, rfl⟩ (by decide) (by decide)).1 rfl rfl ?_
      rw [show H.1 63 8 = 71 from ttFx hT (by decide) (by decide) rfl rfl rfl]
      refine q_il (pc := 7) (i := 1) (x := q) rfl rfl ?_
      refine q_ai (pc := 8) rfl (ttKc hT (a := 71) (κ := 20) (len := 8) ⟨rfl, rfl⟩ (by decide) (by decide)).1 (by omega) (by rw [(ttKc hT (a := 71) (κ := 20) (len := 8) ⟨rfl, rfl⟩ (by decide) (by decide)).2]; omega) ?_
      refine q_go (pc := 9) rfl ?_
      refine q_ri (pc := 11) rfl ?_
      exact hq
theorem hp_raise {dd : Nat} (hd : 3 ≤ dd) {H : xH} (hT : ttTI H) {b : Int} (hB : skB b) {R : Int → Int} (e7 : H.1 b 9 = R 7) (n8 : R 1 ≤ 8) {p g F m : Int} {T X M : Int → Int} (p0 : 0 ≤ p) (p7 : p < R 1) (g0 : 0 ≤ g) (g1 : g ≤ 15) (eF : H.1 64 g = F) (eG : H.1 64 (g + 1) = F + m) (F0 : 0 ≤ F) (m0 : 0 ≤ m) (Fm : F + m ≤ 240) (hH : hpH H.1 F m T X M) (hG : hpG R m T X M) {J : (Int → Int) → Prop} (hJ : J (H.1 71)) (hJb : ∀ f : Int → Int, J f → ∀ q : Int, 0 ≤ q → q ≤ 7 → -1 ≤ f q ∧ f q ≤ 60) (hJ1 : ∀ (f f2 : Int → Int) (i : Int), J f → 0 ≤ i → i < m → M i ≤ f p → f (T i) < min (R 7) (f p - X i) → f2 (T i) = min (R 7) (f p - X i) → (∀ q : Int, q ≠ T i → f2 q = f q) → J f2) (ujr7 : 0 ≤ R 7 ∧ R 7 ≤ 60) {Q : Int → xH → Prop} (hn : hpQ R (H.1 71) p T X M m → Q 0 H) (hy : ∀ K, ttTI K → ttFr (true, [(71, 0, 7)]) H K → J (K.1 71) → hpS (H.1 71) < hpS (K.1 71) → Q 1 K) : xCall dd 26 [(2, 63), (2, b), (0, p), (0, g)] H Q := by
  obtain ⟨e, rfl, he⟩ := ttRun0 (n := 2) hd
  have he : 2 ≤ e := he
  have hn2 : 210 ≤ (H.2.2.2.1 : Int) := by have := hT.1; omega
  have hi := skB_in hB
  have h65 := skB_65 hB
  have hl : ∀ n : Nat, ∀ (K : xH) (i r : Int) (x6 : xV), 0 ≤ i → i ≤ m → m - i ≤ (n : Int) → ttTI K → ttFr (true, [(71, 0, 7)]) H K → J (K.1 71) → (r = 0 → K = H ∧ hpQ R (H.1 71) p T X M i) → (r ≠ 0 → r = 1 ∧ hpS (H.1 71) < hpS (K.1 71)) → xW e cd_26 Q (7, [(2, 63), (2, b), (0, p), (0, g), (0, r), (0, (F + i)), x6], [], K) := by
    intro n
    induction n with
    | zero =>
      intro K i r x6 i0 i1 hz kT kF kJ kz ky
      have kf : ∀ a j : Int, a = 64 ∨ a = 65 ∨ a = 67 ∨ a = 68 → K.1 a j = H.1 a j := fun a j ha => by
        rcases ha with rfl | rfl | rfl | rfl
        · exact fr_no kF 64 (by omega) rfl (by decide)
        · exact fr_no kF 65 (by omega) rfl (by decide)
        · exact fr_no kF 67 (by omega) rfl (by decide)
        · exact fr_no kF 68 (by omega) rfl (by decide)
      have k7 : K.1 b 9 = R 7 := (sk_fr kF hn2 hB (by decide) (by omega) (by omega)).trans e7
      have kb := hJb _ kJ
      refine q_il (pc := 7) (i := 5) (x := (F + i)) rfl rfl ?_
      refine q_al (pc := 8) (i := 0) (x := 63) rfl rfl ?_
      refine q_gf (pc := 9) (m := 1002) (t := 2) (c := 0) rfl (ttKc kT (a := 63) (κ := 1) (len := 0) ⟨rfl, rfl⟩ (by decide) (by decide)).1 rfl rfl ?_
      rw [show K.1 63 0 = 64 from ttFx kT (by decide) (by decide) rfl rfl rfl]
      refine q_il (pc := 10) (i := 3) (x := g) rfl rfl ?_
      refine q_ic (pc := 11) (v := 1) rfl ?_
      refine q_ia (pc := 12) rfl (by omega) (by omega) ?_
      refine q_ai (pc := 13) rfl (ttKc kT (a := 64) (κ := 20) (len := 17) ⟨rfl, rfl⟩ (by decide) (by decide)).1 (by omega) (by rw [(ttKc kT (a := 64) (κ := 20) (len := 17) ⟨rfl, rfl⟩ (by decide) (by decide)).2]; omega) ?_
      rw [show K.1 64 (g + 1) = (F + m) from (kf _ _ (by omega)).trans eG]
      refine q_i2 (pc := 14) rfl (fun h14 => ?_) (fun h14 => ?_)
      · replace h14 : (F + m) ≤ (F + i) := h14
        refine q_il (pc := 48) (i := 4) (x := r) rfl rfl ?_
        refine q_rz (pc := 49) rfl (by omega) ?_
        have ei : i = m := by omega
        by_cases c : r = 0
        · obtain ⟨z1, z2⟩ := kz c
          rw [ei] at z2
          rw [c, z1]
          exact hn z2
        · obtain ⟨z1, z2⟩ := ky c
          rw [z1]
          exact hy K kT kF kJ z2
      · replace h14 : (F + i) < (F + m) := h14
        omega
    | succ n ih =>
      intro K i r x6 i0 i1 hz kT kF kJ kz ky
      have kf : ∀ a j : Int, a = 64 ∨ a = 65 ∨ a = 67 ∨ a = 68 → K.1 a j = H.1 a j := fun a j ha => by
        rcases ha with rfl | rfl | rfl | rfl
        · exact fr_no kF 64 (by omega) rfl (by decide)
        · exact fr_no kF 65 (by omega) rfl (by decide)
        · exact fr_no kF 67 (by omega) rfl (by decide)
        · exact fr_no kF 68 (by omega) rfl (by decide)
      have k7 : K.1 b 9 = R 7 := (sk_fr kF hn2 hB (by decide) (by omega) (by omega)).trans e7
      have kb := hJb _ kJ
      refine q_il (pc := 7) (i := 5) (x := (F + i)) rfl rfl ?_
      refine q_al (pc := 8) (i := 0) (x := 63) rfl rfl ?_
      refine q_gf (pc := 9) (m := 1002) (t := 2) (c := 0) rfl (ttKc kT (a := 63) (κ := 1) (len := 0) ⟨rfl, rfl⟩ (by decide) (by decide)).1 rfl rfl ?_
      rw [show K.1 63 0 = 64 from ttFx kT (by decide) (by decide) rfl rfl rfl]
      refine q_il (pc := 10) (i := 3) (x := g) rfl rfl ?_
      refine q_ic (pc := 11) (v := 1) rfl ?_
      refine q_ia (pc := 12) rfl (by omega) (by omega) ?_
      refine q_ai (pc := 13) rfl (ttKc kT (a := 64) (κ := 20) (len := 17) ⟨rfl, rfl⟩ (by decide) (by decide)).1 (by omega) (by rw [(ttKc kT (a := 64) (κ := 20) (len := 17) ⟨rfl, rfl⟩ (by decide) (by decide)).2]; omega) ?_
      rw [show K.1 64 (g + 1) = (F + m) from (kf _ _ (by omega)).trans eG]
      refine q_i2 (pc := 14) rfl (fun h14 => ?_) (fun h14 => ?_)
      · replace h14 : (F + m) ≤ (F + i) := h14
        refine q_il (pc := 48) (i := 4) (x := r) rfl rfl ?_
        refine q_rz (pc := 49) rfl (by omega) ?_
        have ei : i = m := by omega
        by_cases c : r = 0
        · obtain ⟨z1, z2⟩ := kz c
          rw [ei] at z2
          rw [c, z1]
          exact hn z2
        · obtain ⟨z1, z2⟩ := ky c
          rw [z1]
          exact hy K kT kF kJ z2
      · replace h14 : (F + i) < (F + m) := h14
        refine q_al (pc := 15) (i := 1) (x := b) rfl rfl ?_
        refine q_al (pc := 16) (i := 0) (x := 63) rfl rfl ?_
        refine q_gf (pc := 17) (m := 1082) (t := 2) (c := 8) rfl (ttKc kT (a := 63) (κ := 1) (len := 0) ⟨rfl, rfl⟩ (by decide) (by decide)).1 rfl rfl ?_
        rw [show K.1 63 8 = 71 from ttFx kT (by decide) (by decide) rfl rfl rfl]
        refine q_il (pc := 18) (i := 2) (x := p) rfl rfl ?_
        refine q_ai (pc := 19) rfl (ttKc kT (a := 71) (κ := 20) (len := 8) ⟨rfl, rfl⟩ (by decide) (by decide)).1 (by omega) (by rw [(ttKc kT (a := 71) (κ := 20) (len := 8) ⟨rfl, rfl⟩ (by decide) (by decide)).2]; omega) ?_
        obtain ⟨hE1, hE2, hE3⟩ := hH i i0 (by omega)
        obtain ⟨hG1, hG2, hG3⟩ := hG i i0 (by omega)
        have kp := kb p p0 (by omega)
        have kt := kb (T i) hG1.1 (by omega)
        obtain ⟨v, jv⟩ : ∃ v, v = K.1 71 p := ⟨_, rfl⟩
        rw [← jv] at kp
        rw [show K.1 71 p = v from jv.symm]
        refine q_al (pc := 20) (i := 0) (x := 63) rfl rfl ?_
        refine q_gf (pc := 21) (m := 1032) (t := 2) (c := 3) rfl (ttKc kT (a := 63) (κ := 1) (len := 0) ⟨rfl, rfl⟩ (by decide) (by decide)).1 rfl rfl ?_
        rw [show K.1 63 3 = 67 from ttFx kT (by decide) (by decide) rfl rfl rfl]
        refine q_il (pc := 22) (i := 5) (x := (F + i)) rfl rfl ?_
        refine q_ai (pc := 23) rfl (ttKc kT (a := 67) (κ := 20) (len := 240) ⟨rfl, rfl⟩ (by decide) (by decide)).1 (by omega) (by rw [(ttKc kT (a := 67) (κ := 20) (len := 240) ⟨rfl, rfl⟩ (by decide) (by decide)).2]; omega) ?_
        rw [show K.1 67 (F + i) = (X i) from (kf _ _ (by omega)).trans hE2]
        refine q_ib (pc := 24) rfl (by omega) (by omega) ?_
        refine q_iv (pc := 25) (q := 1024808) rfl rfl rfl (sk_kb kT hB).1 ?_
        refine hp_cap (by omega) kT hB k7 ?_
        obtain ⟨u, ju⟩ : ∃ u, u = min (R 7) (v - X i) := ⟨_, rfl⟩
        rw [← ju]
        refine q_is (pc := 26) (i := 6) (L' := [(2, 63), (2, b), (0, p), (0, g), (0, r), (0, (F + i)), (0, u)]) rfl rfl rfl ?_
        refine q_al (pc := 27) (i := 0) (x := 63) rfl rfl ?_
        refine q_gf (pc := 28) (m := 1082) (t := 2) (c := 8) rfl (ttKc kT (a := 63) (κ := 1) (len := 0) ⟨rfl, rfl⟩ (by decide) (by decide)).1 rfl rfl ?_
        rw [show K.1 63 8 = 71 from ttFx kT (by decide) (by decide) rfl rfl rfl]
        refine q_il (pc := 29) (i := 2) (x := p) rfl rfl ?_
        refine q_ai (pc := 30) rfl (ttKc kT (a := 71) (κ := 20) (len := 8) ⟨rfl, rfl⟩ (by decide) (by decide)).1 (by omega) (by rw [(ttKc kT (a := 71) (κ := 20) (len := 8) ⟨rfl, rfl⟩ (by decide) (by decide)).2]; omega) ?_
        rw [show K.1 71 p = v from jv.symm]
        refine q_al (pc := 31) (i := 0) (x := 63) rfl rfl ?_
        refine q_gf (pc := 32) (m := 1042) (t := 2) (c := 4) rfl (ttKc kT (a := 63) (κ := 1) (len := 0) ⟨rfl, rfl⟩ (by decide) (by decide)).1 rfl rfl ?_
        rw [show K.1 63 4 = 68 from ttFx kT (by decide) (by decide) rfl rfl rfl]
        refine q_il (pc := 33) (i := 5) (x := (F + i)) rfl rfl ?_
        refine q_ai (pc := 34) rfl (ttKc kT (a := 68) (κ := 20) (len := 240) ⟨rfl, rfl⟩ (by decide) (by decide)).1 (by omega) (by rw [(ttKc kT (a := 68) (κ := 20) (len := 240) ⟨rfl, rfl⟩ (by decide) (by decide)).2]; omega) ?_
        rw [show K.1 68 (F + i) = (M i) from (kf _ _ (by omega)).trans hE3]
        refine q_i2 (pc := 35) rfl (fun h35 => ?_) (fun h35 => ?_)
        · replace h35 : v < (M i) := h35
          refine q_ii (pc := 46) (i := 5) (c := 1) (x := (F + i)) (L' := [(2, 63), (2, b), (0, p), (0, g), (0, r), (0, ((F + i) + 1)), (0, u)]) rfl rfl rfl (by omega) (by omega) rfl ?_
          refine q_go (pc := 47) rfl ?_
          rw [show (F + i) + 1 = F + (i + 1) from by omega]
          exact ih K (i + 1) r _ (by omega) (by omega) (by omega) kT kF kJ (fun z => ⟨(kz z).1, fun j ujj0 ujj1 hj => by
            by_cases c : j = i
            · subst c
              rw [← (kz z).1, ← jv] at hj
              omega
            · exact (kz z).2 j ujj0 (by omega) hj⟩) ky
        · replace h35 : (M i) ≤ v := h35
          refine q_al (pc := 36) (i := 0) (x := 63) rfl rfl ?_
          refine q_al (pc := 37) (i := 0) (x := 63) rfl rfl ?_
          refine q_gf (pc := 38) (m := 1012) (t := 2) (c := 1) rfl (ttKc kT (a := 63) (κ := 1) (len := 0) ⟨rfl, rfl⟩ (by decide) (by decide)).1 rfl rfl ?_
          rw [show K.1 63 1 = 65 from ttFx kT (by decide) (by decide) rfl rfl rfl]
          refine q_il (pc := 39) (i := 5) (x := (F + i)) rfl rfl ?_
          refine q_ai (pc := 40) rfl (ttKc kT (a := 65) (κ := 20) (len := 240) ⟨rfl, rfl⟩ (by decide) (by decide)).1 (by omega) (by rw [(ttKc kT (a := 65) (κ := 20) (len := 240) ⟨rfl, rfl⟩ (by decide) (by decide)).2]; omega) ?_
          rw [show K.1 65 (F + i) = (T i) from (kf _ _ (by omega)).trans hE1]
          refine q_il (pc := 41) (i := 6) (x := u) rfl rfl ?_
          refine q_iv (pc := 42) (q := 216092) rfl rfl rfl (ttKc kT (a := 63) (κ := 1) (len := 0) ⟨rfl, rfl⟩ (by decide) (by decide)).1 ?_
          refine hp_to (by omega) kT hG1.1 (by omega) (by omega) (by omega) (fun hv => ?_) (fun hv => ?_)
          · refine q_if (pc := 43) rfl (fun z => absurd (show (1 : Int) = 0 from z) (by decide)) (fun _ => ?_)
            refine q_ic (pc := 44) (v := 1) rfl ?_
            refine q_is (pc := 45) (i := 4) (L' := [(2, 63), (2, b), (0, p), (0, g), (0, 1), (0, (F + i)), (0, u)]) rfl rfl rfl ?_
            have mc := ttPuT kT kF (a := 71) (j := T i) (x := u) (by decide) (fun _ _ => ttTyr rfl (by omega) (by omega)) ⟨(71, 0, 7), by decide, ⟨⟨by decide, rfl⟩, hG1.1, by show T i ≤ 7; omega⟩⟩
            have e1 : xUp K.1 71 (T i) u 71 (T i) = u := up_eq
            have e2 : ∀ q : Int, q ≠ T i → xUp K.1 71 (T i) u 71 q = K.1 71 q := fun q hq => up_j hq
            have mJ := hJ1 (K.1 71) (xUp K.1 71 (T i) u 71) i kJ i0 (by omega) (by rw [← jv]; exact h35) (by rw [← jv, ← ju]; exact hv) (by rw [← jv, ← ju]; exact e1) e2
            have mS := hpS_up hG1.1 (by omega) e1 e2
            have oS : hpS (H.1 71) ≤ hpS (K.1 71) := by
              by_cases c : r = 0
              · rw [(kz c).1]; exact Int.le_refl _
              · exact Int.le_of_lt (ky c).2
            refine q_ii (pc := 46) (i := 5) (c := 1) (x := (F + i)) (L' := [(2, 63), (2, b), (0, p), (0, g), (0, 1), (0, ((F + i) + 1)), (0, u)]) rfl rfl rfl (by omega) (by omega) rfl ?_
            refine q_go (pc := 47) rfl ?_
            rw [show (F + i) + 1 = F + (i + 1) from by omega]
            exact ih (xUp K.1 71 (T i) u, K.2) (i + 1) 1 _ (by omega) (by omega) (by omega) mc.1 mc.2 mJ (fun z => absurd z (by decide)) (fun _ => ⟨rfl, by show hpS (H.1 71) < hpS (xUp K.1 71 (T i) u 71); omega⟩)
          · refine q_if (pc := 43) rfl (fun _ => ?_) (fun z => absurd rfl z)
            refine q_ii (pc := 46) (i := 5) (c := 1) (x := (F + i)) (L' := [(2, 63), (2, b), (0, p), (0, g), (0, r), (0, ((F + i) + 1)), (0, u)]) rfl rfl rfl (by omega) (by omega) rfl ?_
            refine q_go (pc := 47) rfl ?_
            rw [show (F + i) + 1 = F + (i + 1) from by omega]
            exact ih K (i + 1) r _ (by omega) (by omega) (by omega) kT kF kJ (fun z => ⟨(kz z).1, fun j ujj0 ujj1 hj => by
              by_cases c : j = i
              · subst c
                rw [← (kz z).1, ← jv, ← ju]
                exact hv
              · exact (kz z).2 j ujj0 (by omega) hj⟩) ky
  refine xC_of (L := [(2, 63), (2, b), (0, p), (0, g), (9, 0), (9, 0), (9, 0)]) (cd := cd_26) rfl rfl rfl ?_
  refine q_ic (pc := 0) (v := 0) rfl ?_
  refine q_is (pc := 1) (i := 4) (L' := [(2, 63), (2, b), (0, p), (0, g), (0, 0), (9, 0), (9, 0)]) rfl rfl rfl ?_
  refine q_al (pc := 2) (i := 0) (x := 63) rfl rfl ?_
  refine q_gf (pc := 3) (m := 1002) (t := 2) (c := 0) rfl (ttKc hT (a := 63) (κ := 1) (len := 0) ⟨rfl, rfl⟩ (by decide) (by decide)).1 rfl rfl ?_
  rw [show H.1 63 0 = 64 from ttFx hT (by decide) (by decide) rfl rfl rfl]
  refine q_il (pc := 4) (i := 3) (x := g) rfl rfl ?_
  refine q_ai (pc := 5) rfl (ttKc hT (a := 64) (κ := 20) (len := 17) ⟨rfl, rfl⟩ (by decide) (by decide)).1 (by omega) (by rw [(ttKc hT (a := 64) (κ := 20) (len := 17) ⟨rfl, rfl⟩ (by decide) (by decide)).2]; omega) ?_
  rw [show H.1 64 g = F from eF]
  refine q_is (pc := 6) (i := 5) (L' := [(2, 63), (2, b), (0, p), (0, g), (0, 0), (0, F), (9, 0)]) rfl rfl rfl ?_
  have z := hl m.toNat H 0 0 (9, 0) (Int.le_refl _) m0 (by omega) hT (ttFr_rf _ H) hJ (fun _ => ⟨rfl, fun j ujj0 ujj1 => by omega⟩) (fun z => absurd rfl z)
  rw [Int.add_zero] at z
  exact z
theorem hp_fill {dd : Nat} (hd : 1 ≤ dd) {H : xH} (hT : ttTI H) {Q : Int → xH → Prop} (hq : ∀ K, ttTI K → ttFr (true, [(71, 0, 7)]) H K → (∀ q : Int, 0 ≤ q → q ≤ 7 → K.1 71 q = -1) → Q 0 K) : xCall dd 334 [(2, 71), (0, -1)] H Q := by
  obtain ⟨e, rfl, he⟩ := ttRun0 (n := 0) hd
  have hl : ∀ n : Nat, ∀ (K : xH) (i : Int), 0 ≤ i → i ≤ 8 → 8 - i ≤ (n : Int) → ttTI K → ttFr (true, [(71, 0, 7)]) H K → (∀ q : Int, 0 ≤ q → q < i → K.1 71 q = -1) → xW e cd_334 Q (5, [(2, 71), (0, -1), (0, i), (0, 8)], [], K) := by
    intro n
    induction n with
    | zero =>
      intro K i i0 i1 hz kT kF kE
      refine q_il (pc := 5) (i := 2) (x := i) rfl rfl ?_
      refine q_il (pc := 6) (i := 3) (x := 8) rfl rfl ?_
      refine q_i2 (pc := 7) rfl (fun h7 => ?_) (fun h7 => ?_)
      · replace h7 : 8 ≤ i := h7
        refine q_rv (pc := 14) rfl ?_
        exact hq K kT kF (fun q q0 q1 => kE q q0 (by omega))
      · replace h7 : i < 8 := h7
        omega
    | succ n ih =>
      intro K i i0 i1 hz kT kF kE
      refine q_il (pc := 5) (i := 2) (x := i) rfl rfl ?_
      refine q_il (pc := 6) (i := 3) (x := 8) rfl rfl ?_
      refine q_i2 (pc := 7) rfl (fun h7 => ?_) (fun h7 => ?_)
      · replace h7 : 8 ≤ i := h7
        refine q_rv (pc := 14) rfl ?_
        exact hq K kT kF (fun q q0 q1 => kE q q0 (by omega))
      · replace h7 : i < 8 := h7
        refine q_al (pc := 8) (i := 0) (x := 71) rfl rfl ?_
        refine q_il (pc := 9) (i := 2) (x := i) rfl rfl ?_
        refine q_il (pc := 10) (i := 1) (x := (-1)) rfl rfl ?_
        refine q_si (pc := 11) rfl (by decide) (ttKc kT (a := 71) (κ := 20) (len := 8) ⟨rfl, rfl⟩ (by decide) (by decide)).1 (by omega) (by rw [(ttKc kT (a := 71) (κ := 20) (len := 8) ⟨rfl, rfl⟩ (by decide) (by decide)).2]; omega) ?_
        refine q_ii (pc := 12) (i := 2) (c := 1) (x := i) (L' := [(2, 71), (0, -1), (0, (i + 1)), (0, 8)]) rfl rfl rfl (by omega) (by omega) rfl ?_
        refine q_go (pc := 13) rfl ?_
        have mc := ttPuT kT kF (a := 71) (j := i) (x := -1) (by decide) (fun _ _ => ttTyr rfl (by omega) (by omega)) ⟨(71, 0, 7), by decide, ⟨⟨by decide, rfl⟩, i0, by show i ≤ 7; omega⟩⟩
        exact ih _ (i + 1) (by omega) (by omega) (by omega) mc.1 mc.2 (fun q q0 q1 => by
          by_cases c : q = i
          · rw [c]
            exact (show xUp K.1 71 i (-1) 71 i = -1 from up_eq)
          · exact (show xUp K.1 71 i (-1) 71 q = K.1 71 q from up_j c).trans (kE q q0 (by omega)))
  refine xC_of (L := [(2, 71), (0, -1), (9, 0), (9, 0)]) (cd := cd_334) rfl rfl rfl ?_
  refine q_ic (pc := 0) (v := 0) rfl ?_
  refine q_is (pc := 1) (i := 2) (L' := [(2, 71), (0, (-1)), (0, 0), (9, 0)]) rfl rfl rfl ?_
  refine q_al (pc := 2) (i := 0) (x := 71) rfl rfl ?_
  refine q_ln (pc := 3) rfl (by rw [(ttKc hT (a := 71) (κ := 20) (len := 8) ⟨rfl, rfl⟩ (by decide) (by decide)).1]; decide) ?_
  rw [show H.2.2.1 71 = 8 from (ttKc hT (a := 71) (κ := 20) (len := 8) ⟨rfl, rfl⟩ (by decide) (by decide)).2]
  refine q_is (pc := 4) (i := 3) (L' := [(2, 71), (0, (-1)), (0, 0), (0, 8)]) rfl rfl rfl ?_
  exact hl 8 H 0 (by decide) (by decide) (by decide) hT (ttFr_rf _ H) (fun q q0 q1 => by omega)
def hpD (R f : Int → Int) (m : Int → Int) (T X M : Int → Int → Int) (n : Int) : Prop := ∀ p : Int, 0 ≤ p → p < n → f p ≠ -1 → hpQ R f p (T p) (X p) (M p) (m p)
theorem hp_glide {dd : Nat} (hd : 4 ≤ dd) {H : xH} (hT : ttTI H) {b : Int} (hB : skB b) (hW : skW H.1 b) {S : tSa} {R : Int → Int} {h : Int} (hR : skR H.1 b (S, R, h)) (hw : wsR R) {q a w : Int} (q0 : 0 ≤ q) (q7 : q ≤ 7) (a0 : 0 ≤ a) (a1 : a ≤ 60) (hw1 : w = 0 ∨ w = 1) {F m : Int → Int} {T X M : Int → Int → Int} (hWt : hpW H.1 R F m T X M w) {J : (Int → Int) → Prop} (hJ0 : ∀ f : Int → Int, f q = a → (∀ j : Int, 0 ≤ j → j ≤ 7 → j ≠ q → f j = -1) → J f) (hJb : ∀ f : Int → Int, J f → ∀ j : Int, 0 ≤ j → j ≤ 7 → -1 ≤ f j ∧ f j ≤ 60) (hJ1 : ∀ (f f2 : Int → Int) (p i : Int), J f → 0 ≤ p → p < R 1 → 0 ≤ i → i < m p → M p i ≤ f p → f (T p i) < min (R 7) (f p - X p i) → f2 (T p i) = min (R 7) (f p - X p i) → (∀ j : Int, j ≠ T p i → f2 j = f j) → J f2) {Q : Int → xH → Prop} (hq : ∀ K, ttTI K → ttFr (true, [(71, 0, 7)]) H K → J (K.1 71) → hpD R (K.1 71) m T X M (R 1) → Q 0 K) : xCall dd 25 [(2, 63), (2, b), (0, q), (0, a), (0, w)] H Q := by
  obtain ⟨e, rfl, he⟩ := ttRun0 (n := 3) hd
  have he : 3 ≤ e := he
  have hn : 210 ≤ (H.2.2.2.1 : Int) := by have := hT.1; omega
  have hi := skB_in hB
  have w1 := hw.1
  have w3 := hw.2.2.1
  have w7 := hw.2.2.2.1
  have hp : ∀ (V k : Int), (∀ (K : xH) (u : Int) (x7 : xV), ttTI K → ttFr (true, [(71, 0, 7)]) H K → J (K.1 71) → (u = 0 ∨ u = 1) → (u = 0 → hpD R (K.1 71) m T X M (R 1)) → (u = 1 → V + 1 ≤ hpS (K.1 71)) → xW e cd_25 Q (44, [(2, 63), (2, b), (0, q), (0, a), (0, w), (0, u), (0, k), x7], [], K)) → ∀ n : Nat, ∀ (K : xH) (p u : Int), 0 ≤ p → p ≤ R 1 → R 1 - p ≤ (n : Int) → ttTI K → ttFr (true, [(71, 0, 7)]) H K → J (K.1 71) → (u = 0 ∨ u = 1) → (u = 0 → hpD R (K.1 71) m T X M p) → (u = 1 → V + 1 ≤ hpS (K.1 71)) → V ≤ hpS (K.1 71) → xW e cd_25 Q (22, [(2, 63), (2, b), (0, q), (0, a), (0, w), (0, u), (0, k), (0, p)], [], K) := by
    intro V k hk n
    induction n with
    | zero =>
      intro K p u p0 p1 hz kT kF kJ ku k0 k1 kV
      have kW : skW K.1 b := skW_fr kF hn hB (by decide) hW
      have kR : skR K.1 b (S, R, h) := skR_D hR w3.2 (fun a j a0 a1 => sk_fr kF hn hB (by decide) a0 a1)
      have kWt : hpW K.1 R F m T X M w := hpW_c hWt (fun a j a0 a1 => by
        have hj : a = 64 ∨ a = 65 ∨ a = 66 ∨ a = 67 ∨ a = 68 ∨ a = 69 := by omega
        rcases hj with rfl | rfl | rfl | rfl | rfl | rfl
        · exact fr_no kF 64 (by omega) rfl (by decide)
        · exact fr_no kF 65 (by omega) rfl (by decide)
        · exact fr_no kF 66 (by omega) rfl (by decide)
        · exact fr_no kF 67 (by omega) rfl (by decide)
        · exact fr_no kF 68 (by omega) rfl (by decide)
        · exact fr_no kF 69 (by omega) rfl (by decide))
      refine q_il (pc := 22) (i := 7) (x := p) rfl rfl ?_
      refine q_al (pc := 23) (i := 1) (x := b) rfl rfl ?_
      refine q_gf (pc := 24) (m := 10040) (t := 0) (c := 4) rfl (sk_kb kT hB).1 rfl rfl ?_
      rw [show K.1 b 4 = (R 1) from skA_i kR.1 (j := 4) (i := 1) (by decide)]
      refine q_i2 (pc := 25) rfl (fun h25 => ?_) (fun h25 => ?_)
      · replace h25 : (R 1) ≤ p := h25
        have ep : p = R 1 := by omega
        rw [ep] at k0
        exact hk K u _ kT kF kJ ku k0 k1
      · replace h25 : p < (R 1) := h25
        omega
    | succ n ih =>
      intro K p u p0 p1 hz kT kF kJ ku k0 k1 kV
      have kW : skW K.1 b := skW_fr kF hn hB (by decide) hW
      have kR : skR K.1 b (S, R, h) := skR_D hR w3.2 (fun a j a0 a1 => sk_fr kF hn hB (by decide) a0 a1)
      have kWt : hpW K.1 R F m T X M w := hpW_c hWt (fun a j a0 a1 => by
        have hj : a = 64 ∨ a = 65 ∨ a = 66 ∨ a = 67 ∨ a = 68 ∨ a = 69 := by omega
        rcases hj with rfl | rfl | rfl | rfl | rfl | rfl
        · exact fr_no kF 64 (by omega) rfl (by decide)
        · exact fr_no kF 65 (by omega) rfl (by decide)
        · exact fr_no kF 66 (by omega) rfl (by decide)
        · exact fr_no kF 67 (by omega) rfl (by decide)
        · exact fr_no kF 68 (by omega) rfl (by decide)
        · exact fr_no kF 69 (by omega) rfl (by decide))
      refine q_il (pc := 22) (i := 7) (x := p) rfl rfl ?_
      refine q_al (pc := 23) (i := 1) (x := b) rfl rfl ?_
      refine q_gf (pc := 24) (m := 10040) (t := 0) (c := 4) rfl (sk_kb kT hB).1 rfl rfl ?_
      rw [show K.1 b 4 = (R 1) from skA_i kR.1 (j := 4) (i := 1) (by decide)]
      refine q_i2 (pc := 25) rfl (fun h25 => ?_) (fun h25 => ?_)
      · replace h25 : (R 1) ≤ p := h25
        have ep : p = R 1 := by omega
        rw [ep] at k0
        exact hk K u _ kT kF kJ ku k0 k1
      · replace h25 : p < (R 1) := h25
        refine q_al (pc := 26) (i := 0) (x := 63) rfl rfl ?_
        refine q_gf (pc := 27) (m := 1082) (t := 2) (c := 8) rfl (ttKc kT (a := 63) (κ := 1) (len := 0) ⟨rfl, rfl⟩ (by decide) (by decide)).1 rfl rfl ?_
        rw [show K.1 63 8 = 71 from ttFx kT (by decide) (by decide) rfl rfl rfl]
        refine q_il (pc := 28) (i := 7) (x := p) rfl rfl ?_
        refine q_ai (pc := 29) rfl (ttKc kT (a := 71) (κ := 20) (len := 8) ⟨rfl, rfl⟩ (by decide) (by decide)).1 (by omega) (by rw [(ttKc kT (a := 71) (κ := 20) (len := 8) ⟨rfl, rfl⟩ (by decide) (by decide)).2]; omega) ?_
        refine q_ic (pc := 30) (v := (-1)) rfl ?_
        refine q_i2 (pc := 31) rfl (fun h31 => ?_) (fun h31 => ?_)
        · replace h31 : (K.1 71 p) = (-1) := h31
          refine q_ii (pc := 42) (i := 7) (c := 1) (x := p) (L' := [(2, 63), (2, b), (0, q), (0, a), (0, w), (0, u), (0, k), (0, (p + 1))]) rfl rfl rfl (by omega) (by omega) rfl ?_
          refine q_go (pc := 43) rfl ?_
          refine ih K (p + 1) u (by omega) (by omega) (by omega) kT kF kJ ku (fun z j ujj0 ujj1 hj => ?_) k1 kV
          by_cases c : j = p
          · rw [c] at hj
            exact absurd h31 hj
          · exact k0 z j ujj0 (by omega) hj
        · replace h31 : (K.1 71 p) ≠ (-1) := h31
          refine q_al (pc := 32) (i := 0) (x := 63) rfl rfl ?_
          refine q_al (pc := 33) (i := 1) (x := b) rfl rfl ?_
          refine q_il (pc := 34) (i := 7) (x := p) rfl rfl ?_
          refine q_il (pc := 35) (i := 7) (x := p) rfl rfl ?_
          refine q_il (pc := 36) (i := 4) (x := w) rfl rfl ?_
          refine q_ij (pc := 37) (q := 135928) rfl rfl rfl trivial ?_
          refine hp_grp (by omega) p0 (by omega) hw1 ?_
          refine q_iv (pc := 38) (q := 208096) rfl rfl rfl ⟨by omega, (ttKc kT (a := 63) (κ := 1) (len := 0) ⟨rfl, rfl⟩ (by decide) (by decide)).1⟩ ?_
          obtain ⟨⟨hF1, hF2⟩, ⟨hF3, hF4, hF5⟩, hF6, hF7⟩ := kWt p p0 (by omega)
          refine hp_raise (R := R) (by omega) kT hB (show K.1 b 9 = R 7 from skA_i kR.1 (j := 9) (i := 7) (by decide)) w1.2 p0 (by omega) (by omega) (by omega) hF1 hF2 hF3 hF4 hF5 hF6 hF7 kJ hJb (fun f f2 i a1 a2 a3 => hJ1 f f2 p i a1 p0 (by omega) a2 a3) ⟨by omega, w7.2⟩ (fun hQ => ?_) (fun M mT mF mJ mS => ?_)
          · refine q_if (pc := 39) rfl (fun _ => ?_) (fun z => absurd rfl z)
            refine q_ii (pc := 42) (i := 7) (c := 1) (x := p) (L' := [(2, 63), (2, b), (0, q), (0, a), (0, w), (0, u), (0, k), (0, (p + 1))]) rfl rfl rfl (by omega) (by omega) rfl ?_
            refine q_go (pc := 43) rfl ?_
            refine ih K (p + 1) u (by omega) (by omega) (by omega) kT kF kJ ku (fun z j ujj0 ujj1 hj => ?_) k1 kV
            by_cases c : j = p
            · rw [c]
              exact hQ
            · exact k0 z j ujj0 (by omega) hj
          · refine q_if (pc := 39) rfl (fun z => absurd (show (1 : Int) = 0 from z) (by decide)) (fun _ => ?_)
            refine q_ic (pc := 40) (v := 1) rfl ?_
            refine q_is (pc := 41) (i := 5) (L' := [(2, 63), (2, b), (0, q), (0, a), (0, w), (0, 1), (0, k), (0, p)]) rfl rfl rfl ?_
            refine q_ii (pc := 42) (i := 7) (c := 1) (x := p) (L' := [(2, 63), (2, b), (0, q), (0, a), (0, w), (0, 1), (0, k), (0, (p + 1))]) rfl rfl rfl (by omega) (by omega) rfl ?_
            refine q_go (pc := 43) rfl ?_
            exact ih M (p + 1) 1 (by omega) (by omega) (by omega) mT (ttFr_tr kF mF (fun _ => rfl) (by decide)) mJ (Or.inr rfl) (fun z => absurd z (by decide)) (fun _ => by omega) (by omega)
  have hr : ∀ n : Nat, ∀ (K : xH) (k u : Int) (x7 : xV), 0 ≤ k → k ≤ 497 → 498 - k ≤ (n : Int) → ttTI K → ttFr (true, [(71, 0, 7)]) H K → J (K.1 71) → (u = 0 ∨ u = 1) → (u = 0 → hpD R (K.1 71) m T X M (R 1)) → (u = 1 → k - 7 ≤ hpS (K.1 71)) → xW e cd_25 Q (13, [(2, 63), (2, b), (0, q), (0, a), (0, w), (0, u), (0, k), x7], [], K) := by
    intro n
    induction n with
    | zero =>
      intro K k u x7 k0 k4 hz kT kF kJ ku kC kV
      omega
    | succ n ih =>
      intro K k u x7 k0 k4 hz kT kF kJ ku kC kV
      have kb := hJb _ kJ
      have b0_ := kb 0 (by decide) (by decide)
      have b1_ := kb 1 (by decide) (by decide)
      have b2_ := kb 2 (by decide) (by decide)
      have b3_ := kb 3 (by decide) (by decide)
      have b4_ := kb 4 (by decide) (by decide)
      have b5_ := kb 5 (by decide) (by decide)
      have b6_ := kb 6 (by decide) (by decide)
      have b7_ := kb 7 (by decide) (by decide)
      have vb : hpS (K.1 71) ≤ 480 := by
        unfold hpS
        omega
      refine q_il (pc := 13) (i := 6) (x := k) rfl rfl ?_
      refine q_ic (pc := 14) (v := 496) rfl ?_
      refine q_i2 (pc := 15) rfl (fun h15 => ?_) (fun h15 => ?_)
      · replace h15 : 496 < k := h15
        refine q_rv (pc := 46) rfl ?_
        exact hq K kT kF kJ (kC (by omega))
      · replace h15 : k ≤ 496 := h15
        refine q_il (pc := 16) (i := 5) (x := u) rfl rfl ?_
        refine q_if (pc := 17) rfl (fun h17 => ?_) (fun h17 => ?_)
        · replace h17 : u = 0 := h17
          refine q_rv (pc := 46) rfl ?_
          exact hq K kT kF kJ (kC (by omega))
        · replace h17 : u ≠ 0 := h17
          refine q_ic (pc := 18) (v := 0) rfl ?_
          refine q_is (pc := 19) (i := 5) (L' := [(2, 63), (2, b), (0, q), (0, a), (0, w), (0, 0), (0, k), x7]) rfl rfl rfl ?_
          refine q_ic (pc := 20) (v := 0) rfl ?_
          refine q_is (pc := 21) (i := 7) (L' := [(2, 63), (2, b), (0, q), (0, a), (0, w), (0, 0), (0, k), (0, 0)]) rfl rfl rfl ?_
          refine hp (hpS (K.1 71)) k (fun M u x7 mT mF mJ mu mC mV => ?_) (R 1).toNat K 0 0 (by decide) (by omega) (by omega) kT kF kJ (Or.inl rfl) (fun _ j ujj0 ujj1 => by omega) (fun z => absurd z (by decide)) (Int.le_refl _)
          refine q_ii (pc := 44) (i := 6) (c := 1) (x := k) (L' := [(2, 63), (2, b), (0, q), (0, a), (0, w), (0, u), (0, (k + 1)), x7]) rfl rfl rfl (by omega) (by omega) rfl ?_
          refine q_go (pc := 45) rfl ?_
          exact ih M (k + 1) u x7 (by omega) (by omega) (by omega) mT mF mJ mu mC (fun z => by have := mV z; have := kV (by omega); omega)
  refine xC_of (L := [(2, 63), (2, b), (0, q), (0, a), (0, w), (9, 0), (9, 0), (9, 0)]) (cd := cd_25) rfl rfl rfl ?_
  refine q_al (pc := 0) (i := 0) (x := 63) rfl rfl ?_
  refine q_gf (pc := 1) (m := 1082) (t := 2) (c := 8) rfl (ttKc hT (a := 63) (κ := 1) (len := 0) ⟨rfl, rfl⟩ (by decide) (by decide)).1 rfl rfl ?_
  rw [show H.1 63 8 = 71 from ttFx hT (by decide) (by decide) rfl rfl rfl]
  refine q_ic (pc := 2) (v := (-1)) rfl ?_
  refine q_ij (pc := 3) (q := 2679931) rfl rfl rfl ⟨by omega, trivial⟩ ?_
  refine hp_fill (by omega) hT (fun K kT kF kE => ?_)
  refine q_al (pc := 4) (i := 0) (x := 63) rfl rfl ?_
  refine q_gf (pc := 5) (m := 1082) (t := 2) (c := 8) rfl (ttKc kT (a := 63) (κ := 1) (len := 0) ⟨rfl, rfl⟩ (by decide) (by decide)).1 rfl rfl ?_
  rw [show K.1 63 8 = 71 from ttFx kT (by decide) (by decide) rfl rfl rfl]
  refine q_il (pc := 6) (i := 2) (x := q) rfl rfl ?_
  refine q_il (pc := 7) (i := 3) (x := a) rfl rfl ?_
  refine q_si (pc := 8) rfl (by decide) (ttKc kT (a := 71) (κ := 20) (len := 8) ⟨rfl, rfl⟩ (by decide) (by decide)).1 (by omega) (by rw [(ttKc kT (a := 71) (κ := 20) (len := 8) ⟨rfl, rfl⟩ (by decide) (by decide)).2]; omega) ?_
  refine q_ic (pc := 9) (v := 1) rfl ?_
  refine q_is (pc := 10) (i := 5) (L' := [(2, 63), (2, b), (0, q), (0, a), (0, w), (0, 1), (9, 0), (9, 0)]) rfl rfl rfl ?_
  refine q_ic (pc := 11) (v := 0) rfl ?_
  refine q_is (pc := 12) (i := 6) (L' := [(2, 63), (2, b), (0, q), (0, a), (0, w), (0, 1), (0, 0), (9, 0)]) rfl rfl rfl ?_
  have mc := ttPuT kT kF (a := 71) (j := q) (x := a) (by decide) (fun _ _ => ttTyr rfl (by omega) (by omega)) ⟨(71, 0, 7), by decide, ⟨⟨by decide, rfl⟩, q0, by show q ≤ 7; omega⟩⟩
  have e1 : xUp K.1 71 q a 71 q = a := up_eq
  have e2 : ∀ j : Int, 0 ≤ j → j ≤ 7 → j ≠ q → xUp K.1 71 q a 71 j = -1 := fun j ujj0 ujj1 hj => (up_j hj).trans (kE j ujj0 ujj1)
  have mJ := hJ0 (xUp K.1 71 q a 71) e1 e2
  have mb := hJb _ mJ
  have b0_ := mb 0 (by decide) (by decide)
  have b1_ := mb 1 (by decide) (by decide)
  have b2_ := mb 2 (by decide) (by decide)
  have b3_ := mb 3 (by decide) (by decide)
  have b4_ := mb 4 (by decide) (by decide)
  have b5_ := mb 5 (by decide) (by decide)
  have b6_ := mb 6 (by decide) (by decide)
  have b7_ := mb 7 (by decide) (by decide)
  refine hr 498 (xUp K.1 71 q a, K.2) 0 1 _ (by decide) (by decide) (by decide) mc.1 mc.2 mJ (Or.inr rfl) (fun z => absurd z (by decide)) (fun _ => ?_)
  show 0 - 7 ≤ hpS (xUp K.1 71 q a 71)
  have e3 : 0 ≤ xUp K.1 71 q a 71 q := by rw [e1]; exact a0
  unfold hpS
  have hj : q = 0 ∨ q = 1 ∨ q = 2 ∨ q = 3 ∨ q = 4 ∨ q = 5 ∨ q = 6 ∨ q = 7 := by omega
  rcases hj with rfl | rfl | rfl | rfl | rfl | rfl | rfl | rfl <;> omega
