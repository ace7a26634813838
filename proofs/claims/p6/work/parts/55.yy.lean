/-! the reference: what stays true of its memory -/
/-- points to round that a number tells -/
def yyP (x : Int) : Int := xAnd (xShr x 0) 1 + xAnd (xShr x 1) 1 + xAnd (xShr x 2) 1 + xAnd (xShr x 3) 1 + xAnd (xShr x 4) 1 + xAnd (xShr x 5) 1 + xAnd (xShr x 6) 1 + xAnd (xShr x 7) 1
/-- a sky in row a from place o on -/
def yyR (D : xD) (a o : Int) : Prop := (∀ l : Int, 0 ≤ l → l < 10 → l < D a (o + 2) → D a (o + (84 + 6 * l)) < D a (o + 1) ∧ D a (o + (85 + 6 * l)) < D a (o + 1)) ∧ yyP (D a (o + 15)) ≤ 3 ∧ (D a (o + 12) ≠ -1 → 0 ≤ D a (o + 12) ∧ D a (o + 12) ≤ 7 ∧ D a (o + 12) < D a (o + 1) ∧ D a (o + (20 + 8 * D a (o + 12))) ≤ D a (o + 13) ∧ D a (o + 13) ≤ D a (o + 7))
/-- the ways that are laid -/
def yyW (D : xD) : Prop := ∀ r : Int, 0 ≤ r → r < 16 → ∀ i : Int, 0 ≤ i → i < 60 → i < D 190 r → D 191 (300 * r + 5 * i + 2) < D 184 1 ∧ 1 ≤ D 191 (300 * r + 5 * i + 3) ∧ ∀ j : Int, 0 ≤ j → j < i → 10 * D 191 (300 * r + 5 * j) + D 191 (300 * r + 5 * j + 1) < 10 * D 191 (300 * r + 5 * i) + D 191 (300 * r + 5 * i + 1)
/-- way k can be flown from height h -/
def yyC (D : xD) (k h : Int) : Prop := (0 ≤ D 191 k ∧ D 191 k ≤ 9) ∧ (0 ≤ D 191 (k + 2) ∧ D 191 (k + 2) ≤ 7) ∧ D 184 (89 + 6 * D 191 k) ≤ w32 (h - w32 (Int.tdiv (D 191 (k + 4)) 2)) ∧ D 184 (20 + 8 * D 191 (k + 2)) ≤ min (D 184 7) (w32 (h - D 191 (k + 4)))
/-- the height it comes at -/
def yyA (D : xD) (k h : Int) : Int := min (D 184 7) (w32 (h - D 191 (k + 4)))
/-- a deed that may be done -/
def yyD (D : xD) (p h t w d : Int) : Prop := d = -1 ∨ (d = 0 ∧ t < D 184 8) ∨ d = 1 ∨ ∃ i : Int, 0 ≤ i ∧ i < 60 ∧ i < D 190 (2 * p + w) ∧ d = 100 + (10 * D 191 (300 * (2 * p + w) + 5 * i) + D 191 (300 * (2 * p + w) + 5 * i + 1)) ∧ t + D 191 (300 * (2 * p + w) + 5 * i + 3) ≤ D 184 8 ∧ yyC D (300 * (2 * p + w) + 5 * i) h
def yyX (p h t x w : Int) : Int := ((61 * p + h) * 48 + t) * 4 + 2 * x + w
def yyL (D : xD) : Prop := ∀ p h t x w : Int, 0 ≤ p → p ≤ 7 → p < D 184 1 → 0 ≤ h → h ≤ 60 → D 184 (20 + 8 * p) ≤ h → h ≤ D 184 7 → 0 ≤ t → t ≤ 47 → t ≤ D 184 8 → 0 ≤ x → x ≤ 1 → 0 ≤ w → w ≤ 1 → (w = 1 → 0 < D 184 6) → yyD D p h t w (D 196 (yyX p h t x w))
def YY (H : xH) : Prop := 210 ≤ (H.2.2.2.1 : Int) ∧ yyR H.1 184 0 ∧ (∀ k : Int, 0 ≤ k → k < 3 → H.1 186 k ≠ 0 → yyR H.1 185 (196 * k)) ∧ (H.1 183 22 = 1 → yyW H.1) ∧ (H.1 183 29 ≠ -1 → H.1 183 22 = 1 ∧ yyL H.1)
theorem yyR_eq {D D' : xD} {a a' o o' : Int} (h : ∀ j : Int, 0 ≤ j → j ≤ 155 → j ≠ 4 → D' a' (o' + j) = D a (o + j)) (y : yyR D a o) : yyR D' a' o' := by
  obtain ⟨y1, y2, y3⟩ := y
  have e1 := h 1 (by decide) (by decide) (by decide)
  have e12 := h 12 (by decide) (by decide) (by decide)
  refine ⟨fun l l0 l1 l2 => ?_, ?_, fun s => ?_⟩
  · rw [h 2 (by decide) (by decide) (by decide)] at l2
    rw [h (84 + 6 * l) (by omega) (by omega) (by omega), h (85 + 6 * l) (by omega) (by omega) (by omega), e1]
    exact y1 l l0 l1 l2
  · rw [h 15 (by decide) (by decide) (by decide)]
    exact y2
  · rw [e12] at s ⊢
    obtain ⟨a1, a2, a3, a4, a5⟩ := y3 s
    rw [e1, h 13 (by decide) (by decide) (by decide), h 7 (by decide) (by decide) (by decide), h (20 + 8 * D a (o + 12)) (by omega) (by omega) (by omega)]
    exact ⟨a1, a2, a3, a4, a5⟩
theorem yyW_eq {D D' : xD} (hw : ∀ j : Int, 0 ≤ j → j ≤ 155 → j ≠ 4 → D' 184 j = D 184 j) (hm : ∀ j : Int, 0 ≤ j → j ≤ 15 → D' 190 j = D 190 j) (hk : ∀ j : Int, 0 ≤ j → j ≤ 4799 → D' 191 j = D 191 j) (y : yyW D) : yyW D' := by
  intro r r0 r1 i i0 i1 i2
  rw [hm r r0 (by omega)] at i2
  obtain ⟨a1, a2, a4⟩ := y r r0 r1 i i0 i1 i2
  rw [hk (300 * r + 5 * i + 2) (by omega) (by omega), hk (300 * r + 5 * i + 3) (by omega) (by omega), hw 1 (by decide) (by decide) (by decide), hk (300 * r + 5 * i) (by omega) (by omega), hk (300 * r + 5 * i + 1) (by omega) (by omega)]
  refine ⟨a1, a2, fun j j0 j1 => ?_⟩
  rw [hk (300 * r + 5 * j) (by omega) (by omega), hk (300 * r + 5 * j + 1) (by omega) (by omega)]
  exact a4 j j0 j1
theorem yyC_eq {D D' : xD} (hw : ∀ j : Int, 0 ≤ j → j ≤ 155 → j ≠ 4 → D' 184 j = D 184 j) (hk : ∀ j : Int, 0 ≤ j → j ≤ 4799 → D' 191 j = D 191 j) {k h : Int} (k0 : 0 ≤ k) (k1 : k ≤ 4795) (y : yyC D k h) : yyC D' k h := by
  obtain ⟨a1, a2, a3, a4⟩ := y
  unfold yyC
  rw [hk k k0 (by omega), hk (k + 2) (by omega) (by omega), hk (k + 4) (by omega) (by omega), hw 7 (by decide) (by decide) (by decide), hw (89 + 6 * D 191 k) (by omega) (by omega) (by omega), hw (20 + 8 * D 191 (k + 2)) (by omega) (by omega) (by omega)]
  exact ⟨a1, a2, a3, a4⟩
theorem yyL_eq {D D' : xD} (hw : ∀ j : Int, 0 ≤ j → j ≤ 155 → j ≠ 4 → D' 184 j = D 184 j) (hm : ∀ j : Int, 0 ≤ j → j ≤ 15 → D' 190 j = D 190 j) (hk : ∀ j : Int, 0 ≤ j → j ≤ 4799 → D' 191 j = D 191 j) (hd : ∀ j : Int, 0 ≤ j → j ≤ 93695 → D' 196 j = D 196 j) (y : yyL D) : yyL D' := by
  intro p h t x w p0 p1 p2 h0 h1 h2 h3 t0 t1 t2 x0 x1 w0 w1 w2
  rw [hw 1 (by decide) (by decide) (by decide)] at p2
  rw [hw (20 + 8 * p) (by omega) (by omega) (by omega)] at h2
  rw [hw 7 (by decide) (by decide) (by decide)] at h3
  rw [hw 8 (by decide) (by decide) (by decide)] at t2
  rw [hw 6 (by decide) (by decide) (by decide)] at w2
  have z := y p h t x w p0 p1 p2 h0 h1 h2 h3 t0 t1 t2 x0 x1 w0 w1 w2
  rw [hd (yyX p h t x w) (by unfold yyX; omega) (by unfold yyX; omega)]
  rcases z with z | z | z | ⟨i, i0, i1, i2, i3, i4, i5⟩
  · exact Or.inl z
  · exact Or.inr (Or.inl ⟨z.1, by rw [hw 8 (by decide) (by decide) (by decide)]; exact z.2⟩)
  · exact Or.inr (Or.inr (Or.inl z))
  · refine Or.inr (Or.inr (Or.inr ⟨i, i0, i1, ?_, ?_, ?_, yyC_eq hw hk (by omega) (by omega) i5⟩))
    · rw [hm (2 * p + w) (by omega) (by omega)]; exact i2
    · rw [hk (300 * (2 * p + w) + 5 * i) (by omega) (by omega), hk (300 * (2 * p + w) + 5 * i + 1) (by omega) (by omega)]; exact i3
    · rw [hk (300 * (2 * p + w) + 5 * i + 3) (by omega) (by omega), hw 8 (by decide) (by decide) (by decide)]; exact i4
theorem yyStab : ttStab YY ttFY := by
  intro H H' y hN hk hs hf
  obtain ⟨n, w, im, wy, lg⟩ := y
  have g : ∀ (r : Nat) (lo hi a j : Int), ((r, lo, hi), false, (0 : Int)) ∈ ttFY → 1 ≤ a → a < 210 → ttRo a = r → lo ≤ j → j ≤ hi → H'.1 a j = H.1 a j := fun r lo hi a j hm a1 a2 ar jl jh => (hf _ hm a j (by omega) ⟨⟨a1, ar⟩, jl, jh⟩).elim id (fun z => (Bool.false_ne_true z.1).elim)
  have gw : ∀ j : Int, 0 ≤ j → j ≤ 155 → j ≠ 4 → H'.1 184 j = H.1 184 j := fun j j0 j1 j4 => by
    by_cases z : j ≤ 3
    · exact g 184 0 3 184 j (by decide) (by decide) (by decide) rfl j0 z
    · exact g 184 5 155 184 j (by decide) (by decide) (by decide) rfl (by omega) j1
  have gm : ∀ j : Int, 0 ≤ j → j ≤ 15 → H'.1 190 j = H.1 190 j := fun j j0 j1 => g 190 0 15 190 j (by decide) (by decide) (by decide) rfl j0 j1
  have gk : ∀ j : Int, 0 ≤ j → j ≤ 4799 → H'.1 191 j = H.1 191 j := fun j j0 j1 => g 191 0 4799 191 j (by decide) (by decide) (by decide) rfl j0 j1
  have gd : ∀ j : Int, 0 ≤ j → j ≤ 93695 → H'.1 196 j = H.1 196 j := fun j j0 j1 => g 196 0 93695 196 j (by decide) (by decide) (by decide) rfl j0 j1
  have gl : H'.1 183 22 = H.1 183 22 := g 183 22 22 183 22 (by decide) (by decide) (by decide) rfl (by decide) (by decide)
  refine ⟨by omega, yyR_eq (fun j j0 j1 j4 => by rw [Int.zero_add]; exact gw j j0 j1 j4) w, fun k k0 k1 k2 => ?_, fun z => ?_, fun z => ?_⟩
  · rw [g 186 0 2 186 k (by decide) (by decide) (by decide) rfl k0 (by omega)] at k2
    exact yyR_eq (fun j j0 j1 j4 => g 185 0 587 185 (196 * k + j) (by decide) (by decide) (by decide) rfl (by omega) (by omega)) (im k k0 k1 k2)
  · rw [gl] at z
    exact yyW_eq gw gm gk (wy z)
  · have e : H'.1 183 29 = H.1 183 29 := (hf ((183, 29, 29), true, -1) (by decide) 183 29 (by omega) ⟨⟨by decide, rfl⟩, by decide, by decide⟩).elim id (fun q => absurd q.2 z)
    rw [e] at z
    obtain ⟨z1, z2⟩ := lg z
    exact ⟨by rw [gl]; exact z1, yyL_eq gw gm gk gd z2⟩
