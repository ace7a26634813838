/-! words for contracts: numbers, memory, the reference's object -/
theorem w32_id {x : Int} (h : -2147483648 ≤ x ∧ x < 2147483648) : w32 x = x := w32_eq h
theorem w64_id {x : Int} (h : -9223372036854775808 ≤ x ∧ x < 9223372036854775808) : w64 x = x := w64_eq h
theorem w32_td {x k : Int} (h : -2147483648 < x ∧ x < 2147483648 ∧ 0 < k) : w32 (x.tdiv k) = x.tdiv k := by
  refine w32_eq ?_
  show (-2147483648 : Int) ≤ x.tdiv k ∧ x.tdiv k < 2147483648
  rcases Int.le_total 0 x with hx | hx
  · have h1 := Int.tdiv_nonneg hx (Int.le_of_lt h.2.2)
    have h2 : x.tdiv k ≤ x := by rw [Int.tdiv_eq_ediv_of_nonneg hx]; exact Int.ediv_le_self k hx
    omega
  · have h1 := Int.tdiv_nonneg (a := -x) (by omega) (Int.le_of_lt h.2.2)
    have h2 : (-x).tdiv k ≤ -x := by rw [Int.tdiv_eq_ediv_of_nonneg (by omega)]; exact Int.ediv_le_self k (by omega)
    have e : (-x).tdiv k = -(x.tdiv k) := Int.neg_tdiv x k
    omega
theorem w32_td1 {x k : Int} (h : -2147483648 < x ∧ x < 2147483647 ∧ 0 < k) : w32 (x.tdiv k + 1) = x.tdiv k + 1 := by
  refine w32_eq ?_
  show (-2147483648 : Int) ≤ x.tdiv k + 1 ∧ x.tdiv k + 1 < 2147483648
  rcases Int.le_total 0 x with hx | hx
  · have h1 := Int.tdiv_nonneg hx (Int.le_of_lt h.2.2)
    have h2 : x.tdiv k ≤ x := by rw [Int.tdiv_eq_ediv_of_nonneg hx]; exact Int.ediv_le_self k hx
    omega
  · have h1 := Int.tdiv_nonneg (a := -x) (by omega) (Int.le_of_lt h.2.2)
    have h2 : (-x).tdiv k ≤ -x := by rw [Int.tdiv_eq_ediv_of_nonneg (by omega)]; exact Int.ediv_le_self k (by omega)
    have e : (-x).tdiv k = -(x.tdiv k) := Int.neg_tdiv x k
    omega
theorem xLcmp_lt {x y : Int} : (xLcmp x y < 0) = (x < y) := by
  unfold xLcmp; by_cases h : x < y
  · simp [h]
  · by_cases h2 : x = y
    · simp [h, h2]
    · simp only [h, h2, if_false]; simp
theorem xLcmp_ge {x y : Int} : (0 ≤ xLcmp x y) = (y ≤ x) := by
  have := @xLcmp_lt x y; simp only [eq_iff_iff] at this ⊢; omega
theorem xLcmp_gt {x y : Int} : (0 < xLcmp x y) = (y < x) := by
  unfold xLcmp; simp only [eq_iff_iff]
  by_cases h : x < y
  · simp only [h, if_true]; omega
  · by_cases h2 : x = y
    · simp only [h2, if_true]; split <;> omega
    · simp only [h, h2, if_false]; omega
theorem xLcmp_le {x y : Int} : (xLcmp x y ≤ 0) = (x ≤ y) := by
  have := @xLcmp_gt x y; simp only [eq_iff_iff] at this ⊢; omega
theorem xLcmp_eq {x y : Int} : (xLcmp x y = 0) = (x = y) := by
  have h1 := @xLcmp_gt x y; have h2 := @xLcmp_lt x y; simp only [eq_iff_iff] at h1 h2 ⊢; omega
theorem xLcmp_ne {x y : Int} : (xLcmp x y ≠ 0) = (x ≠ y) := by
  have h := @xLcmp_eq x y; simp only [ne_eq, h]
theorem yU_a {D : xD} {a i v b : Int} (h : b ≠ a) : xUp D a i v b = D b := by
  funext j; unfold xUp; rw [if_neg]; intro e; exact h e.1
theorem yU_i {D : xD} {a i v j : Int} (h : j ≠ i) : xUp D a i v a j = D a j := by
  unfold xUp; rw [if_neg]; intro e; exact h e.2
theorem yU_s {D : xD} {a i v : Int} : xUp D a i v a i = v := by
  unfold xUp; rw [if_pos ⟨rfl, rfl⟩]
def xB (p : Prop) [Decidable p] : Int := if p then 1 else 0
theorem xB_1 {p : Prop} [Decidable p] (h : p) : xB p = 1 := if_pos h
theorem xB_0 {p : Prop} [Decidable p] (h : ¬ p) : xB p = 0 := if_neg h
theorem xB_ne {p : Prop} [Decidable p] : (xB p ≠ 0) = p := by
  unfold xB; by_cases h : p <;> simp [h]
theorem xB_eq {p : Prop} [Decidable p] : (xB p = 0) = ¬ p := by
  unfold xB; by_cases h : p <;> simp [h]
theorem xB_in {p : Prop} [Decidable p] : xB p = 0 ∨ xB p = 1 := by
  unfold xB; by_cases h : p <;> simp [h]
theorem xE1 {d : Nat} {k : Nat} (h : k + 1 ≤ d) : ∃ e, d = e + 1 ∧ k ≤ e := ⟨d - 1, by omega, by omega⟩
/-- p, as 0 or 1, is what is answered -/
theorem xB_q {p : Prop} [Decidable p] {Q : Int → Prop} (h : Q (xB p)) : (p → Q 1) ∧ (¬ p → Q 0) := ⟨fun e => xB_1 e ▸ h, fun e => xB_0 e ▸ h⟩
abbrev xT2 : Type := (Int → Int) × (Int → Int) × Nat × Nat

def xTm (T : xT2) : Prop := T.1 183 = 12 ∧ T.1 184 = 20 ∧ T.2.1 184 = 196 ∧ T.1 185 = 20 ∧ T.2.1 185 = 588 ∧ T.1 186 = 22 ∧ T.2.1 186 = 3 ∧ T.1 187 = 21 ∧ T.2.1 187 = 1600 ∧ T.1 188 = 20 ∧ T.2.1 188 = 5 ∧ T.1 189 = 20 ∧ T.2.1 189 = 196 ∧ T.1 190 = 20 ∧ T.2.1 190 = 16 ∧ T.1 191 = 20 ∧ T.2.1 191 = 4800 ∧ T.1 192 = 20 ∧ T.2.1 192 = 8 ∧ T.1 193 = 20 ∧ T.2.1 193 = 976 ∧ T.1 194 = 22 ∧ T.2.1 194 = 2048 ∧ T.1 195 = 20 ∧ T.2.1 195 = 93696 ∧ T.1 196 = 20 ∧ T.2.1 196 = 93696 ∧ T.1 197 = 20 ∧ T.2.1 197 = 93696 ∧ T.1 198 = 20 ∧ T.2.1 198 = 8 ∧ T.1 199 = 20 ∧ T.2.1 199 = 93696 ∧ T.1 200 = 20 ∧ T.2.1 200 = 505 ∧ T.1 201 = 20 ∧ T.2.1 201 = 505 ∧ T.1 202 = 20 ∧ T.2.1 202 = 5 ∧ T.1 203 = 20 ∧ T.2.1 203 = 5 ∧ T.1 204 = 20 ∧ T.2.1 204 = 3904 ∧ T.1 205 = 20 ∧ T.2.1 205 = 8 ∧ T.1 206 = 20 ∧ T.2.1 206 = 4 ∧ T.1 207 = 20 ∧ T.2.1 207 = 4 ∧ T.1 208 = 23 ∧ T.2.1 208 = 240 ∧ T.1 209 = 23 ∧ T.2.1 209 = 60
theorem k_self {T : xT2} (h : xTm T) : T.1 183 = 12 := h.1
theorem k_world {T : xT2} (h : xTm T) : T.1 184 = 20 := h.2.1
theorem n_world {T : xT2} (h : xTm T) : T.2.1 184 = 196 := h.2.2.1
theorem k_images {T : xT2} (h : xTm T) : T.1 185 = 20 := h.2.2.2.1
theorem n_images {T : xT2} (h : xTm T) : T.2.1 185 = 588 := h.2.2.2.2.1
theorem k_hasImage {T : xT2} (h : xTm T) : T.1 186 = 22 := h.2.2.2.2.2.1
theorem n_hasImage {T : xT2} (h : xTm T) : T.2.1 186 = 3 := h.2.2.2.2.2.2.1
theorem k_tape {T : xT2} (h : xTm T) : T.1 187 = 21 := h.2.2.2.2.2.2.2.1
theorem n_tape {T : xT2} (h : xTm T) : T.2.1 187 = 1600 := h.2.2.2.2.2.2.2.2.1
theorem k_five {T : xT2} (h : xTm T) : T.1 188 = 20 := h.2.2.2.2.2.2.2.2.2.1
theorem n_five {T : xT2} (h : xTm T) : T.2.1 188 = 5 := h.2.2.2.2.2.2.2.2.2.2.1
theorem k_fresh {T : xT2} (h : xTm T) : T.1 189 = 20 := h.2.2.2.2.2.2.2.2.2.2.2.1
theorem n_fresh {T : xT2} (h : xTm T) : T.2.1 189 = 196 := h.2.2.2.2.2.2.2.2.2.2.2.2.1
theorem k_wayMany {T : xT2} (h : xTm T) : T.1 190 = 20 := h.2.2.2.2.2.2.2.2.2.2.2.2.2.1
theorem n_wayMany {T : xT2} (h : xTm T) : T.2.1 190 = 16 := h.2.2.2.2.2.2.2.2.2.2.2.2.2.2.1
theorem k_ways {T : xT2} (h : xTm T) : T.1 191 = 20 := h.2.2.2.2.2.2.2.2.2.2.2.2.2.2.2.1
theorem n_ways {T : xT2} (h : xTm T) : T.2.1 191 = 4800 := h.2.2.2.2.2.2.2.2.2.2.2.2.2.2.2.2.1
theorem k_highest {T : xT2} (h : xTm T) : T.1 192 = 20 := h.2.2.2.2.2.2.2.2.2.2.2.2.2.2.2.2.2.1
theorem n_highest {T : xT2} (h : xTm T) : T.2.1 192 = 8 := h.2.2.2.2.2.2.2.2.2.2.2.2.2.2.2.2.2.2.1
theorem k_landable {T : xT2} (h : xTm T) : T.1 193 = 20 := h.2.2.2.2.2.2.2.2.2.2.2.2.2.2.2.2.2.2.2.1
theorem n_landable {T : xT2} (h : xTm T) : T.2.1 193 = 976 := h.2.2.2.2.2.2.2.2.2.2.2.2.2.2.2.2.2.2.2.2.1
theorem k_streets {T : xT2} (h : xTm T) : T.1 194 = 22 := h.2.2.2.2.2.2.2.2.2.2.2.2.2.2.2.2.2.2.2.2.2.1
theorem n_streets {T : xT2} (h : xTm T) : T.2.1 194 = 2048 := h.2.2.2.2.2.2.2.2.2.2.2.2.2.2.2.2.2.2.2.2.2.2.1
theorem k_worths {T : xT2} (h : xTm T) : T.1 195 = 20 := h.2.2.2.2.2.2.2.2.2.2.2.2.2.2.2.2.2.2.2.2.2.2.2.1
theorem n_worths {T : xT2} (h : xTm T) : T.2.1 195 = 93696 := h.2.2.2.2.2.2.2.2.2.2.2.2.2.2.2.2.2.2.2.2.2.2.2.2.1
theorem k_deeds {T : xT2} (h : xTm T) : T.1 196 = 20 := h.2.2.2.2.2.2.2.2.2.2.2.2.2.2.2.2.2.2.2.2.2.2.2.2.2.1
theorem n_deeds {T : xT2} (h : xTm T) : T.2.1 196 = 93696 := h.2.2.2.2.2.2.2.2.2.2.2.2.2.2.2.2.2.2.2.2.2.2.2.2.2.2.1
theorem k_homes {T : xT2} (h : xTm T) : T.1 197 = 20 := h.2.2.2.2.2.2.2.2.2.2.2.2.2.2.2.2.2.2.2.2.2.2.2.2.2.2.2.1
theorem n_homes {T : xT2} (h : xTm T) : T.2.1 197 = 93696 := h.2.2.2.2.2.2.2.2.2.2.2.2.2.2.2.2.2.2.2.2.2.2.2.2.2.2.2.2.1
theorem k_fastTo {T : xT2} (h : xTm T) : T.1 198 = 20 := h.2.2.2.2.2.2.2.2.2.2.2.2.2.2.2.2.2.2.2.2.2.2.2.2.2.2.2.2.2.1
theorem n_fastTo {T : xT2} (h : xTm T) : T.2.1 198 = 8 := h.2.2.2.2.2.2.2.2.2.2.2.2.2.2.2.2.2.2.2.2.2.2.2.2.2.2.2.2.2.2.1
theorem k_ends {T : xT2} (h : xTm T) : T.1 199 = 20 := h.2.2.2.2.2.2.2.2.2.2.2.2.2.2.2.2.2.2.2.2.2.2.2.2.2.2.2.2.2.2.2.1
theorem n_ends {T : xT2} (h : xTm T) : T.2.1 199 = 93696 := h.2.2.2.2.2.2.2.2.2.2.2.2.2.2.2.2.2.2.2.2.2.2.2.2.2.2.2.2.2.2.2.2.1
theorem k_flights {T : xT2} (h : xTm T) : T.1 200 = 20 := h.2.2.2.2.2.2.2.2.2.2.2.2.2.2.2.2.2.2.2.2.2.2.2.2.2.2.2.2.2.2.2.2.2.1
theorem n_flights {T : xT2} (h : xTm T) : T.2.1 200 = 505 := h.2.2.2.2.2.2.2.2.2.2.2.2.2.2.2.2.2.2.2.2.2.2.2.2.2.2.2.2.2.2.2.2.2.2.1
theorem k_toldFlight {T : xT2} (h : xTm T) : T.1 201 = 20 := h.2.2.2.2.2.2.2.2.2.2.2.2.2.2.2.2.2.2.2.2.2.2.2.2.2.2.2.2.2.2.2.2.2.2.2.1
theorem n_toldFlight {T : xT2} (h : xTm T) : T.2.1 201 = 505 := h.2.2.2.2.2.2.2.2.2.2.2.2.2.2.2.2.2.2.2.2.2.2.2.2.2.2.2.2.2.2.2.2.2.2.2.2.1
theorem k_toldEnd {T : xT2} (h : xTm T) : T.1 202 = 20 := h.2.2.2.2.2.2.2.2.2.2.2.2.2.2.2.2.2.2.2.2.2.2.2.2.2.2.2.2.2.2.2.2.2.2.2.2.2.1
theorem n_toldEnd {T : xT2} (h : xTm T) : T.2.1 202 = 5 := h.2.2.2.2.2.2.2.2.2.2.2.2.2.2.2.2.2.2.2.2.2.2.2.2.2.2.2.2.2.2.2.2.2.2.2.2.2.2.1
theorem k_spreads {T : xT2} (h : xTm T) : T.1 203 = 20 := h.2.2.2.2.2.2.2.2.2.2.2.2.2.2.2.2.2.2.2.2.2.2.2.2.2.2.2.2.2.2.2.2.2.2.2.2.2.2.2.1
theorem n_spreads {T : xT2} (h : xTm T) : T.2.1 203 = 5 := h.2.2.2.2.2.2.2.2.2.2.2.2.2.2.2.2.2.2.2.2.2.2.2.2.2.2.2.2.2.2.2.2.2.2.2.2.2.2.2.2.1
theorem k_left {T : xT2} (h : xTm T) : T.1 204 = 20 := h.2.2.2.2.2.2.2.2.2.2.2.2.2.2.2.2.2.2.2.2.2.2.2.2.2.2.2.2.2.2.2.2.2.2.2.2.2.2.2.2.2.1
theorem n_left {T : xT2} (h : xTm T) : T.2.1 204 = 3904 := h.2.2.2.2.2.2.2.2.2.2.2.2.2.2.2.2.2.2.2.2.2.2.2.2.2.2.2.2.2.2.2.2.2.2.2.2.2.2.2.2.2.2.1
theorem k_pointBit {T : xT2} (h : xTm T) : T.1 205 = 20 := h.2.2.2.2.2.2.2.2.2.2.2.2.2.2.2.2.2.2.2.2.2.2.2.2.2.2.2.2.2.2.2.2.2.2.2.2.2.2.2.2.2.2.2.1
theorem n_pointBit {T : xT2} (h : xTm T) : T.2.1 205 = 8 := h.2.2.2.2.2.2.2.2.2.2.2.2.2.2.2.2.2.2.2.2.2.2.2.2.2.2.2.2.2.2.2.2.2.2.2.2.2.2.2.2.2.2.2.2.1
theorem k_many {T : xT2} (h : xTm T) : T.1 206 = 20 := h.2.2.2.2.2.2.2.2.2.2.2.2.2.2.2.2.2.2.2.2.2.2.2.2.2.2.2.2.2.2.2.2.2.2.2.2.2.2.2.2.2.2.2.2.2.1
theorem n_many {T : xT2} (h : xTm T) : T.2.1 206 = 4 := h.2.2.2.2.2.2.2.2.2.2.2.2.2.2.2.2.2.2.2.2.2.2.2.2.2.2.2.2.2.2.2.2.2.2.2.2.2.2.2.2.2.2.2.2.2.2.1
theorem k_width {T : xT2} (h : xTm T) : T.1 207 = 20 := h.2.2.2.2.2.2.2.2.2.2.2.2.2.2.2.2.2.2.2.2.2.2.2.2.2.2.2.2.2.2.2.2.2.2.2.2.2.2.2.2.2.2.2.2.2.2.2.1
theorem n_width {T : xT2} (h : xTm T) : T.2.1 207 = 4 := h.2.2.2.2.2.2.2.2.2.2.2.2.2.2.2.2.2.2.2.2.2.2.2.2.2.2.2.2.2.2.2.2.2.2.2.2.2.2.2.2.2.2.2.2.2.2.2.2.1
theorem k_numbers {T : xT2} (h : xTm T) : T.1 208 = 23 := h.2.2.2.2.2.2.2.2.2.2.2.2.2.2.2.2.2.2.2.2.2.2.2.2.2.2.2.2.2.2.2.2.2.2.2.2.2.2.2.2.2.2.2.2.2.2.2.2.2.1
theorem n_numbers {T : xT2} (h : xTm T) : T.2.1 208 = 240 := h.2.2.2.2.2.2.2.2.2.2.2.2.2.2.2.2.2.2.2.2.2.2.2.2.2.2.2.2.2.2.2.2.2.2.2.2.2.2.2.2.2.2.2.2.2.2.2.2.2.2.1
theorem k_moving {T : xT2} (h : xTm T) : T.1 209 = 23 := h.2.2.2.2.2.2.2.2.2.2.2.2.2.2.2.2.2.2.2.2.2.2.2.2.2.2.2.2.2.2.2.2.2.2.2.2.2.2.2.2.2.2.2.2.2.2.2.2.2.2.2.1
theorem n_moving {T : xT2} (h : xTm T) : T.2.1 209 = 60 := h.2.2.2.2.2.2.2.2.2.2.2.2.2.2.2.2.2.2.2.2.2.2.2.2.2.2.2.2.2.2.2.2.2.2.2.2.2.2.2.2.2.2.2.2.2.2.2.2.2.2.2.2
def xPm (D : xD) : Prop := D 183 1 = 184 ∧ D 183 2 = 185 ∧ D 183 3 = 186 ∧ D 183 4 = 187 ∧ D 183 6 = 188 ∧ D 183 14 = 189 ∧ D 183 20 = 190 ∧ D 183 21 = 191 ∧ D 183 23 = 192 ∧ D 183 24 = 193 ∧ D 183 25 = 194 ∧ D 183 26 = 195 ∧ D 183 27 = 196 ∧ D 183 28 = 197 ∧ D 183 30 = 198 ∧ D 183 31 = 199 ∧ D 183 39 = 200 ∧ D 183 41 = 201 ∧ D 183 42 = 202 ∧ D 183 45 = 203 ∧ D 183 46 = 204 ∧ D 183 47 = 205 ∧ D 183 49 = 206 ∧ D 183 50 = 207 ∧ D 183 51 = 208 ∧ D 183 52 = 209
theorem p_world {D : xD} (h : xPm D) : D 183 1 = 184 := h.1
theorem p_images {D : xD} (h : xPm D) : D 183 2 = 185 := h.2.1
theorem p_hasImage {D : xD} (h : xPm D) : D 183 3 = 186 := h.2.2.1
theorem p_tape {D : xD} (h : xPm D) : D 183 4 = 187 := h.2.2.2.1
theorem p_five {D : xD} (h : xPm D) : D 183 6 = 188 := h.2.2.2.2.1
theorem p_fresh {D : xD} (h : xPm D) : D 183 14 = 189 := h.2.2.2.2.2.1
theorem p_wayMany {D : xD} (h : xPm D) : D 183 20 = 190 := h.2.2.2.2.2.2.1
theorem p_ways {D : xD} (h : xPm D) : D 183 21 = 191 := h.2.2.2.2.2.2.2.1
theorem p_highest {D : xD} (h : xPm D) : D 183 23 = 192 := h.2.2.2.2.2.2.2.2.1
theorem p_landable {D : xD} (h : xPm D) : D 183 24 = 193 := h.2.2.2.2.2.2.2.2.2.1
theorem p_streets {D : xD} (h : xPm D) : D 183 25 = 194 := h.2.2.2.2.2.2.2.2.2.2.1
theorem p_worths {D : xD} (h : xPm D) : D 183 26 = 195 := h.2.2.2.2.2.2.2.2.2.2.2.1
theorem p_deeds {D : xD} (h : xPm D) : D 183 27 = 196 := h.2.2.2.2.2.2.2.2.2.2.2.2.1
theorem p_homes {D : xD} (h : xPm D) : D 183 28 = 197 := h.2.2.2.2.2.2.2.2.2.2.2.2.2.1
theorem p_fastTo {D : xD} (h : xPm D) : D 183 30 = 198 := h.2.2.2.2.2.2.2.2.2.2.2.2.2.2.1
theorem p_ends {D : xD} (h : xPm D) : D 183 31 = 199 := h.2.2.2.2.2.2.2.2.2.2.2.2.2.2.2.1
theorem p_flights {D : xD} (h : xPm D) : D 183 39 = 200 := h.2.2.2.2.2.2.2.2.2.2.2.2.2.2.2.2.1
theorem p_toldFlight {D : xD} (h : xPm D) : D 183 41 = 201 := h.2.2.2.2.2.2.2.2.2.2.2.2.2.2.2.2.2.1
theorem p_toldEnd {D : xD} (h : xPm D) : D 183 42 = 202 := h.2.2.2.2.2.2.2.2.2.2.2.2.2.2.2.2.2.2.1
theorem p_spreads {D : xD} (h : xPm D) : D 183 45 = 203 := h.2.2.2.2.2.2.2.2.2.2.2.2.2.2.2.2.2.2.2.1
theorem p_left {D : xD} (h : xPm D) : D 183 46 = 204 := h.2.2.2.2.2.2.2.2.2.2.2.2.2.2.2.2.2.2.2.2.1
theorem p_pointBit {D : xD} (h : xPm D) : D 183 47 = 205 := h.2.2.2.2.2.2.2.2.2.2.2.2.2.2.2.2.2.2.2.2.2.1
theorem p_many {D : xD} (h : xPm D) : D 183 49 = 206 := h.2.2.2.2.2.2.2.2.2.2.2.2.2.2.2.2.2.2.2.2.2.2.1
theorem p_width {D : xD} (h : xPm D) : D 183 50 = 207 := h.2.2.2.2.2.2.2.2.2.2.2.2.2.2.2.2.2.2.2.2.2.2.2.1
theorem p_numbers {D : xD} (h : xPm D) : D 183 51 = 208 := h.2.2.2.2.2.2.2.2.2.2.2.2.2.2.2.2.2.2.2.2.2.2.2.2.1
theorem p_moving {D : xD} (h : xPm D) : D 183 52 = 209 := h.2.2.2.2.2.2.2.2.2.2.2.2.2.2.2.2.2.2.2.2.2.2.2.2.2
