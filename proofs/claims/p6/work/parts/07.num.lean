/-! numbers: Int32, Int64 against Int -/
def xIn (t : Nat) (x : Int) : Prop := match t with
  | 0 => -2147483648 ≤ x ∧ x < 2147483648
  | 1 => -9223372036854775808 ≤ x ∧ x < 9223372036854775808
  | 3 => x = 0 ∨ x = 1
  | 4 => -128 ≤ x ∧ x < 128
  | _ => True
theorem xi_toInt {x : Int} (h : xIn 0 x) : (Int32.ofInt x).toInt = x := by
  have h : -2147483648 ≤ x ∧ x < 2147483648 := h
  exact Int32.toInt_ofInt_of_le (by omega) (by omega)
theorem xj_toInt {x : Int} (h : xIn 1 x) : (Int64.ofInt x).toInt = x := by
  have h : -9223372036854775808 ≤ x ∧ x < 9223372036854775808 := h
  exact Int64.toInt_ofInt_of_le (by omega) (by omega)
theorem xi_in (i : Int32) : xIn 0 i.toInt := by
  have h1 := Int32.le_toInt i
  have h2 := Int32.toInt_lt i
  show -2147483648 ≤ i.toInt ∧ i.toInt < 2147483648
  omega
theorem xj_in (i : Int64) : xIn 1 i.toInt := by
  have h1 := Int64.le_toInt i
  have h2 := Int64.toInt_lt i
  show -9223372036854775808 ≤ i.toInt ∧ i.toInt < 9223372036854775808
  omega
theorem xi_eq (i : Int32) : Int32.ofInt i.toInt = i := Int32.ofInt_toInt i
theorem xj_eq (i : Int64) : Int64.ofInt i.toInt = i := Int64.ofInt_toInt i
theorem w32_in (x : Int) : xIn 0 (w32 x) := by
  have h1 := Int.le_bmod (x := x) (m := 4294967296) (by decide)
  have h2 := Int.bmod_lt (x := x) (m := 4294967296) (by decide)
  show -2147483648 ≤ x.bmod 4294967296 ∧ x.bmod 4294967296 < 2147483648
  omega
theorem w64_in (x : Int) : xIn 1 (w64 x) := by
  have h1 := Int.le_bmod (x := x) (m := 18446744073709551616) (by decide)
  have h2 := Int.bmod_lt (x := x) (m := 18446744073709551616) (by decide)
  show -9223372036854775808 ≤ x.bmod 18446744073709551616 ∧ x.bmod 18446744073709551616 < 9223372036854775808
  omega
theorem w8_in (x : Int) : xIn 4 (w8 x) := by
  have h1 := Int.le_bmod (x := x) (m := 256) (by decide)
  have h2 := Int.bmod_lt (x := x) (m := 256) (by decide)
  show -128 ≤ x.bmod 256 ∧ x.bmod 256 < 128
  omega
theorem w16_in (x : Int) : xIn 0 (w16 x) := by
  have h1 := Int.le_bmod (x := x) (m := 65536) (by decide)
  have h2 := Int.bmod_lt (x := x) (m := 65536) (by decide)
  show -2147483648 ≤ x.bmod 65536 ∧ x.bmod 65536 < 2147483648
  omega
theorem xIn40 {x : Int} (h : xIn 4 x) : xIn 0 x := by
  have h : -128 ≤ x ∧ x < 128 := h
  show -2147483648 ≤ x ∧ x < 2147483648
  omega
theorem xIn30 {x : Int} (h : xIn 3 x) : xIn 0 x := by
  have h : x = 0 ∨ x = 1 := h
  show -2147483648 ≤ x ∧ x < 2147483648
  omega
theorem xi_w (x : Int) : Int32.ofInt (w32 x) = Int32.ofInt x := by
  apply Int32.toInt_inj.mp
  rw [xi_toInt (w32_in x), Int32.toInt_ofInt]
  rfl
theorem xj_w (x : Int) : Int64.ofInt (w64 x) = Int64.ofInt x := by
  apply Int64.toInt_inj.mp
  rw [xj_toInt (w64_in x), Int64.toInt_ofInt]
  rfl
theorem w32_eq {x : Int} (h : xIn 0 x) : w32 x = x := by
  have e := xi_w x
  have e2 := congrArg Int32.toInt e
  rw [xi_toInt (w32_in x), xi_toInt h] at e2
  exact e2
theorem w64_eq {x : Int} (h : xIn 1 x) : w64 x = x := by
  have e := xj_w x
  have e2 := congrArg Int64.toInt e
  rw [xj_toInt (w64_in x), xj_toInt h] at e2
  exact e2
theorem xi_add (i j : Int32) : (i + j).toInt = w32 (i.toInt + j.toInt) := Int32.toInt_add i j
theorem xi_sub (i j : Int32) : (i - j).toInt = w32 (i.toInt - j.toInt) := Int32.toInt_sub i j
theorem xi_mul (i j : Int32) : (i * j).toInt = w32 (i.toInt * j.toInt) := Int32.toInt_mul i j
theorem xi_neg (i : Int32) : (-i).toInt = w32 (-i.toInt) := Int32.toInt_neg i
theorem xi_div (i j : Int32) : (i / j).toInt = w32 (i.toInt.tdiv j.toInt) := Int32.toInt_div i j
theorem xj_add (i j : Int64) : (i + j).toInt = w64 (i.toInt + j.toInt) := Int64.toInt_add i j
theorem xj_sub (i j : Int64) : (i - j).toInt = w64 (i.toInt - j.toInt) := Int64.toInt_sub i j
theorem xj_mul (i j : Int64) : (i * j).toInt = w64 (i.toInt * j.toInt) := Int64.toInt_mul i j
theorem xj_div (i j : Int64) : (i / j).toInt = w64 (i.toInt.tdiv j.toInt) := Int64.toInt_div i j
theorem x_tmod_in {t : Nat} (ht : t = 0 ∨ t = 1) {x : Int} (y : Int) (h : xIn t x) : xIn t (x.tmod y) := by
  have h1 : (x.tmod y).natAbs ≤ x.natAbs := by
    rw [Int.natAbs_tmod]
    exact Nat.mod_le _ _
  have h3 : x < 0 → x.tmod y ≤ 0 := fun hx => by
    have e : x.tmod y = -((-x).tmod y) := by rw [Int.neg_tmod, Int.neg_neg]
    have h5 : 0 ≤ (-x).tmod y := Int.tmod_nonneg y (by omega)
    omega
  rcases ht with rfl | rfl
  · have h : -2147483648 ≤ x ∧ x < 2147483648 := h
    have h2 : 0 ≤ x → 0 ≤ x.tmod y := fun hx => Int.tmod_nonneg y hx
    show -2147483648 ≤ x.tmod y ∧ x.tmod y < 2147483648
    omega
  · have h : -9223372036854775808 ≤ x ∧ x < 9223372036854775808 := h
    have h2 : 0 ≤ x → 0 ≤ x.tmod y := fun hx => Int.tmod_nonneg y hx
    show -9223372036854775808 ≤ x.tmod y ∧ x.tmod y < 9223372036854775808
    omega
theorem xi_rem (i j : Int32) : (i - i / j * j).toInt = i.toInt.tmod j.toInt := by
  rw [xi_sub, xi_mul, xi_div]
  have e : w32 (i.toInt - w32 (w32 (i.toInt.tdiv j.toInt) * j.toInt)) = w32 (i.toInt - i.toInt.tdiv j.toInt * j.toInt) := by
    simp only [w32, Int.sub_bmod_bmod, Int.bmod_mul_bmod]
  have e2 : i.toInt - i.toInt.tdiv j.toInt * j.toInt = i.toInt.tmod j.toInt := by
    rw [Int.tmod_def, Int.mul_comm j.toInt]
  rw [e, e2]
  exact w32_eq (x_tmod_in (Or.inl rfl) _ (xi_in i))
theorem xj_rem (i j : Int64) : (i - i / j * j).toInt = i.toInt.tmod j.toInt := by
  rw [xj_sub, xj_mul, xj_div]
  have e : w64 (i.toInt - w64 (w64 (i.toInt.tdiv j.toInt) * j.toInt)) = w64 (i.toInt - i.toInt.tdiv j.toInt * j.toInt) := by
    simp only [w64, Int.sub_bmod_bmod, Int.bmod_mul_bmod]
  have e2 : i.toInt - i.toInt.tdiv j.toInt * j.toInt = i.toInt.tmod j.toInt := by
    rw [Int.tmod_def, Int.mul_comm j.toInt]
  rw [e, e2]
  exact w64_eq (x_tmod_in (Or.inr rfl) _ (xj_in i))
theorem xi_lt {x y : Int} (hx : xIn 0 x) (hy : xIn 0 y) : Int32.ofInt x < Int32.ofInt y ↔ x < y := by
  rw [Int32.lt_iff_toInt_lt, xi_toInt hx, xi_toInt hy]
theorem xi_le {x y : Int} (hx : xIn 0 x) (hy : xIn 0 y) : Int32.ofInt x ≤ Int32.ofInt y ↔ x ≤ y := by
  rw [Int32.le_iff_toInt_le, xi_toInt hx, xi_toInt hy]
theorem xi_inj {x y : Int} (hx : xIn 0 x) (hy : xIn 0 y) : Int32.ofInt x = Int32.ofInt y ↔ x = y := by
  rw [← Int32.toInt_inj, xi_toInt hx, xi_toInt hy]
theorem xi_0 : xIn 0 0 := by show (-2147483648 : Int) ≤ 0 ∧ (0 : Int) < 2147483648; omega
theorem xi_z : Int32.ofInt 0 = 0 := rfl
theorem xi_lt0 {x : Int} (hx : xIn 0 x) : Int32.ofInt x < 0 ↔ x < 0 := xi_lt hx xi_0
theorem xi_le0 {x : Int} (hx : xIn 0 x) : Int32.ofInt x ≤ 0 ↔ x ≤ 0 := xi_le hx xi_0
theorem xi_ge0 {x : Int} (hx : xIn 0 x) : 0 ≤ Int32.ofInt x ↔ 0 ≤ x := xi_le xi_0 hx
theorem xi_gt0 {x : Int} (hx : xIn 0 x) : 0 < Int32.ofInt x ↔ 0 < x := xi_lt xi_0 hx
theorem xi_eq0 {x : Int} (hx : xIn 0 x) : Int32.ofInt x = 0 ↔ x = 0 := xi_inj hx xi_0
theorem xi_cl {x : Int} (hx : xIn 0 x) : (Int32.ofInt x).toNatClampNeg = x.toNat := by
  rw [← Int32.toNat_toInt, xi_toInt hx]
theorem xi_vin {x n : Int} (hx : xIn 0 x) (h0 : 0 ≤ x) (hn : x < n) : vp_in (Int32.ofInt x) n.toNat := by
  rw [vp_in_iff, xi_toInt hx]
  omega
theorem xi_nat (n : Nat) : Int32.ofInt (n : Int) = Int32.ofNat n := Int32.ofInt_eq_ofNat
theorem xi_lcmp {x y : Int} (hx : xIn 1 x) (hy : xIn 1 y) : lg_cmp (Int64.ofInt x) (Int64.ofInt y) = Int32.ofInt (xLcmp x y) := by
  unfold lg_cmp xLcmp
  have e1 : (Int64.ofInt x > Int64.ofInt y) ↔ y < x := by
    rw [gt_iff_lt, Int64.lt_iff_toInt_lt, xj_toInt hx, xj_toInt hy]
  have e2 : (Int64.ofInt x = Int64.ofInt y) ↔ x = y := by
    rw [← Int64.toInt_inj, xj_toInt hx, xj_toInt hy]
  by_cases h1 : y < x
  · rw [if_pos (e1.mpr h1), if_neg (by omega), if_neg (by omega)]; rfl
  · rw [if_neg (fun h => h1 (e1.mp h))]
    by_cases h2 : x = y
    · rw [if_pos (e2.mpr h2), if_neg (by omega), if_pos h2]; rfl
    · rw [if_neg (fun h => h2 (e2.mp h)), if_pos (by omega)]; rfl
theorem xLcmp_in (x y : Int) : xIn 0 (xLcmp x y) := by
  unfold xLcmp
  have h : ∀ z : Int, z = -1 ∨ z = 0 ∨ z = 1 → xIn 0 z := fun z hz => by
    show -2147483648 ≤ z ∧ z < 2147483648
    omega
  split
  · exact h _ (Or.inl rfl)
  · split
    · exact h _ (Or.inr (Or.inl rfl))
    · exact h _ (Or.inr (Or.inr rfl))
theorem xi_b (x : Int) (hx : xIn 0 x) : (Int32.ofInt x).toInt8.toInt32 = Int32.ofInt (w8 x) := by
  apply Int32.toInt_inj.mp
  rw [xi_toInt (xIn40 (w8_in x)), Int8.toInt_toInt32, Int32.toInt_toInt8, xi_toInt hx]
  rfl
theorem xi_s (x : Int) (hx : xIn 0 x) : (Int32.ofInt x).toInt16.toInt32 = Int32.ofInt (w16 x) := by
  apply Int32.toInt_inj.mp
  rw [xi_toInt (w16_in x), Int16.toInt_toInt32, Int32.toInt_toInt16, xi_toInt hx]
  rfl
theorem xi_l (x : Int) (hx : xIn 0 x) : (Int32.ofInt x).toInt64 = Int64.ofInt x := by
  have h1 : xIn 1 x := by
    have h : -2147483648 ≤ x ∧ x < 2147483648 := hx
    show -9223372036854775808 ≤ x ∧ x < 9223372036854775808
    omega
  apply Int64.toInt_inj.mp
  rw [Int32.toInt_toInt64, xi_toInt hx, xj_toInt h1]
theorem xIn01 {x : Int} (hx : xIn 0 x) : xIn 1 x := by
  have h : -2147483648 ≤ x ∧ x < 2147483648 := hx
  show -9223372036854775808 ≤ x ∧ x < 9223372036854775808
  omega
theorem xj_i (x : Int) (hx : xIn 1 x) : (Int64.ofInt x).toInt32 = Int32.ofInt (w32 x) := by
  apply Int32.toInt_inj.mp
  rw [Int64.toInt_toInt32, xj_toInt hx, xi_toInt (w32_in x)]
  rfl
theorem xi_ne0 {x : Int} (hx : xIn 0 x) (h : x ≠ 0) : ¬ Int32.ofInt x = 0 := fun e => h ((xi_eq0 hx).mp e)
theorem xj_ne0 {x : Int} (hx : xIn 1 x) (h : x ≠ 0) : ¬ Int64.ofInt x = 0 := fun e => by
  have e2 := congrArg Int64.toInt e
  rw [xj_toInt hx] at e2
  exact h e2
theorem xi_max {x y : Int} (hx : xIn 0 x) (hy : xIn 0 y) : (if Int32.ofInt x < Int32.ofInt y then Int32.ofInt y else Int32.ofInt x) = Int32.ofInt (max x y) := by
  by_cases h : x < y
  · rw [if_pos ((xi_lt hx hy).mpr h), Int.max_eq_right (by omega)]
  · rw [if_neg (fun q => h ((xi_lt hx hy).mp q)), Int.max_eq_left (by omega)]
theorem x_max_in {x y : Int} (hx : xIn 0 x) (hy : xIn 0 y) : xIn 0 (max x y) := by
  by_cases h : x ≤ y
  · rw [Int.max_eq_right h]; exact hy
  · rw [Int.max_eq_left (by omega)]; exact hx
theorem x_min_in {x y : Int} (hx : xIn 0 x) (hy : xIn 0 y) : xIn 0 (min x y) := by
  by_cases h : x ≤ y
  · rw [Int.min_eq_left h]; exact hx
  · rw [Int.min_eq_right (by omega)]; exact hy
theorem xi_min {x y : Int} (hx : xIn 0 x) (hy : xIn 0 y) : (if Int32.ofInt y < Int32.ofInt x then Int32.ofInt y else Int32.ofInt x) = Int32.ofInt (min x y) := by
  by_cases h : y < x
  · rw [if_pos ((xi_lt hy hx).mpr h), Int.min_eq_right (by omega)]
  · rw [if_neg (fun q => h ((xi_lt hy hx).mp q)), Int.min_eq_left (by omega)]
