/-! numbers by ids: c * (what the id stands for) + o; a store of bounds of the ids -/
abbrev yyN : Type := Int × Nat × Int
abbrev yyB : Type := List (Nat × zzI)
def yyG (ρ : Nat → Int) (v : yyN) : Int := v.1 * ρ v.2.1 + v.2.2
def yyK (x : Int) : yyN := (0, 0, x)
theorem yyG_k (ρ : Nat → Int) (x : Int) : yyG ρ (yyK x) = x := by
  show 0 * ρ 0 + x = x
  rw [Int.zero_mul, Int.zero_add]
def yyOk (B : yyB) (ρ : Nat → Int) : Prop := ∀ q ∈ B, zzM q.2 (ρ q.1)
def yyLk : yyB → Nat → Option zzI
  | [], _ => none
  | (v, b) :: r, u => match Nat.beq u v with
    | true => some b
    | false => yyLk r u
theorem yyLk_ok {ρ : Nat → Int} : ∀ {B : yyB} {u : Nat} {b : zzI}, yyOk B ρ → yyLk B u = some b → zzM b (ρ u)
  | [], _, _, _, h => by cases h
  | (v, c) :: r, u, b, hB, h => by
    unfold yyLk at h
    cases e : Nat.beq u v
    · rw [e] at h
      exact yyLk_ok (fun q hq => hB q (List.mem_cons_of_mem _ hq)) h
    · rw [e] at h
      cases h
      rw [Nat.eq_of_beq_eq_true e]
      exact hB (v, c) List.mem_cons_self
/-- bounds of a value -/
def yyBd (B : yyB) (v : yyN) : Option zzI := match zzEq v.1 0 with
  | true => some (v.2.2, v.2.2)
  | false => match yyLk B v.2.1 with
    | none => none
    | some (l, h) => match zzLe 0 v.1 with
      | true => some (v.1 * l + v.2.2, v.1 * h + v.2.2)
      | false => some (v.1 * h + v.2.2, v.1 * l + v.2.2)
theorem yyBd_ok {B : yyB} {ρ : Nat → Int} {v : yyN} {b : zzI} (hB : yyOk B ρ) (h : yyBd B v = some b) : zzM b (yyG ρ v) := by
  unfold yyBd at h
  cases e : zzEq v.1 0
  · rw [e] at h
    cases e2 : yyLk B v.2.1 with
    | none => rw [e2] at h; cases h
    | some q =>
      rw [e2] at h
      obtain ⟨l, g⟩ := q
      have k := yyLk_ok hB e2
      have k1 : l ≤ ρ v.2.1 := k.1
      have k2 : ρ v.2.1 ≤ g := k.2
      cases e3 : zzLe 0 v.1
      · have hn := zzLe_no e3
        have h : some (v.1 * g + v.2.2, v.1 * l + v.2.2) = some b := by rw [e3] at h; exact h
        cases h
        have m1 : v.1 * g ≤ v.1 * ρ v.2.1 := Int.mul_le_mul_of_nonpos_left (by omega) k2
        have m2 : v.1 * ρ v.2.1 ≤ v.1 * l := Int.mul_le_mul_of_nonpos_left (by omega) k1
        exact ⟨by show v.1 * g + v.2.2 ≤ v.1 * ρ v.2.1 + v.2.2; omega, by show v.1 * ρ v.2.1 + v.2.2 ≤ v.1 * l + v.2.2; omega⟩
      · have hn := zzLe_ok e3
        have h : some (v.1 * l + v.2.2, v.1 * g + v.2.2) = some b := by rw [e3] at h; exact h
        cases h
        have m1 : v.1 * l ≤ v.1 * ρ v.2.1 := Int.mul_le_mul_of_nonneg_left k1 hn
        have m2 : v.1 * ρ v.2.1 ≤ v.1 * g := Int.mul_le_mul_of_nonneg_left k2 hn
        exact ⟨by show v.1 * l + v.2.2 ≤ v.1 * ρ v.2.1 + v.2.2; omega, by show v.1 * ρ v.2.1 + v.2.2 ≤ v.1 * g + v.2.2; omega⟩
  · rw [e] at h
    cases h
    have z := zzEq_ok e
    have g : yyG ρ v = v.2.2 := by show v.1 * ρ v.2.1 + v.2.2 = v.2.2; rw [z, Int.zero_mul, Int.zero_add]
    rw [g]
    exact zzM_1 _
/-- all ids of a value are old -/
def yyOld (n : Nat) (v : yyN) : Prop := v.1 = 0 ∨ v.2.1 < n
theorem yyG_new {ρ : Nat → Int} {n : Nat} {x : Int} {v : yyN} (h : yyOld n v) : yyG (fun u => if u = n then x else ρ u) v = yyG ρ v := by
  show v.1 * (if v.2.1 = n then x else ρ v.2.1) + v.2.2 = v.1 * ρ v.2.1 + v.2.2
  rcases h with h | h
  · rw [h, Int.zero_mul, Int.zero_mul]
  · rw [if_neg (by omega)]
theorem yyOk_new {B : yyB} {ρ : Nat → Int} {n : Nat} {x : Int} {b : zzI} (hB : yyOk B ρ) (hn : ∀ q ∈ B, q.1 < n) (hx : zzM b x) : yyOk ((n, b) :: B) (fun u => if u = n then x else ρ u) := fun q hq => by
  rcases List.mem_cons.mp hq with rfl | hq
  · show zzM b (if n = n then x else ρ n)
    rw [if_pos rfl]; exact hx
  · have := hn q hq
    show zzM q.2 (if q.1 = n then x else ρ q.1)
    rw [if_neg (by omega)]; exact hB q hq
/-- sums -/
def yyAdd (x y : yyN) : Option yyN := match zzEq x.1 0 with
  | true => some (y.1, y.2.1, x.2.2 + y.2.2)
  | false => match zzEq y.1 0 with
    | true => some (x.1, x.2.1, x.2.2 + y.2.2)
    | false => match Nat.beq x.2.1 y.2.1 with
      | true => some (x.1 + y.1, x.2.1, x.2.2 + y.2.2)
      | false => none
theorem yyAdd_ok {ρ : Nat → Int} {x y z : yyN} (h : yyAdd x y = some z) : yyG ρ z = yyG ρ x + yyG ρ y := by
  unfold yyAdd at h
  cases e : zzEq x.1 0
  · rw [e] at h
    cases e2 : zzEq y.1 0
    · rw [e2] at h
      cases e3 : Nat.beq x.2.1 y.2.1
      · rw [e3] at h; cases h
      · rw [e3] at h
        cases h
        have z := Nat.eq_of_beq_eq_true e3
        show (x.1 + y.1) * ρ x.2.1 + (x.2.2 + y.2.2) = (x.1 * ρ x.2.1 + x.2.2) + (y.1 * ρ y.2.1 + y.2.2)
        rw [← z, Int.add_mul]
        omega
    · rw [e2] at h
      cases h
      have z := zzEq_ok e2
      show x.1 * ρ x.2.1 + (x.2.2 + y.2.2) = (x.1 * ρ x.2.1 + x.2.2) + (y.1 * ρ y.2.1 + y.2.2)
      rw [z, Int.zero_mul]
      omega
  · rw [e] at h
    cases h
    have z := zzEq_ok e
    show y.1 * ρ y.2.1 + (x.2.2 + y.2.2) = (x.1 * ρ x.2.1 + x.2.2) + (y.1 * ρ y.2.1 + y.2.2)
    rw [z, Int.zero_mul]
    omega
def yyMul (k : Int) (x : yyN) : yyN := (k * x.1, x.2.1, k * x.2.2)
theorem yyMul_ok {ρ : Nat → Int} (k : Int) (x : yyN) : yyG ρ (yyMul k x) = k * yyG ρ x := by
  show k * x.1 * ρ x.2.1 + k * x.2.2 = k * (x.1 * ρ x.2.1 + x.2.2)
  rw [Int.mul_add, Int.mul_assoc]
/-- a value is held to bounds: none says that it can't be -/
def yyRef (B : yyB) (v : yyN) (lo hi : Int) : Option yyB := match zzEq v.1 1 with
  | true => match yyLk B v.2.1 with
    | none => some B
    | some (l, h) => match zzLe (max l (lo - v.2.2)) (min h (hi - v.2.2)) with
      | true => some ((v.2.1, (max l (lo - v.2.2), min h (hi - v.2.2))) :: B)
      | false => none
  | false => match yyBd B v with
    | none => some B
    | some (l, h) => match zzLe (max l lo) (min h hi) with
      | true => some B
      | false => none
theorem yyRef_ok {B : yyB} {ρ : Nat → Int} {v : yyN} {lo hi : Int} (hB : yyOk B ρ) (h1 : lo ≤ yyG ρ v) (h2 : yyG ρ v ≤ hi) : ∃ B2, yyRef B v lo hi = some B2 ∧ yyOk B2 ρ := by
  unfold yyRef
  cases e : zzEq v.1 1
  · cases e2 : yyBd B v with
    | none => exact ⟨B, rfl, hB⟩
    | some b =>
      obtain ⟨l, g⟩ := b
      have k := yyBd_ok hB e2
      have k1 : l ≤ yyG ρ v := k.1
      have k2 : yyG ρ v ≤ g := k.2
      have z : zzLe (max l lo) (min g hi) = true := zzLe_iff.mpr (by omega)
      simp only [z]
      exact ⟨B, rfl, hB⟩
  · have z1 := zzEq_ok e
    have g1 : yyG ρ v = ρ v.2.1 + v.2.2 := by show v.1 * ρ v.2.1 + v.2.2 = _; rw [z1, Int.one_mul]
    rw [g1] at h1 h2
    cases e2 : yyLk B v.2.1 with
    | none => exact ⟨B, rfl, hB⟩
    | some b =>
      obtain ⟨l, g⟩ := b
      have k := yyLk_ok hB e2
      have k1 : l ≤ ρ v.2.1 := k.1
      have k2 : ρ v.2.1 ≤ g := k.2
      have z : zzLe (max l (lo - v.2.2)) (min g (hi - v.2.2)) = true := zzLe_iff.mpr (by omega)
      simp only [z]
      refine ⟨_, rfl, fun q hq => ?_⟩
      rcases List.mem_cons.mp hq with rfl | hq
      · exact ⟨by show max l (lo - v.2.2) ≤ ρ v.2.1; omega, by show ρ v.2.1 ≤ min g (hi - v.2.2); omega⟩
      · exact hB q hq
