/-! operations -/
def zz1 (f : Int → Int) (x : zzI) : zzI := match zzEq x.1 x.2 with
  | true => (f x.1, f x.1)
  | false => (-2147483648, 2147483647)
def zz2 (f : Int → Int → Int) (x y : zzI) : zzI := match zzEq x.1 x.2 && zzEq y.1 y.2 with
  | true => (f x.1 y.1, f x.1 y.1)
  | false => (-2147483648, 2147483647)
def zz2j (f : Int → Int → Int) (x y : zzI) : zzI := match zzEq x.1 x.2 && zzEq y.1 y.2 with
  | true => (f x.1 y.1, f x.1 y.1)
  | false => (-9223372036854775808, 9223372036854775807)
def zzAd (x y : zzI) : zzI := match zzEq x.1 x.2 && zzEq y.1 y.2 with
  | true => (w32 (x.1 + y.1), w32 (x.1 + y.1))
  | false => match zzLe (-2147483648) (x.1 + y.1) && zzLe (x.2 + y.2) 2147483647 with
    | true => (x.1 + y.1, x.2 + y.2)
    | false => (-2147483648, 2147483647)
def zzSb (x y : zzI) : zzI := match zzEq x.1 x.2 && zzEq y.1 y.2 with
  | true => (w32 (x.1 - y.1), w32 (x.1 - y.1))
  | false => match zzLe (-2147483648) (x.1 - y.2) && zzLe (x.2 - y.1) 2147483647 with
    | true => (x.1 - y.2, x.2 - y.1)
    | false => (-2147483648, 2147483647)
theorem zzAd_ok {x y : zzI} {a b : Int} (h : zzM x a) (h2 : zzM y b) : zzM (zzAd x y) (w32 (a + b)) := by
  have q1 : x.1 ≤ a := h.1
  have q2 : a ≤ x.2 := h.2
  have q3 : y.1 ≤ b := h2.1
  have q4 : b ≤ y.2 := h2.2
  have hr : (-2147483648 : Int) ≤ w32 (a + b) ∧ w32 (a + b) < 2147483648 := w32_in _
  unfold zzAd
  cases e : zzEq x.1 x.2 && zzEq y.1 y.2
  · cases e2 : zzLe (-2147483648) (x.1 + y.1) && zzLe (x.2 + y.2) 2147483647
    · exact ⟨hr.1, by show w32 (a + b) ≤ 2147483647; omega⟩
    · rw [Bool.and_eq_true] at e2
      have z1 := zzLe_ok e2.1
      have z2 := zzLe_ok e2.2
      have ew : w32 (a + b) = a + b := w32_eq (show (-2147483648 : Int) ≤ a + b ∧ a + b < 2147483648 by omega)
      rw [ew]
      exact ⟨by show x.1 + y.1 ≤ a + b; omega, by show a + b ≤ x.2 + y.2; omega⟩
  · rw [Bool.and_eq_true] at e
    rw [zzM_s (a := x.1) (b := x.2) h e.1, zzM_s (a := y.1) (b := y.2) h2 e.2]; exact zzM_1 _
theorem zzSb_ok {x y : zzI} {a b : Int} (h : zzM x a) (h2 : zzM y b) : zzM (zzSb x y) (w32 (a - b)) := by
  have q1 : x.1 ≤ a := h.1
  have q2 : a ≤ x.2 := h.2
  have q3 : y.1 ≤ b := h2.1
  have q4 : b ≤ y.2 := h2.2
  have hr : (-2147483648 : Int) ≤ w32 (a - b) ∧ w32 (a - b) < 2147483648 := w32_in _
  unfold zzSb
  cases e : zzEq x.1 x.2 && zzEq y.1 y.2
  · cases e2 : zzLe (-2147483648) (x.1 - y.2) && zzLe (x.2 - y.1) 2147483647
    · exact ⟨hr.1, by show w32 (a - b) ≤ 2147483647; omega⟩
    · rw [Bool.and_eq_true] at e2
      have z1 := zzLe_ok e2.1
      have z2 := zzLe_ok e2.2
      have ew : w32 (a - b) = a - b := w32_eq (show (-2147483648 : Int) ≤ a - b ∧ a - b < 2147483648 by omega)
      rw [ew]
      exact ⟨by show x.1 - y.2 ≤ a - b; omega, by show a - b ≤ x.2 - y.1; omega⟩
  · rw [Bool.and_eq_true] at e
    rw [zzM_s (a := x.1) (b := x.2) h e.1, zzM_s (a := y.1) (b := y.2) h2 e.2]; exact zzM_1 _
theorem zz_and63 (a : Int) : 0 ≤ xAnd a 63 ∧ xAnd a 63 ≤ 63 := by
  have e : xAnd a 63 = (((Int32.ofInt a).toBitVec &&& (Int32.ofInt 63).toBitVec) : BitVec 32).toInt := rfl
  have h : (((Int32.ofInt a).toBitVec &&& (Int32.ofInt 63).toBitVec) : BitVec 32).toNat ≤ 63 := by
    rw [BitVec.toNat_and]
    exact Nat.le_trans Nat.and_le_right (by decide)
  rw [e, BitVec.toInt_eq_toNat_of_lt (by omega)]
  omega
def zzAn (x y : zzI) : zzI := match zzEq x.1 x.2 && zzEq y.1 y.2 with
  | true => (xAnd x.1 y.1, xAnd x.1 y.1)
  | false => match zzEq y.1 63 && zzEq y.2 63 with
    | true => (0, 63)
    | false => (-2147483648, 2147483647)
theorem zzAn_ok {x y : zzI} {a b : Int} (h : zzM x a) (h2 : zzM y b) : zzM (zzAn x y) (xAnd a b) := by
  have hr : (-2147483648 : Int) ≤ xAnd a b ∧ xAnd a b < 2147483648 := xi_in _
  have q3 : y.1 ≤ b := h2.1
  have q4 : b ≤ y.2 := h2.2
  unfold zzAn
  cases e : zzEq x.1 x.2 && zzEq y.1 y.2
  · cases e2 : zzEq y.1 63 && zzEq y.2 63
    · exact ⟨hr.1, by show xAnd a b ≤ 2147483647; omega⟩
    · rw [Bool.and_eq_true] at e2
      have z1 := zzEq_ok e2.1
      have z2 := zzEq_ok e2.2
      have z3 : b = 63 := by omega
      rw [z3]
      exact zz_and63 a
  · rw [Bool.and_eq_true] at e
    rw [zzM_s (a := x.1) (b := x.2) h e.1, zzM_s (a := y.1) (b := y.2) h2 e.2]; exact zzM_1 _
theorem zz1_ok {f : Int → Int} {x : zzI} {a : Int} (h : zzM x a) (hr : ∀ a, xIn 0 (f a)) : zzM (zz1 f x) (f a) := by
  unfold zz1
  cases e : zzEq x.1 x.2
  · have := hr a
    have h1 : (-2147483648 : Int) ≤ f a ∧ f a < 2147483648 := this
    exact ⟨h1.1, by show f a ≤ 2147483647; omega⟩
  · rw [zzM_s (a := x.1) (b := x.2) h e]; exact zzM_1 _
theorem zz2_ok {f : Int → Int → Int} {x y : zzI} {a b : Int} (h : zzM x a) (h2 : zzM y b) (hr : ∀ a b, xIn 0 (f a b)) : zzM (zz2 f x y) (f a b) := by
  unfold zz2
  cases e : zzEq x.1 x.2 && zzEq y.1 y.2
  · have h1 : (-2147483648 : Int) ≤ f a b ∧ f a b < 2147483648 := hr a b
    exact ⟨h1.1, by show f a b ≤ 2147483647; omega⟩
  · rw [Bool.and_eq_true] at e
    rw [zzM_s (a := x.1) (b := x.2) h e.1, zzM_s (a := y.1) (b := y.2) h2 e.2]; exact zzM_1 _
theorem zz2j_ok {f : Int → Int → Int} {x y : zzI} {a b : Int} (h : zzM x a) (h2 : zzM y b) (hr : ∀ a b, xIn 1 (f a b)) : zzM (zz2j f x y) (f a b) := by
  unfold zz2j
  cases e : zzEq x.1 x.2 && zzEq y.1 y.2
  · have h1 : (-9223372036854775808 : Int) ≤ f a b ∧ f a b < 9223372036854775808 := hr a b
    exact ⟨h1.1, by show f a b ≤ 9223372036854775807; omega⟩
  · rw [Bool.and_eq_true] at e
    rw [zzM_s (a := x.1) (b := x.2) h e.1, zzM_s (a := y.1) (b := y.2) h2 e.2]; exact zzM_1 _
def zzTest (c : ClassFile.Cond) (x y : zzI) : Bool := match c with
  | .eq => zzLe x.1 y.2 && zzLe y.1 x.2
  | .ne => !(zzEq x.1 x.2 && (zzEq y.1 y.2 && zzEq x.1 y.1))
  | .lt => !zzLe y.2 x.1
  | .ge => zzLe y.1 x.2
  | .gt => !zzLe x.2 y.1
  | .le => zzLe x.1 y.2
def zzNot (c : ClassFile.Cond) : ClassFile.Cond := match c with
  | .eq => .ne
  | .ne => .eq
  | .lt => .ge
  | .ge => .lt
  | .gt => .le
  | .le => .gt
theorem zz_nle {x y : Int} (h : y < x) : (!zzLe x y) = true := by
  cases e : zzLe x y
  · rfl
  · have := zzLe_ok e; omega
theorem zzTest_ok {c : ClassFile.Cond} {x y : zzI} {a b : Int} (h : zzM x a) (h2 : zzM y b) (ht : xT c a b) : zzTest c x y = true := by
  have h3 : x.1 ≤ a := h.1
  have h4 : a ≤ x.2 := h.2
  have h5 : y.1 ≤ b := h2.1
  have h6 : b ≤ y.2 := h2.2
  cases c
  · have ht : a = b := ht
    exact Bool.and_eq_true _ _ ▸ ⟨zzLe_iff.mpr (by omega), zzLe_iff.mpr (by omega)⟩
  · have ht : a ≠ b := ht
    show (!(zzEq x.1 x.2 && (zzEq y.1 y.2 && zzEq x.1 y.1))) = true
    cases e : zzEq x.1 x.2 && (zzEq y.1 y.2 && zzEq x.1 y.1)
    · rfl
    · rw [Bool.and_eq_true, Bool.and_eq_true] at e
      have e1 := zzEq_ok e.1
      have e2 := zzEq_ok e.2.1
      have e3 := zzEq_ok e.2.2
      omega
  · have ht : a < b := ht
    exact zz_nle (by omega)
  · have ht : b ≤ a := ht
    exact zzLe_iff.mpr (by omega)
  · have ht : b < a := ht
    exact zz_nle (by omega)
  · have ht : a ≤ b := ht
    exact zzLe_iff.mpr (by omega)
theorem zzNot_ok {c : ClassFile.Cond} {a b : Int} (h : xN c a b) : xT (zzNot c) a b := by cases c <;> exact h
theorem zzLc_ok {x y : zzI} {a b : Int} (h : zzM x a) (h2 : zzM y b) : zzM (xLcmp x.1 y.2, xLcmp x.2 y.1) (xLcmp a b) := by
  have h3 : x.1 ≤ a := h.1
  have h4 : a ≤ x.2 := h.2
  have h5 : y.1 ≤ b := h2.1
  have h6 : b ≤ y.2 := h2.2
  constructor
  · show xLcmp x.1 y.2 ≤ xLcmp a b
    unfold xLcmp
    repeat' split
    all_goals omega
  · show xLcmp a b ≤ xLcmp x.2 y.1
    unfold xLcmp
    repeat' split
    all_goals omega
/-! memory -/
/-- of the script: bounds of its first numbers, the most that its length may be -/
abbrev zzQ : Type := List zzI × Int
abbrev zzMm : Type := zzT zzI 20 × zzT zzI 8 × Nat × Nat
def zzKey (a j : Int) : Nat := Nat.add a.toNat (Nat.mul 256 j.toNat)
noncomputable def zzRd (m : zzMm) (a j : Int) : zzI := zzGet (0, 0) 20 m.1 (zzKey a j)
noncomputable def zzOb (m : zzMm) (a : Int) : zzI := zzGet (-1, 0) 8 m.2.1 a.toNat
noncomputable def zzKn (S : zzQ) (m : zzMm) (a : Int) : zzI := match zzLe 1 a && zzLe (a + 1) (m.2.2.1 : Int) with
  | true => zzOb m a
  | false => match zzEq a (-1) with
    | true => (20, (S.1.length : Int))
    | false => (-1, 0)
noncomputable def zzAl (S : zzQ) (m : zzMm) (a : Int) : zzI := match zzEq a (-1) with
  | true => ((S.1.length : Int), S.2)
  | false => ((zzKn S m a).2, (zzKn S m a).2)
def zzW (S : zzQ) (m : zzMm) (H : xH) : Prop :=
  (H.2.2.2.1 = m.2.2.1 ∧ H.2.2.2.2 = m.2.2.2 ∧ m.2.2.1 ≤ 255 ∧ (∀ a j : Int, 1 ≤ a → 4096 ≤ j → H.1 a j = 0) ∧ ∀ j : Int, xIn 0 (H.1 (-1) j)) ∧
  (∀ a : Int, 1 ≤ a → a < (m.2.2.1 : Int) → H.2.1 a = (zzOb m a).1 ∧ H.2.2.1 a = (zzOb m a).2) ∧
  (∀ a j : Int, 1 ≤ a → a < (m.2.2.1 : Int) → 0 ≤ j → j < 4096 → zzM (zzRd m a j) (H.1 a j)) ∧
  (∀ a j : Int, (m.2.2.1 : Int) ≤ a → a < 256 → 0 ≤ j → j < 4096 → zzRd m a j = (0, 0)) ∧
  H.2.1 (-1) = 20 ∧ ((S.1.length : Int) ≤ H.2.2.1 (-1) ∧ H.2.2.1 (-1) ≤ S.2) ∧ ∀ j : Nat, j < S.1.length → zzM (S.1.getD j (0, 0)) (H.1 (-1) (j : Int))
theorem zzKey_lt {a j : Int} (h : 0 ≤ a) (h1 : a < 256) (h2 : 0 ≤ j) (h3 : j < 4096) : zzKey a j < 2 ^ 20 := by
  show a.toNat + 256 * j.toNat < 2 ^ 20
  have : (2 : Nat) ^ 20 = 1048576 := rfl
  omega
theorem zzKey_inj {a j b k : Int} (h : 0 ≤ a) (h1 : a < 256) (h2 : 0 ≤ j) (g : 0 ≤ b) (g1 : b < 256) (g2 : 0 ≤ k) (e : zzKey a j = zzKey b k) : a = b ∧ j = k := by
  have e : a.toNat + 256 * j.toNat = b.toNat + 256 * k.toNat := e
  omega
theorem zzKn_ok {S : zzQ} {m : zzMm} {H : xH} (hW : zzW S m H) {a : Int} (h : 0 ≤ (zzKn S m a).1) : H.2.1 a = (zzKn S m a).1 ∧ (zzKn S m a).2 ≤ H.2.2.1 a ∧ (((1 ≤ a ∧ a < (m.2.2.1 : Int)) ∧ H.2.2.1 a = (zzKn S m a).2) ∨ (a = -1 ∧ (zzKn S m a).2 = (S.1.length : Int))) := by
  unfold zzKn at h ⊢
  cases e : zzLe 1 a && zzLe (a + 1) (m.2.2.1 : Int)
  · rw [e] at h
    cases e2 : zzEq a (-1)
    · rw [e2] at h
      have h : (0 : Int) ≤ -1 := h
      omega
    · have := zzEq_ok e2
      subst this
      exact ⟨hW.2.2.2.2.1, hW.2.2.2.2.2.1.1, Or.inr ⟨rfl, rfl⟩⟩
  · rw [Bool.and_eq_true] at e
    have e1 := zzLe_ok e.1
    have e2 := zzLe_ok e.2
    have k := hW.2.1 a e1 (by omega)
    exact ⟨k.1, Int.le_of_eq k.2.symm, Or.inl ⟨⟨e1, by omega⟩, k.2⟩⟩
theorem zzKn_eq {S : zzQ} {m : zzMm} {H : xH} (hW : zzW S m H) {a κ : Int} (hκ : 0 ≤ κ) (h : zzEq (zzKn S m a).1 κ = true) : H.2.1 a = κ ∧ (zzKn S m a).2 ≤ H.2.2.1 a ∧ (((1 ≤ a ∧ a < (m.2.2.1 : Int)) ∧ H.2.2.1 a = (zzKn S m a).2) ∨ (a = -1 ∧ (zzKn S m a).2 = (S.1.length : Int))) := by
  have e := zzEq_ok h
  have k := zzKn_ok hW (a := a) (by omega)
  exact ⟨k.1.trans e, k.2⟩
theorem zzAl_ok {S : zzQ} {m : zzMm} {H : xH} (hW : zzW S m H) {a : Int} (h : 0 ≤ (zzKn S m a).1) : zzM (zzAl S m a) (H.2.2.1 a) := by
  have k := zzKn_ok hW h
  unfold zzAl
  cases e : zzEq a (-1)
  · have := zzEq_no e
    rcases k.2.2 with q | q
    · rw [q.2]; exact zzM_1 _
    · exact absurd q.1 this
  · have := zzEq_ok e
    subst this
    exact hW.2.2.2.2.2.1
/-- a place of an array -/
noncomputable def zzOk (S : zzQ) (m : zzMm) (κ a i : Int) : Bool := zzEq (zzKn S m a).1 κ && (zzLe 0 i && (zzLe (i + 1) (zzKn S m a).2 && zzLe i 4095))
noncomputable def zzOk4 (S : zzQ) (m : zzMm) (a i : Int) : Bool := zzLe 24 (zzKn S m a).1 && (zzLe 0 i && (zzLe (i + 1) (zzKn S m a).2 && zzLe i 4095))
noncomputable def zzLd (S : zzQ) (m : zzMm) (a i : Int) : zzI := match zzEq a (-1) with
  | true => S.1.getD i.toNat (0, 0)
  | false => zzRd m a i
def zzPl (S : zzQ) (m : zzMm) (a i : Int) : Prop := i < 4096 ∧ ((1 ≤ a ∧ a < (m.2.2.1 : Int)) ∨ (a = -1 ∧ i < (S.1.length : Int)))
theorem zzOk_ok {S : zzQ} {m : zzMm} {H : xH} (hW : zzW S m H) {κ a i : Int} (hκ : 0 ≤ κ) (h : zzOk S m κ a i = true) : (H.2.1 a = κ ∧ 0 ≤ i ∧ i < H.2.2.1 a) ∧ zzPl S m a i := by
  unfold zzOk at h
  rw [Bool.and_eq_true, Bool.and_eq_true, Bool.and_eq_true] at h
  have k := zzKn_eq hW hκ h.1
  have h1 := zzLe_ok h.2.1
  have h2 := zzLe_ok h.2.2.1
  have h3 := zzLe_ok h.2.2.2
  refine ⟨⟨k.1, h1, by have := k.2.1; omega⟩, by omega, ?_⟩
  rcases k.2.2 with q | q
  · exact Or.inl q.1
  · exact Or.inr ⟨q.1, by have := q.2; omega⟩
theorem zzOk4_ok {S : zzQ} {m : zzMm} {H : xH} (hW : zzW S m H) {a i : Int} (h : zzOk4 S m a i = true) : (24 ≤ H.2.1 a ∧ 0 ≤ i ∧ i < H.2.2.1 a) ∧ zzPl S m a i := by
  unfold zzOk4 at h
  rw [Bool.and_eq_true, Bool.and_eq_true, Bool.and_eq_true] at h
  have h0 := zzLe_ok h.1
  have k := zzKn_ok hW (a := a) (by omega)
  have h1 := zzLe_ok h.2.1
  have h2 := zzLe_ok h.2.2.1
  have h3 := zzLe_ok h.2.2.2
  refine ⟨⟨by rw [k.1]; exact h0, h1, by have := k.2.1; omega⟩, by omega, ?_⟩
  rcases k.2.2 with q | q
  · exact Or.inl q.1
  · exact Or.inr ⟨q.1, by have := q.2; omega⟩
theorem zzLd_ok {S : zzQ} {m : zzMm} {H : xH} (hW : zzW S m H) {a i : Int} (h0 : 0 ≤ i) (h : zzPl S m a i) : zzM (zzLd S m a i) (H.1 a i) := by
  unfold zzLd
  cases e : zzEq a (-1)
  · have := zzEq_no e
    rcases h.2 with q | q
    · exact hW.2.2.1 a i q.1 q.2 h0 h.1
    · exact absurd q.1 this
  · have := zzEq_ok e
    subst this
    rcases h.2 with q | q
    · omega
    · have k := hW.2.2.2.2.2.2 i.toNat (by omega)
      rw [Int.toNat_of_nonneg h0] at k
      exact k
theorem zzW_st {S : zzQ} {m : zzMm} {H : xH} (hW : zzW S m H) {a i x : Int} {v : zzI} (ha : 1 ≤ a) (ha2 : a < (m.2.2.1 : Int)) (hi : 0 ≤ i) (hi2 : i < 4096) (hv : zzM v x) : zzW S (zzSet (0, 0) 20 m.1 (zzKey a i) v, m.2) (xUp H.1 a i x, H.2) := by
  obtain ⟨⟨w1, w2, w3, w0, wa⟩, w4, w5, w6, w7, w8, w9⟩ := hW
  have k1 := zzKey_lt (a := a) (j := i) (by omega) (by omega) hi hi2
  have hrd : ∀ b j : Int, 0 ≤ b → b < 256 → 0 ≤ j → j < 4096 → zzRd (zzSet (0, 0) 20 m.1 (zzKey a i) v, m.2) b j = if b = a ∧ j = i then v else zzRd m b j := fun b j b0 b1 j0 j1 => by
    show zzGet (0, 0) 20 (zzSet (0, 0) 20 m.1 (zzKey a i) v) (zzKey b j) = _
    rw [zzGet_set (0, 0) 20 m.1 _ _ v k1 (zzKey_lt b0 b1 j0 j1)]
    by_cases e : b = a ∧ j = i
    · rw [if_pos e, if_pos (by rw [e.1, e.2])]
    · rw [if_neg e, if_neg (fun z => e (zzKey_inj b0 b1 j0 (by omega) (by omega) hi z))]; rfl
  refine ⟨⟨w1, w2, w3, fun b j b1 j1 => (show (if b = a ∧ j = i then x else H.1 b j) = 0 from (if_neg (by omega)).trans (w0 b j b1 j1)), fun j => (show xIn 0 (if (-1 : Int) = a ∧ j = i then x else H.1 (-1) j) from by rw [if_neg (by omega)]; exact wa j)⟩, w4, fun b j b1 b2 j1 j2 => ?_, fun b j b1 b2 j1 j2 => ?_, w7, w8, fun j hj => ?_⟩
  · have b2 : b < (m.2.2.1 : Int) := b2
    rw [hrd b j (by omega) (by omega) j1 j2]
    show zzM _ (if b = a ∧ j = i then x else H.1 b j)
    by_cases e : b = a ∧ j = i
    · rw [if_pos e, if_pos e]; exact hv
    · rw [if_neg e, if_neg e]; exact w5 b j b1 b2 j1 j2
  · have b1 : (m.2.2.1 : Int) ≤ b := b1
    rw [hrd b j (by omega) b2 j1 j2, if_neg (by omega)]
    exact w6 b j b1 b2 j1 j2
  · show zzM _ (if (-1 : Int) = a ∧ (j : Int) = i then x else H.1 (-1) (j : Int))
    rw [if_neg (by omega)]
    exact w9 j hj
theorem zzW_nw {S : zzQ} {m : zzMm} {H : xH} (hW : zzW S m H) (h1 : 1 ≤ m.2.2.1) (h2 : m.2.2.1 + 1 ≤ 255) (κ n : Int) (ns : Nat) : zzW S (m.1, zzSet (-1, 0) 8 m.2.1 m.2.2.1 (κ, n), m.2.2.1 + 1, m.2.2.2 + ns) (xNw H κ n ns) := by
  obtain ⟨⟨w1, w2, w3, w0, wa⟩, w4, w5, w6, w7, w8, w9⟩ := hW
  have hp : (2 : Nat) ^ 8 = 256 := rfl
  have hob : ∀ a : Int, 1 ≤ a → a < (m.2.2.1 : Int) + 1 → zzOb (m.1, zzSet (-1, 0) 8 m.2.1 m.2.2.1 (κ, n), m.2.2.1 + 1, m.2.2.2 + ns) a = if a = (m.2.2.1 : Int) then (κ, n) else zzOb m a := fun a a1 a2 => by
    show zzGet (-1, 0) 8 (zzSet (-1, 0) 8 m.2.1 m.2.2.1 (κ, n)) a.toNat = _
    rw [zzGet_set (-1, 0) 8 m.2.1 _ _ (κ, n) (by omega) (by omega)]
    by_cases e : a = (m.2.2.1 : Int)
    · rw [if_pos e, if_pos (by omega)]
    · rw [if_neg e, if_neg (by omega)]; rfl
  refine ⟨⟨by show H.2.2.2.1 + 1 = m.2.2.1 + 1; rw [w1], by show H.2.2.2.2 + ns = m.2.2.2 + ns; rw [w2], h2, fun b j b1 j1 => (show (if b = (H.2.2.2.1 : Int) then 0 else H.1 b j) = 0 from (Classical.em (b = (H.2.2.2.1 : Int))).elim (fun e => if_pos e) (fun e => (if_neg e).trans (w0 b j b1 j1))), fun j => (show xIn 0 (if (-1 : Int) = (H.2.2.2.1 : Int) then 0 else H.1 (-1) j) from by rw [if_neg (by omega)]; exact wa j)⟩, fun a a1 a2 => ?_, fun a j a1 a2 j1 j2 => ?_, fun a j a1 a2 j1 j2 => ?_, ?_, ?_, fun j hj => ?_⟩
  · have a2 : a < ((m.2.2.1 + 1 : Nat) : Int) := a2
    rw [hob a a1 (by omega)]
    show (if a = (H.2.2.2.1 : Int) then κ else H.2.1 a) = _ ∧ (if a = (H.2.2.2.1 : Int) then n else H.2.2.1 a) = _
    rw [w1]
    by_cases e : a = (m.2.2.1 : Int)
    · rw [if_pos e, if_pos e, if_pos e]; exact ⟨rfl, rfl⟩
    · rw [if_neg e, if_neg e, if_neg e]; exact w4 a a1 (by omega)
  · have a2 : a < ((m.2.2.1 + 1 : Nat) : Int) := a2
    show zzM (zzRd m a j) (if a = (H.2.2.2.1 : Int) then 0 else H.1 a j)
    rw [w1]
    by_cases e : a = (m.2.2.1 : Int)
    · rw [if_pos e, w6 a j (by omega) (by omega) j1 j2]; exact zzM_1 0
    · rw [if_neg e]; exact w5 a j a1 (by omega) j1 j2
  · have a1 : ((m.2.2.1 + 1 : Nat) : Int) ≤ a := a1
    exact w6 a j (by omega) a2 j1 j2
  · show (if (-1 : Int) = (H.2.2.2.1 : Int) then κ else H.2.1 (-1)) = 20
    rw [if_neg (by omega)]; exact w7
  · show (S.1.length : Int) ≤ (if (-1 : Int) = (H.2.2.2.1 : Int) then n else H.2.2.1 (-1)) ∧ (if (-1 : Int) = (H.2.2.2.1 : Int) then n else H.2.2.1 (-1)) ≤ S.2
    rw [if_neg (by omega)]; exact w8
  · show zzM _ (if (-1 : Int) = (H.2.2.2.1 : Int) then 0 else H.1 (-1) (j : Int))
    rw [if_neg (by omega)]; exact w9 j hj
/-! new long[l][m]: places of the outer row, then the rows -/
noncomputable def zzNmT (t : zzT zzI 20) (nx : Nat) : Nat → zzT zzI 20
  | 0 => t
  | l + 1 => zzSet (0, 0) 20 (zzNmT t nx l) (zzKey (nx : Int) (l : Int)) ((nx : Int) + 1 + (l : Int), (nx : Int) + 1 + (l : Int))
noncomputable def zzNmO (t : zzT zzI 8) (nx : Nat) (k : Int) : Nat → zzT zzI 8
  | 0 => t
  | l + 1 => zzSet (-1, 0) 8 (zzNmO t nx k l) (nx + 1 + l) (23, k)
noncomputable def zzNm (m : zzMm) (l : Nat) (k : Int) : zzMm := (zzNmT m.1 m.2.2.1 l, zzNmO (zzSet (-1, 0) 8 m.2.1 m.2.2.1 (24, (l : Int))) m.2.2.1 k l, m.2.2.1 + 1 + l, m.2.2.2 + (l + l * k.toNat))
theorem zzNmT_get (t : zzT zzI 20) (nx : Nat) (hn : nx < 256) : ∀ l : Nat, l ≤ 255 → ∀ b j : Int, 0 ≤ b → b < 256 → 0 ≤ j → j < 4096 → zzGet (0, 0) 20 (zzNmT t nx l) (zzKey b j) = if b = (nx : Int) ∧ j < (l : Int) then ((nx : Int) + 1 + j, (nx : Int) + 1 + j) else zzGet (0, 0) 20 t (zzKey b j)
  | 0, _, b, j, _, _, _, _ => by rw [if_neg (by omega)]; rfl
  | l + 1, hl, b, j, h1, h2, h3, h4 => by
    show zzGet (0, 0) 20 (zzSet (0, 0) 20 (zzNmT t nx l) (zzKey (nx : Int) (l : Int)) ((nx : Int) + 1 + (l : Int), (nx : Int) + 1 + (l : Int))) (zzKey b j) = _
    rw [zzGet_set (0, 0) 20 _ _ _ _ (zzKey_lt (by omega) (by omega) (by omega) (by omega)) (zzKey_lt h1 h2 h3 h4), zzNmT_get t nx hn l (by omega) b j h1 h2 h3 h4]
    by_cases e : b = (nx : Int) ∧ j = (l : Int)
    · rw [if_pos (by rw [e.1, e.2]), if_pos (by omega), e.2]
    · rw [if_neg (fun z => e (zzKey_inj h1 h2 h3 (by omega) (by omega) (by omega) z))]
      by_cases e2 : b = (nx : Int) ∧ j < (l : Int)
      · rw [if_pos e2, if_pos (by omega)]
      · rw [if_neg e2, if_neg (by omega)]
theorem zzNmO_get (t : zzT zzI 8) (nx : Nat) (k : Int) : ∀ l : Nat, nx + 1 + l ≤ 255 → ∀ a : Nat, a < 256 → zzGet (-1, 0) 8 (zzNmO t nx k l) a = if nx + 1 ≤ a ∧ a < nx + 1 + l then (23, k) else zzGet (-1, 0) 8 t a
  | 0, _, a, _ => by rw [if_neg (by omega)]; rfl
  | l + 1, hl, a, h2 => by
    have hp : (2 : Nat) ^ 8 = 256 := rfl
    show zzGet (-1, 0) 8 (zzSet (-1, 0) 8 (zzNmO t nx k l) (nx + 1 + l) (23, k)) a = _
    rw [zzGet_set (-1, 0) 8 _ _ _ _ (by omega) (by omega), zzNmO_get t nx k l (by omega) a h2]
    by_cases e : a = nx + 1 + l
    · rw [if_pos e, if_pos (by omega)]
    · rw [if_neg e]
      by_cases e2 : nx + 1 ≤ a ∧ a < nx + 1 + l
      · rw [if_pos e2, if_pos (by omega)]
      · rw [if_neg e2, if_neg (by omega)]
theorem zzW_nm {S : zzQ} {m : zzMm} {H : xH} (hW : zzW S m H) (h1 : 1 ≤ m.2.2.1) {l : Nat} (h2 : m.2.2.1 + 1 + l ≤ 255) (k : Int) : zzW S (zzNm m l k) (xNm H (l : Int) k) := by
  obtain ⟨⟨w1, w2, w3, w0, wa⟩, w4, w5, w6, w7, w8, w9⟩ := hW
  have hp : (2 : Nat) ^ 8 = 256 := rfl
  have hob : ∀ a : Int, 1 ≤ a → a < 256 → zzOb (zzNm m l k) a = if (m.2.2.1 : Int) + 1 ≤ a ∧ a < (m.2.2.1 : Int) + 1 + (l : Int) then (23, k) else if a = (m.2.2.1 : Int) then (24, (l : Int)) else zzOb m a := fun a a1 a2 => by
    show zzGet (-1, 0) 8 (zzNmO (zzSet (-1, 0) 8 m.2.1 m.2.2.1 (24, (l : Int))) m.2.2.1 k l) a.toNat = _
    rw [zzNmO_get _ _ _ l h2 a.toNat (by omega), zzGet_set (-1, 0) 8 _ _ _ _ (by omega) (by omega)]
    by_cases e : (m.2.2.1 : Int) + 1 ≤ a ∧ a < (m.2.2.1 : Int) + 1 + (l : Int)
    · rw [if_pos e, if_pos (by omega)]
    · rw [if_neg e, if_neg (by omega)]
      by_cases e2 : a = (m.2.2.1 : Int)
      · rw [if_pos e2, if_pos (by omega)]
      · rw [if_neg e2, if_neg (by omega)]; rfl
  have hrd : ∀ b j : Int, 0 ≤ b → b < 256 → 0 ≤ j → j < 4096 → zzRd (zzNm m l k) b j = if b = (m.2.2.1 : Int) ∧ j < (l : Int) then ((m.2.2.1 : Int) + 1 + j, (m.2.2.1 : Int) + 1 + j) else zzRd m b j := fun b j => zzNmT_get m.1 m.2.2.1 (by omega) l (by omega) b j
  refine ⟨⟨?_, ?_, h2, fun b j b1 j1 => ?_, fun j => ?_⟩, fun a a1 a2 => ?_, fun a j a1 a2 j1 j2 => ?_, fun a j a1 a2 j1 j2 => ?_, ?_, ?_, fun j hj => ?_⟩
  · show H.2.2.2.1 + 1 + ((l : Int)).toNat = m.2.2.1 + 1 + l
    rw [w1, Int.toNat_natCast]
  · show H.2.2.2.2 + (((l : Int)).toNat + ((l : Int)).toNat * k.toNat) = m.2.2.2 + (l + l * k.toNat)
    rw [w2, Int.toNat_natCast]
  · show (if b = (H.2.2.2.1 : Int) then (if 0 ≤ j ∧ j < (l : Int) then (H.2.2.2.1 : Int) + 1 + j else 0) else if (H.2.2.2.1 : Int) < b ∧ b ≤ (H.2.2.2.1 : Int) + (l : Int) then 0 else H.1 b j) = 0
    rw [if_neg (by omega : ¬ (0 ≤ j ∧ j < (l : Int)))]
    split
    · rfl
    · split
      · rfl
      · exact w0 b j b1 j1
  · show xIn 0 (if (-1 : Int) = (H.2.2.2.1 : Int) then (if 0 ≤ j ∧ j < (l : Int) then (H.2.2.2.1 : Int) + 1 + j else 0) else if (H.2.2.2.1 : Int) < -1 ∧ (-1 : Int) ≤ (H.2.2.2.1 : Int) + (l : Int) then 0 else H.1 (-1) j)
    rw [if_neg (by omega), if_neg (by omega)]
    exact wa j
  · have a2 : a < ((m.2.2.1 + 1 + l : Nat) : Int) := a2
    rw [hob a a1 (by omega)]
    show (if a = (H.2.2.2.1 : Int) then (24 : Int) else if (H.2.2.2.1 : Int) < a ∧ a ≤ (H.2.2.2.1 : Int) + (l : Int) then 23 else H.2.1 a) = _ ∧ (if a = (H.2.2.2.1 : Int) then (l : Int) else if (H.2.2.2.1 : Int) < a ∧ a ≤ (H.2.2.2.1 : Int) + (l : Int) then k else H.2.2.1 a) = _
    rw [w1]
    by_cases e : a = (m.2.2.1 : Int)
    · have r : (if (m.2.2.1 : Int) + 1 ≤ a ∧ a < (m.2.2.1 : Int) + 1 + (l : Int) then ((23, k) : zzI) else if a = (m.2.2.1 : Int) then (24, (l : Int)) else zzOb m a) = (24, (l : Int)) := by rw [if_neg (by omega), if_pos e]
      rw [r]
      exact ⟨if_pos e, if_pos e⟩
    · by_cases e2 : (m.2.2.1 : Int) + 1 ≤ a ∧ a < (m.2.2.1 : Int) + 1 + (l : Int)
      · have r : (if (m.2.2.1 : Int) + 1 ≤ a ∧ a < (m.2.2.1 : Int) + 1 + (l : Int) then ((23, k) : zzI) else if a = (m.2.2.1 : Int) then (24, (l : Int)) else zzOb m a) = (23, k) := if_pos e2
        rw [r]
        exact ⟨(if_neg e).trans (if_pos (by omega)), (if_neg e).trans (if_pos (by omega))⟩
      · have r : (if (m.2.2.1 : Int) + 1 ≤ a ∧ a < (m.2.2.1 : Int) + 1 + (l : Int) then ((23, k) : zzI) else if a = (m.2.2.1 : Int) then (24, (l : Int)) else zzOb m a) = zzOb m a := by rw [if_neg e2, if_neg e]
        rw [r]
        have w := w4 a a1 (by omega)
        exact ⟨((if_neg e).trans (if_neg (by omega))).trans w.1, ((if_neg e).trans (if_neg (by omega))).trans w.2⟩
  · have a2 : a < ((m.2.2.1 + 1 + l : Nat) : Int) := a2
    rw [hrd a j (by omega) (by omega) j1 j2]
    show zzM _ (if a = (H.2.2.2.1 : Int) then (if 0 ≤ j ∧ j < (l : Int) then (H.2.2.2.1 : Int) + 1 + j else 0) else if (H.2.2.2.1 : Int) < a ∧ a ≤ (H.2.2.2.1 : Int) + (l : Int) then 0 else H.1 a j)
    rw [w1]
    by_cases e : a = (m.2.2.1 : Int)
    · rw [if_pos e]
      by_cases e2 : j < (l : Int)
      · rw [if_pos ⟨e, e2⟩, if_pos ⟨j1, e2⟩]; exact zzM_1 _
      · rw [if_neg (by omega), if_neg (by omega), w6 a j (by omega) (by omega) j1 j2]; exact zzM_1 _
    · rw [if_neg e, if_neg (fun z => e z.1)]
      by_cases e2 : (m.2.2.1 : Int) < a ∧ a ≤ (m.2.2.1 : Int) + (l : Int)
      · rw [if_pos e2, w6 a j (by omega) (by omega) j1 j2]; exact zzM_1 _
      · rw [if_neg e2]; exact w5 a j a1 (by omega) j1 j2
  · have a1 : ((m.2.2.1 + 1 + l : Nat) : Int) ≤ a := a1
    rw [hrd a j (by omega) a2 j1 j2, if_neg (by omega)]
    exact w6 a j (by omega) a2 j1 j2
  · show (if (-1 : Int) = (H.2.2.2.1 : Int) then (24 : Int) else if (H.2.2.2.1 : Int) < -1 ∧ (-1 : Int) ≤ (H.2.2.2.1 : Int) + (l : Int) then 23 else H.2.1 (-1)) = 20
    rw [if_neg (by omega), if_neg (by omega)]; exact w7
  · show (S.1.length : Int) ≤ (if (-1 : Int) = (H.2.2.2.1 : Int) then (l : Int) else if (H.2.2.2.1 : Int) < -1 ∧ (-1 : Int) ≤ (H.2.2.2.1 : Int) + (l : Int) then k else H.2.2.1 (-1)) ∧ (if (-1 : Int) = (H.2.2.2.1 : Int) then (l : Int) else if (H.2.2.2.1 : Int) < -1 ∧ (-1 : Int) ≤ (H.2.2.2.1 : Int) + (l : Int) then k else H.2.2.1 (-1)) ≤ S.2
    rw [if_neg (by omega), if_neg (by omega)]; exact w8
  · show zzM _ (if (-1 : Int) = (H.2.2.2.1 : Int) then (if 0 ≤ (j : Int) ∧ (j : Int) < (l : Int) then (H.2.2.2.1 : Int) + 1 + (j : Int) else 0) else if (H.2.2.2.1 : Int) < -1 ∧ (-1 : Int) ≤ (H.2.2.2.1 : Int) + (l : Int) then 0 else H.1 (-1) (j : Int))
    rw [if_neg (by omega), if_neg (by omega)]; exact w9 j hj
/-! a part of a row, copied -/
noncomputable def zzCpT (t : zzT zzI 20) (m : zzMm) (a sp b dp : Int) : Nat → zzT zzI 20
  | 0 => t
  | n + 1 => zzSet (0, 0) 20 (zzCpT t m a sp b dp n) (zzKey b (dp + (n : Int))) (zzRd m a (sp + (n : Int)))
theorem zzCpT_get (m : zzMm) {a sp b dp : Int} (hb : 0 ≤ b) (hb2 : b < 256) (hd : 0 ≤ dp) : ∀ n : Nat, dp + (n : Int) ≤ 4096 → ∀ c j : Int, 0 ≤ c → c < 256 → 0 ≤ j → j < 4096 → zzGet (0, 0) 20 (zzCpT m.1 m a sp b dp n) (zzKey c j) = if c = b ∧ dp ≤ j ∧ j < dp + (n : Int) then zzRd m a (sp + (j - dp)) else zzRd m c j
  | 0, _, c, j, _, _, _, _ => by rw [if_neg (by omega)]; rfl
  | n + 1, hn, c, j, h1, h2, h3, h4 => by
    show zzGet (0, 0) 20 (zzSet (0, 0) 20 (zzCpT m.1 m a sp b dp n) (zzKey b (dp + (n : Int))) (zzRd m a (sp + (n : Int)))) (zzKey c j) = _
    rw [zzGet_set (0, 0) 20 _ _ _ _ (zzKey_lt hb hb2 (by omega) (by omega)) (zzKey_lt h1 h2 h3 h4), zzCpT_get m hb hb2 hd n (by omega) c j h1 h2 h3 h4]
    by_cases e : c = b ∧ j = dp + (n : Int)
    · rw [if_pos (by rw [e.1, e.2]), if_pos (by omega), show sp + (j - dp) = sp + (n : Int) by omega]
    · rw [if_neg (fun z => e (zzKey_inj h1 h2 h3 hb hb2 (by omega) z))]
      by_cases e2 : c = b ∧ dp ≤ j ∧ j < dp + (n : Int)
      · rw [if_pos e2, if_pos (by omega)]
      · rw [if_neg e2, if_neg (by omega)]
theorem zzW_cp {S : zzQ} {m : zzMm} {H : xH} (hW : zzW S m H) {a sp b dp : Int} {n : Nat} (ha : 1 ≤ a) (ha2 : a < (m.2.2.1 : Int)) (hb : 1 ≤ b) (hb2 : b < (m.2.2.1 : Int)) (h1 : 0 ≤ sp) (h2 : 0 ≤ dp) (h3 : sp + (n : Int) ≤ 4096) (h4 : dp + (n : Int) ≤ 4096) : zzW S (zzCpT m.1 m a sp b dp n, m.2) (xCpy H.1 a sp b dp (n : Int), H.2) := by
  obtain ⟨⟨w1, w2, w3, w0, wa⟩, w4, w5, w6, w7, w8, w9⟩ := hW
  have hrd : ∀ c j : Int, 0 ≤ c → c < 256 → 0 ≤ j → j < 4096 → zzRd (zzCpT m.1 m a sp b dp n, m.2) c j = if c = b ∧ dp ≤ j ∧ j < dp + (n : Int) then zzRd m a (sp + (j - dp)) else zzRd m c j := zzCpT_get m (by omega) (by omega) h2 n h4
  refine ⟨⟨w1, w2, w3, fun c j c1 j1 => (show (if c = b ∧ dp ≤ j ∧ j < dp + (n : Int) then H.1 a (sp + (j - dp)) else H.1 c j) = 0 from (if_neg (by omega)).trans (w0 c j c1 j1)), fun j => (show xIn 0 (if (-1 : Int) = b ∧ dp ≤ j ∧ j < dp + (n : Int) then H.1 a (sp + (j - dp)) else H.1 (-1) j) from by rw [if_neg (by omega)]; exact wa j)⟩, w4, fun c j c1 c2 j1 j2 => ?_, fun c j c1 c2 j1 j2 => ?_, w7, w8, fun j hj => ?_⟩
  · have c2 : c < (m.2.2.1 : Int) := c2
    rw [hrd c j (by omega) (by omega) j1 j2]
    show zzM _ (if c = b ∧ dp ≤ j ∧ j < dp + (n : Int) then H.1 a (sp + (j - dp)) else H.1 c j)
    by_cases e : c = b ∧ dp ≤ j ∧ j < dp + (n : Int)
    · rw [if_pos e, if_pos e]; exact w5 a _ ha ha2 (by omega) (by omega)
    · rw [if_neg e, if_neg e]; exact w5 c j c1 c2 j1 j2
  · have c1 : (m.2.2.1 : Int) ≤ c := c1
    rw [hrd c j (by omega) c2 j1 j2, if_neg (by omega)]
    exact w6 c j c1 c2 j1 j2
  · show zzM _ (if (-1 : Int) = b ∧ dp ≤ (j : Int) ∧ (j : Int) < dp + (n : Int) then H.1 a (sp + ((j : Int) - dp)) else H.1 (-1) (j : Int))
    rw [if_neg (by omega)]
    exact w9 j hj
