/-! runs over bounds: of each number two bounds are known; the kernel can make such a run -/
abbrev zzI : Type := Int × Int
abbrev zzV : Type := Nat × zzI
def zzEq (x y : Int) : Bool := match x, y with
  | .ofNat a, .ofNat b => Nat.beq a b
  | .negSucc a, .negSucc b => Nat.beq a b
  | _, _ => false
def zzLe (x y : Int) : Bool := match x, y with
  | .ofNat a, .ofNat b => Nat.ble a b
  | .negSucc _, .ofNat _ => true
  | .negSucc a, .negSucc b => Nat.ble b a
  | .ofNat _, .negSucc _ => false
theorem zzEq_ok {x y : Int} (h : zzEq x y = true) : x = y := by
  cases x <;> cases y <;> simp only [zzEq] at h
  · rw [Nat.eq_of_beq_eq_true h]
  · cases h
  · cases h
  · rw [Nat.eq_of_beq_eq_true h]
theorem zzEq_rf (x : Int) : zzEq x x = true := by
  cases x
  · exact Nat.beq_refl _
  · exact Nat.beq_refl _
theorem zzEq_no {x y : Int} (h : zzEq x y = false) : x ≠ y := by
  intro e; rw [e, zzEq_rf] at h; cases h
theorem zzLe_iff {x y : Int} : zzLe x y = true ↔ x ≤ y := by
  cases x <;> cases y <;> simp only [zzLe, Nat.ble_eq, Int.ofNat_eq_natCast, Int.negSucc_eq, Bool.false_eq_true, false_iff, true_iff] <;> omega
theorem zzLe_ok {x y : Int} (h : zzLe x y = true) : x ≤ y := zzLe_iff.mp h
theorem zzLe_no {x y : Int} (h : zzLe x y = false) : y < x := by
  have : ¬ x ≤ y := fun e => by rw [zzLe_iff.mpr e] at h; cases h
  omega
/-! trees by the bits of a number -/
def zzT (α : Type) : Nat → Type
  | 0 => α
  | n + 1 => Option (zzT α n × zzT α n)
noncomputable def zzGet {α : Type} (z : α) (n : Nat) : zzT α n → Nat → α :=
  Nat.rec (motive := fun n => zzT α n → Nat → α) (fun t _ => t) (fun n ih t k => match (show Option (zzT α n × zzT α n) from t) with
    | none => z
    | some (l, r) => match Nat.beq (Nat.mod k 2) 0 with
      | true => ih l (Nat.div k 2)
      | false => ih r (Nat.div k 2)) n
def zzDef {α : Type} (z : α) : (n : Nat) → zzT α n
  | 0 => z
  | n + 1 => (none : Option (zzT α n × zzT α n))
noncomputable def zzSet {α : Type} (z : α) (n : Nat) : zzT α n → Nat → α → zzT α n :=
  Nat.rec (motive := fun n => zzT α n → Nat → α → zzT α n) (fun _ _ v => v) (fun n ih t k v => match (show Option (zzT α n × zzT α n) from t) with
    | none => (match Nat.beq (Nat.mod k 2) 0 with
      | true => some (ih (zzDef z n) (Nat.div k 2) v, zzDef z n)
      | false => some (zzDef z n, ih (zzDef z n) (Nat.div k 2) v) : Option (zzT α n × zzT α n))
    | some (l, r) => (match Nat.beq (Nat.mod k 2) 0 with
      | true => some (ih l (Nat.div k 2) v, r)
      | false => some (l, ih r (Nat.div k 2) v) : Option (zzT α n × zzT α n))) n
noncomputable def zzSetK {α : Type} (z : α) (n : Nat) : zzT α n → Nat → α → (zzT α n → Bool) → Bool :=
  Nat.rec (motive := fun n => zzT α n → Nat → α → (zzT α n → Bool) → Bool) (fun _ _ v c => c v) (fun n ih t k v c => match (show Option (zzT α n × zzT α n) from t) with
    | none => match Nat.beq (Nat.mod k 2) 0 with
      | true => ih (zzDef z n) (Nat.div k 2) v (fun u => c (some (u, zzDef z n) : Option (zzT α n × zzT α n)))
      | false => ih (zzDef z n) (Nat.div k 2) v (fun u => c (some (zzDef z n, u) : Option (zzT α n × zzT α n)))
    | some (l, r) => match Nat.beq (Nat.mod k 2) 0 with
      | true => ih l (Nat.div k 2) v (fun u => c (some (u, r) : Option (zzT α n × zzT α n)))
      | false => ih r (Nat.div k 2) v (fun u => c (some (l, u) : Option (zzT α n × zzT α n)))) n
theorem zzGet_n {α : Type} (z : α) (n k : Nat) : zzGet z (n + 1) (none : Option (zzT α n × zzT α n)) k = z := rfl
theorem zzGet_s {α : Type} (z : α) (n k : Nat) (l r : zzT α n) : zzGet z (n + 1) (some (l, r) : Option (zzT α n × zzT α n)) k = match Nat.beq (Nat.mod k 2) 0 with | true => zzGet z n l (Nat.div k 2) | false => zzGet z n r (Nat.div k 2) := rfl
theorem zzSet_n {α : Type} (z : α) (n k : Nat) (v : α) : zzSet z (n + 1) (none : Option (zzT α n × zzT α n)) k v = (match Nat.beq (Nat.mod k 2) 0 with | true => some (zzSet z n (zzDef z n) (Nat.div k 2) v, zzDef z n) | false => some (zzDef z n, zzSet z n (zzDef z n) (Nat.div k 2) v) : Option (zzT α n × zzT α n)) := rfl
theorem zzSet_s {α : Type} (z : α) (n k : Nat) (v : α) (l r : zzT α n) : zzSet z (n + 1) (some (l, r) : Option (zzT α n × zzT α n)) k v = (match Nat.beq (Nat.mod k 2) 0 with | true => some (zzSet z n l (Nat.div k 2) v, r) | false => some (l, zzSet z n r (Nat.div k 2) v) : Option (zzT α n × zzT α n)) := rfl
theorem zzSetK_n {α : Type} (z : α) (n k : Nat) (v : α) (c : zzT α (n + 1) → Bool) : zzSetK z (n + 1) (none : Option (zzT α n × zzT α n)) k v c = match Nat.beq (Nat.mod k 2) 0 with | true => zzSetK z n (zzDef z n) (Nat.div k 2) v (fun u => c (some (u, zzDef z n) : Option (zzT α n × zzT α n))) | false => zzSetK z n (zzDef z n) (Nat.div k 2) v (fun u => c (some (zzDef z n, u) : Option (zzT α n × zzT α n))) := rfl
theorem zzSetK_s {α : Type} (z : α) (n k : Nat) (v : α) (l r : zzT α n) (c : zzT α (n + 1) → Bool) : zzSetK z (n + 1) (some (l, r) : Option (zzT α n × zzT α n)) k v c = match Nat.beq (Nat.mod k 2) 0 with | true => zzSetK z n l (Nat.div k 2) v (fun u => c (some (u, r) : Option (zzT α n × zzT α n))) | false => zzSetK z n r (Nat.div k 2) v (fun u => c (some (l, u) : Option (zzT α n × zzT α n))) := rfl
theorem zzGet_def {α : Type} (z : α) : ∀ n k : Nat, zzGet z n (zzDef z n) k = z
  | 0, _ => rfl
  | _ + 1, _ => rfl
theorem zzSetK_eq {α : Type} (z : α) : ∀ (n : Nat) (t : zzT α n) (k : Nat) (v : α) (c : zzT α n → Bool), zzSetK z n t k v c = c (zzSet z n t k v)
  | 0, _, _, _, _ => rfl
  | n + 1, (none : Option (zzT α n × zzT α n)), k, v, c => by
    rw [zzSetK_n, zzSet_n]
    cases Nat.beq (Nat.mod k 2) 0
    · exact zzSetK_eq z n _ _ _ _
    · exact zzSetK_eq z n _ _ _ _
  | n + 1, (some (l, r) : Option (zzT α n × zzT α n)), k, v, c => by
    rw [zzSetK_s, zzSet_s]
    cases Nat.beq (Nat.mod k 2) 0
    · exact zzSetK_eq z n _ _ _ _
    · exact zzSetK_eq z n _ _ _ _
theorem zz_bit {k : Nat} : (Nat.beq (Nat.mod k 2) 0 = true ↔ k % 2 = 0) ∧ Nat.div k 2 = k / 2 := ⟨⟨fun h => Nat.eq_of_beq_eq_true h, fun h => by show Nat.beq (k % 2) 0 = true; rw [h]; rfl⟩, rfl⟩
theorem zzGet_set {α : Type} (z : α) : ∀ (n : Nat) (t : zzT α n) (k q : Nat) (v : α), k < 2 ^ n → q < 2 ^ n → zzGet z n (zzSet z n t k v) q = if q = k then v else zzGet z n t q
  | 0, t, k, q, v, h, h2 => by
    have e : q = k := by simp at h h2; omega
    rw [if_pos e]; rfl
  | n + 1, (none : Option (zzT α n × zzT α n)), k, q, v, h, h2 => by
    have e1 : Nat.div k 2 < 2 ^ n := by rw [zz_bit.2]; rw [Nat.pow_succ] at h; omega
    have e2 : Nat.div q 2 < 2 ^ n := by rw [zz_bit.2]; rw [Nat.pow_succ] at h2; omega
    have b1 := @zz_bit k
    have b2 := @zz_bit q
    rw [zzSet_n, zzGet_n]
    cases hk : Nat.beq (Nat.mod k 2) 0 <;> cases hq : Nat.beq (Nat.mod q 2) 0 <;> rw [zzGet_s, hq] <;> simp only []
    · rw [zzGet_set z n _ _ _ v e1 e2, zzGet_def]
      have x1 : ¬ k % 2 = 0 := fun e => by rw [b1.1.mpr e] at hk; cases hk
      have x2 : ¬ q % 2 = 0 := fun e => by rw [b2.1.mpr e] at hq; cases hq
      by_cases e : q = k
      · rw [if_pos e, if_pos (by rw [e])]
      · rw [if_neg e, if_neg (by rw [b1.2, b2.2]; omega)]
    · have x1 : ¬ k % 2 = 0 := fun e => by rw [b1.1.mpr e] at hk; cases hk
      have x2 := b2.1.mp hq
      rw [zzGet_def, if_neg (by intro e; rw [e] at x2; exact x1 x2)]
    · have x1 := b1.1.mp hk
      have x2 : ¬ q % 2 = 0 := fun e => by rw [b2.1.mpr e] at hq; cases hq
      rw [zzGet_def, if_neg (by intro e; rw [e] at x2; exact x2 x1)]
    · rw [zzGet_set z n _ _ _ v e1 e2, zzGet_def]
      have x1 := b1.1.mp hk
      have x2 := b2.1.mp hq
      by_cases e : q = k
      · rw [if_pos e, if_pos (by rw [e])]
      · rw [if_neg e, if_neg (by rw [b1.2, b2.2]; omega)]
  | n + 1, (some (l, r) : Option (zzT α n × zzT α n)), k, q, v, h, h2 => by
    have e1 : Nat.div k 2 < 2 ^ n := by rw [zz_bit.2]; rw [Nat.pow_succ] at h; omega
    have e2 : Nat.div q 2 < 2 ^ n := by rw [zz_bit.2]; rw [Nat.pow_succ] at h2; omega
    have b1 := @zz_bit k
    have b2 := @zz_bit q
    rw [zzSet_s, zzGet_s z n q l r]
    cases hk : Nat.beq (Nat.mod k 2) 0 <;> cases hq : Nat.beq (Nat.mod q 2) 0 <;> rw [zzGet_s, hq] <;> simp only []
    · rw [zzGet_set z n _ _ _ v e1 e2]
      have x1 : ¬ k % 2 = 0 := fun e => by rw [b1.1.mpr e] at hk; cases hk
      have x2 : ¬ q % 2 = 0 := fun e => by rw [b2.1.mpr e] at hq; cases hq
      by_cases e : q = k
      · rw [if_pos e, if_pos (by rw [e])]
      · rw [if_neg e, if_neg (by rw [b1.2, b2.2]; omega)]
    · have x1 : ¬ k % 2 = 0 := fun e => by rw [b1.1.mpr e] at hk; cases hk
      have x2 := b2.1.mp hq
      rw [if_neg (by intro e; rw [e] at x2; exact x1 x2)]
    · have x1 := b1.1.mp hk
      have x2 : ¬ q % 2 = 0 := fun e => by rw [b2.1.mpr e] at hq; cases hq
      rw [if_neg (by intro e; rw [e] at x2; exact x2 x1)]
    · rw [zzGet_set z n _ _ _ v e1 e2]
      have x1 := b1.1.mp hk
      have x2 := b2.1.mp hq
      by_cases e : q = k
      · rw [if_pos e, if_pos (by rw [e])]
      · rw [if_neg e, if_neg (by rw [b1.2, b2.2]; omega)]
/-! numbers and lists of numbers -/
def zzM (b : zzI) (x : Int) : Prop := b.1 ≤ x ∧ x ≤ b.2
def zzR (v : zzV) (w : xV) : Prop := v.1 = w.1 ∧ zzM v.2 w.2
def zzL : List zzV → List xV → Prop
  | [], [] => True
  | a :: as, v :: vs => zzR a v ∧ zzL as vs
  | _, _ => False
theorem zzM_1 (x : Int) : zzM (x, x) x := ⟨Int.le_refl _, Int.le_refl _⟩
theorem zzM_s {a b x : Int} (h : zzM (a, b) x) (e : zzEq a b = true) : x = a := by
  have := zzEq_ok e; have h1 : a ≤ x := h.1; have h2 : x ≤ b := h.2; omega
theorem zzL_len : ∀ {as : List zzV} {vs : List xV}, zzL as vs → as.length = vs.length
  | [], [], _ => rfl
  | _ :: _, _ :: _, h => by rw [List.length_cons, List.length_cons, zzL_len h.2]
theorem zzL_getD : ∀ {as : List zzV} {vs : List xV}, zzL as vs → ∀ i, zzR (as.getD i (9, (0, 0))) (vs.getD i (9, 0))
  | [], [], _, _ => ⟨rfl, zzM_1 0⟩
  | _ :: _, _ :: _, h, 0 => h.1
  | _ :: _, _ :: _, h, i + 1 => zzL_getD h.2 i
theorem zzL_set : ∀ {as : List zzV} {vs : List xV}, zzL as vs → ∀ (i : Nat) {a : zzV} {v : xV}, zzR a v → zzL (as.set i a) (vs.set i v)
  | [], [], _, _, _, _, _ => trivial
  | _ :: _, _ :: _, h, 0, _, _, hr => ⟨hr, h.2⟩
  | _ :: _, _ :: _, h, i + 1, _, _, hr => ⟨h.1, zzL_set h.2 i hr⟩
theorem zzL_take : ∀ (n : Nat) {as : List zzV} {vs : List xV}, zzL as vs → zzL (as.take n) (vs.take n)
  | 0, _, _, _ => trivial
  | _ + 1, [], [], _ => trivial
  | n + 1, _ :: _, _ :: _, h => ⟨h.1, zzL_take n h.2⟩
theorem zzL_drop : ∀ (n : Nat) {as : List zzV} {vs : List xV}, zzL as vs → zzL (as.drop n) (vs.drop n)
  | 0, _, _, h => h
  | _ + 1, [], [], _ => trivial
  | n + 1, _ :: _, _ :: _, h => zzL_drop n h.2
theorem zzL_app : ∀ {as : List zzV} {vs : List xV} {bs : List zzV} {ws : List xV}, zzL as vs → zzL bs ws → zzL (as ++ bs) (vs ++ ws)
  | [], [], _, _, _, h => h
  | _ :: _, _ :: _, _, _, h, h2 => ⟨h.1, zzL_app h.2 h2⟩
theorem zzL_rev : ∀ {as : List zzV} {vs : List xV}, zzL as vs → zzL as.reverse vs.reverse
  | [], [], _ => trivial
  | _ :: _, _ :: _, h => by
    rw [List.reverse_cons, List.reverse_cons]
    exact zzL_app (zzL_rev h.2) ⟨h.1, trivial⟩
def zzCat : List zzV → Nat
  | [] => 0
  | (1, _) :: r => 2 + zzCat r
  | _ :: r => 1 + zzCat r
theorem zzCat_c (t : Nat) (x : zzI) (r : List zzV) : zzCat ((t, x) :: r) = (if t = 1 then 2 else 1) + zzCat r := by
  by_cases h : t = 1
  · subst h; rfl
  · rw [if_neg h]
    match t, h with
    | 0, _ => rfl
    | 1, h => exact absurd rfl h
    | n + 2, _ => rfl
theorem xCat_c (t : Nat) (x : Int) (r : List xV) : xCat ((t, x) :: r) = (if t = 1 then 2 else 1) + xCat r := by
  by_cases h : t = 1
  · subst h; rfl
  · rw [if_neg h]
    match t, h with
    | 0, _ => rfl
    | 1, h => exact absurd rfl h
    | n + 2, _ => rfl
theorem zzL_cat : ∀ {as : List zzV} {vs : List xV}, zzL as vs → zzCat as = xCat vs
  | [], [], _ => rfl
  | (t, x) :: r, (t2, y) :: s, h => by
    have e : t = t2 := h.1.1
    rw [zzCat_c, xCat_c, e, zzL_cat h.2]
def zzSt1 (L : List zzV) (i : Nat) (v : zzV) : List zzV := (match i with | 0 => L | k + 1 => match L.getD k (9, (0, 0)) with | (1, _) => L.set k (9, (0, 0)) | _ => L).set i v
def zzSt2 (L : List zzV) (i : Nat) (v : zzV) : List zzV := (zzSt1 L i v).set (i + 1) (9, (0, 0))
theorem zzSt1_ok {L : List zzV} {L2 : List xV} (h : zzL L L2) (i : Nat) {v : zzV} {w : xV} (hr : zzR v w) : zzL (zzSt1 L i v) (xSt1 L2 i w) := by
  unfold zzSt1 xSt1
  refine zzL_set ?_ i hr
  cases i with
  | zero => exact h
  | succ k =>
    have g := zzL_getD h k
    simp only []
    generalize L.getD k (9, (0, 0)) = a at g
    generalize L2.getD k (9, 0) = b at g
    obtain ⟨t, x⟩ := a
    obtain ⟨t2, y⟩ := b
    have e : t = t2 := g.1
    subst e
    by_cases h1 : t = 1
    · subst h1; exact zzL_set h k ⟨rfl, zzM_1 0⟩
    · match t, h1 with
      | 0, _ => exact h
      | 1, h1 => exact absurd rfl h1
      | n + 2, _ => exact h
theorem zzSt2_ok {L : List zzV} {L2 : List xV} (h : zzL L L2) (i : Nat) {v : zzV} {w : xV} (hr : zzR v w) : zzL (zzSt2 L i v) (xSt2 L2 i w) := zzL_set (zzSt1_ok h i hr) (i + 1) ⟨rfl, zzM_1 0⟩
def zzFlat : List zzV → List zzV
  | [] => []
  | (1, x) :: r => (1, x) :: (9, (0, 0)) :: zzFlat r
  | v :: r => v :: zzFlat r
def zzEntry (n : Nat) (as : List zzV) : List zzV := zzFlat as ++ List.replicate (n - (zzFlat as).length) (9, (0, 0))
theorem zzFlat_c (t : Nat) (x : zzI) (r : List zzV) : zzFlat ((t, x) :: r) = (if t = 1 then [(1, x), (9, (0, 0))] else [(t, x)]) ++ zzFlat r := by
  by_cases h : t = 1
  · subst h; rfl
  · rw [if_neg h]
    match t, h with
    | 0, _ => rfl
    | 1, h => exact absurd rfl h
    | n + 2, _ => rfl
theorem xFlat_c (t : Nat) (x : Int) (r : List xV) : xFlat ((t, x) :: r) = (if t = 1 then [(1, x), (9, 0)] else [(t, x)]) ++ xFlat r := by
  by_cases h : t = 1
  · subst h; rfl
  · rw [if_neg h]
    match t, h with
    | 0, _ => rfl
    | 1, h => exact absurd rfl h
    | n + 2, _ => rfl
theorem zzFlat_ok : ∀ {as : List zzV} {vs : List xV}, zzL as vs → zzL (zzFlat as) (xFlat vs)
  | [], [], _ => trivial
  | (t, x) :: r, (t2, y) :: s, h => by
    have e : t = t2 := h.1.1
    rw [zzFlat_c, xFlat_c, ← e]
    refine zzL_app ?_ (zzFlat_ok h.2)
    by_cases h1 : t = 1
    · rw [if_pos h1, if_pos h1]; exact ⟨⟨rfl, h.1.2⟩, ⟨rfl, zzM_1 0⟩, trivial⟩
    · rw [if_neg h1, if_neg h1]; exact ⟨⟨rfl, h.1.2⟩, trivial⟩
theorem zzL_rep : ∀ n : Nat, zzL (List.replicate n (9, (0, 0))) (List.replicate n (9, 0))
  | 0 => trivial
  | n + 1 => ⟨⟨rfl, zzM_1 0⟩, zzL_rep n⟩
theorem zzEntry_ok (n : Nat) {as : List zzV} {vs : List xV} (h : zzL as vs) : zzL (zzEntry n as) (xEntry n vs) := by
  unfold zzEntry xEntry
  rw [zzL_len (zzFlat_ok h)]
  exact zzL_app (zzFlat_ok h) (zzL_rep _)
def zzPush (rt : Nat) (x : zzI) (r : List zzV) : List zzV := match rt with
  | 3 => r
  | t => (t, x) :: r
theorem zzPush_ok (rt : Nat) {x : zzI} {y : Int} {r : List zzV} {s : List xV} (hx : zzM x y) (h : zzL r s) : zzL (zzPush rt x r) (xPush rt y s) := by
  unfold zzPush xPush
  by_cases e : rt = 3
  · subst e; exact h
  · match rt, e with
    | 0, _ => exact ⟨⟨rfl, hx⟩, h⟩
    | 1, _ => exact ⟨⟨rfl, hx⟩, h⟩
    | 2, _ => exact ⟨⟨rfl, hx⟩, h⟩
    | 3, e => exact absurd rfl e
    | n + 4, _ => exact ⟨⟨rfl, hx⟩, h⟩
