/-! a run over ids: a value is c * (what id u stands for) + o; X = (how many ids, what is known of each, known places of memory, known sums) -/
abbrev ttX : Type := Nat × List (Nat × ttI) × List ((yyN × yyN) × yyN) × List ((Nat × yyN × yyN) × yyN)
/-- what is computed of two numbers -/
def ttOf (op : Nat) (x y : Int) : Int := match op with
  | 0 => w32 (x + y)
  | 1 => w32 (x.tdiv y)
  | 2 => min x y
  | _ => max x y
abbrev ttV : Type := Nat × yyN
def ttMo (N : Int) (k : Nat) (a b x : Int) : Prop := match k with
  | 0 => a ≤ x ∧ x ≤ b
  | 1 => (1 ≤ x ∧ x < N) ∧ ttRo x = a.toNat
  | 2 => x = 0 ∨ ((1 ≤ x ∧ x < N) ∧ ttRo x = a.toNat)
  | 4 => (a ≤ x ∧ x ≤ b) ∧ x ≠ 0
  | _ => True
def ttM (N : Int) (i : ttI) (x : Int) : Prop := ttMo N i.1 i.2.1 i.2.2 x
theorem ttM_up {N N' : Int} (hN : N ≤ N') {i : ttI} {x : Int} (h : ttM N i x) : ttM N' i x := by
  obtain ⟨k, a, b⟩ := i
  match k, h with
  | 0, h => exact h
  | 1, h => exact ⟨⟨h.1.1, by have h2 : x < N := h.1.2; omega⟩, h.2⟩
  | 2, h =>
    rcases (show x = 0 ∨ ((1 ≤ x ∧ x < N) ∧ ttRo x = a.toNat) from h) with h | h
    · exact Or.inl h
    · exact Or.inr ⟨⟨h.1.1, by have h2 : x < N := h.1.2; omega⟩, h.2⟩
  | 3, _ => trivial
  | 4, h => exact h
  | _ + 5, _ => trivial
/-- old ids alone -/
def ttW (n : Nat) (v : yyN) : Prop := v.1 = 0 ∨ v.2.1 < n
def ttAg (n : Nat) (ρ ρ' : Nat → Int) : Prop := ∀ u, u < n → ρ' u = ρ u
theorem ttAg_rf (n : Nat) (ρ : Nat → Int) : ttAg n ρ ρ := fun _ _ => rfl
theorem ttAg_tr {n m : Nat} {ρ ρ' ρ'' : Nat → Int} (h : n ≤ m) (h1 : ttAg n ρ ρ') (h2 : ttAg m ρ' ρ'') : ttAg n ρ ρ'' := fun u hu => (h2 u (Nat.lt_of_lt_of_le hu h)).trans (h1 u hu)
theorem ttW_up {n m : Nat} (h : n ≤ m) {v : yyN} (hv : ttW n v) : ttW m v := hv.elim Or.inl (fun z => Or.inr (Nat.lt_of_lt_of_le z h))
theorem ttW_k (n : Nat) (x : Int) : ttW n (yyK x) := Or.inl rfl
theorem yyG_ag {n : Nat} {ρ ρ' : Nat → Int} {v : yyN} (hv : ttW n v) (h : ttAg n ρ ρ') : yyG ρ' v = yyG ρ v := by
  show v.1 * ρ' v.2.1 + v.2.2 = v.1 * ρ v.2.1 + v.2.2
  rcases hv with z | z
  · rw [z, Int.zero_mul, Int.zero_mul]
  · rw [h _ z]
def ttSat (H : xH) (X : ttX) (ρ : Nat → Int) : Prop :=
  (∀ q ∈ X.2.1, q.1 < X.1 ∧ ttM (H.2.2.2.1 : Int) q.2 (ρ q.1)) ∧
  (∀ e ∈ X.2.2.1, (ttW X.1 e.1.1 ∧ ttW X.1 e.1.2 ∧ ttW X.1 e.2) ∧ H.1 (yyG ρ e.1.1) (yyG ρ e.1.2) = yyG ρ e.2) ∧
  (∀ e ∈ X.2.2.2, (ttW X.1 e.1.2.1 ∧ ttW X.1 e.1.2.2 ∧ ttW X.1 e.2) ∧ yyG ρ e.2 = ttOf e.1.1 (yyG ρ e.1.2.1) (yyG ρ e.1.2.2))
def ttLk : List (Nat × ttI) → Nat → ttI
  | [], _ => (9, 0, 0)
  | (v, b) :: r, u => match Nat.beq u v with
    | true => b
    | false => ttLk r u
theorem ttLk_ok {N : Int} {n : Nat} {ρ : Nat → Int} : ∀ {B : List (Nat × ttI)}, (∀ q ∈ B, q.1 < n ∧ ttM N q.2 (ρ q.1)) → ∀ u, ttM N (ttLk B u) (ρ u)
  | [], _, _ => trivial
  | (v, b) :: r, h, u => by
    unfold ttLk
    cases e : Nat.beq u v
    · exact ttLk_ok (fun q hq => h q (List.mem_cons_of_mem _ hq)) u
    · rw [Nat.eq_of_beq_eq_true e]
      exact (h (v, b) List.mem_cons_self).2
/-- a new id -/
def ttNw (X : ttX) (i : ttI) (f : ttX → Nat → Bool) : Bool := match X with
  | (n, B, K, E) => f (Nat.add n 1, (n, i) :: B, K, E) n
def ttXn (X : ttX) (i : ttI) : ttX := (X.1 + 1, (X.1, i) :: X.2.1, X.2.2.1, X.2.2.2)
theorem ttNw_eq (X : ttX) (i : ttI) (f : ttX → Nat → Bool) : ttNw X i f = f (ttXn X i) X.1 := rfl
def ttUp (ρ : Nat → Int) (n : Nat) (x : Int) : Nat → Int := fun u => if u = n then x else ρ u
theorem ttUp_ag (ρ : Nat → Int) (n : Nat) (x : Int) : ttAg n ρ (ttUp ρ n x) := fun u hu => by
  show (if u = n then x else ρ u) = ρ u
  rw [if_neg (by omega)]
theorem ttUp_at (ρ : Nat → Int) (n : Nat) (x : Int) : ttUp ρ n x n = x := by
  show (if n = n then x else ρ n) = x
  rw [if_pos rfl]
theorem ttSat_new {H : xH} {X : ttX} {ρ : Nat → Int} {i : ttI} {x : Int} (h : ttSat H X ρ) (hx : ttM (H.2.2.2.1 : Int) i x) : ttSat H (ttXn X i) (ttUp ρ X.1 x) := by
  obtain ⟨h1, h2, h3⟩ := h
  have ag := ttUp_ag ρ X.1 x
  refine ⟨fun q hq => ?_, fun e he => ?_, fun e he => ?_⟩
  · rcases List.mem_cons.mp hq with rfl | hq
    · exact ⟨Nat.lt_succ_self _, by rw [ttUp_at]; exact hx⟩
    · obtain ⟨a, b⟩ := h1 q hq
      exact ⟨Nat.lt_succ_of_lt a, by rw [ag _ a]; exact b⟩
  · obtain ⟨⟨a, b, c⟩, d⟩ := h2 e he
    refine ⟨⟨ttW_up (Nat.le_succ _) a, ttW_up (Nat.le_succ _) b, ttW_up (Nat.le_succ _) c⟩, ?_⟩
    rw [yyG_ag a ag, yyG_ag b ag, yyG_ag c ag]
    exact d
  · obtain ⟨⟨a, b, c⟩, d⟩ := h3 e he
    refine ⟨⟨ttW_up (Nat.le_succ _) a, ttW_up (Nat.le_succ _) b, ttW_up (Nat.le_succ _) c⟩, ?_⟩
    rw [yyG_ag a ag, yyG_ag b ag, yyG_ag c ag]
    exact d
/-- what a computed number gives: the run goes on with a value that stands for it -/
def ttRs (H : xH) (X : ttX) (ρ : Nat → Int) (f : ttX → yyN → Bool) (x : Int) : Prop := ∃ (X' : ttX) (ρ' : Nat → Int) (v : yyN), f X' v = true ∧ X.1 ≤ X'.1 ∧ ttAg X.1 ρ ρ' ∧ ttSat H X' ρ' ∧ ttW X'.1 v ∧ yyG ρ' v = x
theorem ttRs_ex {H : xH} {X : ttX} {ρ : Nat → Int} {f : ttX → yyN → Bool} {x : Int} {v : yyN} (hS : ttSat H X ρ) (h : f X v = true) (hw : ttW X.1 v) (e : yyG ρ v = x) : ttRs H X ρ f x := ⟨X, ρ, v, h, Nat.le_refl _, ttAg_rf _ _, hS, hw, e⟩
theorem ttG_new (ρ : Nat → Int) (n : Nat) (w g o : Int) : yyG (ttUp ρ n w) (g, n, o) = g * w + o := by
  show g * ttUp ρ n w n + o = g * w + o
  rw [ttUp_at]
theorem ttRs_nw {H : xH} {X : ttX} {ρ : Nat → Int} {f : ttX → yyN → Bool} {x : Int} {i : ttI} {g o w : Int} (hS : ttSat H X ρ) (h : ttNw X i (fun X' u => f X' (g, u, o)) = true) (hx : ttM (H.2.2.2.1 : Int) i w) (e : g * w + o = x) : ttRs H X ρ f x := by
  rw [ttNw_eq] at h
  exact ⟨_, _, _, h, Nat.le_succ _, ttUp_ag ρ X.1 w, ttSat_new hS hx, Or.inr (Nat.lt_succ_self _), (ttG_new ρ X.1 w g o).trans e⟩
def ttNi (X : ttX) (l h : Int) (f : ttX → yyN → Bool) : Bool := ttNw X (0, l, h) (fun X' u => f X' (1, u, 0))
theorem ttRs_ni {H : xH} {X : ttX} {ρ : Nat → Int} {f : ttX → yyN → Bool} {x l h : Int} (hS : ttSat H X ρ) (hf : ttNi X l h f = true) (h1 : l ≤ x) (h2 : x ≤ h) : ttRs H X ρ f x :=
  ttRs_nw (w := x) hS hf ⟨h1, h2⟩ (by omega)
/-- bounds of a value -/
def ttBd (B : List (Nat × ttI)) (v : yyN) (f : Int → Int → Bool) : Bool := match v with
  | (c, u, o) => match zzEq c 0 with
    | true => f o o
    | false => match ttLk B u with
      | (k, l, h) => match Nat.beq k 0 || Nat.beq k 4 with
        | true => (match zzEq c 1 with
          | true => f (l + o) (h + o)
          | false => match zzLe 0 c with
            | true => f (c * l + o) (c * h + o)
            | false => f (c * h + o) (c * l + o))
        | false => false
theorem ttM_num {N : Int} {k : Nat} {l h x : Int} (e : (Nat.beq k 0 || Nat.beq k 4) = true) (hm : ttM N (k, l, h) x) : l ≤ x ∧ x ≤ h := by
  rcases Bool.or_eq_true _ _ ▸ e with z | z
  · have := Nat.eq_of_beq_eq_true z
    subst this
    exact hm
  · have := Nat.eq_of_beq_eq_true z
    subst this
    exact hm.1
theorem ttBd_ok {H : xH} {X : ttX} {ρ : Nat → Int} {v : yyN} {f : Int → Int → Bool} (hS : ttSat H X ρ) (h : ttBd X.2.1 v f = true) : ∃ a b, f a b = true ∧ a ≤ yyG ρ v ∧ yyG ρ v ≤ b := by
  obtain ⟨c, u, o⟩ := v
  have g : yyG ρ (c, u, o) = c * ρ u + o := rfl
  rw [g]
  unfold ttBd at h
  simp only [] at h
  cases e : zzEq c 0
  · rw [e] at h
    have k := ttLk_ok hS.1 u
    revert h k
    generalize ttLk X.2.1 u = q
    obtain ⟨kd, l, hh⟩ := q
    intro h k
    simp only [] at h
    cases e2 : Nat.beq kd 0 || Nat.beq kd 4
    · rw [e2] at h; cases h
    · rw [e2] at h
      obtain ⟨k1, k2⟩ := ttM_num e2 k
      simp only [] at h
      cases e3 : zzEq c 1
      · rw [e3] at h
        simp only [] at h
        cases e4 : zzLe 0 c
        · rw [e4] at h
          have z := zzLe_no e4
          have m1 : c * hh ≤ c * ρ u := Int.mul_le_mul_of_nonpos_left (by omega) k2
          have m2 : c * ρ u ≤ c * l := Int.mul_le_mul_of_nonpos_left (by omega) k1
          exact ⟨_, _, h, by omega, by omega⟩
        · rw [e4] at h
          have z := zzLe_ok e4
          have m1 : c * l ≤ c * ρ u := Int.mul_le_mul_of_nonneg_left k1 z
          have m2 : c * ρ u ≤ c * hh := Int.mul_le_mul_of_nonneg_left k2 z
          exact ⟨_, _, h, by omega, by omega⟩
      · rw [e3] at h
        have z := zzEq_ok e3
        subst z
        exact ⟨_, _, h, by omega, by omega⟩
  · rw [e] at h
    have z := zzEq_ok e
    subst z
    rw [Int.zero_mul, Int.zero_add]
    exact ⟨_, _, h, Int.le_refl _, Int.le_refl _⟩
/-- a value is held to bounds: true, if it can't be -/
def ttRf (X : ttX) (v : yyN) (lo hi : Int) (f : ttX → Bool) : Bool := match v with
  | (c, u, o) => match zzEq c 0 with
    | true => (match zzLe lo o && zzLe o hi with
      | true => f X
      | false => true)
    | false => match X with
      | (n, B, K, E) => match ttLk B u with
        | (k, l, h) => match (Nat.beq k 0 || Nat.beq k 4) && zzLe 1 c with
          | false => f (n, B, K, E)
          | true => match zzEq c 1 with
            | true => (match zzLe (max l (lo - o)) (min h (hi - o)) with
              | true => f (n, (u, (k, max l (lo - o), min h (hi - o))) :: B, K, E)
              | false => true)
            | false => match zzLe (max l (-((o - lo) / c))) (min h ((hi - o) / c)) with
              | true => f (n, (u, (k, max l (-((o - lo) / c)), min h ((hi - o) / c))) :: B, K, E)
              | false => true
theorem ttM_ref {N : Int} {k : Nat} {l h l2 h2 x : Int} (e : (Nat.beq k 0 || Nat.beq k 4) = true) (hm : ttM N (k, l, h) x) (h3 : l2 ≤ x) (h4 : x ≤ h2) : ttM N (k, l2, h2) x := by
  rcases Bool.or_eq_true _ _ ▸ e with z | z
  · have := Nat.eq_of_beq_eq_true z
    subst this
    exact ⟨h3, h4⟩
  · have := Nat.eq_of_beq_eq_true z
    subst this
    exact ⟨⟨h3, h4⟩, hm.2⟩
/-- the run goes on with no new id -/
def ttGo (H : xH) (X : ttX) (ρ : Nat → Int) (f : ttX → Bool) : Prop := ∃ X' : ttX, f X' = true ∧ X'.1 = X.1 ∧ ttSat H X' ρ
theorem ttSat_b {H : xH} {X : ttX} {ρ : Nat → Int} {u : Nat} {i : ttI} (h : ttSat H X ρ) (hu : u < X.1) (hi : ttM (H.2.2.2.1 : Int) i (ρ u)) : ttSat H (X.1, (u, i) :: X.2.1, X.2.2.1, X.2.2.2) ρ :=
  ⟨fun q hq => by
    rcases List.mem_cons.mp hq with rfl | hq
    · exact ⟨hu, hi⟩
    · exact h.1 q hq, h.2⟩
theorem ttRf_ok {H : xH} {X : ttX} {ρ : Nat → Int} {v : yyN} {lo hi : Int} {f : ttX → Bool} (hS : ttSat H X ρ) (hw : ttW X.1 v) (h : ttRf X v lo hi f = true) (h1 : lo ≤ yyG ρ v) (h2 : yyG ρ v ≤ hi) : ttGo H X ρ f := by
  obtain ⟨c, u, o⟩ := v
  have g : yyG ρ (c, u, o) = c * ρ u + o := rfl
  rw [g] at h1 h2
  unfold ttRf at h
  simp only [] at h
  cases e : zzEq c 0
  · rw [e] at h
    obtain ⟨n, B, K, E⟩ := X
    have k := ttLk_ok hS.1 u
    revert h k
    generalize ttLk B u = q
    obtain ⟨kd, l, hh⟩ := q
    intro h k
    simp only [] at h
    cases e2 : (Nat.beq kd 0 || Nat.beq kd 4) && zzLe 1 c
    · rw [e2] at h
      exact ⟨_, h, rfl, hS⟩
    · rw [e2] at h
      obtain ⟨e3, e4⟩ := zz_and e2
      have z4 := zzLe_ok e4
      have hu : u < n := by
        rcases hw with z | z
        · have z : c = 0 := z
          omega
        · exact z
      obtain ⟨k1, k2⟩ := ttM_num e3 k
      simp only [] at h
      cases e5 : zzEq c 1
      · rw [e5] at h
        simp only [] at h
        have a1 : -((o - lo) / c) ≤ ρ u := by
          have : -(ρ u) ≤ (o - lo) / c := (Int.le_ediv_iff_mul_le (by omega)).mpr (by
            have : -(ρ u) * c = -(c * ρ u) := by rw [Int.neg_mul, Int.mul_comm]
            omega)
          omega
        have a2 : ρ u ≤ (hi - o) / c := (Int.le_ediv_iff_mul_le (by omega)).mpr (by
          have : ρ u * c = c * ρ u := Int.mul_comm _ _
          omega)
        have z : zzLe (max l (-((o - lo) / c))) (min hh ((hi - o) / c)) = true := zzLe_iff.mpr (by omega)
        rw [z] at h
        exact ⟨_, h, rfl, ttSat_b hS hu (ttM_ref e3 k (by omega) (by omega))⟩
      · rw [e5] at h
        have z5 := zzEq_ok e5
        subst z5
        have z : zzLe (max l (lo - o)) (min hh (hi - o)) = true := zzLe_iff.mpr (by omega)
        simp only [] at h
        rw [z] at h
        exact ⟨_, h, rfl, ttSat_b hS hu (ttM_ref e3 k (by omega) (by omega))⟩
  · rw [e] at h
    have z := zzEq_ok e
    subst z
    rw [Int.zero_mul, Int.zero_add] at h1 h2
    have z : (zzLe lo o && zzLe o hi) = true := Bool.and_eq_true _ _ ▸ ⟨zzLe_iff.mpr h1, zzLe_iff.mpr h2⟩
    simp only [] at h
    rw [z] at h
    exact ⟨X, h, rfl, hS⟩
/-- not 0 -/
def ttN0 (X : ttX) (v : yyN) (f : ttX → Bool) : Bool := match v with
  | (c, u, o) => match zzEq c 1 && zzEq o 0 with
    | false => f X
    | true => match X with
      | (n, B, K, E) => match ttLk B u with
        | (k, l, h) => match Nat.beq k 0 with
          | true => f (n, (u, (4, l, h)) :: B, K, E)
          | false => f (n, B, K, E)
theorem ttN0_ok {H : xH} {X : ttX} {ρ : Nat → Int} {v : yyN} {f : ttX → Bool} (hS : ttSat H X ρ) (hw : ttW X.1 v) (h : ttN0 X v f = true) (h1 : yyG ρ v ≠ 0) : ttGo H X ρ f := by
  obtain ⟨c, u, o⟩ := v
  have g : yyG ρ (c, u, o) = c * ρ u + o := rfl
  rw [g] at h1
  unfold ttN0 at h
  simp only [] at h
  cases e : zzEq c 1 && zzEq o 0
  · rw [e] at h
    exact ⟨X, h, rfl, hS⟩
  · rw [e] at h
    obtain ⟨e1, e2⟩ := zz_and e
    have z1 := zzEq_ok e1
    have z2 := zzEq_ok e2
    subst z1
    subst z2
    obtain ⟨n, B, K, E⟩ := X
    have k := ttLk_ok hS.1 u
    revert h k
    generalize ttLk B u = q
    obtain ⟨kd, l, hh⟩ := q
    intro h k
    have hu : u < n := by
      rcases hw with z | z
      · have z : (1 : Int) = 0 := z
        omega
      · exact z
    simp only [] at h
    cases e2 : Nat.beq kd 0
    · rw [e2] at h
      exact ⟨_, h, rfl, hS⟩
    · rw [e2] at h
      have z := Nat.eq_of_beq_eq_true e2
      subst z
      exact ⟨_, h, rfl, ttSat_b hS hu (show ttM _ (4, l, hh) (ρ u) from ⟨k, by omega⟩)⟩
def ttAs (c : ClassFile.Cond) (X : ttX) (x y : yyN) (f : ttX → Bool) : Bool := ttBd X.2.1 x fun l1 h1 => ttBd X.2.1 y fun l2 h2 => match c with
  | .eq => ttRf X x l2 h2 fun X1 => ttRf X1 y l1 h1 f
  | .lt => ttRf X x l1 (h2 - 1) fun X1 => ttRf X1 y (l1 + 1) h2 f
  | .ge => ttRf X x l2 h1 fun X1 => ttRf X1 y l2 h1 f
  | .gt => ttRf X x (l2 + 1) h1 fun X1 => ttRf X1 y l2 (h1 - 1) f
  | .le => ttRf X x l1 h2 fun X1 => ttRf X1 y l1 h2 f
  | .ne => match zzEq l2 h2 with
    | true => (match zzEq l1 l2 with
      | true => ttRf X x (l1 + 1) h1 f
      | false => match zzEq h1 l2 with
        | true => ttRf X x l1 (h1 - 1) f
        | false => match zzEq l2 0 with
          | true => ttN0 X x f
          | false => f X)
    | false => f X
theorem ttGo_tr {H : xH} {X : ttX} {ρ : Nat → Int} {f g : ttX → Bool} (h : ttGo H X ρ g) (k : ∀ X', g X' = true → X'.1 = X.1 → ttSat H X' ρ → ttGo H X' ρ f) : ttGo H X ρ f := by
  obtain ⟨X1, a, b, c⟩ := h
  obtain ⟨X2, a2, b2, c2⟩ := k X1 a b c
  exact ⟨X2, a2, b2.trans b, c2⟩
theorem ttRf2_ok {H : xH} {X : ttX} {ρ : Nat → Int} {x y : yyN} {a b c d : Int} {f : ttX → Bool} (hS : ttSat H X ρ) (hx : ttW X.1 x) (hy : ttW X.1 y) (h : ttRf X x a b (fun X1 => ttRf X1 y c d f) = true) (h1 : a ≤ yyG ρ x) (h2 : yyG ρ x ≤ b) (h3 : c ≤ yyG ρ y) (h4 : yyG ρ y ≤ d) : ttGo H X ρ f :=
  ttGo_tr (ttRf_ok hS hx h h1 h2) fun X' hf e hS' => ttRf_ok hS' (by rw [e]; exact hy) hf h3 h4
theorem ttAs_ok {H : xH} {X : ttX} {ρ : Nat → Int} {c : ClassFile.Cond} {x y : yyN} {f : ttX → Bool} (hS : ttSat H X ρ) (hx : ttW X.1 x) (hy : ttW X.1 y) (h : ttAs c X x y f = true) (ht : xT c (yyG ρ x) (yyG ρ y)) : ttGo H X ρ f := by
  unfold ttAs at h
  obtain ⟨l1, h1, h, a1, a2⟩ := ttBd_ok hS h
  obtain ⟨l2, h2, h, b1, b2⟩ := ttBd_ok hS h
  cases c
  · have ht : yyG ρ x = yyG ρ y := ht
    exact ttRf2_ok hS hx hy h (by omega) (by omega) (by omega) (by omega)
  · have ht : yyG ρ x ≠ yyG ρ y := ht
    simp only [] at h
    cases e : zzEq l2 h2
    · rw [e] at h; exact ⟨X, h, rfl, hS⟩
    · rw [e] at h
      have z := zzEq_ok e
      simp only [] at h
      cases e2 : zzEq l1 l2
      · rw [e2] at h
        simp only [] at h
        cases e3 : zzEq h1 l2
        · rw [e3] at h
          simp only [] at h
          cases e4 : zzEq l2 0
          · rw [e4] at h; exact ⟨X, h, rfl, hS⟩
          · rw [e4] at h
            have z4 := zzEq_ok e4
            exact ttN0_ok hS hx h (by omega)
        · rw [e3] at h
          have z3 := zzEq_ok e3
          exact ttRf_ok hS hx h (by omega) (by omega)
      · rw [e2] at h
        have z2 := zzEq_ok e2
        exact ttRf_ok hS hx h (by omega) (by omega)
  · have ht : yyG ρ x < yyG ρ y := ht
    exact ttRf2_ok hS hx hy h (by omega) (by omega) (by omega) (by omega)
  · have ht : yyG ρ y ≤ yyG ρ x := ht
    exact ttRf2_ok hS hx hy h (by omega) (by omega) (by omega) (by omega)
  · have ht : yyG ρ y < yyG ρ x := ht
    exact ttRf2_ok hS hx hy h (by omega) (by omega) (by omega) (by omega)
  · have ht : yyG ρ x ≤ yyG ρ y := ht
    exact ttRf2_ok hS hx hy h (by omega) (by omega) (by omega) (by omega)
