/-! numbers computed -/
def ttEq (x y : yyN) : Bool := zzEq x.1 y.1 && (Nat.beq x.2.1 y.2.1 && zzEq x.2.2 y.2.2)
theorem ttEq_ok {x y : yyN} (h : ttEq x y = true) : x = y := by
  obtain ⟨a, b, c⟩ := x
  obtain ⟨a2, b2, c2⟩ := y
  obtain ⟨h1, h2⟩ := zz_and h
  obtain ⟨h2, h3⟩ := zz_and h2
  have e1 : a = a2 := zzEq_ok h1
  have e2 : b = b2 := Nat.eq_of_beq_eq_true h2
  have e3 : c = c2 := zzEq_ok h3
  rw [e1, e2, e3]
def ttFd : List ((yyN × yyN) × yyN) → yyN → yyN → Option yyN
  | [], _, _ => none
  | ((a, b), v) :: r, x, y => match ttEq a x && ttEq b y with
    | true => some v
    | false => ttFd r x y
theorem ttFd_ok : ∀ {l : List ((yyN × yyN) × yyN)} {x y v : yyN}, ttFd l x y = some v → ((x, y), v) ∈ l
  | [], _, _, _, h => by cases h
  | ((a, b), v) :: r, x, y, w, h => by
    unfold ttFd at h
    cases e : ttEq a x && ttEq b y
    · rw [e] at h
      exact List.mem_cons_of_mem _ (ttFd_ok h)
    · rw [e] at h
      obtain ⟨e1, e2⟩ := zz_and e
      cases h
      rw [ttEq_ok e1, ttEq_ok e2]
      exact List.mem_cons_self
def ttFe (op : Nat) : List ((Nat × yyN × yyN) × yyN) → yyN → yyN → Option yyN
  | [], _, _ => none
  | ((p, a, b), v) :: r, x, y => match Nat.beq p op && (ttEq a x && ttEq b y) with
    | true => some v
    | false => ttFe op r x y
theorem ttFe_ok {op : Nat} : ∀ {l : List ((Nat × yyN × yyN) × yyN)} {x y v : yyN}, ttFe op l x y = some v → ((op, x, y), v) ∈ l
  | [], _, _, _, h => by cases h
  | ((p, a, b), v) :: r, x, y, w, h => by
    unfold ttFe at h
    cases e : Nat.beq p op && (ttEq a x && ttEq b y)
    · rw [e] at h
      exact List.mem_cons_of_mem _ (ttFe_ok h)
    · rw [e] at h
      obtain ⟨e0, e1⟩ := zz_and e
      obtain ⟨e1, e2⟩ := zz_and e1
      cases h
      rw [ttEq_ok e1, ttEq_ok e2, Nat.eq_of_beq_eq_true e0]
      exact List.mem_cons_self
theorem yyAdd_w {n : Nat} {x y z : yyN} (h : yyAdd x y = some z) (hx : ttW n x) (hy : ttW n y) : ttW n z := by
  unfold yyAdd at h
  cases e : zzEq x.1 0
  · rw [e] at h
    have nx := zzEq_no e
    have hx : x.2.1 < n := hx.elim (fun z => absurd z nx) id
    cases e2 : zzEq y.1 0
    · rw [e2] at h
      cases e3 : Nat.beq x.2.1 y.2.1
      · rw [e3] at h; cases h
      · rw [e3] at h
        cases h
        exact Or.inr hx
    · rw [e2] at h
      cases h
      exact Or.inr hx
  · rw [e] at h
    cases h
    exact hy
theorem yyMul_w {n : Nat} {k : Int} {x : yyN} (hx : ttW n x) : ttW n (yyMul k x) := by
  rcases hx with z | z
  · exact Or.inl (by show k * x.1 = 0; rw [z, Int.mul_zero])
  · exact Or.inr z
def ttLo (lg : Bool) : Int := match lg with | true => -9223372036854775808 | false => -2147483648
def ttHi (lg : Bool) : Int := match lg with | true => 9223372036854775807 | false => 2147483647
def ttWr (lg : Bool) (x : Int) : Int := match lg with | true => w64 x | false => w32 x
theorem ttWr_in (lg : Bool) (x : Int) : ttLo lg ≤ ttWr lg x ∧ ttWr lg x ≤ ttHi lg := by
  cases lg
  · have h : (-2147483648 : Int) ≤ w32 x ∧ w32 x < 2147483648 := w32_in x
    exact ⟨h.1, by show w32 x ≤ 2147483647; omega⟩
  · have h : (-9223372036854775808 : Int) ≤ w64 x ∧ w64 x < 9223372036854775808 := w64_in x
    exact ⟨h.1, by show w64 x ≤ 9223372036854775807; omega⟩
theorem ttWr_eq {lg : Bool} {x : Int} (h1 : ttLo lg ≤ x) (h2 : x ≤ ttHi lg) : ttWr lg x = x := by
  cases lg
  · have h1 : (-2147483648 : Int) ≤ x := h1
    have h2 : x ≤ (2147483647 : Int) := h2
    exact w32_eq ⟨h1, by omega⟩
  · have h1 : (-9223372036854775808 : Int) ≤ x := h1
    have h2 : x ≤ (9223372036854775807 : Int) := h2
    exact w64_eq ⟨h1, by omega⟩
/-- a new number, of which is kept in mind what it is of -/
def ttSn (op : Nat) (X : ttX) (x y : yyN) (l h g o : Int) (f : ttX → yyN → Bool) : Bool := match X with
  | (n, B, K, E) => f (Nat.add n 1, (n, (0, l, h)) :: B, K, ((op, x, y), (g, n, o)) :: E) (g, n, o)
theorem ttSn_ok {op : Nat} {H : xH} {X : ttX} {ρ : Nat → Int} {x y : yyN} {l h g o w : Int} {f : ttX → yyN → Bool} (hS : ttSat H X ρ) (hx : ttW X.1 x) (hy : ttW X.1 y) (hf : ttSn op X x y l h g o f = true) (h1 : l ≤ w) (h2 : w ≤ h) (e : g * w + o = ttOf op (yyG ρ x) (yyG ρ y)) : ttRs H X ρ f (ttOf op (yyG ρ x) (yyG ρ y)) := by
  have k := ttSat_new (i := (0, l, h)) (x := w) hS ⟨h1, h2⟩
  have ag := ttUp_ag ρ X.1 w
  refine ⟨((ttXn X (0, l, h)).1, (ttXn X (0, l, h)).2.1, (ttXn X (0, l, h)).2.2.1, ((op, x, y), (g, X.1, o)) :: (ttXn X (0, l, h)).2.2.2), ttUp ρ X.1 w, (g, X.1, o), hf, Nat.le_succ _, ag, ⟨k.1, k.2.1, fun q hq => ?_⟩, Or.inr (Nat.lt_succ_self _), (ttG_new ρ X.1 w g o).trans e⟩
  rcases List.mem_cons.mp hq with rfl | hq
  · refine ⟨⟨ttW_up (Nat.le_succ _) hx, ttW_up (Nat.le_succ _) hy, Or.inr (Nat.lt_succ_self _)⟩, ?_⟩
    show yyG (ttUp ρ X.1 w) (g, X.1, o) = ttOf op (yyG (ttUp ρ X.1 w) x) (yyG (ttUp ρ X.1 w) y)
    rw [ttG_new, yyG_ag hx ag, yyG_ag hy ag]
    exact e
  · exact k.2.2 q hq
/-- the same, if it isn't known already -/
def ttSm (op : Nat) (X : ttX) (x y : yyN) (l h : Int) (f : ttX → yyN → Bool) : Bool := match ttFe op X.2.2.2 x y with
  | some v => f X v
  | none => ttSn op X x y l h 1 0 f
theorem ttSm_ok {op : Nat} {H : xH} {X : ttX} {ρ : Nat → Int} {x y : yyN} {l h : Int} {f : ttX → yyN → Bool} (hS : ttSat H X ρ) (hx : ttW X.1 x) (hy : ttW X.1 y) (hf : ttSm op X x y l h f = true) (h1 : l ≤ ttOf op (yyG ρ x) (yyG ρ y)) (h2 : ttOf op (yyG ρ x) (yyG ρ y) ≤ h) : ttRs H X ρ f (ttOf op (yyG ρ x) (yyG ρ y)) := by
  unfold ttSm at hf
  cases e : ttFe op X.2.2.2 x y with
  | some v =>
    rw [e] at hf
    obtain ⟨⟨-, -, w⟩, q⟩ := hS.2.2 _ (ttFe_ok e)
    exact ttRs_ex hS hf w q
  | none =>
    rw [e] at hf
    exact ttSn_ok hS hx hy hf h1 h2 (by omega)
/-- of two ids: g * new + o -/
def ttS2 (X : ttX) (x y : yyN) (g : Int) (f : ttX → yyN → Bool) : Bool :=
  match zzEq (g * (x.1 / g)) x.1 && zzEq (g * (y.1 / g)) y.1 with
  | false => false
  | true => ttBd X.2.1 (x.1 / g, x.2.1, 0) fun l1 h1 => ttBd X.2.1 (y.1 / g, y.2.1, 0) fun l2 h2 => ttSn 0 X x y (l1 + l2) (h1 + h2) g (x.2.2 + y.2.2) f
def ttAd (lg : Bool) (X : ttX) (x y : yyN) (f : ttX → yyN → Bool) : Bool :=
  ttBd X.2.1 x fun l1 h1 => ttBd X.2.1 y fun l2 h2 => match zzLe (ttLo lg) (l1 + l2) && zzLe (h1 + h2) (ttHi lg) with
  | true => (match yyAdd x y with
    | some z => f X z
    | none => match lg with
      | true => ttNi X (l1 + l2) (h1 + h2) f
      | false => match ttFe 0 X.2.2.2 x y with
        | some v => f X v
        | none => ttS2 X x y ((Int.gcd x.1 y.1 : Nat) : Int) f)
  | false => match lg with
    | true => ttNi X (ttLo true) (ttHi true) f
    | false => ttSm 0 X x y (ttLo false) (ttHi false) f
theorem ttAd_ok {H : xH} {X : ttX} {ρ : Nat → Int} {lg : Bool} {x y : yyN} {f : ttX → yyN → Bool} (hS : ttSat H X ρ) (hx : ttW X.1 x) (hy : ttW X.1 y) (h : ttAd lg X x y f = true) : ttRs H X ρ f (ttWr lg (yyG ρ x + yyG ρ y)) := by
  unfold ttAd at h
  obtain ⟨l1, h1, h, a1, a2⟩ := ttBd_ok hS h
  obtain ⟨l2, h2, h, b1, b2⟩ := ttBd_ok hS h
  cases e : zzLe (ttLo lg) (l1 + l2) && zzLe (h1 + h2) (ttHi lg)
  · rw [e] at h
    simp only [] at h
    cases lg
    · have r := ttWr_in false (yyG ρ x + yyG ρ y)
      exact ttSm_ok hS hx hy h r.1 r.2
    · have r := ttWr_in true (yyG ρ x + yyG ρ y)
      exact ttRs_ni hS h r.1 r.2
  · rw [e] at h
    obtain ⟨e1, e2⟩ := zz_and e
    have z1 := zzLe_ok e1
    have z2 := zzLe_ok e2
    have ew : ttWr lg (yyG ρ x + yyG ρ y) = yyG ρ x + yyG ρ y := ttWr_eq (by omega) (by omega)
    simp only [] at h
    cases e3 : yyAdd x y with
    | some z =>
      rw [e3] at h
      exact ttRs_ex hS h (yyAdd_w e3 hx hy) ((yyAdd_ok e3).trans ew.symm)
    | none =>
      rw [e3] at h
      simp only [] at h
      cases lg
      · simp only [] at h
        cases e4 : ttFe 0 X.2.2.2 x y with
        | some v =>
          rw [e4] at h
          obtain ⟨⟨-, -, w⟩, q⟩ := hS.2.2 _ (ttFe_ok e4)
          exact ttRs_ex hS h w q
        | none =>
          rw [e4] at h
          simp only [] at h
          unfold ttS2 at h
          revert h
          generalize ((Int.gcd x.1 y.1 : Nat) : Int) = g
          intro h
          cases e5 : zzEq (g * (x.1 / g)) x.1 && zzEq (g * (y.1 / g)) y.1
          · rw [e5] at h; cases h
          · rw [e5] at h
            obtain ⟨e6, e7⟩ := zz_and e5
            have z6 := zzEq_ok e6
            have z7 := zzEq_ok e7
            obtain ⟨l3, h3, h, c1, c2⟩ := ttBd_ok hS h
            obtain ⟨l4, h4, h, d1, d2⟩ := ttBd_ok hS h
            refine ttSn_ok (w := yyG ρ (x.1 / g, x.2.1, 0) + yyG ρ (y.1 / g, y.2.1, 0)) hS hx hy h (by omega) (by omega) ?_
            have ew : ttOf 0 (yyG ρ x) (yyG ρ y) = yyG ρ x + yyG ρ y := ew
            rw [ew]
            show g * ((x.1 / g * ρ x.2.1 + 0) + (y.1 / g * ρ y.2.1 + 0)) + (x.2.2 + y.2.2) = (x.1 * ρ x.2.1 + x.2.2) + (y.1 * ρ y.2.1 + y.2.2)
            rw [Int.add_zero, Int.add_zero, Int.mul_add, ← Int.mul_assoc, ← Int.mul_assoc, z6, z7]
            omega
      · rw [ew]
        exact ttRs_ni hS h (by omega) (by omega)
def ttMu (lg : Bool) (X : ttX) (x y : yyN) (f : ttX → yyN → Bool) : Bool :=
  ttBd X.2.1 x fun l1 h1 => ttBd X.2.1 y fun l2 h2 => match zzEq x.1 0 with
  | true => (match zzLe (ttLo lg) (x.2.2 * l2) && (zzLe (x.2.2 * l2) (ttHi lg) && (zzLe (ttLo lg) (x.2.2 * h2) && zzLe (x.2.2 * h2) (ttHi lg))) with
    | true => f X (yyMul x.2.2 y)
    | false => ttNi X (ttLo lg) (ttHi lg) f)
  | false => match zzEq y.1 0 with
    | true => (match zzLe (ttLo lg) (y.2.2 * l1) && (zzLe (y.2.2 * l1) (ttHi lg) && (zzLe (ttLo lg) (y.2.2 * h1) && zzLe (y.2.2 * h1) (ttHi lg))) with
      | true => f X (yyMul y.2.2 x)
      | false => ttNi X (ttLo lg) (ttHi lg) f)
    | false => match zzLe 0 l1 && (zzLe 0 l2 && zzLe (h1 * h2) (ttHi lg)) with
      | true => ttNi X (l1 * l2) (h1 * h2) f
      | false => ttNi X (ttLo lg) (ttHi lg) f
theorem tt_mulb {k a l h lo hi : Int} (h1 : l ≤ a) (h2 : a ≤ h) (e1 : lo ≤ k * l) (e2 : k * l ≤ hi) (e3 : lo ≤ k * h) (e4 : k * h ≤ hi) : lo ≤ k * a ∧ k * a ≤ hi := by
  by_cases z : 0 ≤ k
  · have m1 : k * l ≤ k * a := Int.mul_le_mul_of_nonneg_left h1 z
    have m2 : k * a ≤ k * h := Int.mul_le_mul_of_nonneg_left h2 z
    omega
  · have m1 : k * h ≤ k * a := Int.mul_le_mul_of_nonpos_left (by omega) h2
    have m2 : k * a ≤ k * l := Int.mul_le_mul_of_nonpos_left (by omega) h1
    omega
theorem tt_and4 {a b c d : Bool} (h : (a && (b && (c && d))) = true) : a = true ∧ b = true ∧ c = true ∧ d = true := by
  obtain ⟨h1, h⟩ := zz_and h
  obtain ⟨h2, h⟩ := zz_and h
  obtain ⟨h3, h4⟩ := zz_and h
  exact ⟨h1, h2, h3, h4⟩
theorem ttMu_ok {H : xH} {X : ttX} {ρ : Nat → Int} {lg : Bool} {x y : yyN} {f : ttX → yyN → Bool} (hS : ttSat H X ρ) (hx : ttW X.1 x) (hy : ttW X.1 y) (h : ttMu lg X x y f = true) : ttRs H X ρ f (ttWr lg (yyG ρ x * yyG ρ y)) := by
  unfold ttMu at h
  obtain ⟨l1, h1, h, a1, a2⟩ := ttBd_ok hS h
  obtain ⟨l2, h2, h, b1, b2⟩ := ttBd_ok hS h
  have r := ttWr_in lg (yyG ρ x * yyG ρ y)
  cases e : zzEq x.1 0
  · rw [e] at h
    simp only [] at h
    cases e2 : zzEq y.1 0
    · rw [e2] at h
      simp only [] at h
      cases e3 : zzLe 0 l1 && (zzLe 0 l2 && zzLe (h1 * h2) (ttHi lg))
      · rw [e3] at h
        exact ttRs_ni hS h r.1 r.2
      · rw [e3] at h
        obtain ⟨e4, e5⟩ := zz_and e3
        obtain ⟨e5, e6⟩ := zz_and e5
        have z4 := zzLe_ok e4
        have z5 := zzLe_ok e5
        have z6 := zzLe_ok e6
        have m1 : l1 * l2 ≤ yyG ρ x * yyG ρ y := Int.mul_le_mul a1 b1 z5 (by omega)
        have m2 : yyG ρ x * yyG ρ y ≤ h1 * h2 := Int.mul_le_mul a2 b2 (by omega) (by omega)
        have m0 : 0 ≤ l1 * l2 := Int.mul_nonneg z4 z5
        have m3 : ttLo lg ≤ 0 := by cases lg <;> decide
        rw [ttWr_eq (by omega) (by omega)]
        exact ttRs_ni hS h m1 m2
    · rw [e2] at h
      have z2 := zzEq_ok e2
      have gy : yyG ρ y = y.2.2 := by show y.1 * ρ y.2.1 + y.2.2 = y.2.2; rw [z2, Int.zero_mul, Int.zero_add]
      simp only [] at h
      cases e3 : zzLe (ttLo lg) (y.2.2 * l1) && (zzLe (y.2.2 * l1) (ttHi lg) && (zzLe (ttLo lg) (y.2.2 * h1) && zzLe (y.2.2 * h1) (ttHi lg)))
      · rw [e3] at h
        exact ttRs_ni hS h r.1 r.2
      · rw [e3] at h
        obtain ⟨e4, e5, e6, e7⟩ := tt_and4 e3
        have m := tt_mulb a1 a2 (zzLe_ok e4) (zzLe_ok e5) (zzLe_ok e6) (zzLe_ok e7)
        rw [gy, Int.mul_comm, ttWr_eq m.1 m.2]
        exact ttRs_ex hS h (yyMul_w hx) (yyMul_ok _ _)
  · rw [e] at h
    have z2 := zzEq_ok e
    have gx : yyG ρ x = x.2.2 := by show x.1 * ρ x.2.1 + x.2.2 = x.2.2; rw [z2, Int.zero_mul, Int.zero_add]
    simp only [] at h
    cases e3 : zzLe (ttLo lg) (x.2.2 * l2) && (zzLe (x.2.2 * l2) (ttHi lg) && (zzLe (ttLo lg) (x.2.2 * h2) && zzLe (x.2.2 * h2) (ttHi lg)))
    · rw [e3] at h
      exact ttRs_ni hS h r.1 r.2
    · rw [e3] at h
      obtain ⟨e4, e5, e6, e7⟩ := tt_and4 e3
      have m := tt_mulb b1 b2 (zzLe_ok e4) (zzLe_ok e5) (zzLe_ok e6) (zzLe_ok e7)
      rw [gx, ttWr_eq m.1 m.2]
      exact ttRs_ex hS h (yyMul_w hy) (yyMul_ok _ _)
/-- is it not 0? -/
def ttNz (X : ttX) (y : yyN) : Bool := match zzEq y.1 1 && zzEq y.2.2 0 with
  | true => (match ttLk X.2.1 y.2.1 with
    | (k, l, h) => Nat.beq k 4 || (Nat.beq k 0 && (zzLe 1 l || zzLe h (-1))))
  | false => ttBd X.2.1 y fun l h => zzLe 1 l || zzLe h (-1)
theorem ttNz_b {l h x : Int} (e : (zzLe 1 l || zzLe h (-1)) = true) (h1 : l ≤ x) (h2 : x ≤ h) : x ≠ 0 := by
  rcases Bool.or_eq_true _ _ ▸ e with z | z
  · have := zzLe_ok z; omega
  · have := zzLe_ok z; omega
theorem ttNz_ok {H : xH} {X : ttX} {ρ : Nat → Int} {y : yyN} (hS : ttSat H X ρ) (h : ttNz X y = true) : yyG ρ y ≠ 0 := by
  unfold ttNz at h
  cases e : zzEq y.1 1 && zzEq y.2.2 0
  · rw [e] at h
    obtain ⟨l, hh, h, a1, a2⟩ := ttBd_ok hS h
    exact ttNz_b h a1 a2
  · rw [e] at h
    obtain ⟨e1, e2⟩ := zz_and e
    have g : yyG ρ y = ρ y.2.1 := by
      show y.1 * ρ y.2.1 + y.2.2 = ρ y.2.1
      rw [zzEq_ok e1, zzEq_ok e2, Int.one_mul, Int.add_zero]
    rw [g]
    have k := ttLk_ok hS.1 y.2.1
    revert h k
    generalize ttLk X.2.1 y.2.1 = q
    obtain ⟨kd, l, hh⟩ := q
    intro h k
    have h : (Nat.beq kd 4 || (Nat.beq kd 0 && (zzLe 1 l || zzLe hh (-1)))) = true := h
    rcases Bool.or_eq_true _ _ ▸ h with z | z
    · have := Nat.eq_of_beq_eq_true z
      subst this
      exact k.2
    · obtain ⟨z1, z2⟩ := zz_and z
      have := Nat.eq_of_beq_eq_true z1
      subst this
      exact ttNz_b z2 k.1 k.2
def ttDn (lg : Bool) (X : ttX) (x y : yyN) (l h : Int) (f : ttX → yyN → Bool) : Bool := match lg with
  | true => ttNi X l h f
  | false => ttSm 1 X x y l h f
theorem ttDn_ok {lg : Bool} {H : xH} {X : ttX} {ρ : Nat → Int} {x y : yyN} {l h : Int} {f : ttX → yyN → Bool} (hS : ttSat H X ρ) (hx : ttW X.1 x) (hy : ttW X.1 y) (hf : ttDn lg X x y l h f = true) (h1 : l ≤ ttWr lg ((yyG ρ x).tdiv (yyG ρ y))) (h2 : ttWr lg ((yyG ρ x).tdiv (yyG ρ y)) ≤ h) : ttRs H X ρ f (ttWr lg ((yyG ρ x).tdiv (yyG ρ y))) := by
  cases lg
  · exact ttSm_ok hS hx hy hf h1 h2
  · exact ttRs_ni hS hf h1 h2
def ttDv (lg : Bool) (X : ttX) (x y : yyN) (f : ttX → yyN → Bool) : Bool := match ttNz X y with
  | false => false
  | true => ttBd X.2.1 x fun l1 h1 => ttBd X.2.1 y fun l2 h2 => match zzLe 0 l1 && (zzLe 1 l2 && zzLe h1 (ttHi lg)) with
    | true => (match zzEq l2 h2 with
      | true => ttDn lg X x y (l1 / l2) (h1 / l2) f
      | false => ttDn lg X x y 0 h1 f)
    | false => ttDn lg X x y (ttLo lg) (ttHi lg) f
theorem ttDv_ok {H : xH} {X : ttX} {ρ : Nat → Int} {lg : Bool} {x y : yyN} {f : ttX → yyN → Bool} (hS : ttSat H X ρ) (hx : ttW X.1 x) (hy : ttW X.1 y) (h : ttDv lg X x y f = true) : yyG ρ y ≠ 0 ∧ ttRs H X ρ f (ttWr lg ((yyG ρ x).tdiv (yyG ρ y))) := by
  unfold ttDv at h
  cases e0 : ttNz X y
  · rw [e0] at h; cases h
  rw [e0] at h
  refine ⟨ttNz_ok hS e0, ?_⟩
  obtain ⟨l1, h1, h, a1, a2⟩ := ttBd_ok hS h
  obtain ⟨l2, h2, h, b1, b2⟩ := ttBd_ok hS h
  have r := ttWr_in lg ((yyG ρ x).tdiv (yyG ρ y))
  cases e : zzLe 0 l1 && (zzLe 1 l2 && zzLe h1 (ttHi lg))
  · rw [e] at h
    exact ttDn_ok hS hx hy h r.1 r.2
  · rw [e] at h
    obtain ⟨e1, e2⟩ := zz_and e
    obtain ⟨e2, e3⟩ := zz_and e2
    have z1 := zzLe_ok e1
    have z2 := zzLe_ok e2
    have z3 := zzLe_ok e3
    have q0 : 0 ≤ yyG ρ x / yyG ρ y := Int.ediv_nonneg (by omega) (by omega)
    have q1 : yyG ρ x / yyG ρ y ≤ yyG ρ x := Int.ediv_le_self _ (by omega)
    have m3 : ttLo lg ≤ 0 := by cases lg <;> decide
    have ew : ttWr lg ((yyG ρ x).tdiv (yyG ρ y)) = yyG ρ x / yyG ρ y := by
      rw [Int.tdiv_eq_ediv_of_nonneg (by omega), ttWr_eq (by omega) (by omega)]
    simp only [] at h
    cases e4 : zzEq l2 h2
    · rw [e4] at h
      exact ttDn_ok hS hx hy h (by omega) (by omega)
    · rw [e4] at h
      have z4 := zzEq_ok e4
      have ey : yyG ρ y = l2 := by omega
      have m1 : l1 / l2 ≤ yyG ρ x / l2 := Int.ediv_le_ediv (by omega) a1
      have m2 : yyG ρ x / l2 ≤ h1 / l2 := Int.ediv_le_ediv (by omega) a2
      rw [ey] at ew
      exact ttDn_ok hS hx hy h (by rw [ey, ew]; exact m1) (by rw [ey, ew]; exact m2)
def ttRm (X : ttX) (x y : yyN) (f : ttX → yyN → Bool) : Bool := match zzEq y.1 0 && zzLe 1 y.2.2 with
  | false => false
  | true => ttBd X.2.1 x fun l1 _ => match zzLe 0 l1 with
    | true => ttNi X 0 (y.2.2 - 1) f
    | false => ttNi X (1 - y.2.2) (y.2.2 - 1) f
theorem ttRm_ok {H : xH} {X : ttX} {ρ : Nat → Int} {x y : yyN} {f : ttX → yyN → Bool} (hS : ttSat H X ρ) (h : ttRm X x y f = true) : yyG ρ y ≠ 0 ∧ ttRs H X ρ f ((yyG ρ x).tmod (yyG ρ y)) := by
  unfold ttRm at h
  cases e : zzEq y.1 0 && zzLe 1 y.2.2
  · rw [e] at h; cases h
  rw [e] at h
  obtain ⟨e1, e2⟩ := zz_and e
  have z1 := zzEq_ok e1
  have z2 := zzLe_ok e2
  have gy : yyG ρ y = y.2.2 := by show y.1 * ρ y.2.1 + y.2.2 = y.2.2; rw [z1, Int.zero_mul, Int.zero_add]
  rw [gy]
  refine ⟨by omega, ?_⟩
  obtain ⟨l1, h1, h, a1, a2⟩ := ttBd_ok hS h
  have t1 := Int.tmod_lt_of_pos (yyG ρ x) (b := y.2.2) (by omega)
  cases e3 : zzLe 0 l1
  · rw [e3] at h
    have t2 := Int.lt_tmod_of_pos (yyG ρ x) (b := y.2.2) (by omega)
    exact ttRs_ni hS h (by omega) (by omega)
  · rw [e3] at h
    have z3 := zzLe_ok e3
    have t2 := Int.tmod_nonneg (b := y.2.2) (a := yyG ρ x) (by omega)
    exact ttRs_ni hS h t2 (by omega)
/-! bits -/
theorem tt_nat {b : Int} (h : 0 ≤ b) (h2 : b < 2147483648) : (Int32.ofInt b).toBitVec.toNat = b.toNat := by
  have e : (Int32.ofInt b).toInt = b := xi_toInt (show (-2147483648 : Int) ≤ b ∧ b < 2147483648 by omega)
  have e2 : (Int32.ofInt b).toBitVec.toInt = b := e
  have hl : (Int32.ofInt b).toBitVec.toNat < 4294967296 := (Int32.ofInt b).toBitVec.isLt
  rw [BitVec.toInt_eq_toNat_cond] at e2
  split at e2
  · omega
  · have e2 : ((Int32.ofInt b).toBitVec.toNat : Int) - 4294967296 = b := e2
    omega
theorem tt_and_r {a b : Int} (h : 0 ≤ b) (h2 : b < 2147483648) : 0 ≤ xAnd a b ∧ xAnd a b ≤ b := by
  have e : xAnd a b = (((Int32.ofInt a).toBitVec &&& (Int32.ofInt b).toBitVec) : BitVec 32).toInt := rfl
  have hn := tt_nat h h2
  have k : (((Int32.ofInt a).toBitVec &&& (Int32.ofInt b).toBitVec) : BitVec 32).toNat ≤ b.toNat := by
    rw [BitVec.toNat_and, hn]
    exact Nat.and_le_right
  rw [e, BitVec.toInt_eq_toNat_of_lt (by omega)]
  omega
theorem tt_and_l {a b : Int} (h : 0 ≤ a) (h2 : a < 2147483648) : 0 ≤ xAnd a b ∧ xAnd a b ≤ a := by
  have e : xAnd a b = (((Int32.ofInt a).toBitVec &&& (Int32.ofInt b).toBitVec) : BitVec 32).toInt := rfl
  have hn := tt_nat h h2
  have k : (((Int32.ofInt a).toBitVec &&& (Int32.ofInt b).toBitVec) : BitVec 32).toNat ≤ a.toNat := by
    rw [BitVec.toNat_and, hn]
    exact Nat.and_le_left
  rw [e, BitVec.toInt_eq_toNat_of_lt (by omega)]
  omega
theorem tt_or {a b : Int} {k : Nat} (hk : k ≤ 30) (h : 0 ≤ a) (h2 : a < (2 : Int) ^ k) (g : 0 ≤ b) (g2 : b < (2 : Int) ^ k) : 0 ≤ xOr a b ∧ xOr a b < (2 : Int) ^ k := by
  have e : xOr a b = (((Int32.ofInt a).toBitVec ||| (Int32.ofInt b).toBitVec) : BitVec 32).toInt := rfl
  have p : (2 : Int) ^ k ≤ 1073741824 := by
    have : (2 : Nat) ^ k ≤ 2 ^ 30 := Nat.pow_le_pow_right (by decide) hk
    have e2 : ((2 ^ k : Nat) : Int) = (2 : Int) ^ k := by norm_cast
    rw [← e2]
    have e3 : (2 : Nat) ^ 30 = 1073741824 := by decide
    omega
  have e2 : ((2 ^ k : Nat) : Int) = (2 : Int) ^ k := by norm_cast
  have n1 := tt_nat h (by omega)
  have n2 := tt_nat g (by omega)
  have m : (((Int32.ofInt a).toBitVec ||| (Int32.ofInt b).toBitVec) : BitVec 32).toNat < 2 ^ k := by
    rw [BitVec.toNat_or, n1, n2]
    exact Nat.or_lt_two_pow (by omega) (by omega)
  rw [e, BitVec.toInt_eq_toNat_of_lt (by omega)]
  omega
theorem tt_shl1 : ∀ b : Nat, b < 31 → xShl 1 (b : Int) = (2 : Int) ^ b := by decide
def ttAn (X : ttX) (x y : yyN) (f : ttX → yyN → Bool) : Bool :=
  ttBd X.2.1 x fun l1 h1 => ttBd X.2.1 y fun l2 h2 => match zzLe 0 l2 && zzLe h2 2147483647 with
  | true => ttNi X 0 h2 f
  | false => match zzLe 0 l1 && zzLe h1 2147483647 with
    | true => ttNi X 0 h1 f
    | false => ttNi X (-2147483648) 2147483647 f
theorem ttAn_ok {H : xH} {X : ttX} {ρ : Nat → Int} {x y : yyN} {f : ttX → yyN → Bool} (hS : ttSat H X ρ) (h : ttAn X x y f = true) : ttRs H X ρ f (xAnd (yyG ρ x) (yyG ρ y)) := by
  unfold ttAn at h
  obtain ⟨l1, h1, h, a1, a2⟩ := ttBd_ok hS h
  obtain ⟨l2, h2, h, b1, b2⟩ := ttBd_ok hS h
  have r : (-2147483648 : Int) ≤ xAnd (yyG ρ x) (yyG ρ y) ∧ xAnd (yyG ρ x) (yyG ρ y) < 2147483648 := xi_in _
  cases e : zzLe 0 l2 && zzLe h2 2147483647
  · rw [e] at h
    simp only [] at h
    cases e2 : zzLe 0 l1 && zzLe h1 2147483647
    · rw [e2] at h
      exact ttRs_ni hS h r.1 (by omega)
    · rw [e2] at h
      obtain ⟨z1, z2⟩ := zz_and e2
      have z1 := zzLe_ok z1
      have z2 := zzLe_ok z2
      have k := tt_and_l (a := yyG ρ x) (b := yyG ρ y) (by omega) (by omega)
      exact ttRs_ni hS h k.1 (by omega)
  · rw [e] at h
    obtain ⟨z1, z2⟩ := zz_and e
    have z1 := zzLe_ok z1
    have z2 := zzLe_ok z2
    have k := tt_and_r (a := yyG ρ x) (b := yyG ρ y) (by omega) (by omega)
    exact ttRs_ni hS h k.1 (by omega)
def ttOr (X : ttX) (x y : yyN) (f : ttX → yyN → Bool) : Bool :=
  ttBd X.2.1 x fun l1 h1 => ttBd X.2.1 y fun l2 h2 => match zzLe 0 l1 && (zzLe 0 l2 && (zzLe h1 1073741823 && zzLe h2 1073741823)) with
  | false => ttNi X (-2147483648) 2147483647 f
  | true => (fun k : Nat => match Nat.ble k 30 && (zzLe (h1 + 1) (2 ^ k) && zzLe (h2 + 1) (2 ^ k)) with
    | true => ttNi X 0 (2 ^ k - 1) f
    | false => false) (Nat.add (Nat.log2 (max h1 h2).toNat) 1)
theorem ttOr_ok {H : xH} {X : ttX} {ρ : Nat → Int} {x y : yyN} {f : ttX → yyN → Bool} (hS : ttSat H X ρ) (h : ttOr X x y f = true) : ttRs H X ρ f (xOr (yyG ρ x) (yyG ρ y)) := by
  unfold ttOr at h
  obtain ⟨l1, h1, h, a1, a2⟩ := ttBd_ok hS h
  obtain ⟨l2, h2, h, b1, b2⟩ := ttBd_ok hS h
  have r : (-2147483648 : Int) ≤ xOr (yyG ρ x) (yyG ρ y) ∧ xOr (yyG ρ x) (yyG ρ y) < 2147483648 := xi_in _
  cases e : zzLe 0 l1 && (zzLe 0 l2 && (zzLe h1 1073741823 && zzLe h2 1073741823))
  · rw [e] at h
    exact ttRs_ni hS h r.1 (by omega)
  · rw [e] at h
    obtain ⟨z1, z2, z3, z4⟩ := tt_and4 e
    have z1 := zzLe_ok z1
    have z2 := zzLe_ok z2
    revert h
    generalize Nat.add (Nat.log2 (max h1 h2).toNat) 1 = k
    intro h
    simp only [] at h
    cases e2 : Nat.ble k 30 && (zzLe (h1 + 1) (2 ^ k) && zzLe (h2 + 1) (2 ^ k))
    · rw [e2] at h; cases h
    · rw [e2] at h
      obtain ⟨e3, e4⟩ := zz_and e2
      obtain ⟨e4, e5⟩ := zz_and e4
      have y3 := Nat.le_of_ble_eq_true e3
      have y4 := zzLe_ok e4
      have y5 := zzLe_ok e5
      have q := tt_or (a := yyG ρ x) (b := yyG ρ y) y3 (by omega) (by omega) (by omega) (by omega)
      exact ttRs_ni hS h q.1 (by omega)
def ttSl (X : ttX) (x y : yyN) (f : ttX → yyN → Bool) : Bool := match zzEq x.1 0 && zzEq x.2.2 1 with
  | false => ttNi X (-2147483648) 2147483647 f
  | true => ttBd X.2.1 y fun l2 h2 => match zzLe 0 l2 && zzLe h2 30 with
    | true => ttNi X (2 ^ l2.toNat) (2 ^ h2.toNat) f
    | false => ttNi X (-2147483648) 2147483647 f
theorem tt_pow {a b : Nat} (h : a ≤ b) : (2 : Int) ^ a ≤ 2 ^ b := by
  have : (2 : Nat) ^ a ≤ 2 ^ b := Nat.pow_le_pow_right (by decide) h
  have e1 : ((2 ^ a : Nat) : Int) = (2 : Int) ^ a := by norm_cast
  have e2 : ((2 ^ b : Nat) : Int) = (2 : Int) ^ b := by norm_cast
  omega
theorem ttSl_ok {H : xH} {X : ttX} {ρ : Nat → Int} {x y : yyN} {f : ttX → yyN → Bool} (hS : ttSat H X ρ) (h : ttSl X x y f = true) : ttRs H X ρ f (xShl (yyG ρ x) (yyG ρ y)) := by
  unfold ttSl at h
  have r : (-2147483648 : Int) ≤ xShl (yyG ρ x) (yyG ρ y) ∧ xShl (yyG ρ x) (yyG ρ y) < 2147483648 := xi_in _
  cases e : zzEq x.1 0 && zzEq x.2.2 1
  · rw [e] at h
    exact ttRs_ni hS h r.1 (by omega)
  · rw [e] at h
    obtain ⟨e1, e2⟩ := zz_and e
    have gx : yyG ρ x = 1 := by show x.1 * ρ x.2.1 + x.2.2 = 1; rw [zzEq_ok e1, zzEq_ok e2, Int.zero_mul, Int.zero_add]
    obtain ⟨l2, h2, h, b1, b2⟩ := ttBd_ok hS h
    cases e3 : zzLe 0 l2 && zzLe h2 30
    · rw [e3] at h
      exact ttRs_ni hS h r.1 (by omega)
    · rw [e3] at h
      obtain ⟨e4, e5⟩ := zz_and e3
      have z4 := zzLe_ok e4
      have z5 := zzLe_ok e5
      have q := tt_shl1 (yyG ρ y).toNat (by omega)
      rw [Int.toNat_of_nonneg (by omega)] at q
      rw [gx, q]
      exact ttRs_ni hS h (tt_pow (by omega)) (tt_pow (by omega))
/-- held within l .. h by w, if it isn't there already -/
def ttCs (X : ttX) (x : yyN) (l h : Int) (f : ttX → yyN → Bool) : Bool := ttBd X.2.1 x fun l1 h1 => match zzLe l l1 && zzLe h1 h with
  | true => f X x
  | false => ttNi X l h f
theorem ttCs_ok {H : xH} {X : ttX} {ρ : Nat → Int} {x : yyN} {l hh y : Int} {f : ttX → yyN → Bool} (hS : ttSat H X ρ) (hx : ttW X.1 x) (h : ttCs X x l hh f = true) (h1 : l ≤ y) (h2 : y ≤ hh) (e : l ≤ yyG ρ x → yyG ρ x ≤ hh → yyG ρ x = y) : ttRs H X ρ f y := by
  unfold ttCs at h
  obtain ⟨l1, h3, h, a1, a2⟩ := ttBd_ok hS h
  cases e2 : zzLe l l1 && zzLe h3 hh
  · rw [e2] at h
    exact ttRs_ni hS h h1 h2
  · rw [e2] at h
    obtain ⟨z1, z2⟩ := zz_and e2
    have z1 := zzLe_ok z1
    have z2 := zzLe_ok z2
    exact ttRs_ex hS h hx (e (by omega) (by omega))
def ttNg (X : ttX) (x : yyN) (f : ttX → yyN → Bool) : Bool := ttBd X.2.1 x fun l1 h1 => match zzLe (-2147483647) l1 && zzLe h1 2147483647 with
  | true => f X (yyMul (-1) x)
  | false => ttNi X (-2147483648) 2147483647 f
theorem ttNg_ok {H : xH} {X : ttX} {ρ : Nat → Int} {x : yyN} {f : ttX → yyN → Bool} (hS : ttSat H X ρ) (hx : ttW X.1 x) (h : ttNg X x f = true) : ttRs H X ρ f (w32 (-(yyG ρ x))) := by
  unfold ttNg at h
  obtain ⟨l1, h1, h, a1, a2⟩ := ttBd_ok hS h
  have r : (-2147483648 : Int) ≤ w32 (-(yyG ρ x)) ∧ w32 (-(yyG ρ x)) < 2147483648 := w32_in _
  cases e : zzLe (-2147483647) l1 && zzLe h1 2147483647
  · rw [e] at h
    exact ttRs_ni hS h r.1 (by omega)
  · rw [e] at h
    obtain ⟨z1, z2⟩ := zz_and e
    have z1 := zzLe_ok z1
    have z2 := zzLe_ok z2
    rw [w32_eq (show (-2147483648 : Int) ≤ -(yyG ρ x) ∧ -(yyG ρ x) < 2147483648 by omega)]
    exact ttRs_ex hS h (yyMul_w hx) (by rw [yyMul_ok]; omega)
def ttMx (X : ttX) (x y : yyN) (f : ttX → yyN → Bool) : Bool := ttBd X.2.1 x fun l1 h1 => ttBd X.2.1 y fun l2 h2 => ttSm 3 X x y (max l1 l2) (max h1 h2) f
theorem ttMx_ok {H : xH} {X : ttX} {ρ : Nat → Int} {x y : yyN} {f : ttX → yyN → Bool} (hS : ttSat H X ρ) (hx : ttW X.1 x) (hy : ttW X.1 y) (h : ttMx X x y f = true) : ttRs H X ρ f (max (yyG ρ x) (yyG ρ y)) := by
  unfold ttMx at h
  obtain ⟨l1, h1, h, a1, a2⟩ := ttBd_ok hS h
  obtain ⟨l2, h2, h, b1, b2⟩ := ttBd_ok hS h
  exact ttSm_ok (op := 3) hS hx hy h (by show max l1 l2 ≤ max (yyG ρ x) (yyG ρ y); omega) (by show max (yyG ρ x) (yyG ρ y) ≤ max h1 h2; omega)
def ttMn (X : ttX) (x y : yyN) (f : ttX → yyN → Bool) : Bool := ttBd X.2.1 x fun l1 h1 => ttBd X.2.1 y fun l2 h2 => ttSm 2 X x y (min l1 l2) (min h1 h2) f
theorem ttMn_ok {H : xH} {X : ttX} {ρ : Nat → Int} {x y : yyN} {f : ttX → yyN → Bool} (hS : ttSat H X ρ) (hx : ttW X.1 x) (hy : ttW X.1 y) (h : ttMn X x y f = true) : ttRs H X ρ f (min (yyG ρ x) (yyG ρ y)) := by
  unfold ttMn at h
  obtain ⟨l1, h1, h, a1, a2⟩ := ttBd_ok hS h
  obtain ⟨l2, h2, h, b1, b2⟩ := ttBd_ok hS h
  exact ttSm_ok (op := 2) hS hx hy h (by show min l1 l2 ≤ min (yyG ρ x) (yyG ρ y); omega) (by show min (yyG ρ x) (yyG ρ y) ≤ min h1 h2; omega)
/-! tests of two numbers that aren't fixed: their difference is kept in mind -/
def ttDf (X : ttX) (x y : yyN) (lo : Int) (f : ttX → Bool) : Bool := match zzEq x.1 1 && (zzEq y.1 1 && !Nat.beq x.2.1 y.2.1) with
  | false => f X
  | true => ttBd X.2.1 x fun l1 h1 => ttBd X.2.1 y fun l2 h2 => match zzLe (-2147483648) (l1 - h2) && zzLe (h1 - l2) 2147483647 with
    | false => f X
    | true => ttSn 0 X x (yyMul (-1) y) (max lo (l1 - h2)) (h1 - l2) 1 0 fun X' _ => f X'
/-- the run goes on, maybe with a new id -/
def ttGn (H : xH) (X : ttX) (ρ : Nat → Int) (f : ttX → Bool) : Prop := ∃ (X' : ttX) (ρ' : Nat → Int), f X' = true ∧ X.1 ≤ X'.1 ∧ ttAg X.1 ρ ρ' ∧ ttSat H X' ρ'
theorem ttDf_ok {H : xH} {X : ttX} {ρ : Nat → Int} {x y : yyN} {lo : Int} {f : ttX → Bool} (hS : ttSat H X ρ) (hx : ttW X.1 x) (hy : ttW X.1 y) (h : ttDf X x y lo f = true) (hd : lo ≤ yyG ρ x - yyG ρ y) : ttGn H X ρ f := by
  unfold ttDf at h
  cases e : zzEq x.1 1 && (zzEq y.1 1 && !Nat.beq x.2.1 y.2.1)
  · rw [e] at h
    exact ⟨X, ρ, h, Nat.le_refl _, ttAg_rf _ _, hS⟩
  · rw [e] at h
    obtain ⟨l1, h1, h, a1, a2⟩ := ttBd_ok hS h
    obtain ⟨l2, h2, h, b1, b2⟩ := ttBd_ok hS h
    cases e2 : zzLe (-2147483648) (l1 - h2) && zzLe (h1 - l2) 2147483647
    · rw [e2] at h
      exact ⟨X, ρ, h, Nat.le_refl _, ttAg_rf _ _, hS⟩
    · rw [e2] at h
      obtain ⟨z1, z2⟩ := zz_and e2
      have z1 := zzLe_ok z1
      have z2 := zzLe_ok z2
      have em : yyG ρ (yyMul (-1) y) = -1 * yyG ρ y := yyMul_ok (-1) y
      have ew : ttOf 0 (yyG ρ x) (yyG ρ (yyMul (-1) y)) = yyG ρ x - yyG ρ y := by
        show w32 (yyG ρ x + yyG ρ (yyMul (-1) y)) = yyG ρ x - yyG ρ y
        rw [em, show yyG ρ x + -1 * yyG ρ y = yyG ρ x - yyG ρ y by omega]
        exact w32_eq (show (-2147483648 : Int) ≤ yyG ρ x - yyG ρ y ∧ yyG ρ x - yyG ρ y < 2147483648 by omega)
      obtain ⟨X', ρ', v, q1, q2, q3, q4, -, -⟩ := ttSn_ok (op := 0) (w := yyG ρ x - yyG ρ y) hS hx (yyMul_w (k := -1) hy) h (by omega) (by omega) (by rw [ew]; omega)
      exact ⟨X', ρ', q1, q2, q3, q4⟩
/-- by a difference that is known: p of x - y, or q of y - x -/
def ttDi (X : ttX) (x y : yyN) (p q : Int → Int → Bool) : Bool := ttBd X.2.1 x fun l1 h1 => ttBd X.2.1 y fun l2 h2 => match zzLe (-2147483647) (l1 - h2) && zzLe (h1 - l2) 2147483647 with
  | false => false
  | true => match ttFe 0 X.2.2.2 x (yyMul (-1) y) with
    | some v => ttBd X.2.1 v p
    | none => match ttFe 0 X.2.2.2 y (yyMul (-1) x) with
      | some v => ttBd X.2.1 v q
      | none => false
theorem ttDi_e {H : xH} {X : ttX} {ρ : Nat → Int} {x y v : yyN} (hS : ttSat H X ρ) (e : ttFe 0 X.2.2.2 x (yyMul (-1) y) = some v) (h1 : (-2147483648 : Int) ≤ yyG ρ x - yyG ρ y) (h2 : yyG ρ x - yyG ρ y ≤ 2147483647) : yyG ρ v = yyG ρ x - yyG ρ y := by
  obtain ⟨-, q⟩ := hS.2.2 _ (ttFe_ok e)
  have q : yyG ρ v = w32 (yyG ρ x + yyG ρ (yyMul (-1) y)) := q
  rw [yyMul_ok, show yyG ρ x + -1 * yyG ρ y = yyG ρ x - yyG ρ y by omega] at q
  rw [q]
  exact w32_eq (show (-2147483648 : Int) ≤ yyG ρ x - yyG ρ y ∧ yyG ρ x - yyG ρ y < 2147483648 by omega)
theorem ttDi_ok {H : xH} {X : ttX} {ρ : Nat → Int} {x y : yyN} {p q : Int → Int → Bool} (hS : ttSat H X ρ) (h : ttDi X x y p q = true) : (∃ l u, p l u = true ∧ l ≤ yyG ρ x - yyG ρ y ∧ yyG ρ x - yyG ρ y ≤ u) ∨ (∃ l u, q l u = true ∧ l ≤ yyG ρ y - yyG ρ x ∧ yyG ρ y - yyG ρ x ≤ u) := by
  unfold ttDi at h
  obtain ⟨l1, h1, h, a1, a2⟩ := ttBd_ok hS h
  obtain ⟨l2, h2, h, b1, b2⟩ := ttBd_ok hS h
  cases e : zzLe (-2147483647) (l1 - h2) && zzLe (h1 - l2) 2147483647
  · rw [e] at h; cases h
  · rw [e] at h
    obtain ⟨z1, z2⟩ := zz_and e
    have z1 := zzLe_ok z1
    have z2 := zzLe_ok z2
    simp only [] at h
    cases e2 : ttFe 0 X.2.2.2 x (yyMul (-1) y) with
    | some v =>
      rw [e2] at h
      obtain ⟨l, u, h, c1, c2⟩ := ttBd_ok hS h
      have := ttDi_e hS e2 (by omega) (by omega)
      exact Or.inl ⟨l, u, h, by omega, by omega⟩
    | none =>
      rw [e2] at h
      simp only [] at h
      cases e3 : ttFe 0 X.2.2.2 y (yyMul (-1) x) with
      | some v =>
        rw [e3] at h
        obtain ⟨l, u, h, c1, c2⟩ := ttBd_ok hS h
        have := ttDi_e hS e3 (by omega) (by omega)
        exact Or.inr ⟨l, u, h, by omega, by omega⟩
      | none => rw [e3] at h; cases h
def ttDc (c : ClassFile.Cond) (X : ttX) (x y : yyN) : Bool := match c with
  | .eq => ttDi X x y (fun l h => zzLe 1 l || zzLe h (-1)) (fun l h => zzLe 1 l || zzLe h (-1))
  | .ne => false
  | .lt => ttDi X x y (fun l _ => zzLe 0 l) (fun _ h => zzLe h 0)
  | .ge => ttDi X x y (fun _ h => zzLe h (-1)) (fun l _ => zzLe 1 l)
  | .gt => ttDi X x y (fun _ h => zzLe h 0) (fun l _ => zzLe 0 l)
  | .le => ttDi X x y (fun l _ => zzLe 1 l) (fun _ h => zzLe h (-1))
theorem ttDc_ok {H : xH} {X : ttX} {ρ : Nat → Int} {c : ClassFile.Cond} {x y : yyN} (hS : ttSat H X ρ) (h : ttDc c X x y = true) : ¬ xT c (yyG ρ x) (yyG ρ y) := by
  intro ht
  cases c
  · have ht : yyG ρ x = yyG ρ y := ht
    rcases ttDi_ok hS (show ttDi X x y _ _ = true from h) with ⟨l, u, h, c1, c2⟩ | ⟨l, u, h, c1, c2⟩ <;> rcases Bool.or_eq_true _ _ ▸ h with z | z <;> have := zzLe_ok z <;> omega
  · cases h
  · have ht : yyG ρ x < yyG ρ y := ht
    rcases ttDi_ok hS (show ttDi X x y _ _ = true from h) with ⟨l, u, h, c1, c2⟩ | ⟨l, u, h, c1, c2⟩ <;> have := zzLe_ok h <;> omega
  · have ht : yyG ρ y ≤ yyG ρ x := ht
    rcases ttDi_ok hS (show ttDi X x y _ _ = true from h) with ⟨l, u, h, c1, c2⟩ | ⟨l, u, h, c1, c2⟩ <;> have := zzLe_ok h <;> omega
  · have ht : yyG ρ y < yyG ρ x := ht
    rcases ttDi_ok hS (show ttDi X x y _ _ = true from h) with ⟨l, u, h, c1, c2⟩ | ⟨l, u, h, c1, c2⟩ <;> have := zzLe_ok h <;> omega
  · have ht : yyG ρ x ≤ yyG ρ y := ht
    rcases ttDi_ok hS (show ttDi X x y _ _ = true from h) with ⟨l, u, h, c1, c2⟩ | ⟨l, u, h, c1, c2⟩ <;> have := zzLe_ok h <;> omega
def ttA3s (c : ClassFile.Cond) (X : ttX) (x y : yyN) (f : ttX → Bool) : Bool := match c with
  | .lt => ttAs .lt X x y fun X1 => ttDf X1 y x 1 f
  | .ge => ttAs .ge X x y fun X1 => ttDf X1 x y 0 f
  | .gt => ttAs .gt X x y fun X1 => ttDf X1 x y 1 f
  | .le => ttAs .le X x y fun X1 => ttDf X1 y x 0 f
  | c => ttAs c X x y f
theorem ttA3s_ok {H : xH} {X : ttX} {ρ : Nat → Int} {c : ClassFile.Cond} {x y : yyN} {f : ttX → Bool} (hS : ttSat H X ρ) (hx : ttW X.1 x) (hy : ttW X.1 y) (h : ttA3s c X x y f = true) (ht : xT c (yyG ρ x) (yyG ρ y)) : ttGn H X ρ f := by
  have fin : ttGo H X ρ f → ttGn H X ρ f := fun ⟨X1, q1, q2, q3⟩ => ⟨X1, ρ, q1, by rw [q2]; exact Nat.le_refl _, ttAg_rf _ _, q3⟩
  have mid : ∀ (a b : yyN) (lo : Int), ttW X.1 a → ttW X.1 b → lo ≤ yyG ρ a - yyG ρ b → ttGo H X ρ (fun X1 => ttDf X1 a b lo f) → ttGn H X ρ f := fun a b lo wa wb hd ⟨X1, q1, q2, q3⟩ => by
    obtain ⟨X2, ρ2, p1, p2, p3, p4⟩ := ttDf_ok q3 (by rw [q2]; exact wa) (by rw [q2]; exact wb) q1 hd
    exact ⟨X2, ρ2, p1, by rw [← q2]; exact p2, by rw [← q2]; exact p3, p4⟩
  cases c
  · exact fin (ttAs_ok (c := .eq) hS hx hy h ht)
  · exact fin (ttAs_ok (c := .ne) hS hx hy h ht)
  · have ht2 : yyG ρ x < yyG ρ y := ht
    exact mid y x 1 hy hx (by omega) (ttAs_ok (c := .lt) hS hx hy h ht)
  · have ht2 : yyG ρ y ≤ yyG ρ x := ht
    exact mid x y 0 hx hy (by omega) (ttAs_ok (c := .ge) hS hx hy h ht)
  · have ht2 : yyG ρ y < yyG ρ x := ht
    exact mid x y 1 hx hy (by omega) (ttAs_ok (c := .gt) hS hx hy h ht)
  · have ht2 : yyG ρ x ≤ yyG ρ y := ht
    exact mid y x 0 hy hx (by omega) (ttAs_ok (c := .le) hS hx hy h ht)
def ttA2s (c : ClassFile.Cond) (X : ttX) (x y : yyN) (f : ttX → Bool) : Bool := match ttDc c X x y with
  | true => true
  | false => ttA3s c X x y f
theorem ttA2s_ok {H : xH} {X : ttX} {ρ : Nat → Int} {c : ClassFile.Cond} {x y : yyN} {f : ttX → Bool} (hS : ttSat H X ρ) (hx : ttW X.1 x) (hy : ttW X.1 y) (h : ttA2s c X x y f = true) (ht : xT c (yyG ρ x) (yyG ρ y)) : ttGn H X ρ f := by
  unfold ttA2s at h
  cases e : ttDc c X x y
  · rw [e] at h
    exact ttA3s_ok hS hx hy h ht
  · exact absurd ht (ttDc_ok hS e)
/-- q - v is lo at least -/
def ttDl (X : ttX) (q v : yyN) (lo : Int) : Bool := match yyAdd q (yyMul (-1) v) with
  | some z => ttBd X.2.1 z fun l _ => zzLe lo l
  | none => match ttFe 0 X.2.2.2 (q.1, q.2.1, 0) (yyMul (-1) (v.1, v.2.1, 0)) with
    | some w => ttBd X.2.1 (q.1, q.2.1, 0) fun l1 h1 => ttBd X.2.1 (v.1, v.2.1, 0) fun l2 h2 => (zzLe (-2147483648) (l1 - h2) && zzLe (h1 - l2) 2147483647) && ttBd X.2.1 w fun l _ => zzLe lo (l + q.2.2 - v.2.2)
    | none => ttBd X.2.1 q fun l1 _ => ttBd X.2.1 v fun _ h2 => zzLe lo (l1 - h2)
theorem ttDl_ok {H : xH} {X : ttX} {ρ : Nat → Int} {q v : yyN} {lo : Int} (hS : ttSat H X ρ) (h : ttDl X q v lo = true) : lo ≤ yyG ρ q - yyG ρ v := by
  unfold ttDl at h
  cases e : yyAdd q (yyMul (-1) v) with
  | some z =>
    rw [e] at h
    obtain ⟨l, u, h, a1, a2⟩ := ttBd_ok hS h
    have h := zzLe_ok h
    have k := yyAdd_ok (ρ := ρ) e
    rw [yyMul_ok] at k
    omega
  | none =>
    rw [e] at h
    simp only [] at h
    cases e2 : ttFe 0 X.2.2.2 (q.1, q.2.1, 0) (yyMul (-1) (v.1, v.2.1, 0)) with
    | some w =>
      rw [e2] at h
      obtain ⟨l1, h1, h, a1, a2⟩ := ttBd_ok hS h
      obtain ⟨l2, h2, h, b1, b2⟩ := ttBd_ok hS h
      obtain ⟨h0, h⟩ := zz_and h
      obtain ⟨z1, z2⟩ := zz_and h0
      have z1 := zzLe_ok z1
      have z2 := zzLe_ok z2
      obtain ⟨l, u, h, c1, c2⟩ := ttBd_ok hS h
      have h := zzLe_ok h
      have k := ttDi_e hS e2 (by omega) (by omega)
      have gq : yyG ρ q = yyG ρ (q.1, q.2.1, 0) + q.2.2 := by
        show q.1 * ρ q.2.1 + q.2.2 = (q.1 * ρ q.2.1 + 0) + q.2.2
        omega
      have gv : yyG ρ v = yyG ρ (v.1, v.2.1, 0) + v.2.2 := by
        show v.1 * ρ v.2.1 + v.2.2 = (v.1 * ρ v.2.1 + 0) + v.2.2
        omega
      omega
    | none =>
      rw [e2] at h
      obtain ⟨l1, h1, h, a1, a2⟩ := ttBd_ok hS h
      obtain ⟨l2, h2, h, b1, b2⟩ := ttBd_ok hS h
      have h := zzLe_ok h
      omega
/-- bounds of ids by the differences that are known -/
def ttTg (X : ttX) : List ((Nat × yyN × yyN) × yyN) → (ttX → Bool) → Bool
  | [], f => f X
  | ((op, x, y), w) :: r, f => match Nat.beq op 0 && (zzEq x.1 1 && zzEq y.1 (-1)) with
    | false => ttTg X r f
    | true => ttBd X.2.1 x fun l1 h1 => ttBd X.2.1 y fun l2 h2 => match zzLe (-2147483648) (l1 + l2) && zzLe (h1 + h2) 2147483647 with
      | false => ttTg X r f
      | true => ttBd X.2.1 w fun l3 h3 => ttRf X (yyMul (-1) y) (l1 - h3) (h1 - l3) fun X' => ttTg X' r f
theorem ttTg_ok {H : xH} {ρ : Nat → Int} {f : ttX → Bool} : ∀ {l : List ((Nat × yyN × yyN) × yyN)} {X : ttX}, ttSat H X ρ → (∀ e ∈ l, (ttW X.1 e.1.2.1 ∧ ttW X.1 e.1.2.2 ∧ ttW X.1 e.2) ∧ yyG ρ e.2 = ttOf e.1.1 (yyG ρ e.1.2.1) (yyG ρ e.1.2.2)) → ttTg X l f = true → ttGo H X ρ f
  | [], X, hS, _, h => ⟨X, h, rfl, hS⟩
  | ((op, x, y), w) :: r, X, hS, hl, h => by
    have hl' : ∀ e ∈ r, (ttW X.1 e.1.2.1 ∧ ttW X.1 e.1.2.2 ∧ ttW X.1 e.2) ∧ yyG ρ e.2 = ttOf e.1.1 (yyG ρ e.1.2.1) (yyG ρ e.1.2.2) := fun e he => hl e (List.mem_cons_of_mem _ he)
    have h : (match Nat.beq op 0 && (zzEq x.1 1 && zzEq y.1 (-1)) with
      | false => ttTg X r f
      | true => ttBd X.2.1 x fun l1 h1 => ttBd X.2.1 y fun l2 h2 => match zzLe (-2147483648) (l1 + l2) && zzLe (h1 + h2) 2147483647 with
        | false => ttTg X r f
        | true => ttBd X.2.1 w fun l3 h3 => ttRf X (yyMul (-1) y) (l1 - h3) (h1 - l3) fun X' => ttTg X' r f) = true := h
    cases e : Nat.beq op 0 && (zzEq x.1 1 && zzEq y.1 (-1))
    · rw [e] at h
      exact ttTg_ok hS hl' h
    · rw [e] at h
      obtain ⟨e1, -⟩ := zz_and e
      have hop := Nat.eq_of_beq_eq_true e1
      simp only [] at h
      obtain ⟨l1, h1, h, a1, a2⟩ := ttBd_ok hS h
      obtain ⟨l2, h2, h, b1, b2⟩ := ttBd_ok hS h
      cases e2 : zzLe (-2147483648) (l1 + l2) && zzLe (h1 + h2) 2147483647
      · rw [e2] at h
        exact ttTg_ok hS hl' h
      · rw [e2] at h
        obtain ⟨z1, z2⟩ := zz_and e2
        have z1 := zzLe_ok z1
        have z2 := zzLe_ok z2
        obtain ⟨l3, h3, h, c1, c2⟩ := ttBd_ok hS h
        obtain ⟨⟨wx, wy, ww⟩, q⟩ := hl ((op, x, y), w) List.mem_cons_self
        have wy : ttW X.1 y := wy
        have q : yyG ρ w = ttOf op (yyG ρ x) (yyG ρ y) := q
        rw [hop] at q
        have q : yyG ρ w = w32 (yyG ρ x + yyG ρ y) := q
        rw [w32_eq (show (-2147483648 : Int) ≤ yyG ρ x + yyG ρ y ∧ yyG ρ x + yyG ρ y < 2147483648 by omega)] at q
        have em : yyG ρ (yyMul (-1) y) = -1 * yyG ρ y := yyMul_ok (-1) y
        refine ttGo_tr (ttRf_ok hS (yyMul_w (k := -1) wy) h (by omega) (by omega)) fun X' hf en hS' => ?_
        exact ttTg_ok hS' (by rw [en]; exact hl') hf
