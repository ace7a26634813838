/-! memory by roles -/
def ttTy (t : ttB5) (j : Int) : ttI := t.2.2.2.2.getD (j % t.2.2.2.1).toNat (9, 0, 0)
def ttTI (H : xH) : Prop := 210 ≤ H.2.2.2.1 ∧ ∀ a : Int, 1 ≤ a → a < (H.2.2.2.1 : Int) → H.2.1 a = (ttTb (ttRo a)).1 ∧ H.2.2.1 a = (ttTb (ttRo a)).2.1 ∧ ∀ j : Int, 0 ≤ j → j < (ttTb (ttRo a)).2.2.1 → ttM (H.2.2.2.1 : Int) (ttTy (ttTb (ttRo a)) j) (H.1 a j)
abbrev ttE3 : Type := List (Nat × Int × Int)
abbrev ttEf : Type := Bool × ttE3
def ttHit (q : Nat × Int × Int) (a j : Int) : Prop := (1 ≤ a ∧ ttRo a = q.1) ∧ q.2.1 ≤ j ∧ j ≤ q.2.2
/-- nothing but these places of these roles is another than before -/
def ttFr (ef : ttEf) (H0 H : xH) : Prop := (ef.1 = true → H.2 = H0.2) ∧ H0.2.2.2.1 ≤ H.2.2.2.1 ∧ (∀ a : Int, a < (H0.2.2.2.1 : Int) → H.2.1 a = H0.2.1 a ∧ H.2.2.1 a = H0.2.2.1 a) ∧ ∀ a j : Int, a < (H0.2.2.2.1 : Int) → (∀ q ∈ ef.2, ¬ ttHit q a j) → H.1 a j = H0.1 a j
theorem ttFr_rf (ef : ttEf) (H : xH) : ttFr ef H H := ⟨fun _ => rfl, Nat.le_refl _, fun _ _ => ⟨rfl, rfl⟩, fun _ _ _ _ => rfl⟩
def ttIn (e : ttE3) (r : Nat) (l h : Int) : Bool := e.any (fun q => Nat.beq q.1 r && (zzLe q.2.1 l && zzLe h q.2.2))
def ttSub (e e2 : ttE3) : Bool := e2.all (fun q => ttIn e q.1 q.2.1 q.2.2)
theorem ttIn_ok {e : ttE3} {r : Nat} {l h : Int} (k : ttIn e r l h = true) {a j : Int} (h1 : l ≤ j) (h2 : j ≤ h) (ha : 1 ≤ a) (hr : ttRo a = r) : ∃ q ∈ e, ttHit q a j := by
  obtain ⟨q, hq, z⟩ := List.any_eq_true.mp k
  obtain ⟨z1, z2⟩ := zz_and z
  obtain ⟨z2, z3⟩ := zz_and z2
  have z2 := zzLe_ok z2
  have z3 := zzLe_ok z3
  exact ⟨q, hq, ⟨ha, by rw [hr, Nat.eq_of_beq_eq_true z1]⟩, by omega, by omega⟩
theorem ttFr_tr {ef ef2 : ttEf} {H0 H H' : xH} (h : ttFr ef H0 H) (h2 : ttFr ef2 H H') (hn : ef.1 = true → ef2.1 = true) (hs : ttSub ef.2 ef2.2 = true) : ttFr ef H0 H' := by
  obtain ⟨a1, a2, a3, a4⟩ := h
  obtain ⟨b1, b2, b3, b4⟩ := h2
  refine ⟨fun z => (b1 (hn z)).trans (a1 z), Nat.le_trans a2 b2, fun a ha => ?_, fun a j ha hq => ?_⟩
  · have k1 := a3 a ha
    have k2 := b3 a (by omega)
    exact ⟨k2.1.trans k1.1, k2.2.trans k1.2⟩
  · refine (b4 a j (by omega) (fun q hm hh => ?_)).trans (a4 a j ha hq)
    obtain ⟨⟨c1, c2⟩, c3, c4⟩ := hh
    obtain ⟨q2, m, z⟩ := ttIn_ok (List.all_eq_true.mp hs q hm) c3 c4 c1 c2
    exact hq q2 m z
theorem ttFr_st (H : xH) {r : Nat} {l h a j : Int} (x : Int) (ha : 1 ≤ a) (hr : ttRo a = r) (h1 : l ≤ j) (h2 : j ≤ h) : ttFr (true, [(r, l, h)]) H (xUp H.1 a j x, H.2) := by
  refine ⟨fun _ => rfl, Nat.le_refl _, fun _ _ => ⟨rfl, rfl⟩, fun b k hb hq => ?_⟩
  show (if b = a ∧ k = j then x else H.1 b k) = H.1 b k
  rw [if_neg]
  rintro ⟨rfl, rfl⟩
  exact hq _ (List.mem_singleton.mpr rfl) ⟨⟨ha, hr⟩, h1, h2⟩
theorem ttTI_st {H : xH} (h : ttTI H) {a j x : Int} (hx : 0 ≤ j → j < (ttTb (ttRo a)).2.2.1 → ttM (H.2.2.2.1 : Int) (ttTy (ttTb (ttRo a)) j) x) : ttTI (xUp H.1 a j x, H.2) := by
  refine ⟨h.1, fun b b1 b2 => ?_⟩
  obtain ⟨k1, k2, k3⟩ := h.2 b b1 b2
  refine ⟨k1, k2, fun i i0 i1 => ?_⟩
  show ttM (H.2.2.2.1 : Int) (ttTy (ttTb (ttRo b)) i) (if b = a ∧ i = j then x else H.1 b i)
  by_cases e : b = a ∧ i = j
  · rw [if_pos e]
    obtain ⟨rfl, rfl⟩ := e
    exact hx i0 i1
  · rw [if_neg e]
    exact k3 i i0 i1
/-- the role of what a value names -/
def ttRl (X : ttX) (v : yyN) (f : Nat → Bool) : Bool := match v with
  | (c, u, o) => match zzEq c 0 with
    | true => (match zzLe 1 o && zzLe o 209 with
      | true => f (ttRo o)
      | false => false)
    | false => match zzEq c 1 && zzEq o 0 with
      | true => (match ttLk X.2.1 u with
        | (k, a, _) => match Nat.beq k 1 with
          | true => f a.toNat
          | false => false)
      | false => false
theorem ttRl_ok {H : xH} {X : ttX} {ρ : Nat → Int} {v : yyN} {f : Nat → Bool} (hT : ttTI H) (hS : ttSat H X ρ) (h : ttRl X v f = true) : f (ttRo (yyG ρ v)) = true ∧ 1 ≤ yyG ρ v ∧ yyG ρ v < (H.2.2.2.1 : Int) := by
  obtain ⟨c, u, o⟩ := v
  have g : yyG ρ (c, u, o) = c * ρ u + o := rfl
  rw [g]
  unfold ttRl at h
  simp only [] at h
  cases e : zzEq c 0
  · rw [e] at h
    simp only [] at h
    cases e2 : zzEq c 1 && zzEq o 0
    · rw [e2] at h; cases h
    · rw [e2] at h
      obtain ⟨e3, e4⟩ := zz_and e2
      have z3 := zzEq_ok e3
      have z4 := zzEq_ok e4
      subst z3
      subst z4
      rw [Int.one_mul, Int.add_zero]
      have k := ttLk_ok hS.1 u
      revert h k
      generalize ttLk X.2.1 u = q
      obtain ⟨kd, a, b⟩ := q
      intro h k
      simp only [] at h
      cases e5 : Nat.beq kd 1
      · rw [e5] at h; cases h
      · rw [e5] at h
        have := Nat.eq_of_beq_eq_true e5
        subst this
        obtain ⟨⟨k1, k2⟩, k3⟩ := k
        exact ⟨by rw [k3]; exact h, k1, k2⟩
  · rw [e] at h
    have z := zzEq_ok e
    subst z
    rw [Int.zero_mul, Int.zero_add]
    simp only [] at h
    cases e2 : zzLe 1 o && zzLe o 209
    · rw [e2] at h; cases h
    · rw [e2] at h
      obtain ⟨z1, z2⟩ := zz_and e2
      have z1 := zzLe_ok z1
      have z2 := zzLe_ok z2
      have := hT.1
      exact ⟨h, z1, by omega⟩
/-- is a value of this kind? -/
def ttChk (X : ttX) (v : yyN) (t : ttI) : Bool := match t with
  | (0, a, b) => ttBd X.2.1 v fun l h => zzLe a l && zzLe h b
  | (1, a, _) => ttRl X v fun r => Nat.beq r a.toNat
  | (2, a, _) => (zzEq v.1 0 && zzEq v.2.2 0) || ((zzEq v.1 1 && (zzEq v.2.2 0 && (match ttLk X.2.1 v.2.1 with | (k, b, _) => Nat.beq k 2 && zzEq b a))) || ttRl X v fun r => Nat.beq r a.toNat)
  | (4, a, b) => ttNz X v && ttBd X.2.1 v fun l h => zzLe a l && zzLe h b
  | _ => true
theorem ttChk_ok {H : xH} {X : ttX} {ρ : Nat → Int} {v : yyN} {t : ttI} (hT : ttTI H) (hS : ttSat H X ρ) (h : ttChk X v t = true) : ttM (H.2.2.2.1 : Int) t (yyG ρ v) := by
  obtain ⟨k, a, b⟩ := t
  match k, h with
  | 0, h =>
    have h : (ttBd X.2.1 v fun l h => zzLe a l && zzLe h b) = true := h
    obtain ⟨l, hh, z, a1, a2⟩ := ttBd_ok hS h
    obtain ⟨z1, z2⟩ := zz_and z
    have z1 := zzLe_ok z1
    have z2 := zzLe_ok z2
    exact ⟨by show a ≤ yyG ρ v; omega, by show yyG ρ v ≤ b; omega⟩
  | 1, h =>
    have h : (ttRl X v fun r => Nat.beq r a.toNat) = true := h
    obtain ⟨z, a1, a2⟩ := ttRl_ok hT hS h
    exact ⟨⟨a1, a2⟩, Nat.eq_of_beq_eq_true z⟩
  | 2, h =>
    have h : ((zzEq v.1 0 && zzEq v.2.2 0) || ((zzEq v.1 1 && (zzEq v.2.2 0 && (match ttLk X.2.1 v.2.1 with | (k, b, _) => Nat.beq k 2 && zzEq b a))) || ttRl X v fun r => Nat.beq r a.toNat)) = true := h
    rcases Bool.or_eq_true _ _ ▸ h with z | z
    · obtain ⟨z1, z2⟩ := zz_and z
      left
      show v.1 * ρ v.2.1 + v.2.2 = 0
      rw [zzEq_ok z1, zzEq_ok z2, Int.zero_mul]; rfl
    rcases Bool.or_eq_true _ _ ▸ z with z | z
    · obtain ⟨z1, z2⟩ := zz_and z
      obtain ⟨z2, z3⟩ := zz_and z2
      have g : yyG ρ v = ρ v.2.1 := by
        show v.1 * ρ v.2.1 + v.2.2 = ρ v.2.1
        rw [zzEq_ok z1, zzEq_ok z2, Int.one_mul, Int.add_zero]
      rw [g]
      have k := ttLk_ok hS.1 v.2.1
      revert z3 k
      generalize ttLk X.2.1 v.2.1 = q
      obtain ⟨kd, c, d⟩ := q
      intro z3 k
      have z3 : (Nat.beq kd 2 && zzEq c a) = true := z3
      obtain ⟨z3, z4⟩ := zz_and z3
      have := Nat.eq_of_beq_eq_true z3
      subst this
      have := zzEq_ok z4
      subst this
      exact k
    · obtain ⟨z, a1, a2⟩ := ttRl_ok hT hS z
      exact Or.inr ⟨⟨a1, a2⟩, Nat.eq_of_beq_eq_true z⟩
  | 3, _ => trivial
  | 4, h =>
    have h : (ttNz X v && ttBd X.2.1 v fun l h => zzLe a l && zzLe h b) = true := h
    obtain ⟨h1, h⟩ := zz_and h
    obtain ⟨l, hh, z, a1, a2⟩ := ttBd_ok hS h
    obtain ⟨z1, z2⟩ := zz_and z
    have z1 := zzLe_ok z1
    have z2 := zzLe_ok z2
    exact ⟨⟨by show a ≤ yyG ρ v; omega, by show yyG ρ v ≤ b; omega⟩, ttNz_ok hS h1⟩
  | _ + 5, _ => trivial
/-- which places, modulo m -/
def ttRe (X : ttX) (m : Int) (v : yyN) (f : List Nat → Bool) : Bool := match zzEq m 1 with
  | true => f [0]
  | false => match zzEq (v.1 % m) 0 with
    | true => f [(v.2.2 % m).toNat]
    | false => ttBd X.2.1 (1, v.2.1, 0) fun l h => match zzLe h (l + 300) with
      | true => f ((List.range (h - l + 1).toNat).map fun (i : Nat) => ((v.1 * (l + (i : Int)) + v.2.2) % m).toNat)
      | false => false
theorem ttRe_ok {H : xH} {X : ttX} {ρ : Nat → Int} {m : Int} {v : yyN} {f : List Nat → Bool} (hS : ttSat H X ρ) (h : ttRe X m v f = true) : ∃ rs, f rs = true ∧ (yyG ρ v % m).toNat ∈ rs := by
  unfold ttRe at h
  cases e : zzEq m 1
  · rw [e] at h
    simp only [] at h
    cases e2 : zzEq (v.1 % m) 0
    · rw [e2] at h
      obtain ⟨l, hh, h, a1, a2⟩ := ttBd_ok hS h
      have g : yyG ρ (1, v.2.1, 0) = ρ v.2.1 := by
        show 1 * ρ v.2.1 + 0 = ρ v.2.1
        rw [Int.one_mul, Int.add_zero]
      rw [g] at a1 a2
      cases e3 : zzLe hh (l + 300)
      · rw [e3] at h; cases h
      · rw [e3] at h
        refine ⟨_, h, List.mem_map.mpr ⟨(ρ v.2.1 - l).toNat, List.mem_range.mpr (by omega), ?_⟩⟩
        show ((v.1 * (l + ((ρ v.2.1 - l).toNat : Int)) + v.2.2) % m).toNat = ((v.1 * ρ v.2.1 + v.2.2) % m).toNat
        rw [show l + ((ρ v.2.1 - l).toNat : Int) = ρ v.2.1 by omega]
    · rw [e2] at h
      have z := zzEq_ok e2
      obtain ⟨k, hk⟩ := Int.dvd_of_emod_eq_zero z
      refine ⟨_, h, List.mem_singleton.mpr ?_⟩
      show ((v.1 * ρ v.2.1 + v.2.2) % m).toNat = (v.2.2 % m).toNat
      rw [hk, Int.mul_assoc, Int.add_comm, Int.add_mul_emod_self_left]
  · rw [e] at h
    have z := zzEq_ok e
    subst z
    exact ⟨_, h, by rw [Int.emod_one]; exact List.mem_singleton.mpr rfl⟩
def ttSb (t T : ttI) : Bool := match T with
  | (0, a, b) => Nat.beq t.1 0 && (zzLe a t.2.1 && zzLe t.2.2 b)
  | (k, a, b) => Nat.beq t.1 k && (zzEq t.2.1 a && zzEq t.2.2 b)
theorem ttSb_ok {N : Int} {t T : ttI} {x : Int} (h : ttSb t T = true) (hx : ttM N t x) : ttM N T x := by
  obtain ⟨k, a, b⟩ := T
  obtain ⟨k2, a2, b2⟩ := t
  by_cases e : k = 0
  · subst e
    have h : (Nat.beq k2 0 && (zzLe a a2 && zzLe b2 b)) = true := h
    obtain ⟨h1, h2⟩ := zz_and h
    obtain ⟨h2, h3⟩ := zz_and h2
    have := Nat.eq_of_beq_eq_true h1
    subst this
    have h2 := zzLe_ok h2
    have h3 := zzLe_ok h3
    have hx : a2 ≤ x ∧ x ≤ b2 := hx
    exact ⟨by show a ≤ x; omega, by show x ≤ b; omega⟩
  · have h : (Nat.beq k2 k && (zzEq a2 a && zzEq b2 b)) = true := by
      match k, e, h with
      | 0, e, _ => exact absurd rfl e
      | _ + 1, _, h => exact h
    obtain ⟨h1, h2⟩ := zz_and h
    obtain ⟨h2, h3⟩ := zz_and h2
    rw [← Nat.eq_of_beq_eq_true h1, ← zzEq_ok h2, ← zzEq_ok h3]
    exact hx
def ttJn (ts : List ttI) : List Nat → ttI
  | [] => (9, 0, 0)
  | [r] => ts.getD r (9, 0, 0)
  | r :: rs => match ts.getD r (9, 0, 0), ttJn ts rs with
    | (_, a, b), (k, c, d) => (k, min a c, max b d)
def ttLt (ts : List ttI) (rs : List Nat) (f : ttI → Bool) : Bool := match rs with
  | [r] => f (ts.getD r (9, 0, 0))
  | _ => match rs.all (fun r => ttSb (ts.getD r (9, 0, 0)) (ttJn ts rs)) with
    | true => f (ttJn ts rs)
    | false => false
theorem ttLt_ok {ts : List ttI} {rs : List Nat} {f : ttI → Bool} {N x : Int} {r : Nat} (h : ttLt ts rs f = true) (hr : r ∈ rs) (hx : ttM N (ts.getD r (9, 0, 0)) x) : ∃ T, f T = true ∧ ttM N T x := by
  unfold ttLt at h
  split at h
  · rw [List.mem_singleton.mp hr] at hx
    exact ⟨_, h, hx⟩
  · cases e : rs.all (fun r => ttSb (ts.getD r (9, 0, 0)) (ttJn ts rs))
    · rw [e] at h; cases h
    · rw [e] at h
      exact ⟨_, h, ttSb_ok (List.all_eq_true.mp e r hr) hx⟩
/-- a place is read -/
def ttGe (X : ttX) (a j : yyN) (T : ttI) (f : ttX → yyN → Bool) : Bool := match ttFd X.2.2.1 a j with
  | some v => f X v
  | none => match Nat.beq T.1 0 && zzEq T.2.1 T.2.2 with
   | true => f X (0, 0, T.2.1)
   | false => match X with
    | (n, B, K, E) => f (Nat.add n 1, (n, T) :: B, ((a, j), (1, n, 0)) :: K, E) (1, n, 0)
theorem ttGe_ok {H : xH} {X : ttX} {ρ : Nat → Int} {a j : yyN} {T : ttI} {f : ttX → yyN → Bool} (hS : ttSat H X ρ) (ha : ttW X.1 a) (hj : ttW X.1 j) (hT : ttM (H.2.2.2.1 : Int) T (H.1 (yyG ρ a) (yyG ρ j))) (h : ttGe X a j T f = true) : ttRs H X ρ f (H.1 (yyG ρ a) (yyG ρ j)) := by
  unfold ttGe at h
  cases e : ttFd X.2.2.1 a j with
  | some v =>
    rw [e] at h
    obtain ⟨⟨-, -, w⟩, q⟩ := hS.2.1 _ (ttFd_ok e)
    exact ttRs_ex hS h w q.symm
  | none =>
    rw [e] at h
    simp only [] at h
    cases e2 : Nat.beq T.1 0 && zzEq T.2.1 T.2.2
    rotate_left
    · rw [e2] at h
      obtain ⟨z1, z2⟩ := zz_and e2
      obtain ⟨tk, ta, tb⟩ := T
      have y1 : tk = 0 := Nat.eq_of_beq_eq_true z1
      have y2 : ta = tb := zzEq_ok z2
      clear z1 z2 e2
      subst y1
      subst y2
      obtain ⟨y1, y2⟩ := (show ta ≤ H.1 (yyG ρ a) (yyG ρ j) ∧ H.1 (yyG ρ a) (yyG ρ j) ≤ ta from hT)
      exact ttRs_ex hS h (Or.inl rfl) ((yyG_k ρ ta).trans (by omega))
    rw [e2] at h
    have k := ttSat_new (i := T) hS hT
    have ag := ttUp_ag ρ X.1 (H.1 (yyG ρ a) (yyG ρ j))
    refine ⟨((ttXn X T).1, (ttXn X T).2.1, ((a, j), (1, X.1, 0)) :: (ttXn X T).2.2.1, (ttXn X T).2.2.2), ttUp ρ X.1 (H.1 (yyG ρ a) (yyG ρ j)), (1, X.1, 0), h, Nat.le_succ _, ag, ⟨k.1, fun q hq => ?_, k.2.2⟩, Or.inr (Nat.lt_succ_self _), by rw [ttG_new]; omega⟩
    rcases List.mem_cons.mp hq with rfl | hq
    · refine ⟨⟨ttW_up (Nat.le_succ _) ha, ttW_up (Nat.le_succ _) hj, Or.inr (Nat.lt_succ_self _)⟩, ?_⟩
      show H.1 (yyG (ttUp ρ X.1 _) a) (yyG (ttUp ρ X.1 _) j) = yyG (ttUp ρ X.1 _) (1, X.1, 0)
      rw [yyG_ag ha ag, yyG_ag hj ag, ttG_new]
      omega
    · exact k.2.1 q hq
/-- what stays known, when these places are written -/
def ttKp (X : ttX) (e : ttE3) (q : (yyN × yyN) × yyN) : Bool := ttRl X q.1.1 fun r => e.all fun z => !Nat.beq z.1 r || ttBd X.2.1 q.1.2 fun l h => !(zzLe z.2.1 h && zzLe l z.2.2)
def ttKf (X : ttX) (e : ttE3) (f : ttX → Bool) : Bool := match X with
  | (n, B, K, E) => f (n, B, K.filter (ttKp (n, B, K, E) e), E)
def ttXk (X : ttX) (e : ttE3) : ttX := (X.1, X.2.1, X.2.2.1.filter (ttKp X e), X.2.2.2)
theorem ttKf_eq (X : ttX) (e : ttE3) (f : ttX → Bool) : ttKf X e f = f (ttXk X e) := rfl
theorem ttSat_fr {H H' : xH} {X : ttX} {ρ : Nat → Int} {ef : ttEf} (hT : ttTI H) (hS : ttSat H X ρ) (hF : ttFr ef H H') : ttSat H' (ttXk X ef.2) ρ := by
  refine ⟨fun q hq => ⟨(hS.1 q hq).1, ttM_up (by have := hF.2.1; omega) (hS.1 q hq).2⟩, fun q hq => ?_, hS.2.2⟩
  obtain ⟨hm, hk⟩ := List.mem_filter.mp hq
  obtain ⟨hw, hv⟩ := hS.2.1 q hm
  refine ⟨hw, ?_⟩
  obtain ⟨z, a1, a2⟩ := ttRl_ok hT hS hk
  rw [hF.2.2.2 _ _ a2 (fun p hp hh => ?_)]
  · exact hv
  · obtain ⟨⟨-, c2⟩, c3, c4⟩ := hh
    have k := List.all_eq_true.mp z p hp
    rcases Bool.or_eq_true _ _ ▸ k with k | k
    · rw [c2, Nat.beq_refl] at k; cases k
    · obtain ⟨l, hh, k, b1, b2⟩ := ttBd_ok hS k
      have k1 : zzLe p.2.1 hh = true := zzLe_iff.mpr (by omega)
      have k2 : zzLe l p.2.2 = true := zzLe_iff.mpr (by omega)
      rw [k1, k2] at k
      cases k
theorem ttSat_k {H : xH} {X : ttX} {ρ : Nat → Int} (hS : ttSat H X ρ) {a j v : yyN} (ha : ttW X.1 a) (hj : ttW X.1 j) (hv : ttW X.1 v) (e : H.1 (yyG ρ a) (yyG ρ j) = yyG ρ v) : ttSat H (X.1, X.2.1, ((a, j), v) :: X.2.2.1, X.2.2.2) ρ :=
  ⟨hS.1, fun q hq => by
    rcases List.mem_cons.mp hq with rfl | hq
    · exact ⟨⟨ha, hj, hv⟩, e⟩
    · exact hS.2.1 q hq, hS.2.2⟩
/-! lists of values -/
def ttF {α β : Type} (R : α → β → Prop) : List α → List β → Prop
  | [], [] => True
  | a :: as, v :: vs => R a v ∧ ttF R as vs
  | _, _ => False
theorem ttF_imp {α β : Type} {R R' : α → β → Prop} (h : ∀ a b, R a b → R' a b) : ∀ {as : List α} {vs : List β}, ttF R as vs → ttF R' as vs
  | [], [], _ => trivial
  | _ :: _, _ :: _, k => ⟨h _ _ k.1, ttF_imp h k.2⟩
theorem ttF_len {α β : Type} {R : α → β → Prop} : ∀ {as : List α} {vs : List β}, ttF R as vs → as.length = vs.length
  | [], [], _ => rfl
  | _ :: _, _ :: _, h => by rw [List.length_cons, List.length_cons, ttF_len h.2]
theorem ttF_getD {α β : Type} {R : α → β → Prop} {a0 : α} {b0 : β} (h0 : R a0 b0) : ∀ {as : List α} {vs : List β}, ttF R as vs → ∀ i, R (as.getD i a0) (vs.getD i b0)
  | [], [], _, _ => h0
  | _ :: _, _ :: _, h, 0 => h.1
  | _ :: _, _ :: _, h, i + 1 => ttF_getD h0 h.2 i
theorem ttF_set {α β : Type} {R : α → β → Prop} : ∀ {as : List α} {vs : List β}, ttF R as vs → ∀ (i : Nat) {a : α} {v : β}, R a v → ttF R (as.set i a) (vs.set i v)
  | [], [], _, _, _, _, _ => trivial
  | _ :: _, _ :: _, h, 0, _, _, hr => ⟨hr, h.2⟩
  | _ :: _, _ :: _, h, i + 1, _, _, hr => ⟨h.1, ttF_set h.2 i hr⟩
theorem ttF_take {α β : Type} {R : α → β → Prop} : ∀ (n : Nat) {as : List α} {vs : List β}, ttF R as vs → ttF R (as.take n) (vs.take n)
  | 0, _, _, _ => trivial
  | _ + 1, [], [], _ => trivial
  | n + 1, _ :: _, _ :: _, h => ⟨h.1, ttF_take n h.2⟩
theorem ttF_drop {α β : Type} {R : α → β → Prop} : ∀ (n : Nat) {as : List α} {vs : List β}, ttF R as vs → ttF R (as.drop n) (vs.drop n)
  | 0, _, _, h => h
  | _ + 1, [], [], _ => trivial
  | n + 1, _ :: _, _ :: _, h => ttF_drop n h.2
theorem ttF_app {α β : Type} {R : α → β → Prop} : ∀ {as : List α} {vs : List β} {bs : List α} {ws : List β}, ttF R as vs → ttF R bs ws → ttF R (as ++ bs) (vs ++ ws)
  | [], [], _, _, _, h => h
  | _ :: _, _ :: _, _, _, h, h2 => ⟨h.1, ttF_app h.2 h2⟩
theorem ttF_rev {α β : Type} {R : α → β → Prop} : ∀ {as : List α} {vs : List β}, ttF R as vs → ttF R as.reverse vs.reverse
  | [], [], _ => trivial
  | _ :: _, _ :: _, h => by
    rw [List.reverse_cons, List.reverse_cons]
    exact ttF_app (ttF_rev h.2) ⟨h.1, trivial⟩
/-- a value of the stack; one of a frame (9: nothing is known) -/
def ttR (ρ : Nat → Int) (n : Nat) (a : ttV) (v : xV) : Prop := a.1 = v.1 ∧ ttW n a.2 ∧ yyG ρ a.2 = v.2
def ttQ (ρ : Nat → Int) (n : Nat) (a : ttV) (v : xV) : Prop := a.1 = 9 ∨ ttR ρ n a v
theorem ttR_up {ρ ρ' : Nat → Int} {n m : Nat} (hn : n ≤ m) (h : ttAg n ρ ρ') {a : ttV} {v : xV} (k : ttR ρ n a v) : ttR ρ' m a v := ⟨k.1, ttW_up hn k.2.1, (yyG_ag k.2.1 h).trans k.2.2⟩
theorem ttQ_up {ρ ρ' : Nat → Int} {n m : Nat} (hn : n ≤ m) (h : ttAg n ρ ρ') {a : ttV} {v : xV} (k : ttQ ρ n a v) : ttQ ρ' m a v := k.imp id (ttR_up hn h)
def ttCat : List ttV → Nat
  | [] => 0
  | (t, _) :: r => match Nat.beq t 1 with
    | true => 2 + ttCat r
    | false => 1 + ttCat r
theorem ttCat_ok {ρ : Nat → Int} {n : Nat} : ∀ {as : List ttV} {vs : List xV}, ttF (ttR ρ n) as vs → ttCat as = xCat vs
  | [], [], _ => rfl
  | (t, x) :: r, (t2, y) :: s, h => by
    have e : t = t2 := h.1.1
    subst e
    rw [xCat_c, ← ttCat_ok h.2]
    show (match Nat.beq t 1 with | true => 2 + ttCat r | false => 1 + ttCat r) = _
    cases e : Nat.beq t 1
    · rw [if_neg (fun z => by rw [z] at e; cases e)]
    · rw [if_pos (Nat.eq_of_beq_eq_true e)]
def ttSt1 (L : List ttV) (i : Nat) (v : ttV) : List ttV := (match i with | 0 => L | k + 1 => match L.getD k (9, (0, 0, 0)) with | (t, _) => match Nat.beq t 1 with | true => L.set k (9, (0, 0, 0)) | false => L).set i v
def ttSt2 (L : List ttV) (i : Nat) (v : ttV) : List ttV := (ttSt1 L i v).set (i + 1) (9, (0, 0, 0))
theorem ttF_set9 {ρ : Nat → Int} {n : Nat} : ∀ {as : List ttV} {vs : List xV}, ttF (ttQ ρ n) as vs → ∀ (i : Nat) (v : xV), (as.getD i (9, (0, 0, 0))).1 = 9 → ttF (ttQ ρ n) as (vs.set i v)
  | [], [], _, _, _, _ => trivial
  | _ :: _, _ :: _, h, 0, _, e => ⟨Or.inl e, h.2⟩
  | _ :: _, _ :: _, h, i + 1, v, e => ⟨h.1, ttF_set9 h.2 i v e⟩
theorem ttSt1_ok {ρ : Nat → Int} {n : Nat} {L : List ttV} {L2 : List xV} (h : ttF (ttQ ρ n) L L2) (i : Nat) {v : ttV} {w : xV} (hr : ttQ ρ n v w) : ttF (ttQ ρ n) (ttSt1 L i v) (xSt1 L2 i w) := by
  unfold ttSt1 xSt1
  refine ttF_set ?_ i hr
  cases i with
  | zero => exact h
  | succ k =>
    have g := ttF_getD (a0 := ((9, (0, 0, 0)) : ttV)) (b0 := ((9, 0) : xV)) (Or.inl rfl) h k
    simp only []
    generalize ha : L.getD k (9, (0, 0, 0)) = a at g
    generalize L2.getD k (9, 0) = b at g
    obtain ⟨t, x⟩ := a
    obtain ⟨t2, y⟩ := b
    have hset : ttF (ttQ ρ n) (L.set k (9, (0, 0, 0))) (L2.set k (9, 0)) := ttF_set h k (Or.inl rfl)
    simp only []
    rcases g with g | g
    · have e : t = 9 := g
      subst e
      by_cases h1 : t2 = 1
      · subst h1
        exact ttF_set9 h k (9, 0) (by rw [ha])
      · match t2, h1 with
        | 0, _ => exact h
        | 1, h1 => exact absurd rfl h1
        | n + 2, _ => exact h
    · have e : t = t2 := g.1
      subst e
      by_cases h1 : t = 1
      · subst h1
        exact hset
      · match t, h1 with
        | 0, _ => exact h
        | 1, h1 => exact absurd rfl h1
        | n + 2, _ => exact h
theorem ttSt2_ok {ρ : Nat → Int} {n : Nat} {L : List ttV} {L2 : List xV} (h : ttF (ttQ ρ n) L L2) (i : Nat) {v : ttV} {w : xV} (hr : ttQ ρ n v w) : ttF (ttQ ρ n) (ttSt2 L i v) (xSt2 L2 i w) := ttF_set (ttSt1_ok h i hr) (i + 1) (Or.inl rfl)
def ttFl : List ttV → List ttV
  | [] => []
  | (t, x) :: r => match Nat.beq t 1 with
    | true => (1, x) :: (9, (0, 0, 0)) :: ttFl r
    | false => (t, x) :: ttFl r
def ttEn (n : Nat) (as : List ttV) : List ttV := ttFl as ++ List.replicate (n - (ttFl as).length) (9, (0, 0, 0))
theorem ttFl_ok {ρ : Nat → Int} {n : Nat} : ∀ {as : List ttV} {vs : List xV}, ttF (ttR ρ n) as vs → ttF (ttQ ρ n) (ttFl as) (xFlat vs)
  | [], [], _ => trivial
  | (t, x) :: r, (t2, y) :: s, h => by
    have e : t = t2 := h.1.1
    subst e
    have ih := ttFl_ok h.2
    rw [xFlat_c]
    show ttF (ttQ ρ n) (match Nat.beq t 1 with | true => (1, x) :: (9, (0, 0, 0)) :: ttFl r | false => (t, x) :: ttFl r) _
    cases e : Nat.beq t 1
    · rw [if_neg (fun z => by rw [z] at e; cases e)]
      exact ⟨Or.inr h.1, ih⟩
    · have e := Nat.eq_of_beq_eq_true e
      subst e
      rw [if_pos rfl]
      exact ⟨Or.inr h.1, Or.inl rfl, ih⟩
theorem ttF_rep {ρ : Nat → Int} {n : Nat} : ∀ k : Nat, ttF (ttQ ρ n) (List.replicate k (9, (0, 0, 0))) (List.replicate k (9, 0))
  | 0 => trivial
  | k + 1 => ⟨Or.inl rfl, ttF_rep k⟩
theorem ttEn_ok {ρ : Nat → Int} {n : Nat} (k : Nat) {as : List ttV} {vs : List xV} (h : ttF (ttR ρ n) as vs) : ttF (ttQ ρ n) (ttEn k as) (xEntry k vs) := by
  unfold ttEn xEntry
  rw [ttF_len (ttFl_ok h)]
  exact ttF_app (ttFl_ok h) (ttF_rep _)
def ttPush (rt : Nat) (x : yyN) (r : List ttV) : List ttV := match Nat.beq rt 3 with
  | true => r
  | false => (rt, x) :: r
theorem ttPush_ok {ρ : Nat → Int} {n : Nat} (rt : Nat) {x : yyN} {y : Int} {r : List ttV} {s : List xV} (hw : ttW n x) (hx : yyG ρ x = y) (h : ttF (ttR ρ n) r s) : ttF (ttR ρ n) (ttPush rt x r) (xPush rt y s) := by
  unfold ttPush xPush
  by_cases e : rt = 3
  · subst e; exact h
  · match rt, e with
    | 0, _ => exact ⟨⟨rfl, hw, hx⟩, h⟩
    | 1, _ => exact ⟨⟨rfl, hw, hx⟩, h⟩
    | 2, _ => exact ⟨⟨rfl, hw, hx⟩, h⟩
    | 3, e => exact absurd rfl e
    | k + 4, _ => exact ⟨⟨rfl, hw, hx⟩, h⟩
