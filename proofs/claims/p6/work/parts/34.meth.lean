/-! a method: from its entry and from each of its cuts -/
abbrev ttTr : Type := Int × (Nat × Int) × Int
/-- of a cut: its locals, what places hold, a number (with terms) that each round makes less, the locals that are still the arguments -/
abbrev ttCtA : Type := List (Nat × ttP) × List ttC × Int × List ttTr × List Nat
def ttA9 (N : Int) (p : Nat × ttP) (v : xV) : Prop := p.1 = 9 ∨ ttAm N p v
def ttMskA : List (Nat × ttP) → List ttV → List ttV
  | (t, _) :: ps, v :: L => (match Nat.beq t 9 with | true => (9, (0, 0, 0)) | false => v) :: ttMskA ps L
  | _, _ => []
def ttMsk : List (Nat × ttP) → List xV → List xV
  | (t, _) :: ps, v :: L => (match Nat.beq t 9 with | true => (9, 0) | false => v) :: ttMsk ps L
  | _, _ => []
def ttAc9 (X : ttX) : List ttV → List (Nat × ttP) → Bool
  | [], [] => true
  | (t, v) :: r, (t2, p) :: s => (match Nat.beq t2 9 with | true => true | false => Nat.beq t t2 && ttPc X v p) && ttAc9 X r s
  | _, _ => false
theorem ttAc9_ok {H : xH} {X : ttX} {ρ : Nat → Int} (hT : ttTI H) (hS : ttSat H X ρ) : ∀ {L : List ttV} {ps : List (Nat × ttP)} {L2 : List xV}, ttAc9 X L ps = true → ttF (ttQ ρ X.1) L L2 → ttF (ttA9 (H.2.2.2.1 : Int)) ps L2 ∧ ttF (ttR ρ X.1) (ttMskA ps L) (ttMsk ps L2)
  | [], [], [], _, _ => ⟨trivial, trivial⟩
  | (t, v) :: r, (t2, p) :: s, (t3, w) :: q, h, k => by
    obtain ⟨h1, h2⟩ := zz_and h
    obtain ⟨k1, k2⟩ := k
    obtain ⟨i1, i2⟩ := ttAc9_ok hT hS h2 k2
    cases e : Nat.beq t2 9
    · rw [e] at h1
      obtain ⟨h3, h4⟩ := zz_and h1
      have e3 := Nat.eq_of_beq_eq_true h3
      rcases k1 with z | z
      · have z : t = 9 := z
        rw [z] at e3
        rw [← e3] at e
        cases e
      · obtain ⟨z1, z2, z3⟩ := z
        have z1 : t = t3 := z1
        have z3 : yyG ρ v = w := z3
        refine ⟨⟨Or.inr ⟨by show t2 = t3; rw [← e3, z1], by show ttPm _ p w; rw [← z3]; exact ttPc_ok hT hS h4⟩, i1⟩, ?_⟩
        show ttF (ttR ρ X.1) ((match Nat.beq t2 9 with | true => (9, (0, 0, 0)) | false => (t, v)) :: ttMskA s r) ((match Nat.beq t2 9 with | true => (9, 0) | false => (t3, w)) :: ttMsk s q)
        rw [e]
        exact ⟨⟨z1, z2, z3⟩, i2⟩
    · refine ⟨⟨Or.inl (Nat.eq_of_beq_eq_true e), i1⟩, ?_⟩
      show ttF (ttR ρ X.1) ((match Nat.beq t2 9 with | true => (9, (0, 0, 0)) | false => (t, v)) :: ttMskA s r) ((match Nat.beq t2 9 with | true => (9, 0) | false => (t3, w)) :: ttMsk s q)
      rw [e]
      exact ⟨⟨rfl, ttR_0 ρ X.1⟩, i2⟩
  | [], [], _ :: _, _, k => k.elim
  | [], _ :: _, _, h, _ => by cases h
  | _ :: _, [], _, h, _ => by cases h
  | _ :: _, _ :: _, [], _, k => k.elim
/-- values of these kinds -/
def ttMkL : List (Nat × ttP) → ttX → (ttX → List ttV → Bool) → Bool
  | [], X, f => f X []
  | (t, p) :: r, X, f => match Nat.beq t 9 with
    | true => ttMkL r X fun X' vs => f X' ((9, (0, 0, 0)) :: vs)
    | false => ttMk X p fun X' v => ttMkL r X' fun X'' vs => f X'' ((t, v) :: vs)
theorem ttMkL_ok {H : xH} : ∀ {ps : List (Nat × ttP)} {L2 : List xV} {X : ttX} {ρ : Nat → Int} {f : ttX → List ttV → Bool}, ttSat H X ρ → ttF (ttA9 (H.2.2.2.1 : Int)) ps L2 → ttMkL ps X f = true → ∃ X' ρ' L, f X' L = true ∧ X.1 ≤ X'.1 ∧ ttAg X.1 ρ ρ' ∧ ttSat H X' ρ' ∧ ttF (ttQ ρ' X'.1) L L2 ∧ ttF (ttR ρ' X'.1) L (ttMsk ps L2)
  | [], [], X, ρ, f, hS, _, h => ⟨X, ρ, [], h, Nat.le_refl _, ttAg_rf _ _, hS, trivial, trivial⟩
  | (t, p) :: r, (t2, w) :: s, X, ρ, f, hS, hv, h => by
    obtain ⟨v1, v2⟩ := hv
    have h : (match Nat.beq t 9 with
      | true => ttMkL r X fun X' vs => f X' ((9, (0, 0, 0)) :: vs)
      | false => ttMk X p fun X' v => ttMkL r X' fun X'' vs => f X'' ((t, v) :: vs)) = true := h
    have em : ttMsk ((t, p) :: r) ((t2, w) :: s) = (match Nat.beq t 9 with | true => (9, 0) | false => (t2, w)) :: ttMsk r s := rfl
    rw [em]
    cases e : Nat.beq t 9
    · rw [e] at h
      rcases v1 with z | ⟨z1, z2⟩
      · have z : t = 9 := z
        rw [z] at e
        cases e
      · have z1 : t = t2 := z1
        obtain ⟨X1, ρ1, v, h, n1, g1, S1, w1, e1⟩ := ttMk_ok hS z2 h
        obtain ⟨X2, ρ2, L, h, n2, g2, S2, q1, q2⟩ := ttMkL_ok S1 v2 h
        have hr : ttR ρ2 X2.1 (t, v) (t2, w) := ttR_up n2 g2 ⟨z1, w1, e1⟩
        exact ⟨X2, ρ2, (t, v) :: L, h, Nat.le_trans n1 n2, ttAg_tr n1 g1 g2, S2, ⟨Or.inr hr, q1⟩, ⟨hr, q2⟩⟩
    · rw [e] at h
      obtain ⟨X2, ρ2, L, h, n2, g2, S2, q1, q2⟩ := ttMkL_ok hS v2 h
      exact ⟨X2, ρ2, (9, (0, 0, 0)) :: L, h, n2, g2, S2, ⟨Or.inl rfl, q1⟩, ⟨⟨rfl, ttR_0 ρ2 X2.1⟩, q2⟩⟩
  | [], _ :: _, _, _, _, _, hv, _ => hv.elim
  | _ :: _, [], _, _, _, _, hv, _ => hv.elim
theorem ttMsk_id {N : Int} : ∀ {ps : List (Nat × ttP)} {vs : List xV}, ttF (ttAm N) ps vs → ps.all (fun p => !Nat.beq p.1 9) = true → ttMsk ps vs = vs
  | [], [], _, _ => rfl
  | (t, p) :: r, (t2, w) :: s, h, k => by
    have k : (!Nat.beq t 9 && r.all (fun p => !Nat.beq p.1 9)) = true := k
    obtain ⟨k1, k2⟩ := zz_and k
    have em : ttMsk ((t, p) :: r) ((t2, w) :: s) = (match Nat.beq t 9 with | true => (9, 0) | false => (t2, w)) :: ttMsk r s := rfl
    rw [em, ttMsk_id h.2 k2, zz_nn k1]
  | [], _ :: _, h, _ => h.elim
  | _ :: _, [], h, _ => h.elim
/-! what each round makes less -/
def ttTm (H : xH) (vs : List xV) (t : ttTr) : Int := t.1 * (match zzEq t.2.2 (-1) with | true => ttCv H vs 0 t.2.1 | false => H.1 (ttCv H vs 0 t.2.1) t.2.2)
def ttMs (H : xH) (vs : List xV) : List ttTr → Int
  | [] => 0
  | t :: r => ttTm H vs t + ttMs H vs r
def ttLs (ρ : Nat → Int) : List (Int × yyN) → Int
  | [] => 0
  | (c, v) :: r => c * yyG ρ v + ttLs ρ r
def ttMv (X : ttX) (as : List ttV) : List ttTr → (List (Int × yyN) → Bool) → Bool
  | [], f => f []
  | (c, s, j) :: r, f => ttCa X as (0, 0, 0) s fun q => match zzEq j (-1) with
    | true => ttMv X as r fun l => f ((c, q) :: l)
    | false => match ttFd X.2.2.1 q (0, 0, j) with
      | some v => ttMv X as r fun l => f ((c, v) :: l)
      | none => false
def ttWs (n : Nat) (l : List (Int × yyN)) : Prop := ∀ q ∈ l, ttW n q.2
theorem ttMv_ok {H : xH} {X : ttX} {ρ : Nat → Int} {as : List ttV} {vs : List xV} (hS : ttSat H X ρ) (hv : ttF (ttR ρ X.1) as vs) : ∀ {ts : List ttTr} {f : List (Int × yyN) → Bool}, ttMv X as ts f = true → ∃ l, f l = true ∧ ttLs ρ l = ttMs H vs ts ∧ ttWs X.1 l
  | [], f, h => ⟨[], h, rfl, fun q hq => absurd hq List.not_mem_nil⟩
  | (c, s, j) :: r, f, h => by
    have h : (ttCa X as (0, 0, 0) s fun q => match zzEq j (-1) with
      | true => ttMv X as r fun l => f ((c, q) :: l)
      | false => match ttFd X.2.2.1 q (0, 0, j) with
        | some v => ttMv X as r fun l => f ((c, v) :: l)
        | none => false) = true := h
    obtain ⟨q, h, w, z⟩ := ttCa_ok (x := 0) hS (fun _ => ttF_R9 hv _) (Or.inl rfl) (yyG_c ρ 0) h
    have g : ttMs H vs ((c, s, j) :: r) = c * (match zzEq j (-1) with | true => ttCv H vs 0 s | false => H.1 (ttCv H vs 0 s) j) + ttMs H vs r := rfl
    rw [g]
    cases e : zzEq j (-1)
    · rw [e] at h
      simp only [] at h
      cases e3 : ttFd X.2.2.1 q (0, 0, j) with
      | none => rw [e3] at h; cases h
      | some v =>
        rw [e3] at h
        obtain ⟨l, h, i1, i2⟩ := ttMv_ok hS hv h
        obtain ⟨⟨-, -, w2⟩, y⟩ := hS.2.1 _ (ttFd_ok e3)
        have y : H.1 (yyG ρ q) (yyG ρ (0, 0, j)) = yyG ρ v := y
        rw [z, yyG_c] at y
        refine ⟨_, h, ?_, fun p hp => ?_⟩
        · show c * yyG ρ v + ttLs ρ l = c * H.1 (ttCv H vs 0 s) j + ttMs H vs r
          rw [i1, y]
        · rcases List.mem_cons.mp hp with rfl | hp
          · exact w2
          · exact i2 p hp
    · rw [e] at h
      obtain ⟨l, h, i1, i2⟩ := ttMv_ok hS hv h
      refine ⟨_, h, ?_, fun p hp => ?_⟩
      · show c * yyG ρ q + ttLs ρ l = c * ttCv H vs 0 s + ttMs H vs r
        rw [i1, z]
      · rcases List.mem_cons.mp hp with rfl | hp
        · exact w
        · exact i2 p hp
theorem ttLs_ag {n : Nat} {ρ ρ' : Nat → Int} (h : ttAg n ρ ρ') : ∀ {l : List (Int × yyN)}, ttWs n l → ttLs ρ' l = ttLs ρ l
  | [], _ => rfl
  | (c, v) :: r, hw => by
    show c * yyG ρ' v + ttLs ρ' r = c * yyG ρ v + ttLs ρ r
    rw [yyG_ag (hw (c, v) List.mem_cons_self) h, ttLs_ag h (fun q hq => hw q (List.mem_cons_of_mem _ hq))]
def ttNegs : List (Int × yyN) → List (Int × yyN)
  | [] => []
  | (c, v) :: r => (-c, v) :: ttNegs r
theorem ttLs_neg (ρ : Nat → Int) : ∀ l : List (Int × yyN), ttLs ρ (ttNegs l) = -(ttLs ρ l)
  | [] => rfl
  | (c, v) :: r => by
    show -c * yyG ρ v + ttLs ρ (ttNegs r) = -(c * yyG ρ v + ttLs ρ r)
    rw [ttLs_neg ρ r, Int.neg_mul]
    omega
theorem ttLs_app (ρ : Nat → Int) : ∀ l l2 : List (Int × yyN), ttLs ρ (l ++ l2) = ttLs ρ l + ttLs ρ l2
  | [], l2 => by show ttLs ρ l2 = 0 + ttLs ρ l2; omega
  | (c, v) :: r, l2 => by
    show c * yyG ρ v + ttLs ρ (r ++ l2) = (c * yyG ρ v + ttLs ρ r) + ttLs ρ l2
    rw [ttLs_app ρ r l2]
    omega
def ttIs (ρ : Nat → Int) : List (Int × Nat) → Int
  | [] => 0
  | (c, u) :: r => c * ρ u + ttIs ρ r
def ttAcm : List (Int × Nat) → Int → Nat → List (Int × Nat)
  | [], c, u => [(c, u)]
  | (c2, u2) :: r, c, u => match Nat.beq u u2 with
    | true => (c2 + c, u2) :: r
    | false => (c2, u2) :: ttAcm r c u
theorem ttAcm_ok (ρ : Nat → Int) (c : Int) (u : Nat) : ∀ l : List (Int × Nat), ttIs ρ (ttAcm l c u) = c * ρ u + ttIs ρ l
  | [] => rfl
  | (c2, u2) :: r => by
    have e0 : ttAcm ((c2, u2) :: r) c u = (match Nat.beq u u2 with | true => (c2 + c, u2) :: r | false => (c2, u2) :: ttAcm r c u) := rfl
    rw [e0]
    cases e : Nat.beq u u2
    · show c2 * ρ u2 + ttIs ρ (ttAcm r c u) = c * ρ u + (c2 * ρ u2 + ttIs ρ r)
      rw [ttAcm_ok ρ c u r]
      omega
    · have e := Nat.eq_of_beq_eq_true e
      subst e
      show (c2 + c) * ρ u + ttIs ρ r = c * ρ u + (c2 * ρ u + ttIs ρ r)
      rw [Int.add_mul]
      omega
def ttLin : List (Int × yyN) → (List (Int × Nat) → Int → Bool) → Bool
  | [], f => f [] 0
  | (k, c, u, o) :: r, f => ttLin r fun l s => match zzEq c 0 with
    | true => f l (s + k * o)
    | false => f (ttAcm l (k * c) u) (s + k * o)
theorem ttLin_ok (ρ : Nat → Int) : ∀ {l : List (Int × yyN)} {f : List (Int × Nat) → Int → Bool}, ttLin l f = true → ∃ q s, f q s = true ∧ ttLs ρ l = ttIs ρ q + s
  | [], f, h => ⟨[], 0, h, rfl⟩
  | (k, c, u, o) :: r, f, h => by
    obtain ⟨q, s, h, e⟩ := ttLin_ok ρ (l := r) h
    have g : ttLs ρ ((k, c, u, o) :: r) = k * (c * ρ u + o) + ttLs ρ r := rfl
    rw [g, e, Int.mul_add, ← Int.mul_assoc]
    cases e2 : zzEq c 0
    · rw [e2] at h
      exact ⟨_, _, h, by rw [ttAcm_ok]; omega⟩
    · rw [e2] at h
      have z := zzEq_ok e2
      subst z
      exact ⟨_, _, h, by rw [Int.mul_zero, Int.zero_mul]; omega⟩
def ttUbs (B : List (Nat × ttI)) : List (Int × Nat) → Int → Int → Bool
  | [], s, m => zzLe s m
  | (c, u) :: r, s, m => match zzEq c 0 with
    | true => ttUbs B r s m
    | false => ttBd B (c, u, 0) fun _ h => ttUbs B r (s + h) m
theorem ttUbs_ok {H : xH} {X : ttX} {ρ : Nat → Int} (hS : ttSat H X ρ) : ∀ {l : List (Int × Nat)} {s m : Int}, ttUbs X.2.1 l s m = true → ttIs ρ l + s ≤ m
  | [], s, m, h => by
    have := zzLe_ok h
    show 0 + s ≤ m
    omega
  | (c, u) :: r, s, m, h => by
    have h : (match zzEq c 0 with
      | true => ttUbs X.2.1 r s m
      | false => ttBd X.2.1 (c, u, 0) fun _ h => ttUbs X.2.1 r (s + h) m) = true := h
    have g : ttIs ρ ((c, u) :: r) = c * ρ u + ttIs ρ r := rfl
    rw [g]
    cases e : zzEq c 0
    · rw [e] at h
      obtain ⟨l, hh, h, a1, a2⟩ := ttBd_ok hS h
      have i := ttUbs_ok hS h
      have a2 : c * ρ u + 0 ≤ hh := a2
      omega
    · rw [e] at h
      have i := ttUbs_ok hS h
      rw [zzEq_ok e, Int.zero_mul]
      omega
/-- the sum of these, and s, is m at most -/
def ttUb (X : ttX) (l : List (Int × yyN)) (s m : Int) : Bool := ttLin l fun q t => ttUbs X.2.1 q (t + s) m
theorem ttUb_ok {H : xH} {X : ttX} {ρ : Nat → Int} (hS : ttSat H X ρ) {l : List (Int × yyN)} {s m : Int} (h : ttUb X l s m = true) : ttLs ρ l + s ≤ m := by
  obtain ⟨q, t, h, e⟩ := ttLin_ok ρ (l := l) h
  have := ttUbs_ok hS h
  omega
/-! cuts -/
def ttKpA (ks : List Nat) (L L0 : List ttV) : Bool := ks.all fun i => ttEq (L.getD i (9, (0, 0, 0))).2 (L0.getD i (9, (0, 0, 0))).2 && (!Nat.beq (L.getD i (9, (0, 0, 0))).1 9 && !Nat.beq (L0.getD i (9, (0, 0, 0))).1 9)
/-- a cut is come to, from where the number was 'old' -/
def ttAr1 (old : Option (Int × List (Int × yyN))) (L0 : List ttV) (c : ttCtA) (L : List ttV) (X : ttX) : Bool := match c with
  | (ps, cs, m0, ms, ks) => ttAc9 X L ps && (ttCc X (ttMskA ps L) cs && (ttKpA ks L L0 && (ttMv X (ttMskA ps L) ms fun nv => ttUb X (ttNegs nv) (-m0) 0 && (match old with
      | none => true
      | some (o0, ov) => ttUb X (nv ++ ttNegs ov) (m0 - o0) (-1)))))
def ttCtP (H : xH) (c : ttCtA) (L2 : List xV) : Prop := ttF (ttA9 (H.2.2.2.1 : Int)) c.1 L2 ∧ ∀ q ∈ c.2.1, ttCm H (ttMsk c.1 L2) 0 q
def ttCtM (H : xH) (c : ttCtA) (L2 : List xV) : Int := c.2.2.1 + ttMs H (ttMsk c.1 L2) c.2.2.2.1
theorem ttKpA_ok {ρ : Nat → Int} {n n0 : Nat} {ks : List Nat} {L L0 : List ttV} {L2 L3 : List xV} (h : ttKpA ks L L0 = true) (hL : ttF (ttQ ρ n) L L2) (h0 : ttF (ttQ ρ n0) L0 L3) : ∀ i ∈ ks, (L2.getD i (9, 0)).2 = (L3.getD i (9, 0)).2 := fun i hi => by
  have k := List.all_eq_true.mp h i hi
  obtain ⟨k1, k2⟩ := zz_and k
  obtain ⟨k2, k3⟩ := zz_and k2
  have e := ttEq_ok k1
  have q := ttF_getD (a0 := ((9, (0, 0, 0)) : ttV)) (b0 := ((9, 0) : xV)) (Or.inl rfl) hL i
  have q0 := ttF_getD (a0 := ((9, (0, 0, 0)) : ttV)) (b0 := ((9, 0) : xV)) (Or.inl rfl) h0 i
  rcases q with q | ⟨-, -, q⟩
  · rw [q] at k2; cases k2
  rcases q0 with q0 | ⟨-, -, q0⟩
  · rw [q0] at k3; cases k3
  rw [← q, ← q0, e]
theorem ttAr1_ok {H : xH} {X : ttX} {ρ : Nat → Int} {n0 : Nat} {old : Option (Int × List (Int × yyN))} {c : ttCtA} {L L0 : List ttV} {L2 L3 : List xV} (hT : ttTI H) (hS : ttSat H X ρ) (hL : ttF (ttQ ρ X.1) L L2) (h0 : ttF (ttQ ρ n0) L0 L3) (h : ttAr1 old L0 c L X = true) : ttCtP H c L2 ∧ (∀ i ∈ c.2.2.2.2, (L2.getD i (9, 0)).2 = (L3.getD i (9, 0)).2) ∧ 0 ≤ ttCtM H c L2 ∧ ∀ o0 ov, old = some (o0, ov) → ttCtM H c L2 < o0 + ttLs ρ ov := by
  obtain ⟨ps, cs, m0, ms, ks⟩ := c
  unfold ttAr1 at h
  obtain ⟨h1, h⟩ := zz_and h
  obtain ⟨h2, h⟩ := zz_and h
  obtain ⟨h3, h⟩ := zz_and h
  obtain ⟨q1, q2⟩ := ttAc9_ok hT hS h1 hL
  obtain ⟨nv, h, m1, m2⟩ := ttMv_ok hS q2 h
  obtain ⟨h4, h5⟩ := zz_and h
  have k := ttUb_ok hS h4
  rw [ttLs_neg] at k
  refine ⟨⟨q1, ttCc_ok hT hS q2 h2⟩, ttKpA_ok h3 hL h0, ?_, fun o0 ov ho => ?_⟩
  · show 0 ≤ m0 + ttMs H (ttMsk ps L2) ms
    omega
  · subst ho
    have k2 := ttUb_ok hS h5
    rw [ttLs_app, ttLs_neg] at k2
    show m0 + ttMs H (ttMsk ps L2) ms < o0 + ttLs ρ ov
    omega
def ttArr (old : Option (Int × List (Int × yyN))) (L0 : List ttV) (c : ttCtA) (L : List ttV) (X : ttX) : Bool := ttTg X X.2.2.2 (ttAr1 old L0 c L)
theorem ttArr_ok {H : xH} {X : ttX} {ρ : Nat → Int} {n0 : Nat} {old : Option (Int × List (Int × yyN))} {c : ttCtA} {L L0 : List ttV} {L2 L3 : List xV} (hT : ttTI H) (hS : ttSat H X ρ) (hL : ttF (ttQ ρ X.1) L L2) (h0 : ttF (ttQ ρ n0) L0 L3) (h : ttArr old L0 c L X = true) : ttCtP H c L2 ∧ (∀ i ∈ c.2.2.2.2, (L2.getD i (9, 0)).2 = (L3.getD i (9, 0)).2) ∧ 0 ≤ ttCtM H c L2 ∧ ∀ o0 ov, old = some (o0, ov) → ttCtM H c L2 < o0 + ttLs ρ ov := by
  obtain ⟨X', h, en, hS'⟩ := ttTg_ok hS hS.2.2 h
  exact ttAr1_ok hT hS' (by rw [en]; exact hL) h0 h
/-! answers -/
def ttCr (X : ttX) (as : List ttV) (r : yyN) (ks : List Nat) : List ttC → Bool
  | [] => true
  | (s, j, g, o, k, a, b) :: q => ((!Nat.beq k 11 && (!Nat.beq s.1 1 || ks.contains s.2.toNat)) && (ttCa X as r s fun z => match ttFd X.2.2.1 z (0, 0, j) with
    | some v => (match Nat.beq k 10 with
      | true => ks.contains a.toNat && ttEq v (as.getD a.toNat (9, (0, 0, 0))).2
      | false => ttPc X v (g, o, k, a, b))
    | none => false)) && ttCr X as r ks q
def ttRet (c : ttCon) (as : List ttV) (ks : List Nat) (X : ttX) (v : yyN) : Bool := match c with
  | (_, _, _, _, res, rc, _) => res.any (fun p => ttPc X v p) && ttCr X as v ks rc
theorem ttCr_ok {H : xH} {X : ttX} {ρ : Nat → Int} {as : List ttV} {vs : List xV} {r : yyN} {x : Int} {ks : List Nat} (hT : ttTI H) (hS : ttSat H X ρ) (hk : ∀ i ∈ ks, ttW X.1 (as.getD i (9, (0, 0, 0))).2 ∧ yyG ρ (as.getD i (9, (0, 0, 0))).2 = (vs.getD i (9, 0)).2) (hw : ttW X.1 r) (hr : yyG ρ r = x) : ∀ {cs : List ttC}, ttCr X as r ks cs = true → ∀ c ∈ cs, ttCm H vs x c
  | [], _, _, hc => absurd hc List.not_mem_nil
  | (s, j, g, o, k, a, b) :: q, h, c, hc => by
    obtain ⟨h1, h2⟩ := zz_and h
    rcases List.mem_cons.mp hc with rfl | hc
    · obtain ⟨h0, h1⟩ := zz_and h1
      obtain ⟨h11, h0⟩ := zz_and h0
      have e11 := zz_nn h11
      obtain ⟨z, h1, -, ez⟩ := ttCa_ok (vs := vs) hS (fun e => by
        rw [e] at h0
        have h0 : (false || ks.contains s.2.toNat) = true := h0
        have h0 : ks.contains s.2.toNat = true := h0
        exact hk s.2.toNat (List.contains_iff_mem.mp h0)) hw hr h1
      cases e : ttFd X.2.2.1 z (0, 0, j) with
      | none => rw [e] at h1; cases h1
      | some v =>
        rw [e] at h1
        obtain ⟨-, y⟩ := hS.2.1 _ (ttFd_ok e)
        have y : H.1 (yyG ρ z) (yyG ρ (0, 0, j)) = yyG ρ v := y
        rw [ez, yyG_c] at y
        show (match Nat.beq k 10 with | true => H.1 (ttCv H vs x s) j = ttCv H vs x (1, a) | false => match Nat.beq k 11 with | true => a ≤ ttCv H vs x s - ttCv H vs x (1, j) | false => ttPm (H.2.2.2.1 : Int) (g, o, k, a, b) (H.1 (ttCv H vs x s) j))
        rw [e11]
        simp only [] at h1
        cases e2 : Nat.beq k 10
        · rw [e2] at h1
          rw [y]
          exact ttPc_ok hT hS h1
        · rw [e2] at h1
          obtain ⟨h3, h4⟩ := zz_and h1
          show H.1 (ttCv H vs x s) j = (vs.getD a.toNat (9, 0)).2
          rw [y, ttEq_ok h4]
          exact (hk a.toNat (List.contains_iff_mem.mp h3)).2
    · exact ttCr_ok hT hS hk hw hr h2 c hc
theorem ttRet_ok {H : xH} {X : ttX} {ρ : Nat → Int} {c : ttCon} {as : List ttV} {vs : List xV} {v : yyN} {ks : List Nat} (hT : ttTI H) (hS : ttSat H X ρ) (hk : ∀ i ∈ ks, ttW X.1 (as.getD i (9, (0, 0, 0))).2 ∧ yyG ρ (as.getD i (9, (0, 0, 0))).2 = (vs.getD i (9, 0)).2) (hw : ttW X.1 v) (h : ttRet c as ks X v = true) : (∃ p ∈ c.2.2.2.2.1, ttPm (H.2.2.2.1 : Int) p (yyG ρ v)) ∧ ∀ q ∈ c.2.2.2.2.2.1, ttCm H vs (yyG ρ v) q := by
  obtain ⟨j, dep, ps, cc, res, rc, ef⟩ := c
  obtain ⟨h1, h2⟩ := zz_and h
  obtain ⟨p, hp, h1⟩ := List.any_eq_true.mp h1
  exact ⟨⟨p, hp, ttPc_ok hT hS h1⟩, ttCr_ok hT hS hk hw rfl h2⟩
