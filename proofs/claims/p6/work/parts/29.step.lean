/-! one instruction of the run -/
abbrev ttP : Type := Int × Int × ttI
abbrev ttC : Type := (Nat × Int) × Int × ttP
/-- of a method: its number, the frames it wants, its arguments, what places hold, its answers, what places hold then, (is nothing made?, what may be written) -/
abbrev ttCon : Type := Nat × Nat × List (Nat × ttP) × List ttC × List ttP × List ttC × ttEf
/-- places that must not be written, but with this number, if the sign is true -/
abbrev ttE4 : Type := List ((Nat × Int × Int) × Bool × Int)
/-- the contracts, (is nothing made?, what may be written), what must not be -/
abbrev ttEv : Type := List ttCon × ttEf × ttE4
abbrev ttKo : Type := ttX → yyN → Bool
abbrev ttCt : Type := List (Nat × (List ttV → ttX → Bool))
abbrev ttG : Type := ttCt → ttKo → Nat → List Instr → List Instr → Nat → List ttV → List ttV → ttX → Bool
def ttPm (N : Int) (p : ttP) (x : Int) : Prop := ∃ w, x = p.1 * w + p.2.1 ∧ ttM N p.2.2 w
def ttPc (X : ttX) (v : yyN) (p : ttP) : Bool := match p with
  | (g, o, i) => match zzEq g 1 && zzEq o 0 with
    | true => ttChk X v i
    | false => match zzEq g 0 with
      | true => Nat.beq i.1 9 && ttBd X.2.1 v fun l h => zzEq l o && zzEq h o
      | false => zzEq (g * (v.1 / g)) v.1 && (zzEq (g * ((v.2.2 - o) / g)) (v.2.2 - o) && ttChk X (v.1 / g, v.2.1, (v.2.2 - o) / g) i)
theorem ttPc_ok {H : xH} {X : ttX} {ρ : Nat → Int} {v : yyN} {p : ttP} (hT : ttTI H) (hS : ttSat H X ρ) (h : ttPc X v p = true) : ttPm (H.2.2.2.1 : Int) p (yyG ρ v) := by
  obtain ⟨g, o, i⟩ := p
  unfold ttPc at h
  simp only [] at h
  cases e : zzEq g 1 && zzEq o 0
  · rw [e] at h
    simp only [] at h
    cases e2 : zzEq g 0
    · rw [e2] at h
      obtain ⟨h1, h2⟩ := zz_and h
      obtain ⟨h2, h3⟩ := zz_and h2
      have z1 := zzEq_ok h1
      have z2 := zzEq_ok h2
      refine ⟨_, ?_, ttChk_ok hT hS h3⟩
      show v.1 * ρ v.2.1 + v.2.2 = g * (v.1 / g * ρ v.2.1 + (v.2.2 - o) / g) + o
      rw [Int.mul_add, ← Int.mul_assoc, z1, z2]
      omega
    · rw [e2] at h
      obtain ⟨h1, h2⟩ := zz_and h
      obtain ⟨l, hh, z, a1, a2⟩ := ttBd_ok hS h2
      obtain ⟨z1, z2⟩ := zz_and z
      have z1 := zzEq_ok z1
      have z2 := zzEq_ok z2
      have z3 := zzEq_ok e2
      refine ⟨0, ?_, ?_⟩
      · show yyG ρ v = g * 0 + o
        omega
      · obtain ⟨k, a, b⟩ := i
        have h1 : Nat.beq k 9 = true := h1
        have := Nat.eq_of_beq_eq_true h1
        subst this
        trivial
  · rw [e] at h
    obtain ⟨z1, z2⟩ := zz_and e
    refine ⟨yyG ρ v, ?_, ttChk_ok hT hS h⟩
    show yyG ρ v = g * yyG ρ v + o
    rw [zzEq_ok z1, zzEq_ok z2]
    omega
/-- a value of this kind -/
def ttMk (X : ttX) (p : ttP) (f : ttX → yyN → Bool) : Bool := match p with
  | (g, o, k, a, b) => match zzEq g 0 with
    | true => f X (0, 0, o)
    | false => match Nat.beq k 0 && zzEq a b with
      | true => f X (0, 0, g * a + o)
      | false => ttNw X (k, a, b) (fun X' u => f X' (g, u, o))
theorem yyG_c (ρ : Nat → Int) (x : Int) : yyG ρ (0, 0, x) = x := yyG_k ρ x
theorem ttMk_ok {H : xH} {X : ttX} {ρ : Nat → Int} {p : ttP} {x : Int} {f : ttX → yyN → Bool} (hS : ttSat H X ρ) (hx : ttPm (H.2.2.2.1 : Int) p x) (h : ttMk X p f = true) : ttRs H X ρ f x := by
  obtain ⟨g, o, k, a, b⟩ := p
  obtain ⟨w, e, hm⟩ := hx
  have e : x = g * w + o := e
  unfold ttMk at h
  simp only [] at h
  cases e1 : zzEq g 0
  · rw [e1] at h
    simp only [] at h
    cases e2 : Nat.beq k 0 && zzEq a b
    · rw [e2] at h
      exact ttRs_nw hS h hm e.symm
    · rw [e2] at h
      obtain ⟨z1, z2⟩ := zz_and e2
      have := Nat.eq_of_beq_eq_true z1
      subst this
      have z2 := zzEq_ok z2
      have hm : a ≤ w ∧ w ≤ b := hm
      have : w = a := by omega
      subst this
      exact ttRs_ex hS h (Or.inl rfl) (by rw [yyG_c]; exact e.symm)
  · rw [e1] at h
    have z := zzEq_ok e1
    exact ttRs_ex hS h (Or.inl rfl) (by rw [yyG_c, e, z]; omega)
def ttAm (N : Int) (p : Nat × ttP) (v : xV) : Prop := p.1 = v.1 ∧ ttPm N p.2 v.2
def ttAc (X : ttX) : List ttV → List (Nat × ttP) → Bool
  | [], [] => true
  | (t, v) :: r, (t2, p) :: s => Nat.beq t t2 && (ttPc X v p && ttAc X r s)
  | _, _ => false
theorem ttAc_ok {H : xH} {X : ttX} {ρ : Nat → Int} {n : Nat} (hT : ttTI H) (hS : ttSat H X ρ) : ∀ {as : List ttV} {ps : List (Nat × ttP)} {vs : List xV}, ttAc X as ps = true → ttF (ttR ρ n) as vs → ttF (ttAm (H.2.2.2.1 : Int)) ps vs
  | [], [], [], _, _ => trivial
  | (t, v) :: r, (t2, p) :: s, (t3, w) :: q, h, k => by
    obtain ⟨h1, h2⟩ := zz_and h
    obtain ⟨h2, h3⟩ := zz_and h2
    obtain ⟨⟨k1, k2, k3⟩, k4⟩ := k
    have k1 : t = t3 := k1
    have k3 : yyG ρ v = w := k3
    refine ⟨⟨?_, ?_⟩, ttAc_ok hT hS h3 k4⟩
    · show t2 = t3
      rw [← Nat.eq_of_beq_eq_true h1, k1]
    · show ttPm _ p w
      rw [← k3]
      exact ttPc_ok hT hS h2
  | [], [], _ :: _, _, k => k.elim
  | [], _ :: _, _, h, _ => by cases h
  | _ :: _, [], _, h, _ => by cases h
  | _ :: _, _ :: _, [], _, k => k.elim
/-- what a source names: (0, c) the number c, (1, i) argument i, (2, _) the answer, (k + 3, c) what field c of object k + 1 holds -/
def ttCv (H : xH) (vs : List xV) (r : Int) (s : Nat × Int) : Int := match s.1 with
  | 0 => s.2
  | 1 => (vs.getD s.2.toNat (9, 0)).2
  | 2 => r
  | k + 3 => H.1 ((k : Int) + 1) s.2
def ttCa (X : ttX) (as : List ttV) (r : yyN) (s : Nat × Int) (f : yyN → Bool) : Bool := match s.1 with
  | 0 => f (0, 0, s.2)
  | 1 => f (as.getD s.2.toNat (9, (0, 0, 0))).2
  | 2 => f r
  | k + 3 => match ttFd X.2.2.1 (0, 0, (k : Int) + 1) (0, 0, s.2) with
    | some v => f v
    | none => false
theorem ttR_0 (ρ : Nat → Int) (n : Nat) : ttW n ((9, (0, 0, 0)) : ttV).2 ∧ yyG ρ ((9, (0, 0, 0)) : ttV).2 = ((9, 0) : xV).2 := ⟨Or.inl rfl, by show (0 : Int) * ρ 0 + 0 = 0; omega⟩
theorem ttF_R9 {ρ : Nat → Int} {n : Nat} {as : List ttV} {vs : List xV} (h : ttF (ttR ρ n) as vs) (i : Nat) : ttW n (as.getD i (9, (0, 0, 0))).2 ∧ yyG ρ (as.getD i (9, (0, 0, 0))).2 = (vs.getD i (9, 0)).2 := ttF_getD (R := fun (a : ttV) (v : xV) => ttW n a.2 ∧ yyG ρ a.2 = v.2) (ttR_0 ρ n) (ttF_imp (fun a v z => z.2) h) i
theorem ttCa_ok {H : xH} {X : ttX} {ρ : Nat → Int} {as : List ttV} {vs : List xV} {r : yyN} {x : Int} {s : Nat × Int} {f : yyN → Bool} (hS : ttSat H X ρ) (hv : s.1 = 1 → ttW X.1 (as.getD s.2.toNat (9, (0, 0, 0))).2 ∧ yyG ρ (as.getD s.2.toNat (9, (0, 0, 0))).2 = (vs.getD s.2.toNat (9, 0)).2) (hw : ttW X.1 r) (hx : yyG ρ r = x) (h : ttCa X as r s f = true) : ∃ a, f a = true ∧ ttW X.1 a ∧ yyG ρ a = ttCv H vs x s := by
  obtain ⟨k, c⟩ := s
  match k, h, hv with
  | 0, h, _ => exact ⟨_, h, Or.inl rfl, yyG_c ρ c⟩
  | 1, h, hv => exact ⟨_, h, hv rfl⟩
  | 2, h, _ => exact ⟨_, h, hw, hx⟩
  | k + 3, h, _ =>
    have h : (match ttFd X.2.2.1 (0, 0, (k : Int) + 1) (0, 0, c) with
      | some v => f v
      | none => false) = true := h
    cases e : ttFd X.2.2.1 (0, 0, (k : Int) + 1) (0, 0, c) with
    | none => rw [e] at h; cases h
    | some v =>
      rw [e] at h
      obtain ⟨⟨-, -, w⟩, q⟩ := hS.2.1 _ (ttFd_ok e)
      have q : H.1 (yyG ρ (0, 0, (k : Int) + 1)) (yyG ρ (0, 0, c)) = yyG ρ v := q
      rw [yyG_c, yyG_c] at q
      exact ⟨v, h, w, q.symm⟩
/-- what a place holds (kind 10: what an argument is; kind 11: how far a source is above argument j, at least) -/
def ttCm (H : xH) (vs : List xV) (r : Int) (c : ttC) : Prop := match Nat.beq c.2.2.2.2.1 10 with
  | true => H.1 (ttCv H vs r c.1) c.2.1 = ttCv H vs r (1, c.2.2.2.2.2.1)
  | false => match Nat.beq c.2.2.2.2.1 11 with
    | true => c.2.2.2.2.2.1 ≤ ttCv H vs r c.1 - ttCv H vs r (1, c.2.1)
    | false => ttPm (H.2.2.2.1 : Int) c.2.2 (H.1 (ttCv H vs r c.1) c.2.1)
def ttCc (X : ttX) (as : List ttV) : List ttC → Bool
  | [] => true
  | (s, j, g, o, k, a, b) :: r => (ttCa X as (0, 0, 0) s fun q => match Nat.beq k 11 with
    | true => ttDl X q (as.getD j.toNat (9, (0, 0, 0))).2 a
    | false => match ttFd X.2.2.1 q (0, 0, j) with
      | some v => (match Nat.beq k 10 with
        | true => ttEq v (as.getD a.toNat (9, (0, 0, 0))).2
        | false => ttPc X v (g, o, k, a, b))
      | none => false) && ttCc X as r
theorem ttCc_ok {H : xH} {X : ttX} {ρ : Nat → Int} {as : List ttV} {vs : List xV} (hT : ttTI H) (hS : ttSat H X ρ) (hv : ttF (ttR ρ X.1) as vs) : ∀ {cs : List ttC}, ttCc X as cs = true → ∀ c ∈ cs, ttCm H vs 0 c
  | [], _, _, hc => absurd hc List.not_mem_nil
  | (s, j, g, o, k, a, b) :: r, h, c, hc => by
    obtain ⟨h1, h2⟩ := zz_and h
    rcases List.mem_cons.mp hc with rfl | hc
    · obtain ⟨q, h1, -, z⟩ := ttCa_ok (x := 0) hS (fun _ => ttF_R9 hv _) (Or.inl rfl) (yyG_c ρ 0) h1
      cases e11 : Nat.beq k 11
      rotate_left
      · rw [e11] at h1
        have h1 := ttDl_ok hS h1
        have e10 : Nat.beq k 10 = false := by rw [Nat.eq_of_beq_eq_true e11]; rfl
        show (match Nat.beq k 10 with | true => H.1 (ttCv H vs 0 s) j = ttCv H vs 0 (1, a) | false => match Nat.beq k 11 with | true => a ≤ ttCv H vs 0 s - ttCv H vs 0 (1, j) | false => ttPm (H.2.2.2.1 : Int) (g, o, k, a, b) (H.1 (ttCv H vs 0 s) j))
        rw [e10, e11]
        show a ≤ ttCv H vs 0 s - (vs.getD j.toNat (9, 0)).2
        rw [← z, ← (ttF_R9 hv j.toNat).2]
        exact h1
      rw [e11] at h1
      simp only [] at h1
      cases e : ttFd X.2.2.1 q (0, 0, j) with
      | none => rw [e] at h1; cases h1
      | some v =>
        rw [e] at h1
        obtain ⟨-, y⟩ := hS.2.1 _ (ttFd_ok e)
        have y : H.1 (yyG ρ q) (yyG ρ (0, 0, j)) = yyG ρ v := y
        rw [z, yyG_c] at y
        show (match Nat.beq k 10 with | true => H.1 (ttCv H vs 0 s) j = ttCv H vs 0 (1, a) | false => match Nat.beq k 11 with | true => a ≤ ttCv H vs 0 s - ttCv H vs 0 (1, j) | false => ttPm (H.2.2.2.1 : Int) (g, o, k, a, b) (H.1 (ttCv H vs 0 s) j))
        rw [e11]
        simp only [] at h1
        cases e2 : Nat.beq k 10
        · rw [e2] at h1
          rw [y]
          exact ttPc_ok hT hS h1
        · rw [e2] at h1
          show H.1 (ttCv H vs 0 s) j = (vs.getD a.toNat (9, 0)).2
          rw [y, ttEq_ok h1]
          exact (ttF_R9 hv a.toNat).2
    · exact ttCc_ok hT hS hv h2 c hc
def ttAdC (as : List ttV) (r : yyN) : List ttC → ttX → (ttX → Bool) → Bool
  | [], X, f => f X
  | (s, j, g, o, k, a, b) :: cs, X, f => ttCa X as r s fun q => match Nat.beq k 10 with
    | true => (match X with
      | (n, B, K, E) => ttAdC as r cs (n, B, ((q, (0, 0, j)), (as.getD a.toNat (9, (0, 0, 0))).2) :: K, E) f)
    | false => match Nat.beq k 11 with
      | true => ttDf X q (as.getD j.toNat (9, (0, 0, 0))).2 a fun X' => ttAdC as r cs X' f
      | false => ttMk X (g, o, k, a, b) fun X' v => match X' with
        | (n, B, K, E) => ttAdC as r cs (n, B, ((q, (0, 0, j)), v) :: K, E) f
theorem ttAdC_ok {H : xH} {vs : List xV} {as : List ttV} {r : yyN} {x : Int} {f : ttX → Bool} : ∀ {cs : List ttC} {X : ttX} {ρ : Nat → Int}, ttSat H X ρ → ttF (ttR ρ X.1) as vs → ttW X.1 r → yyG ρ r = x → (∀ c ∈ cs, ttCm H vs x c) → ttAdC as r cs X f = true → ∃ X' ρ', f X' = true ∧ X.1 ≤ X'.1 ∧ ttAg X.1 ρ ρ' ∧ ttSat H X' ρ'
  | [], X, ρ, hS, _, _, _, _, h => ⟨X, ρ, h, Nat.le_refl _, ttAg_rf _ _, hS⟩
  | (s, j, g, o, k, a, b) :: cs, X, ρ, hS, hv, hw, hx, hc, h => by
    have hc0 : (match Nat.beq k 10 with | true => H.1 (ttCv H vs x s) j = ttCv H vs x (1, a) | false => match Nat.beq k 11 with | true => a ≤ ttCv H vs x s - ttCv H vs x (1, j) | false => ttPm (H.2.2.2.1 : Int) (g, o, k, a, b) (H.1 (ttCv H vs x s) j)) := hc _ List.mem_cons_self
    have h : (ttCa X as r s fun q => match Nat.beq k 10 with
      | true => (match X with
        | (n, B, K, E) => ttAdC as r cs (n, B, ((q, (0, 0, j)), (as.getD a.toNat (9, (0, 0, 0))).2) :: K, E) f)
      | false => match Nat.beq k 11 with
        | true => ttDf X q (as.getD j.toNat (9, (0, 0, 0))).2 a fun X' => ttAdC as r cs X' f
        | false => ttMk X (g, o, k, a, b) fun X' v => match X' with
          | (n, B, K, E) => ttAdC as r cs (n, B, ((q, (0, 0, j)), v) :: K, E) f) = true := h
    obtain ⟨q, h, wq, eq⟩ := ttCa_ok hS (fun _ => ttF_R9 hv _) hw hx h
    cases e : Nat.beq k 10
    · rw [e] at h hc0
      simp only [] at h hc0
      cases e11 : Nat.beq k 11
      rotate_left
      · rw [e11] at h hc0
        have k2 := ttF_R9 hv j.toNat
        have hc0 : a ≤ ttCv H vs x s - (vs.getD j.toNat (9, 0)).2 := hc0
        rw [← eq, ← k2.2] at hc0
        obtain ⟨X1, ρ1, h1, n1, g1, S1⟩ := ttDf_ok hS wq k2.1 h hc0
        have hv1 : ttF (ttR ρ1 X1.1) as vs := ttF_imp (fun a b z => ttR_up n1 g1 z) hv
        obtain ⟨X3, ρ3, h3, n3, g3, S3⟩ := ttAdC_ok (cs := cs) S1 hv1 (ttW_up n1 hw) ((yyG_ag hw g1).trans hx) (fun c z => hc c (List.mem_cons_of_mem _ z)) h1
        exact ⟨X3, ρ3, h3, Nat.le_trans n1 n3, ttAg_tr n1 g1 g3, S3⟩
      rw [e11] at h hc0
      obtain ⟨X1, ρ1, v, h1, n1, g1, S1, w1, e1⟩ := ttMk_ok hS hc0 h
      obtain ⟨n, B, K, E⟩ := X1
      have hv1 : ttF (ttR ρ1 n) as vs := ttF_imp (fun a b z => ttR_up n1 g1 z) hv
      have hx1 : yyG ρ1 r = x := (yyG_ag hw g1).trans hx
      have hw1 : ttW n r := ttW_up n1 hw
      have S2 := ttSat_k S1 (a := q) (j := (0, 0, j)) (v := v) (ttW_up n1 wq) (Or.inl rfl) w1 (by rw [yyG_ag wq g1, eq, yyG_c]; exact e1.symm)
      obtain ⟨X3, ρ3, h3, n3, g3, S3⟩ := ttAdC_ok (cs := cs) S2 hv1 hw1 hx1 (fun c z => hc c (List.mem_cons_of_mem _ z)) h1
      exact ⟨X3, ρ3, h3, Nat.le_trans n1 n3, ttAg_tr n1 g1 g3, S3⟩
    · rw [e] at h hc0
      obtain ⟨n, B, K, E⟩ := X
      have k2 := ttF_R9 hv a.toNat
      have hc0 : H.1 (ttCv H vs x s) j = (vs.getD a.toNat (9, 0)).2 := hc0
      have S2 := ttSat_k hS (a := q) (j := (0, 0, j)) (v := (as.getD a.toNat (9, (0, 0, 0))).2) wq (Or.inl rfl) k2.1 (by rw [eq, yyG_c, k2.2]; exact hc0)
      exact ttAdC_ok (cs := cs) (X := (n, B, ((q, (0, 0, j)), (as.getD a.toNat (9, (0, 0, 0))).2) :: K, E)) S2 hv hw hx (fun c z => hc c (List.mem_cons_of_mem _ z)) h
def ttHas (XX : xH → Prop) (c : ttCon) : Prop := ∀ dd : Nat, c.2.1 ≤ dd → ∀ (vs : List xV) (H : xH), ttTI H → XX H → ttF (ttAm (H.2.2.2.1 : Int)) c.2.2.1 vs → (∀ q ∈ c.2.2.2.1, ttCm H vs 0 q) → ∀ Q : Int → xH → Prop, (∀ r H', ttTI H' → XX H' → ttFr c.2.2.2.2.2.2 H H' → (∃ p ∈ c.2.2.2.2.1, ttPm (H'.2.2.2.1 : Int) p r) → (∀ q ∈ c.2.2.2.2.2.1, ttCm H' vs r q) → Q r H') → xCall dd c.1 vs H Q
def ttFnd (j : Nat) (as : List ttV) (X : ttX) : List ttCon → Option ttCon
  | [] => none
  | c :: cs => match Nat.beq c.1 j with
    | false => ttFnd j as X cs
    | true => match ttAc X as c.2.2.1 && ttCc X as c.2.2.2.1 with
      | false => ttFnd j as X cs
      | true => some c
theorem ttFnd_ok {j : Nat} {as : List ttV} {X : ttX} : ∀ {cs : List ttCon} {c : ttCon}, ttFnd j as X cs = some c → c ∈ cs ∧ c.1 = j ∧ ttAc X as c.2.2.1 = true ∧ ttCc X as c.2.2.2.1 = true
  | [], _, h => by cases h
  | c :: cs, d, h => by
    unfold ttFnd at h
    cases e : Nat.beq c.1 j
    · rw [e] at h
      obtain ⟨a, b⟩ := ttFnd_ok h
      exact ⟨List.mem_cons_of_mem _ a, b⟩
    · rw [e] at h
      simp only [] at h
      cases e2 : ttAc X as c.2.2.1 && ttCc X as c.2.2.2.1
      · rw [e2] at h
        obtain ⟨a, b⟩ := ttFnd_ok h
        exact ⟨List.mem_cons_of_mem _ a, b⟩
      · rw [e2] at h
        cases h
        exact ⟨List.mem_cons_self, Nat.eq_of_beq_eq_true e, zz_and e2⟩
def ttCl (ef : ttEf) (d : Nat) (c : ttCon) (as : List ttV) (X : ttX) (f : ttX → yyN → Bool) : Bool := match c with
  | (_, dep, _, _, res, rc, na, eff) => match Nat.ble dep d && (ttSub ef.2 eff && (!ef.1 || na)) with
    | false => false
    | true => ttKf X eff fun X1 => res.all fun p => ttMk X1 p fun X2 r => ttAdC as r rc X2 fun X3 => f X3 r
def ttWk (ev : ttEv) (X : ttX) (r : Nat) (l h : Int) (v : Option yyN) : Bool := ttIn ev.2.1.2 r l h && ev.2.2.all (fun q => (!Nat.beq q.1.1 r || !(zzLe q.1.2.1 h && zzLe l q.1.2.2)) || (q.2.1 && (match v with
  | some v => ttBd X.2.1 v fun a b => zzEq a q.2.2 && zzEq b q.2.2
  | none => false)))
def ttPu (X : ttX) (r : Nat) (l h : Int) (a j v : yyN) (f : ttX → Bool) : Bool := ttKf X [(r, l, h)] fun X1 => match X1 with
  | (n, B, K, E) => f (n, B, ((a, j), v) :: K, E)
def ttNn (X : ttX) (v : yyN) : Bool := ttRl X v (fun _ => true) || ttNz X v
theorem ttNn_ok {H : xH} {X : ttX} {ρ : Nat → Int} {v : yyN} (hT : ttTI H) (hS : ttSat H X ρ) (h : ttNn X v = true) : yyG ρ v ≠ 0 := by
  rcases Bool.or_eq_true _ _ ▸ h with z | z
  · have := (ttRl_ok hT hS z).2.1
    omega
  · exact ttNz_ok hS z
def ttNs (X : ttX) : List ttV → Bool
  | [] => true
  | (t, v) :: r => (!Nat.beq t 2 || ttNn X v) && ttNs X r
theorem ttNs_ok {H : xH} {X : ttX} {ρ : Nat → Int} {n : Nat} {p : Prop} (hp : p) (hT : ttTI H) (hS : ttSat H X ρ) : ∀ {as : List ttV} {vs : List xV}, ttF (ttR ρ n) as vs → ttNs X as = true → xNz p vs
  | [], [], _, _ => hp
  | (t, v) :: r, (t2, w) :: s, h, k => by
    obtain ⟨⟨e, -, e2⟩, h2⟩ := h
    obtain ⟨k1, k2⟩ := zz_and k
    have e : t = t2 := e
    have e2 : yyG ρ v = w := e2
    subst e
    have ih := ttNs_ok hp hT hS h2 k2
    by_cases z : t = 2
    · subst z
      refine ⟨?_, ih⟩
      rcases Bool.or_eq_true _ _ ▸ k1 with y | y
      · cases y
      · exact fun z => ttNn_ok hT hS y (Eq.trans e2 z)
    · match t, z with
      | 0, _ => exact ih
      | 1, _ => exact ih
      | 2, z => exact absurd rfl z
      | _ + 3, _ => exact ih
/-- null, or not -/
def ttNu (X : ttX) (v : yyN) (f g : ttX → Bool) : Bool := match zzEq v.1 0 with
  | true => (match zzEq v.2.2 0 with
    | true => f X
    | false => g X)
  | false => match zzEq v.1 1 && zzEq v.2.2 0 with
    | false => false
    | true => match X with
      | (n, B, K, E) => match ttLk B v.2.1 with
        | (k, a, b) => match Nat.beq k 1 with
          | true => g X
          | false => match Nat.beq k 2 with
            | true => f X && g (n, (v.2.1, (1, a, b)) :: B, K, E)
            | false => f X && g X
theorem ttNu_ok {H : xH} {X : ttX} {ρ : Nat → Int} {v : yyN} {f g : ttX → Bool} (hS : ttSat H X ρ) (hw : ttW X.1 v) (h : ttNu X v f g = true) : (yyG ρ v = 0 → ttGo H X ρ f) ∧ (yyG ρ v ≠ 0 → ttGo H X ρ g) := by
  have g0 : yyG ρ v = v.1 * ρ v.2.1 + v.2.2 := rfl
  unfold ttNu at h
  cases e : zzEq v.1 0
  · rw [e] at h
    simp only [] at h
    cases e2 : zzEq v.1 1 && zzEq v.2.2 0
    · rw [e2] at h; cases h
    · rw [e2] at h
      obtain ⟨z1, z2⟩ := zz_and e2
      have z1 := zzEq_ok z1
      have z2 := zzEq_ok z2
      rw [z1, z2, Int.one_mul, Int.add_zero] at g0
      have hu : v.2.1 < X.1 := by
        rcases hw with z | z
        · omega
        · exact z
      obtain ⟨n, B, K, E⟩ := X
      have k := ttLk_ok hS.1 v.2.1
      revert h k
      generalize ttLk B v.2.1 = q
      obtain ⟨kd, a, b⟩ := q
      intro h k
      simp only [] at h
      cases e3 : Nat.beq kd 1
      · rw [e3] at h
        simp only [] at h
        cases e4 : Nat.beq kd 2
        · rw [e4] at h
          obtain ⟨h1, h2⟩ := zz_and h
          exact ⟨fun _ => ⟨_, h1, rfl, hS⟩, fun _ => ⟨_, h2, rfl, hS⟩⟩
        · rw [e4] at h
          obtain ⟨h1, h2⟩ := zz_and h
          have := Nat.eq_of_beq_eq_true e4
          subst this
          refine ⟨fun _ => ⟨_, h1, rfl, hS⟩, fun z => ⟨_, h2, rfl, ttSat_b hS hu ?_⟩⟩
          rcases (show ρ v.2.1 = 0 ∨ ((1 ≤ ρ v.2.1 ∧ ρ v.2.1 < (H.2.2.2.1 : Int)) ∧ ttRo (ρ v.2.1) = a.toNat) from k) with y | y
          · rw [g0] at z; exact absurd y z
          · exact y
      · rw [e3] at h
        have := Nat.eq_of_beq_eq_true e3
        subst this
        have k1 : 1 ≤ ρ v.2.1 := k.1.1
        exact ⟨fun z => by omega, fun _ => ⟨_, h, rfl, hS⟩⟩
  · rw [e] at h
    have z := zzEq_ok e
    rw [z, Int.zero_mul, Int.zero_add] at g0
    simp only [] at h
    cases e2 : zzEq v.2.2 0
    · rw [e2] at h
      have := zzEq_no e2
      exact ⟨fun z => by omega, fun _ => ⟨_, h, rfl, hS⟩⟩
    · rw [e2] at h
      have := zzEq_ok e2
      exact ⟨fun _ => ⟨_, h, rfl, hS⟩, fun z => by omega⟩
def ttB1 (st : List ttV) (f : yyN → List ttV → Bool) : Bool := match st with
  | (0, x) :: r => f x r
  | _ => false
def ttB2 (st : List ttV) (f : yyN → yyN → List ttV → Bool) : Bool := match st with
  | (0, y) :: (0, x) :: r => f x y r
  | _ => false
def ttJ1 (st : List ttV) (f : yyN → List ttV → Bool) : Bool := match st with
  | (1, x) :: r => f x r
  | _ => false
def ttJ2 (st : List ttV) (f : yyN → yyN → List ttV → Bool) : Bool := match st with
  | (1, y) :: (1, x) :: r => f x y r
  | _ => false
def ttJi (st : List ttV) (f : yyN → yyN → List ttV → Bool) : Bool := match st with
  | (0, y) :: (1, x) :: r => f x y r
  | _ => false
def ttR1 (st : List ttV) (f : yyN → List ttV → Bool) : Bool := match st with
  | (2, x) :: r => f x r
  | _ => false
def ttA2 (st : List ttV) (f : yyN → yyN → List ttV → Bool) : Bool := match st with
  | (0, i) :: (2, a) :: r => f a i r
  | _ => false
def ttA3 (t : Nat) (st : List ttV) (f : yyN → yyN → yyN → List ttV → Bool) : Bool := match st with
  | (u, x) :: (0, i) :: (2, a) :: r => Nat.beq u t && f a i x r
  | _ => false
def ttLd (L : List ttV) (i t : Nat) (f : ttV → Bool) : Bool := match L.getD i (9, (0, 0, 0)) with
  | (u, x) => Nat.beq u t && f (u, x)
def ttSw (f : Int → Nat → Bool) : Int → List Int → Bool
  | _, [] => true
  | v, t :: ts => f v t.toNat && ttSw f (v + 1) ts
noncomputable def ttIv (ev : ttEv) (ih : ttG) (ct : ttCt) (k : ttKo) (d : Nat) (cd rs : List Instr) (pc : Nat) (L : List ttV) (X : ttX) (j : Nat) (as : List ttV) (rt : Nat) (r : List ttV) : Bool := match ttFnd j as X ev.1 with
  | some c => ttCl ev.2.1 d c as X fun X' v => ih ct k d cd rs pc L (ttPush rt v r) X'
  | none => match d with
    | 0 => false
    | e + 1 => Nat.ble (ttFl as).length (xM j).2.2.1 && ih [] (fun X' v => ih ct k (e + 1) cd rs pc L (ttPush rt v r) X') e (xCode j) (xCode j) 0 (ttEn (xM j).2.2.1 as) [] X
/-- a place of an array is read, written -/
def ttAl (κ : Int → Bool) (X : ttX) (a i : yyN) (f : ttX → yyN → Bool) : Bool := ttRl X a fun ro => match ttTb ro with
  | (k, len, sz, m, ts) => κ k && (ttBd X.2.1 i (fun l h => zzLe 0 l && (zzLe (h + 1) sz && zzLe (h + 1) len)) && ttRe X m i fun rs => ttLt ts rs fun T => ttGe X a i T f)
def ttAt (ev : ttEv) (κ : Int) (X : ttX) (a i x : yyN) (f : ttX → Bool) : Bool := ttRl X a fun ro => match ttTb ro with
  | (k, len, sz, m, ts) => zzEq k κ && ttBd X.2.1 i fun l h => (zzLe 0 l && (zzLe (h + 1) sz && (zzLe (h + 1) len && ttWk ev X ro l h (some x)))) && ttRe X m i fun rs => rs.all (fun q => ttChk X x (ts.getD q (9, 0, 0))) && ttPu X ro l h a i x f
def ttGf (X : ttX) (q : Nat) (a : yyN) (f : ttX → yyN → Bool) : Bool := ttRl X a fun ro => match ttTb ro with
  | (k, _, sz, m, ts) => zzEq k ((q / 1000 : Nat) : Int) && (zzLe (((q / 10 % 100 : Nat) : Int) + 1) sz && ttGe X a (0, 0, ((q / 10 % 100 : Nat) : Int)) (ts.getD (((q / 10 % 100 : Nat) : Int) % m).toNat (9, 0, 0)) f)
def ttPt (ty t : Nat) (X : ttX) (x : yyN) : Bool := match ty, t with
  | 0, 0 => true
  | 1, 1 => true
  | 2, 2 => true
  | 3, 0 => ttBd X.2.1 x fun l h => zzLe 0 l && zzLe h 1
  | _, _ => false
def ttPf (ev : ttEv) (X : ttX) (q : Nat) (a x : yyN) (f : ttX → Bool) : Bool := ttRl X a fun ro => match ttTb ro with
  | (k, _, sz, m, ts) => zzEq k ((q / 1000 : Nat) : Int) && (zzLe (((q / 10 % 100 : Nat) : Int) + 1) sz && (ttWk ev X ro ((q / 10 % 100 : Nat) : Int) ((q / 10 % 100 : Nat) : Int) (some x) && (ttChk X x (ts.getD (((q / 10 % 100 : Nat) : Int) % m).toNat (9, 0, 0)) && ttPu X ro ((q / 10 % 100 : Nat) : Int) ((q / 10 % 100 : Nat) : Int) a (0, 0, ((q / 10 % 100 : Nat) : Int)) x f)))
/-- a part of an int row goes over another one -/
def ttCy (ev : ttEv) (X : ttX) (a b : yyN) (sp dp l : Int) (f : ttX → Bool) : Bool := ttRl X a fun ra => ttRl X b fun rb => match ttTb ra, ttTb rb with
  | (k, len, sz, m, ts), (k2, len2, _, m2, ts2) => (zzEq k 20 && (zzEq k2 20 && (zzEq m 1 && zzEq m2 1))) && ((zzLe 0 sp && (zzLe 0 dp && (zzLe 0 l && zzLe (sp + l) sz))) && ((zzLe (sp + l) len && (zzLe (dp + l) len2 && (ttSb (ts.getD 0 (9, 0, 0)) (ts2.getD 0 (9, 0, 0)) && ttWk ev X rb dp (dp + l - 1) none))) && ttKf X [(rb, dp, dp + l - 1)] f))
