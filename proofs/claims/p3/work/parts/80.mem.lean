/-! the memory after the constructors is typed -/
noncomputable def yySb : (n : Nat) → zzT zzI (n + 12) → Nat → zzT zzI 12 := fun n => Nat.rec (motive := fun n => zzT zzI (n + 12) → Nat → zzT zzI 12) (fun t _ => t) (fun n ih t k => match (show Option (zzT zzI (n + 12) × zzT zzI (n + 12)) from t) with
  | none => (none : Option (zzT zzI 11 × zzT zzI 11))
  | some (l, r) => match Nat.beq (Nat.mod k 2) 0 with
    | true => ih l (Nat.div k 2)
    | false => ih r (Nat.div k 2)) n
theorem yySb_get : ∀ (n : Nat) (t : zzT zzI (n + 12)) (a j : Nat), a < 2 ^ n → zzGet (0, 0) (n + 12) t (a + 2 ^ n * j) = zzGet (0, 0) 12 (yySb n t a) j
  | 0, t, a, j, h => by
    have h : a < 1 := h
    have e : a + 2 ^ 0 * j = j := by rw [Nat.pow_zero]; omega
    rw [e]
    rfl
  | n + 1, (none : Option (zzT zzI (n + 12) × zzT zzI (n + 12))), a, j, h => rfl
  | n + 1, (some (l, r) : Option (zzT zzI (n + 12) × zzT zzI (n + 12))), a, j, h => by
    have e1 : Nat.mod (a + 2 ^ (n + 1) * j) 2 = Nat.mod a 2 := by
      show (a + 2 ^ (n + 1) * j) % 2 = a % 2
      rw [Nat.pow_succ, Nat.mul_comm (2 ^ n) 2, Nat.mul_assoc, Nat.add_mul_mod_self_left]
    have e2 : Nat.div (a + 2 ^ (n + 1) * j) 2 = Nat.div a 2 + 2 ^ n * j := by
      show (a + 2 ^ (n + 1) * j) / 2 = a / 2 + 2 ^ n * j
      rw [Nat.pow_succ, Nat.mul_comm (2 ^ n) 2, Nat.mul_assoc, Nat.add_mul_div_left _ _ (by decide)]
    have h2 : Nat.div a 2 < 2 ^ n := by
      show a / 2 < 2 ^ n
      rw [Nat.pow_succ] at h
      omega
    show (match Nat.beq (Nat.mod (a + 2 ^ (n + 1) * j) 2) 0 with | true => zzGet (0, 0) (n + 12) l (Nat.div (a + 2 ^ (n + 1) * j) 2) | false => zzGet (0, 0) (n + 12) r (Nat.div (a + 2 ^ (n + 1) * j) 2)) = zzGet (0, 0) 12 (match Nat.beq (Nat.mod a 2) 0 with | true => yySb n l (Nat.div a 2) | false => yySb n r (Nat.div a 2)) j
    rw [e1, e2]
    cases Nat.beq (Nat.mod a 2) 0
    · exact yySb_get n r _ j h2
    · exact yySb_get n l _ j h2
def yyCk1 (t : ttI) (v : zzI) : Bool := match t with
  | (0, a, b) => zzLe a v.1 && zzLe v.2 b
  | (1, a, _) => zzEq v.1 v.2 && ((zzLe 1 v.1 && zzLe v.1 209) && Nat.beq (ttRo v.1) a.toNat)
  | (2, a, _) => zzEq v.1 v.2 && (zzEq v.1 0 || ((zzLe 1 v.1 && zzLe v.1 209) && Nat.beq (ttRo v.1) a.toNat))
  | (4, a, b) => (zzLe a v.1 && zzLe v.2 b) && (zzLe 1 v.1 || zzLe v.2 (-1))
  | _ => true
theorem yyCk1_ok {N : Int} (hN : 210 ≤ N) {t : ttI} {v : zzI} {x : Int} (h : yyCk1 t v = true) (hx : zzM v x) : ttM N t x := by
  obtain ⟨k, a, b⟩ := t
  have hx1 : v.1 ≤ x := hx.1
  have hx2 : x ≤ v.2 := hx.2
  match k, h with
  | 0, h =>
    obtain ⟨h1, h2⟩ := zz_and h
    have h1 := zzLe_ok h1
    have h2 := zzLe_ok h2
    exact ⟨by show a ≤ x; omega, by show x ≤ b; omega⟩
  | 1, h =>
    obtain ⟨h1, h2⟩ := zz_and h
    obtain ⟨h2, h3⟩ := zz_and h2
    obtain ⟨h2, h4⟩ := zz_and h2
    have h1 := zzEq_ok h1
    have h2 := zzLe_ok h2
    have h4 := zzLe_ok h4
    have e : x = v.1 := by omega
    exact ⟨⟨by show 1 ≤ x; omega, by show x < N; omega⟩, by show ttRo x = a.toNat; rw [e]; exact Nat.eq_of_beq_eq_true h3⟩
  | 2, h =>
    obtain ⟨h1, h2⟩ := zz_and h
    have h1 := zzEq_ok h1
    rcases Bool.or_eq_true _ _ ▸ h2 with h2 | h2
    · have h2 := zzEq_ok h2
      exact Or.inl (by show x = 0; omega)
    · obtain ⟨h2, h3⟩ := zz_and h2
      obtain ⟨h2, h4⟩ := zz_and h2
      have h2 := zzLe_ok h2
      have h4 := zzLe_ok h4
      have e : x = v.1 := by omega
      exact Or.inr ⟨⟨by show 1 ≤ x; omega, by show x < N; omega⟩, by show ttRo x = a.toNat; rw [e]; exact Nat.eq_of_beq_eq_true h3⟩
  | 3, _ => exact trivial
  | 4, h =>
    obtain ⟨h1, h2⟩ := zz_and h
    obtain ⟨h1, h3⟩ := zz_and h1
    have h1 := zzLe_ok h1
    have h3 := zzLe_ok h3
    refine ⟨⟨by show a ≤ x; omega, by show x ≤ b; omega⟩, ?_⟩
    show x ≠ 0
    rcases Bool.or_eq_true _ _ ▸ h2 with h2 | h2
    · have h2 := zzLe_ok h2
      omega
    · have h2 := zzLe_ok h2
      omega
  | _ + 5, _ => exact trivial
noncomputable def yyAr (m : zzMm) (a : Nat) : Bool := (zzEq (zzOb m (a : Int)).1 (ttTb (ttRo (a : Int))).1 && zzEq (zzOb m (a : Int)).2 (ttTb (ttRo (a : Int))).2.1) && match yySb 8 m.1 a with
  | (none : Option (zzT zzI 11 × zzT zzI 11)) => zzLe 1 (ttTb (ttRo (a : Int))).2.2.2.1 && (List.range (ttTb (ttRo (a : Int))).2.2.2.1.toNat).all (fun r => yyCk1 ((ttTb (ttRo (a : Int))).2.2.2.2.getD r (9, 0, 0)) (0, 0))
  | (some q : Option (zzT zzI 11 × zzT zzI 11)) => zzLe (ttTb (ttRo (a : Int))).2.2.1 4096 && (List.range (ttTb (ttRo (a : Int))).2.2.1.toNat).all (fun j => yyCk1 (ttTy (ttTb (ttRo (a : Int))) (j : Int)) (zzGet (0, 0) 12 (some q : Option (zzT zzI 11 × zzT zzI 11)) j))
theorem yyAr_ok {S : zzQ} {m : zzMm} {H : xH} (hW : zzW S m H) (hn : m.2.2.1 = 210) {a : Nat} (a0 : 1 ≤ a) (a1 : a < 210) (h : yyAr m a = true) : H.2.1 (a : Int) = (ttTb (ttRo (a : Int))).1 ∧ H.2.2.1 (a : Int) = (ttTb (ttRo (a : Int))).2.1 ∧ ∀ j : Int, 0 ≤ j → j < (ttTb (ttRo (a : Int))).2.2.1 → ttM (H.2.2.2.1 : Int) (ttTy (ttTb (ttRo (a : Int))) j) (H.1 (a : Int) j) := by
  obtain ⟨⟨w1, w2, w3, w0, wa⟩, w4, w5, w6, w7, w8, w9⟩ := hW
  have hN : (210 : Int) ≤ (H.2.2.2.1 : Int) := by rw [w1, hn]; decide
  obtain ⟨h1, h2⟩ := zz_and h
  obtain ⟨h1, h3⟩ := zz_and h1
  obtain ⟨k1, k2⟩ := w4 (a : Int) (by omega) (by omega)
  refine ⟨k1.trans (zzEq_ok h1), k2.trans (zzEq_ok h3), fun j j0 j1 => ?_⟩
  have key : ∀ i : Nat, zzRd m (a : Int) (i : Int) = zzGet (0, 0) 12 (yySb 8 m.1 a) i := fun i => yySb_get 8 m.1 a i (by show a < 256; omega)
  revert h2 key
  generalize yySb 8 m.1 a = t
  intro h2 key
  match t, h2, key with
  | (none : Option (zzT zzI 11 × zzT zzI 11)), h2, key =>
    have h2 : (zzLe 1 (ttTb (ttRo (a : Int))).2.2.2.1 && (List.range (ttTb (ttRo (a : Int))).2.2.2.1.toNat).all (fun r => yyCk1 ((ttTb (ttRo (a : Int))).2.2.2.2.getD r (9, 0, 0)) (0, 0))) = true := h2
    obtain ⟨g1, g2⟩ := zz_and h2
    have g1 := zzLe_ok g1
    have z : zzM (0, 0) (H.1 (a : Int) j) := by
      by_cases e : j < 4096
      · have k := w5 (a : Int) j (by omega) (by omega) j0 e
        have kk := key j.toNat
        rw [Int.toNat_of_nonneg j0] at kk
        rw [kk] at k
        exact k
      · rw [w0 (a : Int) j (by omega) (by omega)]
        exact zzM_1 0
    have r0 := Int.emod_nonneg j (show (ttTb (ttRo (a : Int))).2.2.2.1 ≠ 0 by omega)
    have r1 := Int.emod_lt_of_pos j (show 0 < (ttTb (ttRo (a : Int))).2.2.2.1 by omega)
    exact yyCk1_ok hN (List.all_eq_true.mp g2 (j % (ttTb (ttRo (a : Int))).2.2.2.1).toNat (List.mem_range.mpr (by omega))) z
  | (some q : Option (zzT zzI 11 × zzT zzI 11)), h2, key =>
    have h2 : (zzLe (ttTb (ttRo (a : Int))).2.2.1 4096 && (List.range (ttTb (ttRo (a : Int))).2.2.1.toNat).all (fun j => yyCk1 (ttTy (ttTb (ttRo (a : Int))) (j : Int)) (zzGet (0, 0) 12 (some q : Option (zzT zzI 11 × zzT zzI 11)) j))) = true := h2
    obtain ⟨g1, g2⟩ := zz_and h2
    have g1 := zzLe_ok g1
    have k := w5 (a : Int) j (by omega) (by omega) j0 (by omega)
    have kk := key j.toNat
    rw [Int.toNat_of_nonneg j0] at kk
    have g := List.all_eq_true.mp g2 j.toNat (List.mem_range.mpr (by omega))
    rw [Int.toNat_of_nonneg j0] at g
    rw [kk] at k
    exact yyCk1_ok hN g k
/-- what is known exactly at the start -/
def yyXs : List (Nat × Nat × Int) := [(73, 0, 0), (73, 1, 0), (73, 2, 0), (73, 3, 0), (73, 4, 0), (184, 2, 0), (184, 12, (-1)), (184, 15, 0), (186, 0, 0), (186, 1, 0), (186, 2, 0), (183, 22, 0), (183, 29, (-1)), (1, 1, 0), (183, 5, 0)]
noncomputable def yyMe (m : zzMm) : Bool := (Nat.beq m.2.2.1 210 && Nat.beq m.2.2.2 450828) && ((List.range 209).all (fun a => yyAr m (a + 1)) && yyXs.all (fun q => zzEq (zzRd m (q.1 : Int) (q.2.1 : Int)).1 q.2.2 && zzEq (zzRd m (q.1 : Int) (q.2.1 : Int)).2 q.2.2))
theorem yyMe_ok {S : zzQ} {m : zzMm} {H : xH} (hW : zzW S m H) (h : yyMe m = true) : ttTI H ∧ (H.2.2.2.1 = 210 ∧ H.2.2.2.2 = 450828) ∧ ∀ q ∈ yyXs, H.1 (q.1 : Int) (q.2.1 : Int) = q.2.2 := by
  obtain ⟨h1, h2⟩ := zz_and h
  obtain ⟨h1, h3⟩ := zz_and h1
  obtain ⟨h2, h4⟩ := zz_and h2
  have h1 := Nat.eq_of_beq_eq_true h1
  have h3 := Nat.eq_of_beq_eq_true h3
  have w1 := hW.1.1
  have w2 := hW.1.2.1
  refine ⟨⟨by omega, fun a a0 a1 => ?_⟩, ⟨by omega, by omega⟩, fun q hq => ?_⟩
  · have k := yyAr_ok hW h1 (a := a.toNat) (by omega) (by omega) (by
      have g := List.all_eq_true.mp h2 (a.toNat - 1) (List.mem_range.mpr (by omega))
      rw [show a.toNat - 1 + 1 = a.toNat by omega] at g
      exact g)
    rw [Int.toNat_of_nonneg (by omega)] at k
    exact k
  · obtain ⟨g1, g2⟩ := zz_and (List.all_eq_true.mp h4 q hq)
    have g1 := zzEq_ok g1
    have g2 := zzEq_ok g2
    have b : ∀ q ∈ yyXs, 1 ≤ q.1 ∧ q.1 < 210 ∧ q.2.1 < 4096 := by decide
    obtain ⟨b1, b2, b3⟩ := b q hq
    obtain ⟨k1, k2⟩ := hW.2.2.1 (q.1 : Int) (q.2.1 : Int) (by omega) (by omega) (by omega) (by omega)
    have k1 : (zzRd m (q.1 : Int) (q.2.1 : Int)).1 ≤ H.1 (q.1 : Int) (q.2.1 : Int) := k1
    have k2 : H.1 (q.1 : Int) (q.2.1 : Int) ≤ (zzRd m (q.1 : Int) (q.2.1 : Int)).2 := k2
    omega
theorem yyMe_X {H : xH} (hT : ttTI H) (hn : H.2.2.2.1 = 210 ∧ H.2.2.2.2 = 450828) (hx : ∀ q ∈ yyXs, H.1 (q.1 : Int) (q.2.1 : Int) = q.2.2) : ttXX YY H := by
  have g : ∀ a j : Nat, ∀ v : Int, (a, j, v) ∈ yyXs → H.1 (a : Int) (j : Int) = v := fun a j v h => hx (a, j, v) h
  have p0 : H.1 73 0 = 0 := g 73 0 0 (by decide)
  have p1 : H.1 73 1 = 0 := g 73 1 0 (by decide)
  have p2 : H.1 73 2 = 0 := g 73 2 0 (by decide)
  have p3 : H.1 73 3 = 0 := g 73 3 0 (by decide)
  have p4 : H.1 73 4 = 0 := g 73 4 0 (by decide)
  have w2 : H.1 184 2 = 0 := g 184 2 0 (by decide)
  have wc : H.1 184 12 = -1 := g 184 12 (-1) (by decide)
  have wf : H.1 184 15 = 0 := g 184 15 0 (by decide)
  have i0 : H.1 186 0 = 0 := g 186 0 0 (by decide)
  have i1 : H.1 186 1 = 0 := g 186 1 0 (by decide)
  have i2 : H.1 186 2 = 0 := g 186 2 0 (by decide)
  have f2 : H.1 183 22 = 0 := g 183 22 0 (by decide)
  have f9 : H.1 183 29 = -1 := g 183 29 (-1) (by decide)
  have eN : ttNs5 H.1 = 0 := by
    unfold ttNs5
    rw [p0, p1, p2, p3, p4]
    rfl
  have ez : ∀ j : Int, (0 : Int) + j = j := fun j => Int.zero_add j
  refine ⟨⟨by rw [eN]; exact hn.1, by rw [eN]; exact hn.2⟩, by rw [hn.1]; decide, ⟨fun l l0 l1 l2 => ?_, ?_, fun z => ?_⟩, fun k k0 k1 k2 => ?_, fun z => ?_, fun z => absurd f9 z⟩
  · rw [ez, w2] at l2
    omega
  · rw [ez, wf]
    decide
  · rw [ez] at z
    exact absurd wc z
  · obtain rfl | rfl | rfl : k = 0 ∨ k = 1 ∨ k = 2 := by omega
    · exact absurd i0 k2
    · exact absurd i1 k2
    · exact absurd i2 k2
  · rw [f2] at z
    cases z
theorem lwRR_0 {H : xH} (hx : ∀ q ∈ yyXs, H.1 (q.1 : Int) (q.2.1 : Int) = q.2.2) : lwRR H := fun p hp => by
  have g : ∀ a j : Nat, ∀ v : Int, (a, j, v) ∈ yyXs → H.1 (a : Int) (j : Int) = v := fun a j v h => hx (a, j, v) h
  simp only [lwPs, List.mem_cons, List.not_mem_nil, or_false] at hp
  subst hp
  exact (g 1 1 0 (by decide)).trans (g 183 5 0 (by decide)).symm
