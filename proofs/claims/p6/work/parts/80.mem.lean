/-! the memory after the constructors is typed -/
noncomputable def yySb : (n : Nat) → zzT zzI (n + 12) → Nat → zzT zzI 12 := fun n => Nat.rec (motive := fun n => zzT zzI (n + 12) → Nat → zzT zzI 12) (fun t _ => t) (fun n ih t k => match (show Option (zzT zzI (n + 12) × zzT zzI (n + 12)) from t) with
  | none => (none : Option (zzT zzI 11 × zzT zzI 11))
  | some (l, r) => match Nat.beq (Nat.mod k 2) 0 with
    | true => ih l (Nat.div k 2)
    | false => ih r (Nat.div k 2)) n
theorem yySb_get : ∀ (n : Nat) (t : zzT zzI (n + 12)) (a j : Nat), a < 2 ^ n → zzGet (0, 0) (n + 12) t (a + 2 ^ n * j) = zzGet (0, 0) 12 (yySb n t a) j
  | 0, t, a, j, h => by
    have h : a < 1 := h
    have e : a + 2 ^ 0 * j = j := by rw [Nat.pow_zero]; omega
    rw [e]
    rfl
  | n + 1, (none : Option (zzT zzI (n + 12) × zzT zzI (n + 12))), a, j, h => rfl
  | n + 1, (some (l, r) : Option (zzT zzI (n + 12) × zzT zzI (n + 12))), a, j, h => by
    have e1 : Nat.mod (a + 2 ^ (n + 1) * j) 2 = Nat.mod a 2 := by
      show (a + 2 ^ (n + 1) * j) % 2 = a % 2
      rw [Nat.pow_succ, Nat.mul_comm (2 ^ n) 2, Nat.mul_assoc, Nat.add_mul_mod_self_left]
    have e2 : Nat.div (a + 2 ^ (n + 1) * j) 2 = Nat.div a 2 + 2 ^ n * j := by
      show (a + 2 ^ (n + 1) * j) / 2 = a / 2 + 2 ^ n * j
      rw [Nat.pow_succ, Nat.mul_comm (2 ^ n) 2, Nat.mul_assoc, Nat.add_mul_div_left _ _ (by decide)]
    have h2 : Nat.div a 2 < 2 ^ n := by
      show a / 2 < 2 ^ n
      rw [Nat.pow_succ] at h
      omega
    show (match Nat.beq (Nat.mod (a + 2 ^ (n + 1) * j) 2) 0 with | true => zzGet (0, 0) (n + 12) l (Nat.div (a + 2 ^ (n + 1) * j) 2) | false => zzGet (0, 0) (n + 12) r (Nat.div (a + 2 ^ (n + 1) * j) 2)) = zzGet (0, 0) 12 (match Nat.beq (Nat.mod a 2) 0 with | true => yySb n l (Nat.div a 2) | false => yySb n r (Nat.div a 2)) j
    rw [e1, e2]
    cases Nat.beq (Nat.mod a 2) 0
    · exact yySb_get n r _ j h2
    · exact yySb_get n l _ j h2
def yyCk1 (t : ttI) (v : zzI) : Bool := match t with
  | (0, a, b) => zzLe a v.1 && zzLe v.2 b
  | (1, a, _) => zzEq v.1 v.2 && ((zzLe 1 v.1 && zzLe v.1 209) && Nat.beq (ttRo v.1) a.toNat)
  | (2, a, _) => zzEq v.1 v.2 && (zzEq v.1 0 || ((zzLe 1 v.1 && zzLe v.1 209) && Nat.beq (ttRo v.1) a.toNat))
  | (4, a, b) => (zzLe a v.1 && zzLe v.2 b) && (zzLe 1 v.1 || zzLe v.2 (-1))
  | _ => true
theorem yyCk1_ok {N : Int} (hN : 210 ≤ N) {t : ttI} {v : zzI} {x : Int} (h : yyCk1 t v = true) (hx : zzM v x) : ttM N t x := by
  obtain ⟨k, a, b⟩ := t
  have hx1 : v.1 ≤ x := hx.1
  have hx2 : x ≤ v.2 := hx.2
  match k, h with
  | 0, h =>
    obtain ⟨h1, h2⟩ := zz_and h
    have h1 := zzLe_ok h1
    have h2 := zzLe_ok h2
    exact ⟨by show a ≤ x; omega, by show x ≤ b; omega⟩
  | 1, h =>
    obtain ⟨h1, h2⟩ := zz_and h
    obtain ⟨h2, h3⟩ := zz_and h2
    obtain ⟨h2, h4⟩ := zz_and h2
    have h1 := zzEq_ok h1
    have h2 := zzLe_ok h2
    have h4 := zzLe_ok h4
    have e : x = v.1 := by omega
    exact ⟨⟨by show 1 ≤ x; omega, by show x < N; omega⟩, by show ttRo x = a.toNat; rw [e]; exact Nat.eq_of_beq_eq_true h3⟩
  | 2, h =>
    obtain ⟨h1, h2⟩ := zz_and h
    have h1 := zzEq_ok h1
    rcases Bool.or_eq_true _ _ ▸ h2 with h2 | h2
    · have h2 := zzEq_ok h2
      exact Or.inl (by show x = 0; omega)
    · obtain ⟨h2, h3⟩ := zz_and h2
      obtain ⟨h2, h4⟩ := zz_and h2
      have h2 := zzLe_ok h2
      have h4 := zzLe_ok h4
      have e : x = v.1 := by omega
      exact Or.inr ⟨⟨by show 1 ≤ x; omega, by show x < N; omega⟩, by show ttRo x = a.toNat; rw [e]; exact Nat.eq_of_beq_eq_true h3⟩
  | 3, _ => exact trivial
  | 4, h =>
    obtain ⟨h1, h2⟩ := zz_and h
    obtain ⟨h1, h3⟩ := zz_and h1
    have h1 := zzLe_ok h1
    have h3 := zzLe_ok h3
    refine ⟨⟨by show a ≤ x; omega, by show x ≤ b; omega⟩, ?_⟩
    show x ≠ 0
    rcases Bool.or_eq_true _ _ ▸ h2 with h2 | h2
    · have h2 := zzLe_ok h2
      omega
    · have h2 := zzLe_ok h2
      omega
  | _ + 5, _ => exact trivial
noncomputable def yyAr (m : zzMm) (a : Nat) : Bool := (zzEq (zzOb m (a : Int)).1 (ttTb (ttRo (a : Int))).1 && zzEq (zzOb m (a : Int)).2 (ttTb (ttRo (a : Int))).2.1) && match yySb 8 m.1 a with
  | (none : Option (zzT zzI 11 × zzT zzI 11)) => zzLe 1 (ttTb (ttRo (a : Int))).2.2.2.1 && (List.range (ttTb (ttRo (a : Int))).2.2.2.1.toNat).all (fun r => yyCk1 ((ttTb (ttRo (a : Int))).2.2.2.2.getD r (9, 0, 0)) (0, 0))
  | (some q : Option (zzT zzI 11 × zzT zzI 11)) => zzLe (ttTb (ttRo (a : Int))).2.2.1 4096 && (List.range (ttTb (ttRo (a : Int))).2.2.1.toNat).all (fun j => yyCk1 (ttTy (ttTb (ttRo (a : Int))) (j : Int)) (zzGet (0, 0) 12 (some q : Option (zzT zzI 11 × zzT zzI 11)) j))
theorem yyAr_ok {S : zzQ} {m : zzMm} {H : xH} (hW : zzW S m H) (hn : m.2.2.1 = 210) {a : Nat} (a0 : 1 ≤ a) (a1 : a < 210) (h : yyAr m a = true) : H.2.1 (a : Int) = (ttTb (ttRo (a : Int))).1 ∧ H.2.2.1 (a : Int) = (ttTb (ttRo (a : Int))).2.1 ∧ ∀ j : Int, 0 ≤ j → j < (ttTb (ttRo (a : Int))).2.2.1 → ttM (H.2.2.2.1 : Int) (ttTy (ttTb (ttRo (a : Int))) j) (H.1 (a : Int) j) := by
  obtain ⟨⟨w1, w2, w3, w0, wa⟩, w4, w5, w6, w7, w8, w9⟩ := hW
  have hN : (210 : Int) ≤ (H.2.2.2.1 : Int) := by rw [w1, hn]; decide
  obtain ⟨h1, h2⟩ := zz_and h
  obtain ⟨h1, h3⟩ := zz_and h1
  obtain ⟨k1, k2⟩ := w4 (a : Int) (by omega) (by omega)
  refine ⟨k1.trans (zzEq_ok h1), k2.trans (zzEq_ok h3), fun j j0 j1 => ?_⟩
  have key : ∀ i : Nat, zzRd m (a : Int) (i : Int) = zzGet (0, 0) 12 (yySb 8 m.1 a) i := fun i => yySb_get 8 m.1 a i (by show a < 256; omega)
  revert h2 key
  generalize yySb 8 m.1 a = t
  intro h2 key
  match t, h2, key with
  | (none : Option (zzT zzI 11 × zzT zzI 11)), h2, key =>
    have h2 : (zzLe 1 (ttTb (ttRo (a : Int))).2.2.2.1 && (List.range (ttTb (ttRo (a : Int))).2.2.2.1.toNat).all (fun r => yyCk1 ((ttTb (ttRo (a : Int))).2.2.2.2.getD r (9, 0, 0)) (0, 0))) = true := h2
    obtain ⟨g1, g2⟩ := zz_and h2
    have g1 := zzLe_ok g1
    have z : zzM (0, 0) (H.1 (a : Int) j) := by
      by_cases e : j < 4096
      · have k := w5 (a : Int) j (by omega) (by omega) j0 e
        have kk := key j.toNat
        rw [Int.toNat_of_nonneg j0] at kk
        rw [kk] at k
        exact k
      · rw [w0 (a : Int) j (by omega) (by omega)]
        exact zzM_1 0
    have r0 := Int.emod_nonneg j (show (ttTb (ttRo (a : Int))).2.2.2.1 ≠ 0 by omega)
    have r1 := Int.emod_lt_of_pos j (show 0 < (ttTb (ttRo (a : Int))).2.2.2.1 by omega)
    exact yyCk1_ok hN (List.all_eq_true.mp g2 (j % (ttTb (ttRo (a : Int))).2.2.2.1).toNat (List.mem_range.mpr (by omega))) z
  | (some q : Option (zzT zzI 11 × zzT zzI 11)), h2, key =>
    have h2 : (zzLe (ttTb (ttRo (a : Int))).2.2.1 4096 && (List.range (ttTb (ttRo (a : Int))).2.2.1.toNat).all (fun j => yyCk1 (ttTy (ttTb (ttRo (a : Int))) (j : Int)) (zzGet (0, 0) 12 (some q : Option (zzT zzI 11 × zzT zzI 11)) j))) = true := h2
    obtain ⟨g1, g2⟩ := zz_and h2
    have g1 := zzLe_ok g1
    have k := w5 (a : Int) j (by omega) (by omega) j0 (by omega)
    have kk := key j.toNat
    rw [Int.toNat_of_nonneg j0] at kk
    have g := List.all_eq_true.mp g2 j.toNat (List.mem_range.mpr (by omega))
    rw [Int.toNat_of_nonneg j0] at g
    rw [kk] at k
    exact yyCk1_ok hN g k
/-- what is known exactly at the start -/
def yyXs : List (Nat × Nat × Int) := [(73, 0, 0), (73, 1, 0), (73, 2, 0), (73, 3, 0), (73, 4, 0), (184, 2, 0), (184, 12, (-1)), (184, 15, 0), (186, 0, 0), (186, 1, 0), (186, 2, 0), (183, 22, 0), (183, 29, (-1)), (1, 1, 0), (183, 5, 0), (1, 3, 0), (1, 4, (-1)), (183, 12, 0), (183, 13, (-1)), (1, 5, 7), (1, 6, 34), (7, 0, 8), (7, 1, 9), (7, 2, 10), (7, 3, 13), (8, 0, 16), (8, 1, 17), (8, 2, 18), (8, 3, 19), (8, 4, 20), (8, 5, 21), (8, 6, 22), (8, 7, 23), (9, 0, 24), (9, 1, 25), (9, 2, 26), (9, 3, 27), (9, 4, 28), (9, 5, 29), (9, 6, 30), (9, 7, 31), (9, 8, 32), (9, 9, 33), (10, 1, 11), (10, 2, 12), (13, 1, 14), (13, 2, 15), (34, 0, 35), (34, 1, 36), (34, 2, 37), (34, 3, 40), (35, 0, 43), (35, 1, 44), (35, 2, 45), (35, 3, 46), (35, 4, 47), (35, 5, 48), (35, 6, 49), (35, 7, 50), (36, 0, 51), (36, 1, 52), (36, 2, 53), (36, 3, 54), (36, 4, 55), (36, 5, 56), (36, 6, 57), (36, 7, 58), (36, 8, 59), (36, 9, 60), (37, 1, 38), (37, 2, 39), (40, 1, 41), (40, 2, 42), (102, 0, 103), (102, 1, 104), (102, 2, 105), (102, 3, 108), (103, 0, 111), (103, 1, 112), (103, 2, 113), (103, 3, 114), (103, 4, 115), (103, 5, 116), (103, 6, 117), (103, 7, 118), (104, 0, 119), (104, 1, 120), (104, 2, 121), (104, 3, 122), (104, 4, 123), (104, 5, 124), (104, 6, 125), (104, 7, 126), (104, 8, 127), (104, 9, 128), (105, 1, 106), (105, 2, 107), (108, 1, 109), (108, 2, 110), (129, 0, 130), (129, 1, 131), (129, 2, 132), (129, 3, 135), (130, 0, 138), (130, 1, 139), (130, 2, 140), (130, 3, 141), (130, 4, 142), (130, 5, 143), (130, 6, 144), (130, 7, 145), (131, 0, 146), (131, 1, 147), (131, 2, 148), (131, 3, 149), (131, 4, 150), (131, 5, 151), (131, 6, 152), (131, 7, 153), (131, 8, 154), (131, 9, 155), (132, 1, 133), (132, 2, 134), (135, 1, 136), (135, 2, 137), (156, 0, 157), (156, 1, 158), (156, 2, 159), (156, 3, 162), (157, 0, 165), (157, 1, 166), (157, 2, 167), (157, 3, 168), (157, 4, 169), (157, 5, 170), (157, 6, 171), (157, 7, 172), (158, 0, 173), (158, 1, 174), (158, 2, 175), (158, 3, 176), (158, 4, 177), (158, 5, 178), (158, 6, 179), (158, 7, 180), (158, 8, 181), (158, 9, 182), (159, 1, 160), (159, 2, 161), (162, 1, 163), (162, 2, 164), (61, 0, 102), (61, 1, 129), (61, 2, 156), (62, 0, 0), (62, 1, 0), (62, 2, 0), (7, 4, 0), (7, 5, 0), (7, 6, 0), (7, 7, 0), (7, 8, 0), (7, 9, 40), (7, 10, 40), (7, 11, 1000), (7, 12, 0), (7, 13, 0), (7, 15, (-1)), (7, 16, 0), (7, 17, 0), (7, 18, 0), (7, 14, (-1)), (10, 0, 0), (13, 0, 0), (16, 0, 0), (16, 1, (-1)), (16, 2, 0), (16, 3, 0), (16, 4, 0), (16, 5, 0), (16, 6, 0), (17, 0, 0), (17, 1, (-1)), (17, 2, 0), (17, 3, 0), (17, 4, 0), (17, 5, 0), (17, 6, 0), (18, 0, 0), (18, 1, (-1)), (18, 2, 0), (18, 3, 0), (18, 4, 0), (18, 5, 0), (18, 6, 0), (19, 0, 0), (19, 1, (-1)), (19, 2, 0), (19, 3, 0), (19, 4, 0), (19, 5, 0), (19, 6, 0), (20, 0, 0), (20, 1, (-1)), (20, 2, 0), (20, 3, 0), (20, 4, 0), (20, 5, 0), (20, 6, 0), (21, 0, 0), (21, 1, (-1)), (21, 2, 0), (21, 3, 0), (21, 4, 0), (21, 5, 0), (21, 6, 0), (22, 0, 0), (22, 1, (-1)), (22, 2, 0), (22, 3, 0), (22, 4, 0), (22, 5, 0), (22, 6, 0), (23, 0, 0), (23, 1, (-1)), (23, 2, 0), (23, 3, 0), (23, 4, 0), (23, 5, 0), (23, 6, 0), (184, 0, 0), (184, 1, 0), (184, 3, 0), (184, 4, 0), (184, 5, 0), (184, 6, 0), (184, 7, 40), (184, 8, 40), (184, 9, 1000), (184, 10, 0), (184, 11, 0), (184, 13, 0), (184, 14, 0), (184, 20, 0), (184, 21, 0), (184, 22, 0), (184, 23, 0), (184, 24, 0), (184, 25, 0), (184, 26, 0), (184, 27, 0), (184, 28, 0), (184, 29, 0), (184, 30, 0), (184, 31, 0), (184, 32, 0), (184, 33, 0), (184, 34, 0), (184, 35, 0), (184, 36, 0), (184, 37, 0), (184, 38, 0), (184, 39, 0), (184, 40, 0), (184, 41, 0), (184, 42, 0), (184, 43, 0), (184, 44, 0), (184, 45, 0), (184, 46, 0), (184, 47, 0), (184, 48, 0), (184, 49, 0), (184, 50, 0), (184, 51, 0), (184, 52, 0), (184, 53, 0), (184, 54, 0), (184, 55, 0), (184, 56, 0), (184, 57, 0), (184, 58, 0), (184, 59, 0), (184, 60, 0), (184, 61, 0), (184, 62, 0), (184, 63, 0), (184, 64, 0), (184, 65, 0), (184, 66, 0), (184, 67, 0), (184, 68, 0), (184, 69, 0), (184, 70, 0), (184, 71, 0), (184, 72, 0), (184, 73, 0), (184, 74, 0), (184, 75, 0), (184, 76, 0), (184, 77, 0), (184, 78, 0), (184, 79, 0), (184, 80, 0), (184, 81, 0), (184, 82, 0), (184, 83, 0), (184, 89, 0), (184, 95, 0), (184, 101, 0), (184, 107, 0), (184, 113, 0), (184, 119, 0), (184, 125, 0), (184, 131, 0), (184, 137, 0), (184, 143, 0)]
noncomputable def yyMe (m : zzMm) : Bool := (Nat.beq m.2.2.1 210 && Nat.beq m.2.2.2 450828) && ((List.range 209).all (fun a => yyAr m (a + 1)) && yyXs.all (fun q => zzEq (zzRd m (q.1 : Int) (q.2.1 : Int)).1 q.2.2 && zzEq (zzRd m (q.1 : Int) (q.2.1 : Int)).2 q.2.2))
theorem yyMe_ok {S : zzQ} {m : zzMm} {H : xH} (hW : zzW S m H) (h : yyMe m = true) : ttTI H ∧ (H.2.2.2.1 = 210 ∧ H.2.2.2.2 = 450828) ∧ ∀ q ∈ yyXs, H.1 (q.1 : Int) (q.2.1 : Int) = q.2.2 := by
  obtain ⟨h1, h2⟩ := zz_and h
  obtain ⟨h1, h3⟩ := zz_and h1
  obtain ⟨h2, h4⟩ := zz_and h2
  have h1 := Nat.eq_of_beq_eq_true h1
  have h3 := Nat.eq_of_beq_eq_true h3
  have w1 := hW.1.1
  have w2 := hW.1.2.1
  refine ⟨⟨by omega, fun a a0 a1 => ?_⟩, ⟨by omega, by omega⟩, fun q hq => ?_⟩
  · have k := yyAr_ok hW h1 (a := a.toNat) (by omega) (by omega) (by
      have g := List.all_eq_true.mp h2 (a.toNat - 1) (List.mem_range.mpr (by omega))
      rw [show a.toNat - 1 + 1 = a.toNat by omega] at g
      exact g)
    rw [Int.toNat_of_nonneg (by omega)] at k
    exact k
  · obtain ⟨g1, g2⟩ := zz_and (List.all_eq_true.mp h4 q hq)
    have g1 := zzEq_ok g1
    have g2 := zzEq_ok g2
    have b : ∀ q ∈ yyXs, 1 ≤ q.1 ∧ q.1 < 210 ∧ q.2.1 < 4096 := by decide +kernel
    obtain ⟨b1, b2, b3⟩ := b q hq
    obtain ⟨k1, k2⟩ := hW.2.2.1 (q.1 : Int) (q.2.1 : Int) (by omega) (by omega) (by omega) (by omega)
    have k1 : (zzRd m (q.1 : Int) (q.2.1 : Int)).1 ≤ H.1 (q.1 : Int) (q.2.1 : Int) := k1
    have k2 : H.1 (q.1 : Int) (q.2.1 : Int) ≤ (zzRd m (q.1 : Int) (q.2.1 : Int)).2 := k2
    omega
theorem yyMe_X {H : xH} (hT : ttTI H) (hn : H.2.2.2.1 = 210 ∧ H.2.2.2.2 = 450828) (hx : ∀ q ∈ yyXs, H.1 (q.1 : Int) (q.2.1 : Int) = q.2.2) : ttXX YY H := by
  have g : ∀ a j : Nat, ∀ v : Int, (a, j, v) ∈ yyXs → H.1 (a : Int) (j : Int) = v := fun a j v h => hx (a, j, v) h
  have p0 : H.1 73 0 = 0 := g 73 0 0 (by decide)
  have p1 : H.1 73 1 = 0 := g 73 1 0 (by decide)
  have p2 : H.1 73 2 = 0 := g 73 2 0 (by decide)
  have p3 : H.1 73 3 = 0 := g 73 3 0 (by decide)
  have p4 : H.1 73 4 = 0 := g 73 4 0 (by decide)
  have w2 : H.1 184 2 = 0 := g 184 2 0 (by decide)
  have wc : H.1 184 12 = -1 := g 184 12 (-1) (by decide)
  have wf : H.1 184 15 = 0 := g 184 15 0 (by decide)
  have i0 : H.1 186 0 = 0 := g 186 0 0 (by decide)
  have i1 : H.1 186 1 = 0 := g 186 1 0 (by decide)
  have i2 : H.1 186 2 = 0 := g 186 2 0 (by decide)
  have f2 : H.1 183 22 = 0 := g 183 22 0 (by decide)
  have f9 : H.1 183 29 = -1 := g 183 29 (-1) (by decide)
  have eN : ttNs5 H.1 = 0 := by
    unfold ttNs5
    rw [p0, p1, p2, p3, p4]
    rfl
  have ez : ∀ j : Int, (0 : Int) + j = j := fun j => Int.zero_add j
  refine ⟨⟨by rw [eN]; exact hn.1, by rw [eN]; exact hn.2⟩, by rw [hn.1]; decide, ⟨fun l l0 l1 l2 => ?_, ?_, fun z => ?_⟩, fun k k0 k1 k2 => ?_, fun z => ?_, fun z => absurd f9 z⟩
  · rw [ez, w2] at l2
    omega
  · rw [ez, wf]
    decide
  · rw [ez] at z
    exact absurd wc z
  · obtain rfl | rfl | rfl : k = 0 ∨ k = 1 ∨ k = 2 := by omega
    · exact absurd i0 k2
    · exact absurd i1 k2
    · exact absurd i2 k2
  · rw [f2] at z
    cases z
theorem lw0_w7 {H : xH} (g : ∀ a j : Nat, ∀ v : Int, (a, j, v) ∈ yyXs → H.1 (a : Int) (j : Int) = v) : skW H.1 7 := by
  refine ⟨⟨g 7 0 8 (by decide), g 7 1 9 (by decide), g 7 2 10 (by decide), g 7 3 13 (by decide)⟩, fun p p0 p1 => ?_, fun l l0 l1 => ?_, ⟨g 10 1 11 (by decide), g 10 2 12 (by decide)⟩, g 13 1 14 (by decide), g 13 2 15 (by decide)⟩
  · obtain rfl | rfl | rfl | rfl | rfl | rfl | rfl | rfl : p = 0 ∨ p = 1 ∨ p = 2 ∨ p = 3 ∨ p = 4 ∨ p = 5 ∨ p = 6 ∨ p = 7 := by omega
    · exact g 8 0 16 (by decide)
    · exact g 8 1 17 (by decide)
    · exact g 8 2 18 (by decide)
    · exact g 8 3 19 (by decide)
    · exact g 8 4 20 (by decide)
    · exact g 8 5 21 (by decide)
    · exact g 8 6 22 (by decide)
    · exact g 8 7 23 (by decide)
  · obtain rfl | rfl | rfl | rfl | rfl | rfl | rfl | rfl | rfl | rfl : l = 0 ∨ l = 1 ∨ l = 2 ∨ l = 3 ∨ l = 4 ∨ l = 5 ∨ l = 6 ∨ l = 7 ∨ l = 8 ∨ l = 9 := by omega
    · exact g 9 0 24 (by decide)
    · exact g 9 1 25 (by decide)
    · exact g 9 2 26 (by decide)
    · exact g 9 3 27 (by decide)
    · exact g 9 4 28 (by decide)
    · exact g 9 5 29 (by decide)
    · exact g 9 6 30 (by decide)
    · exact g 9 7 31 (by decide)
    · exact g 9 8 32 (by decide)
    · exact g 9 9 33 (by decide)
theorem lw0_w34 {H : xH} (g : ∀ a j : Nat, ∀ v : Int, (a, j, v) ∈ yyXs → H.1 (a : Int) (j : Int) = v) : skW H.1 34 := by
  refine ⟨⟨g 34 0 35 (by decide), g 34 1 36 (by decide), g 34 2 37 (by decide), g 34 3 40 (by decide)⟩, fun p p0 p1 => ?_, fun l l0 l1 => ?_, ⟨g 37 1 38 (by decide), g 37 2 39 (by decide)⟩, g 40 1 41 (by decide), g 40 2 42 (by decide)⟩
  · obtain rfl | rfl | rfl | rfl | rfl | rfl | rfl | rfl : p = 0 ∨ p = 1 ∨ p = 2 ∨ p = 3 ∨ p = 4 ∨ p = 5 ∨ p = 6 ∨ p = 7 := by omega
    · exact g 35 0 43 (by decide)
    · exact g 35 1 44 (by decide)
    · exact g 35 2 45 (by decide)
    · exact g 35 3 46 (by decide)
    · exact g 35 4 47 (by decide)
    · exact g 35 5 48 (by decide)
    · exact g 35 6 49 (by decide)
    · exact g 35 7 50 (by decide)
  · obtain rfl | rfl | rfl | rfl | rfl | rfl | rfl | rfl | rfl | rfl : l = 0 ∨ l = 1 ∨ l = 2 ∨ l = 3 ∨ l = 4 ∨ l = 5 ∨ l = 6 ∨ l = 7 ∨ l = 8 ∨ l = 9 := by omega
    · exact g 36 0 51 (by decide)
    · exact g 36 1 52 (by decide)
    · exact g 36 2 53 (by decide)
    · exact g 36 3 54 (by decide)
    · exact g 36 4 55 (by decide)
    · exact g 36 5 56 (by decide)
    · exact g 36 6 57 (by decide)
    · exact g 36 7 58 (by decide)
    · exact g 36 8 59 (by decide)
    · exact g 36 9 60 (by decide)
theorem lw0_w102 {H : xH} (g : ∀ a j : Nat, ∀ v : Int, (a, j, v) ∈ yyXs → H.1 (a : Int) (j : Int) = v) : skW H.1 102 := by
  refine ⟨⟨g 102 0 103 (by decide), g 102 1 104 (by decide), g 102 2 105 (by decide), g 102 3 108 (by decide)⟩, fun p p0 p1 => ?_, fun l l0 l1 => ?_, ⟨g 105 1 106 (by decide), g 105 2 107 (by decide)⟩, g 108 1 109 (by decide), g 108 2 110 (by decide)⟩
  · obtain rfl | rfl | rfl | rfl | rfl | rfl | rfl | rfl : p = 0 ∨ p = 1 ∨ p = 2 ∨ p = 3 ∨ p = 4 ∨ p = 5 ∨ p = 6 ∨ p = 7 := by omega
    · exact g 103 0 111 (by decide)
    · exact g 103 1 112 (by decide)
    · exact g 103 2 113 (by decide)
    · exact g 103 3 114 (by decide)
    · exact g 103 4 115 (by decide)
    · exact g 103 5 116 (by decide)
    · exact g 103 6 117 (by decide)
    · exact g 103 7 118 (by decide)
  · obtain rfl | rfl | rfl | rfl | rfl | rfl | rfl | rfl | rfl | rfl : l = 0 ∨ l = 1 ∨ l = 2 ∨ l = 3 ∨ l = 4 ∨ l = 5 ∨ l = 6 ∨ l = 7 ∨ l = 8 ∨ l = 9 := by omega
    · exact g 104 0 119 (by decide)
    · exact g 104 1 120 (by decide)
    · exact g 104 2 121 (by decide)
    · exact g 104 3 122 (by decide)
    · exact g 104 4 123 (by decide)
    · exact g 104 5 124 (by decide)
    · exact g 104 6 125 (by decide)
    · exact g 104 7 126 (by decide)
    · exact g 104 8 127 (by decide)
    · exact g 104 9 128 (by decide)
theorem lw0_w129 {H : xH} (g : ∀ a j : Nat, ∀ v : Int, (a, j, v) ∈ yyXs → H.1 (a : Int) (j : Int) = v) : skW H.1 129 := by
  refine ⟨⟨g 129 0 130 (by decide), g 129 1 131 (by decide), g 129 2 132 (by decide), g 129 3 135 (by decide)⟩, fun p p0 p1 => ?_, fun l l0 l1 => ?_, ⟨g 132 1 133 (by decide), g 132 2 134 (by decide)⟩, g 135 1 136 (by decide), g 135 2 137 (by decide)⟩
  · obtain rfl | rfl | rfl | rfl | rfl | rfl | rfl | rfl : p = 0 ∨ p = 1 ∨ p = 2 ∨ p = 3 ∨ p = 4 ∨ p = 5 ∨ p = 6 ∨ p = 7 := by omega
    · exact g 130 0 138 (by decide)
    · exact g 130 1 139 (by decide)
    · exact g 130 2 140 (by decide)
    · exact g 130 3 141 (by decide)
    · exact g 130 4 142 (by decide)
    · exact g 130 5 143 (by decide)
    · exact g 130 6 144 (by decide)
    · exact g 130 7 145 (by decide)
  · obtain rfl | rfl | rfl | rfl | rfl | rfl | rfl | rfl | rfl | rfl : l = 0 ∨ l = 1 ∨ l = 2 ∨ l = 3 ∨ l = 4 ∨ l = 5 ∨ l = 6 ∨ l = 7 ∨ l = 8 ∨ l = 9 := by omega
    · exact g 131 0 146 (by decide)
    · exact g 131 1 147 (by decide)
    · exact g 131 2 148 (by decide)
    · exact g 131 3 149 (by decide)
    · exact g 131 4 150 (by decide)
    · exact g 131 5 151 (by decide)
    · exact g 131 6 152 (by decide)
    · exact g 131 7 153 (by decide)
    · exact g 131 8 154 (by decide)
    · exact g 131 9 155 (by decide)
theorem lw0_w156 {H : xH} (g : ∀ a j : Nat, ∀ v : Int, (a, j, v) ∈ yyXs → H.1 (a : Int) (j : Int) = v) : skW H.1 156 := by
  refine ⟨⟨g 156 0 157 (by decide), g 156 1 158 (by decide), g 156 2 159 (by decide), g 156 3 162 (by decide)⟩, fun p p0 p1 => ?_, fun l l0 l1 => ?_, ⟨g 159 1 160 (by decide), g 159 2 161 (by decide)⟩, g 162 1 163 (by decide), g 162 2 164 (by decide)⟩
  · obtain rfl | rfl | rfl | rfl | rfl | rfl | rfl | rfl : p = 0 ∨ p = 1 ∨ p = 2 ∨ p = 3 ∨ p = 4 ∨ p = 5 ∨ p = 6 ∨ p = 7 := by omega
    · exact g 157 0 165 (by decide)
    · exact g 157 1 166 (by decide)
    · exact g 157 2 167 (by decide)
    · exact g 157 3 168 (by decide)
    · exact g 157 4 169 (by decide)
    · exact g 157 5 170 (by decide)
    · exact g 157 6 171 (by decide)
    · exact g 157 7 172 (by decide)
  · obtain rfl | rfl | rfl | rfl | rfl | rfl | rfl | rfl | rfl | rfl : l = 0 ∨ l = 1 ∨ l = 2 ∨ l = 3 ∨ l = 4 ∨ l = 5 ∨ l = 6 ∨ l = 7 ∨ l = 8 ∨ l = 9 := by omega
    · exact g 158 0 173 (by decide)
    · exact g 158 1 174 (by decide)
    · exact g 158 2 175 (by decide)
    · exact g 158 3 176 (by decide)
    · exact g 158 4 177 (by decide)
    · exact g 158 5 178 (by decide)
    · exact g 158 6 179 (by decide)
    · exact g 158 7 180 (by decide)
    · exact g 158 8 181 (by decide)
    · exact g 158 9 182 (by decide)
theorem lw0_A {H : xH} (g : ∀ a j : Nat, ∀ v : Int, (a, j, v) ∈ yyXs → H.1 (a : Int) (j : Int) = v) : skA H.1 7 (H.1 184) := List.forall_mem_cons.mpr ⟨(g 7 4 0 (by decide)).trans (g 184 1 0 (by decide)).symm, List.forall_mem_cons.mpr ⟨(g 7 5 0 (by decide)).trans (g 184 2 0 (by decide)).symm, List.forall_mem_cons.mpr ⟨(g 7 6 0 (by decide)).trans (g 184 0 0 (by decide)).symm, List.forall_mem_cons.mpr ⟨(g 7 7 0 (by decide)).trans (g 184 5 0 (by decide)).symm, List.forall_mem_cons.mpr ⟨(g 7 8 0 (by decide)).trans (g 184 6 0 (by decide)).symm, List.forall_mem_cons.mpr ⟨(g 7 9 40 (by decide)).trans (g 184 7 40 (by decide)).symm, List.forall_mem_cons.mpr ⟨(g 7 10 40 (by decide)).trans (g 184 8 40 (by decide)).symm, List.forall_mem_cons.mpr ⟨(g 7 11 1000 (by decide)).trans (g 184 9 1000 (by decide)).symm, List.forall_mem_cons.mpr ⟨(g 7 12 0 (by decide)).trans (g 184 10 0 (by decide)).symm, List.forall_mem_cons.mpr ⟨(g 7 13 0 (by decide)).trans (g 184 11 0 (by decide)).symm, List.forall_mem_cons.mpr ⟨(g 7 15 (-1) (by decide)).trans (g 184 12 (-1) (by decide)).symm, List.forall_mem_cons.mpr ⟨(g 7 16 0 (by decide)).trans (g 184 13 0 (by decide)).symm, List.forall_mem_cons.mpr ⟨(g 7 17 0 (by decide)).trans (g 184 14 0 (by decide)).symm, List.forall_mem_cons.mpr ⟨(g 7 18 0 (by decide)).trans (g 184 15 0 (by decide)).symm, fun _ h => absurd h List.not_mem_nil⟩⟩⟩⟩⟩⟩⟩⟩⟩⟩⟩⟩⟩⟩
theorem lw0_P {H : xH} (g : ∀ a j : Nat, ∀ v : Int, (a, j, v) ∈ yyXs → H.1 (a : Int) (j : Int) = v) : skP H.1 7 (H.1 184) := fun p p0 p7 => by
  obtain rfl | rfl | rfl | rfl | rfl | rfl | rfl | rfl : p = 0 ∨ p = 1 ∨ p = 2 ∨ p = 3 ∨ p = 4 ∨ p = 5 ∨ p = 6 ∨ p = 7 := by omega
  · refine ⟨⟨(g 16 0 0 (by decide)).trans (g 184 20 0 (by decide)).symm, Or.inr ⟨?_, g 16 1 (-1) (by decide)⟩, (g 16 2 0 (by decide)).trans (g 184 23 0 (by decide)).symm, ⟨(g 16 3 0 (by decide)).trans (g 184 24 0 (by decide)).symm, (g 16 4 0 (by decide)).trans (g 184 25 0 (by decide)).symm, (g 16 5 0 (by decide)).trans (g 184 26 0 (by decide)).symm, (g 16 6 0 (by decide)).trans (g 184 27 0 (by decide)).symm⟩, fun _ => ⟨g 184 26 0 (by decide), g 184 27 0 (by decide)⟩⟩, fun _ => g 184 21 0 (by decide)⟩
    intro z
    have y : H.1 184 21 = 0 := g 184 21 0 (by decide)
    have z : H.1 184 21 = 1 := z
    omega
  · refine ⟨⟨(g 17 0 0 (by decide)).trans (g 184 28 0 (by decide)).symm, Or.inr ⟨?_, g 17 1 (-1) (by decide)⟩, (g 17 2 0 (by decide)).trans (g 184 31 0 (by decide)).symm, ⟨(g 17 3 0 (by decide)).trans (g 184 32 0 (by decide)).symm, (g 17 4 0 (by decide)).trans (g 184 33 0 (by decide)).symm, (g 17 5 0 (by decide)).trans (g 184 34 0 (by decide)).symm, (g 17 6 0 (by decide)).trans (g 184 35 0 (by decide)).symm⟩, fun _ => ⟨g 184 34 0 (by decide), g 184 35 0 (by decide)⟩⟩, fun _ => g 184 29 0 (by decide)⟩
    intro z
    have y : H.1 184 29 = 0 := g 184 29 0 (by decide)
    have z : H.1 184 29 = 1 := z
    omega
  · refine ⟨⟨(g 18 0 0 (by decide)).trans (g 184 36 0 (by decide)).symm, Or.inr ⟨?_, g 18 1 (-1) (by decide)⟩, (g 18 2 0 (by decide)).trans (g 184 39 0 (by decide)).symm, ⟨(g 18 3 0 (by decide)).trans (g 184 40 0 (by decide)).symm, (g 18 4 0 (by decide)).trans (g 184 41 0 (by decide)).symm, (g 18 5 0 (by decide)).trans (g 184 42 0 (by decide)).symm, (g 18 6 0 (by decide)).trans (g 184 43 0 (by decide)).symm⟩, fun _ => ⟨g 184 42 0 (by decide), g 184 43 0 (by decide)⟩⟩, fun _ => g 184 37 0 (by decide)⟩
    intro z
    have y : H.1 184 37 = 0 := g 184 37 0 (by decide)
    have z : H.1 184 37 = 1 := z
    omega
  · refine ⟨⟨(g 19 0 0 (by decide)).trans (g 184 44 0 (by decide)).symm, Or.inr ⟨?_, g 19 1 (-1) (by decide)⟩, (g 19 2 0 (by decide)).trans (g 184 47 0 (by decide)).symm, ⟨(g 19 3 0 (by decide)).trans (g 184 48 0 (by decide)).symm, (g 19 4 0 (by decide)).trans (g 184 49 0 (by decide)).symm, (g 19 5 0 (by decide)).trans (g 184 50 0 (by decide)).symm, (g 19 6 0 (by decide)).trans (g 184 51 0 (by decide)).symm⟩, fun _ => ⟨g 184 50 0 (by decide), g 184 51 0 (by decide)⟩⟩, fun _ => g 184 45 0 (by decide)⟩
    intro z
    have y : H.1 184 45 = 0 := g 184 45 0 (by decide)
    have z : H.1 184 45 = 1 := z
    omega
  · refine ⟨⟨(g 20 0 0 (by decide)).trans (g 184 52 0 (by decide)).symm, Or.inr ⟨?_, g 20 1 (-1) (by decide)⟩, (g 20 2 0 (by decide)).trans (g 184 55 0 (by decide)).symm, ⟨(g 20 3 0 (by decide)).trans (g 184 56 0 (by decide)).symm, (g 20 4 0 (by decide)).trans (g 184 57 0 (by decide)).symm, (g 20 5 0 (by decide)).trans (g 184 58 0 (by decide)).symm, (g 20 6 0 (by decide)).trans (g 184 59 0 (by decide)).symm⟩, fun _ => ⟨g 184 58 0 (by decide), g 184 59 0 (by decide)⟩⟩, fun _ => g 184 53 0 (by decide)⟩
    intro z
    have y : H.1 184 53 = 0 := g 184 53 0 (by decide)
    have z : H.1 184 53 = 1 := z
    omega
  · refine ⟨⟨(g 21 0 0 (by decide)).trans (g 184 60 0 (by decide)).symm, Or.inr ⟨?_, g 21 1 (-1) (by decide)⟩, (g 21 2 0 (by decide)).trans (g 184 63 0 (by decide)).symm, ⟨(g 21 3 0 (by decide)).trans (g 184 64 0 (by decide)).symm, (g 21 4 0 (by decide)).trans (g 184 65 0 (by decide)).symm, (g 21 5 0 (by decide)).trans (g 184 66 0 (by decide)).symm, (g 21 6 0 (by decide)).trans (g 184 67 0 (by decide)).symm⟩, fun _ => ⟨g 184 66 0 (by decide), g 184 67 0 (by decide)⟩⟩, fun _ => g 184 61 0 (by decide)⟩
    intro z
    have y : H.1 184 61 = 0 := g 184 61 0 (by decide)
    have z : H.1 184 61 = 1 := z
    omega
  · refine ⟨⟨(g 22 0 0 (by decide)).trans (g 184 68 0 (by decide)).symm, Or.inr ⟨?_, g 22 1 (-1) (by decide)⟩, (g 22 2 0 (by decide)).trans (g 184 71 0 (by decide)).symm, ⟨(g 22 3 0 (by decide)).trans (g 184 72 0 (by decide)).symm, (g 22 4 0 (by decide)).trans (g 184 73 0 (by decide)).symm, (g 22 5 0 (by decide)).trans (g 184 74 0 (by decide)).symm, (g 22 6 0 (by decide)).trans (g 184 75 0 (by decide)).symm⟩, fun _ => ⟨g 184 74 0 (by decide), g 184 75 0 (by decide)⟩⟩, fun _ => g 184 69 0 (by decide)⟩
    intro z
    have y : H.1 184 69 = 0 := g 184 69 0 (by decide)
    have z : H.1 184 69 = 1 := z
    omega
  · refine ⟨⟨(g 23 0 0 (by decide)).trans (g 184 76 0 (by decide)).symm, Or.inr ⟨?_, g 23 1 (-1) (by decide)⟩, (g 23 2 0 (by decide)).trans (g 184 79 0 (by decide)).symm, ⟨(g 23 3 0 (by decide)).trans (g 184 80 0 (by decide)).symm, (g 23 4 0 (by decide)).trans (g 184 81 0 (by decide)).symm, (g 23 5 0 (by decide)).trans (g 184 82 0 (by decide)).symm, (g 23 6 0 (by decide)).trans (g 184 83 0 (by decide)).symm⟩, fun _ => ⟨g 184 82 0 (by decide), g 184 83 0 (by decide)⟩⟩, fun _ => g 184 77 0 (by decide)⟩
    intro z
    have y : H.1 184 77 = 0 := g 184 77 0 (by decide)
    have z : H.1 184 77 = 1 := z
    omega
theorem lw0_L {H : xH} (g : ∀ a j : Nat, ∀ v : Int, (a, j, v) ∈ yyXs → H.1 (a : Int) (j : Int) = v) : skL H.1 7 (H.1 184) := by
  have z : H.1 184 2 = 0 := g 184 2 0 (by decide)
  refine ⟨fun l c l0 l1 => absurd l1 (by omega), fun l l0 _ l9 => ?_⟩
  obtain rfl | rfl | rfl | rfl | rfl | rfl | rfl | rfl | rfl | rfl : l = 0 ∨ l = 1 ∨ l = 2 ∨ l = 3 ∨ l = 4 ∨ l = 5 ∨ l = 6 ∨ l = 7 ∨ l = 8 ∨ l = 9 := by omega
  · exact g 184 89 0 (by decide)
  · exact g 184 95 0 (by decide)
  · exact g 184 101 0 (by decide)
  · exact g 184 107 0 (by decide)
  · exact g 184 113 0 (by decide)
  · exact g 184 119 0 (by decide)
  · exact g 184 125 0 (by decide)
  · exact g 184 131 0 (by decide)
  · exact g 184 137 0 (by decide)
  · exact g 184 143 0 (by decide)
theorem lw0_V {H : xH} (g : ∀ a j : Nat, ∀ v : Int, (a, j, v) ∈ yyXs → H.1 (a : Int) (j : Int) = v) : skV H.1 7 (H.1 184) := by
  have z : H.1 184 3 = 0 := g 184 3 0 (by decide)
  have y : H.1 10 0 = 0 := g 10 0 0 (by decide)
  exact ⟨(show H.1 (7 + 3) 0 = 0 from y).trans z.symm, fun s s0 s1 => absurd s1 (by omega)⟩
theorem lw0_I {H : xH} (g : ∀ a j : Nat, ∀ v : Int, (a, j, v) ∈ yyXs → H.1 (a : Int) (j : Int) = v) : skI H.1 7 (H.1 184) := by
  have z : H.1 184 4 = 0 := g 184 4 0 (by decide)
  have y : H.1 13 0 = 0 := g 13 0 0 (by decide)
  exact ⟨(show H.1 (7 + 6) 0 = 0 from y).trans z.symm, fun s s0 s1 => absurd s1 (by omega)⟩
theorem lw0_H {H : xH} (g : ∀ a j : Nat, ∀ v : Int, (a, j, v) ∈ yyXs → H.1 (a : Int) (j : Int) = v) : skH H.1 7 (H.1 184) 0 := Or.inl ⟨g 7 14 (-1) (by decide), rfl, fun p p0 p7 => by
  obtain rfl | rfl | rfl | rfl | rfl | rfl | rfl | rfl : p = 0 ∨ p = 1 ∨ p = 2 ∨ p = 3 ∨ p = 4 ∨ p = 5 ∨ p = 6 ∨ p = 7 := by omega
  · intro z
    have y : H.1 184 21 = 0 := g 184 21 0 (by decide)
    have z : H.1 184 21 = 2 := z
    omega
  · intro z
    have y : H.1 184 29 = 0 := g 184 29 0 (by decide)
    have z : H.1 184 29 = 2 := z
    omega
  · intro z
    have y : H.1 184 37 = 0 := g 184 37 0 (by decide)
    have z : H.1 184 37 = 2 := z
    omega
  · intro z
    have y : H.1 184 45 = 0 := g 184 45 0 (by decide)
    have z : H.1 184 45 = 2 := z
    omega
  · intro z
    have y : H.1 184 53 = 0 := g 184 53 0 (by decide)
    have z : H.1 184 53 = 2 := z
    omega
  · intro z
    have y : H.1 184 61 = 0 := g 184 61 0 (by decide)
    have z : H.1 184 61 = 2 := z
    omega
  · intro z
    have y : H.1 184 69 = 0 := g 184 69 0 (by decide)
    have z : H.1 184 69 = 2 := z
    omega
  · intro z
    have y : H.1 184 77 = 0 := g 184 77 0 (by decide)
    have z : H.1 184 77 = 2 := z
    omega⟩
theorem lwRR_0 {H : xH} (hx : ∀ q ∈ yyXs, H.1 (q.1 : Int) (q.2.1 : Int) = q.2.2) : lwRR H := by
  have g : ∀ a j : Nat, ∀ v : Int, (a, j, v) ∈ yyXs → H.1 (a : Int) (j : Int) = v := fun a j v h => hx (a, j, v) h
  have e5 : H.1 1 5 = 7 := g 1 5 7 (by decide)
  refine ⟨⟨⟨(g 1 1 0 (by decide)).trans (g 183 5 0 (by decide)).symm, fun j j0 j1 => ?_⟩, Or.inl ⟨e5, g 1 6 34 (by decide)⟩, ⟨lw0_w7 g, lw0_w34 g⟩, (g 1 3 0 (by decide)).trans (g 183 12 0 (by decide)).symm, (g 1 4 (-1) (by decide)).trans (g 183 13 (-1) (by decide)).symm⟩, ?_, fun k k0 k2 => ?_⟩
  · have z : H.1 1 1 = 0 := g 1 1 0 (by decide)
    omega
  · rw [e5]
    have z3 : H.1 184 3 = 0 := g 184 3 0 (by decide)
    have z4 : H.1 184 4 = 0 := g 184 4 0 (by decide)
    exact ⟨⟨0, lw0_A g, lw0_P g, lw0_L g, lw0_V g, lw0_I g, lw0_H g⟩, by omega, by omega⟩
  · obtain rfl | rfl | rfl : k = 0 ∨ k = 1 ∨ k = 2 := by omega
    · have z : H.1 62 0 = 0 := g 62 0 0 (by decide)
      exact ⟨⟨g 61 0 102 (by decide), lw0_w102 g⟩, (g 62 0 0 (by decide)).trans (g 186 0 0 (by decide)).symm, fun y => absurd z y⟩
    · have z : H.1 62 1 = 0 := g 62 1 0 (by decide)
      exact ⟨⟨g 61 1 129 (by decide), lw0_w129 g⟩, (g 62 1 0 (by decide)).trans (g 186 1 0 (by decide)).symm, fun y => absurd z y⟩
    · have z : H.1 62 2 = 0 := g 62 2 0 (by decide)
      exact ⟨⟨g 61 2 156 (by decide), lw0_w156 g⟩, (g 62 2 0 (by decide)).trans (g 186 2 0 (by decide)).symm, fun y => absurd z y⟩
