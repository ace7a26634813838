/-! new long[x][y]: the outer row, then its rows -/
def xGm (G : xG) (n : Int) (l : Nat) (q : Nat) (r : Nat → Nat) (cA cy : ClassId) : xG := (fun b => if b = n then q else if n < b ∧ b ≤ n + (l : Int) then r (b - n - 1).toNat else G.1 b, fun b => if b = n then cA else if n < b ∧ b ≤ n + (l : Int) then cy else G.2 b)
theorem xGm_lo {G : xG} {n : Int} {l q : Nat} {r : Nat → Nat} {cA cy : ClassId} {b : Int} (h : b < n) : (xGm G n l q r cA cy).1 b = G.1 b ∧ (xGm G n l q r cA cy).2 b = G.2 b := by
  constructor
  · show (if b = n then q else if n < b ∧ b ≤ n + (l : Int) then r (b - n - 1).toNat else G.1 b) = _
    rw [if_neg (by omega), if_neg (by omega)]
  · show (if b = n then cA else if n < b ∧ b ≤ n + (l : Int) then cy else G.2 b) = _
    rw [if_neg (by omega), if_neg (by omega)]
def xRws (q : Nat) (r : Nat → Nat) (cA cy : ClassId) (l k : Nat) : va_W := (q, .inl (cA, l, .inr (.inr (.inr (.inr (fun i => if i < l then some (r i) else none)))))) :: (List.range l).map (fun i => (r i, .inl (cy, k, .inr (.inl (fun _ => Int64.ofInt 0)))))
theorem xRel_pushM {J : xJT} {s : State} {A : Nat → Prop} {H0 H H1 : Heap} {G : xG} {M : xH} {locs locs1 : List Loc} {l : Nat} {y : Int} {q : Nat} {r : Nat → Nat} {cA cy : ClassId} (hR : xRel J s A H0 G M H locs) (hl : l ≤ 1000) (hy : 0 ≤ y ∧ y < 2147483648) (hk1 : ArrOfT s cA (xAt 24) ∧ va_RA s cA (xAt 24)) (hk2 : ArrOfT s cy (xAt 23) ∧ va_RA s cy (xAt 23)) (hP : va_P J.1 vwCl (xWs G M ++ xRws q r cA cy l y.toNat) H1) (hD : va_D A (xWs G M ++ xRws q r cA cy l y.toNat)) (hS : va_S A H0 H1 locs1) : xRel J s A H0 (xGm G (M.2.2.2.1 : Int) l q r cA cy) (xNm M (l : Int) y) H1 locs1 := by
  obtain ⟨k0, -, -, -, k4, k5⟩ := hR
  have hx1 := k0.1
  have hn2 : (xNm M (l : Int) y).2.2.2.1 = M.2.2.2.1 + 1 + l := by
    show M.2.2.2.1 + 1 + ((l : Int)).toNat = _
    rw [Int.toNat_natCast]
  have hne : ∀ b : Int, (b < (M.2.2.2.1 : Int) ∨ (M.2.2.2.1 : Int) + (l : Int) < b) → (xNm M (l : Int) y).1 b = M.1 b ∧ (xNm M (l : Int) y).2.1 b = M.2.1 b ∧ (xNm M (l : Int) y).2.2.1 b = M.2.2.1 b := fun b hb => by
    refine ⟨funext fun j => ?_, ?_, ?_⟩
    · show (if b = (M.2.2.2.1 : Int) then (if 0 ≤ j ∧ j < (l : Int) then (M.2.2.2.1 : Int) + 1 + j else 0) else if (M.2.2.2.1 : Int) < b ∧ b ≤ (M.2.2.2.1 : Int) + (l : Int) then 0 else M.1 b j) = _
      rw [if_neg (by omega), if_neg (by omega)]
    · show (if b = (M.2.2.2.1 : Int) then (24 : Int) else if (M.2.2.2.1 : Int) < b ∧ b ≤ (M.2.2.2.1 : Int) + (l : Int) then 23 else M.2.1 b) = _
      rw [if_neg (by omega), if_neg (by omega)]
    · show (if b = (M.2.2.2.1 : Int) then (l : Int) else if (M.2.2.2.1 : Int) < b ∧ b ≤ (M.2.2.2.1 : Int) + (l : Int) then y else M.2.2.1 b) = _
      rw [if_neg (by omega), if_neg (by omega)]
  have ho1 : (xNm M (l : Int) y).2.1 (M.2.2.2.1 : Int) = 24 := if_pos rfl
  have ho2 : (xNm M (l : Int) y).2.2.1 (M.2.2.2.1 : Int) = (l : Int) := if_pos rfl
  have ho3 : (xNm M (l : Int) y).1 (M.2.2.2.1 : Int) = fun j => if 0 ≤ j ∧ j < (l : Int) then (M.2.2.2.1 : Int) + 1 + j else 0 := funext fun j => if_pos rfl
  have hr : ∀ b : Int, (M.2.2.2.1 : Int) < b → b ≤ (M.2.2.2.1 : Int) + (l : Int) → (xNm M (l : Int) y).1 b = (fun _ => 0) ∧ (xNm M (l : Int) y).2.1 b = 23 ∧ (xNm M (l : Int) y).2.2.1 b = y := fun b b0 b1 => by
    refine ⟨funext fun j => ?_, ?_, ?_⟩
    · show (if b = (M.2.2.2.1 : Int) then (if 0 ≤ j ∧ j < (l : Int) then (M.2.2.2.1 : Int) + 1 + j else 0) else if (M.2.2.2.1 : Int) < b ∧ b ≤ (M.2.2.2.1 : Int) + (l : Int) then 0 else M.1 b j) = _
      rw [if_neg (by omega), if_pos ⟨b0, b1⟩]
    · show (if b = (M.2.2.2.1 : Int) then (24 : Int) else if (M.2.2.2.1 : Int) < b ∧ b ≤ (M.2.2.2.1 : Int) + (l : Int) then 23 else M.2.1 b) = _
      rw [if_neg (by omega), if_pos ⟨b0, b1⟩]
    · show (if b = (M.2.2.2.1 : Int) then (l : Int) else if (M.2.2.2.1 : Int) < b ∧ b ≤ (M.2.2.2.1 : Int) + (l : Int) then y else M.2.2.1 b) = _
      rw [if_neg (by omega), if_pos ⟨b0, b1⟩]
  have hg1 : (xGm G (M.2.2.2.1 : Int) l q r cA cy).1 (M.2.2.2.1 : Int) = q := if_pos rfl
  have hg2 : (xGm G (M.2.2.2.1 : Int) l q r cA cy).2 (M.2.2.2.1 : Int) = cA := if_pos rfl
  have hg3 : ∀ i : Nat, i < l → (xGm G (M.2.2.2.1 : Int) l q r cA cy).1 ((M.2.2.2.1 : Int) + 1 + (i : Int)) = r i ∧ (xGm G (M.2.2.2.1 : Int) l q r cA cy).2 ((M.2.2.2.1 : Int) + 1 + (i : Int)) = cy := fun i hi => by
    constructor
    · show (if (M.2.2.2.1 : Int) + 1 + (i : Int) = (M.2.2.2.1 : Int) then q else if (M.2.2.2.1 : Int) < (M.2.2.2.1 : Int) + 1 + (i : Int) ∧ (M.2.2.2.1 : Int) + 1 + (i : Int) ≤ (M.2.2.2.1 : Int) + (l : Int) then r ((M.2.2.2.1 : Int) + 1 + (i : Int) - (M.2.2.2.1 : Int) - 1).toNat else _) = _
      rw [if_neg (by omega), if_pos (by omega), show ((M.2.2.2.1 : Int) + 1 + (i : Int) - (M.2.2.2.1 : Int) - 1).toNat = i by omega]
    · show (if (M.2.2.2.1 : Int) + 1 + (i : Int) = (M.2.2.2.1 : Int) then cA else if (M.2.2.2.1 : Int) < (M.2.2.2.1 : Int) + 1 + (i : Int) ∧ (M.2.2.2.1 : Int) + 1 + (i : Int) ≤ (M.2.2.2.1 : Int) + (l : Int) then cy else _) = _
      rw [if_neg (by omega), if_pos (by omega)]
  have e : xWs G M ++ xRws q r cA cy l y.toNat = xWs (xGm G (M.2.2.2.1 : Int) l q r cA cy) (xNm M (l : Int) y) := by
    unfold xWs xRws
    rw [hn2, show M.2.2.2.1 + 1 + l - 1 = (M.2.2.2.1 - 1) + (l + 1) by omega, List.range_add, List.map_append, List.range_succ_eq_map, List.map_cons, List.map_cons, List.map_map, List.map_map]
    congr 1
    · apply List.map_congr_left
      intro k hk
      have hk := List.mem_range.mp hk
      have b1 : (k : Int) + 1 < (M.2.2.2.1 : Int) := by omega
      obtain ⟨e1, e2, e3⟩ := hne ((k : Int) + 1) (Or.inl b1)
      have e4 : xEnt (xGm G (M.2.2.2.1 : Int) l q r cA cy) (xNm M (l : Int) y) ((k : Int) + 1) = xEnt (xGm G (M.2.2.2.1 : Int) l q r cA cy) M ((k : Int) + 1) := by
        unfold xEnt
        rw [e1, e2, e3]
      rw [e4, xEnt_ext k0 (by omega) b1 (fun z hz => (xGm_lo hz).1) (xGm_lo b1).2, (xGm_lo b1).1]
    · congr 1
      · have e1 : ((M.2.2.2.1 - 1 + 0 : Nat) : Int) + 1 = (M.2.2.2.1 : Int) := by omega
        show _ = ((xGm G (M.2.2.2.1 : Int) l q r cA cy).1 (((M.2.2.2.1 - 1 + 0 : Nat) : Int) + 1), xEnt (xGm G (M.2.2.2.1 : Int) l q r cA cy) (xNm M (l : Int) y) (((M.2.2.2.1 - 1 + 0 : Nat) : Int) + 1))
        rw [e1, xE_arr (by rw [ho1]; decide), ho1, ho2, ho3, hg1, hg2]
        unfold xCont
        rw [if_neg (by decide), if_neg (by decide), Int.toNat_natCast]
        refine congrArg (fun f : Nat → Option Nat => ((q, .inl (cA, l, .inr (.inr (.inr (.inr f))))) : Nat × va_E)) (funext fun i => ?_)
        show (if i < l then some (r i) else none) = xRv (xGm G (M.2.2.2.1 : Int) l q r cA cy).1 (if 0 ≤ (i : Int) ∧ (i : Int) < (l : Int) then (M.2.2.2.1 : Int) + 1 + (i : Int) else 0)
        by_cases hi : i < l
        · rw [if_pos hi, if_pos (by omega)]
          unfold xRv
          rw [if_neg (by omega), (hg3 i hi).1]
        · rw [if_neg hi, if_neg (by omega)]
          rfl
      · apply List.map_congr_left
        intro i hi
        have hi := List.mem_range.mp hi
        have e1 : ((M.2.2.2.1 - 1 + (i + 1) : Nat) : Int) + 1 = (M.2.2.2.1 : Int) + 1 + (i : Int) := by omega
        show _ = ((xGm G (M.2.2.2.1 : Int) l q r cA cy).1 (((M.2.2.2.1 - 1 + (i + 1) : Nat) : Int) + 1), xEnt (xGm G (M.2.2.2.1 : Int) l q r cA cy) (xNm M (l : Int) y) (((M.2.2.2.1 - 1 + (i + 1) : Nat) : Int) + 1))
        obtain ⟨r1, r2, r3⟩ := hr ((M.2.2.2.1 : Int) + 1 + (i : Int)) (by omega) (by omega)
        rw [e1, xE_arr (by rw [r2]; decide), r1, r2, r3, (hg3 i hi).1, (hg3 i hi).2]
        rfl
  rw [e] at hP hD
  refine ⟨⟨by rw [hn2]; omega, fun a ha => ?_, fun a a0 a1 => ?_, fun ha => ?_, fun a ha => ?_, fun a j => ?_⟩, hP, hD, hS, fun a a0 a1 ha => ?_, ?_, ⟨fun j hj => ?_, fun b hb => ?_⟩, ?_, fun ha => ?_⟩
  · rw [hn2]
    show a = -1 ∨ (0 < a ∧ a < ((M.2.2.2.1 + 1 + l : Nat) : Int))
    by_cases hb : a < (M.2.2.2.1 : Int) ∨ (M.2.2.2.1 : Int) + (l : Int) < a
    · rw [(hne a hb).2.1] at ha
      rcases k0.2.1 a ha with z | z
      · exact Or.inl z
      · right; omega
    · right; omega
  · have a1 : a < (((xNm M (l : Int) y).2.2.2.1 : Nat) : Int) := a1
    rw [hn2] at a1
    by_cases hb : a = (M.2.2.2.1 : Int)
    · rw [hb, ho1]; right; decide
    · by_cases hc : (M.2.2.2.1 : Int) < a
      · rw [(hr a hc (by omega)).2.1]; right; decide
      · rw [(hne a (by omega)).2.1]; exact k0.2.2.1 a a0 (by omega)
  · rw [(hne (-1) (by omega)).2.1] at ha ⊢; exact k0.2.2.2.1 ha
  · by_cases hb : a = (M.2.2.2.1 : Int)
    · rw [hb, ho2]; omega
    · by_cases hc : (M.2.2.2.1 : Int) < a ∧ a ≤ (M.2.2.2.1 : Int) + (l : Int)
      · rw [(hr a hc.1 hc.2).2.2]; exact hy
      · rw [(hne a (by omega)).2.1] at ha
        rw [(hne a (by omega)).2.2]
        exact k0.2.2.2.2.1 a ha
  · rw [hn2]
    by_cases hb : a = (M.2.2.2.1 : Int)
    · rw [hb, ho1, ho3]
      show (if 0 ≤ j ∧ j < (l : Int) then (M.2.2.2.1 : Int) + 1 + j else 0) < ((M.2.2.2.1 + 1 + l : Nat) : Int)
      by_cases hj : 0 ≤ j ∧ j < (l : Int)
      · rw [if_pos hj]; omega
      · rw [if_neg hj]; omega
    · by_cases hc : (M.2.2.2.1 : Int) < a ∧ a ≤ (M.2.2.2.1 : Int) + (l : Int)
      · rw [(hr a hc.1 hc.2).1]
        exact xInN_0 (by omega)
      · rw [(hne a (by omega)).1, (hne a (by omega)).2.1]
        exact xInN_mono (k0.2.2.2.2.2 a j) (by omega)
  · have a1 : a < (((xNm M (l : Int) y).2.2.2.1 : Nat) : Int) := a1
    rw [hn2] at a1
    by_cases hb : a = (M.2.2.2.1 : Int)
    · rw [hb, ho1, hg2]; exact hk1
    · by_cases hc : (M.2.2.2.1 : Int) < a
      · have z := (hg3 (a - (M.2.2.2.1 : Int) - 1).toNat (by omega)).2
        rw [show (M.2.2.2.1 : Int) + 1 + (((a - (M.2.2.2.1 : Int) - 1).toNat : Nat) : Int) = a by omega] at z
        rw [(hr a hc (by omega)).2.1, z]
        exact hk2
      · rw [(hne a (by omega)).2.1] at ha ⊢
        rw [(xGm_lo (by omega)).2]
        exact k4 a a0 (by omega) ha
  · rw [(xGm_lo (by omega)).1]; exact k5.1
  · rw [(xGm_lo (by omega)).1]; exact k5.2.1.1 j hj
  · have := k5.2.2.1
    rw [(xGm_lo (by omega)).1]; exact k5.2.1.2 b hb
  · have := k5.2.2.1
    rw [hn2]
    show J.2.2.2.2.2.2.2 ≤ ((M.2.2.2.1 + 1 + l : Nat) : Int)
    omega
  · rw [(hne (-1) (by omega)).2.1] at ha
    rw [(hne (-1) (by omega)).2.2, (hne (-1) (by omega)).1]
    exact k5.2.2.2 ha
theorem zm_at {q : Nat} {cA cy : ClassId} {l k : Nat} {i : Nat} {x : Nat × va_E} (h : (xRws q (fun i => q + 1 + i) cA cy l k)[i]? = some x) : x.1 = q + i ∧ i < l + 1 ∧ ((i = 0 ∧ x.2 = .inl (cA, l, .inr (.inr (.inr (.inr (fun i => if i < l then some (q + 1 + i) else none)))))) ∨ (0 < i ∧ x.2 = .inl (cy, k, .inr (.inl (fun _ => Int64.ofInt 0))))) := by
  unfold xRws at h
  match i, h with
  | 0, h => cases h; exact ⟨rfl, Nat.succ_pos _, Or.inl ⟨rfl, rfl⟩⟩
  | j + 1, h =>
    rw [List.getElem?_cons_succ, List.getElem?_map] at h
    by_cases hj : j < l
    · rw [List.getElem?_range hj] at h
      cases h
      exact ⟨by show q + 1 + j = q + (j + 1); omega, by omega, Or.inr ⟨Nat.succ_pos _, rfl⟩⟩
    · have hn0 : (List.range l)[j]? = none := List.getElem?_eq_none (by rw [List.length_range]; omega)
      rw [hn0] at h
      cases h
section XMNA
variable {p : Program} {l : Launch} {e : Env} {R : Room} {s : State} {m : MethodId} {args : Array Value} {below : List Frame} {meth : Method} {c : Code}
variable {J : xJT} {A : Nat → Prop} {Z : State → Prop} {nL c0 s0 d pc : Nat} {cc : ByteArray} {ps : List Nat} {L r : List xV} {M : xH}
theorem o_mna (C : xCtx p R s m args c 11 cc nL d J A) (hd : decode cc (ps.getD pc 0) = .ok (.multianewarray 81 2, 4)) (hn : ps.getD (pc + 1) 0 = ps.getD pc 0 + 4) {x y : Int} (hx0 : 0 ≤ x) (hx1 : x ≤ 1000) (hy0 : 0 ≤ y) (hy1 : y ≤ 1000) (hcl : (xNm M x y).2.2.2.1 ≤ c0 + R.cells) (hsl : (xNm M x y).2.2.2.2 ≤ s0 + R.slots) (h : xRd (p, l, e, R, s, m, args, below, meth, c) J A Z nL c0 s0 ps (pc + 1, L, (2, (M.2.2.2.1 : Int)) :: r, xNm M x y)) : xRd (p, l, e, R, s, m, args, below, meth, c) J A Z nL c0 s0 ps (pc, L, (0, y) :: (0, x) :: r, M) := by
  intro G H locs ls hR hF h1 h2
  replace hR : xRel J s A s.heap G M H locs := hR
  have h1 : c0 ≤ M.2.2.2.1 := h1
  have h2 : s0 ≤ M.2.2.2.2 := h2
  have hT := C.2.2.2.2.2.1
  have hr : ∀ v ∈ r, xVk M.2.2.2.1 v := fun v hv => hF.2.2.2 v (by simp [hv])
  have ix : xIn 0 x := (hF.2.2.2 (0, x) (by simp)).2
  have iy : xIn 0 y := (hF.2.2.2 (0, y) (by simp)).2
  have ex : (Int32.ofInt x).toNatClampNeg = x.toNat := xi_cl ix
  have ey : (Int32.ofInt y).toNatClampNeg = y.toNat := xi_cl iy
  have hcl : M.2.2.2.1 + 1 + x.toNat ≤ c0 + R.cells := hcl
  have hsl : M.2.2.2.2 + (x.toNat + x.toNat * y.toNat) ≤ s0 + R.slots := hsl
  have exn : ((x.toNat : Nat) : Int) = x := Int.toNat_of_nonneg hx0
  show W p l e R s m args below meth c H locs (M.2.2.2.1 - c0) (M.2.2.2.2 - s0) Z (F0 m (ps.getD pc 0) ls (.int (Int32.ofInt y) :: .int (Int32.ofInt x) :: r.map (xc G.1)))
  intro T hTh Xs
  obtain ⟨b1, b2, b3, b4⟩ := xAk_ok (t := .long) (by decide)
  have hover : (Cond.arrayOver (.array .long)).before args s = true := hT.2.2.2.2.2
  obtain ⟨vm₁, cA, cy, fA, fC, hAr, hIr, X', step⟩ := mn_step Xs C.1 (own := xo 11) (index := 81) C.2.2.2.1 (C.2.2.2.2.1 _ (xGw_of xKm_81 rfl)) hover (C.2.2.2.2.1 _ b4) (g := F0 m (ps.getD pc 0) ls (.int (Int32.ofInt y) :: .int (Int32.ofInt x) :: r.map (xc G.1))) rfl (by rw [C.2.1]; exact hd) (x := Int32.ofInt x) (y := Int32.ofInt y) (rest := r.map (xc G.1)) rfl (fun z => by have := (xi_lt0 ix).mp z; omega) (fun z => by have := (xi_lt0 iy).mp z; omega) (by rw [ex]; omega) (by rw [ey]; omega) (by rw [ex]; omega) (by rw [ex, ey]; omega)
  rw [ex, ey] at X' step
  generalize hFd : mnF (T.setVm vm₁) cA cy x.toNat y.toNat x.toNat = F at X' step
  have hTh2 : (T.setVm vm₁).heap = H := hTh
  obtain ⟨f1, f2, -, -⟩ := mnF_facts (T.setVm vm₁) cA cy x.toNat y.toNat x.toNat
  rw [hFd, hTh2] at f1 f2
  have hold : ∀ a : Nat, a < H.size → F.heap[a]? = H[a]? := fun a ha => by
    have z := mnF_old (T.setVm vm₁) cA cy x.toNat y.toNat (a := a) (by rw [hTh2]; exact ha) x.toNat
    rw [hFd, hTh2] at z
    exact z
  have hrow : ∀ j : Nat, j < x.toNat → F.heap[H.size + 1 + j]? = some (vp_cell cy (y.toNat, .inr (.inl (fun _ => Int64.ofInt 0)))) := fun j hj => by
    have z := mnF_row (T.setVm vm₁) cA cy x.toNat y.toNat x.toNat j hj
    rw [hFd, hTh2] at z
    exact z
  have hP1 : va_P J.1 vwCl (xWs G M ++ xRws H.size (fun i => H.size + 1 + i) cA cy x.toNat y.toNat) F.heap := (hR.2.1.kept (fun k w hw => hold w.1 ((hR.2.1 k w hw).lt))).app (fun k w hw => by
    obtain ⟨z1, z2, z3⟩ := zm_at hw
    obtain ⟨w1, w2⟩ := w
    have z1 : w1 = H.size + k := z1
    subst z1
    rcases z3 with ⟨z3, z4⟩ | ⟨z3, z4⟩
    · have z4 : w2 = .inl (cA, x.toNat, .inr (.inr (.inr (.inr (fun i => if i < x.toNat then some (H.size + 1 + i) else none))))) := z4
      subst z4
      subst z3
      exact f2
    · have z4 : w2 = .inl (cy, y.toNat, .inr (.inl (fun _ => Int64.ofInt 0))) := z4
      subst z4
      have z5 := hrow (k - 1) (by omega)
      rw [show H.size + 1 + (k - 1) = H.size + k by omega] at z5
      exact z5)
  have hlt : ∀ (k : Nat) (w : Nat × va_E), (xWs G M)[k]? = some w → w.1 < H.size := fun k w hw => (hR.2.1 k w hw).lt
  have hD1 : va_D A (xWs G M ++ xRws H.size (fun i => H.size + 1 + i) cA cy x.toNat y.toNat) := by
    refine ⟨fun i j w v hi hj hwv => ?_, fun k w hw => ?_⟩
    · by_cases q1 : i < (xWs G M).length <;> by_cases q2 : j < (xWs G M).length
      · rw [List.getElem?_append_left q1] at hi
        rw [List.getElem?_append_left q2] at hj
        exact hR.2.2.1.1 i j w v hi hj hwv
      · rw [List.getElem?_append_left q1] at hi
        rw [List.getElem?_append_right (by omega)] at hj
        have := hlt _ _ hi
        have := (zm_at hj).1
        omega
      · rw [List.getElem?_append_right (by omega)] at hi
        rw [List.getElem?_append_left q2] at hj
        have := hlt _ _ hj
        have := (zm_at hi).1
        omega
      · rw [List.getElem?_append_right (by omega)] at hi hj
        have := (zm_at hi).1
        have := (zm_at hj).1
        omega
    · by_cases q1 : k < (xWs G M).length
      · rw [List.getElem?_append_left q1] at hw
        exact hR.2.2.1.2 k w hw
      · rw [List.getElem?_append_right (by omega)] at hw
        have := (zm_at hw).1
        exact C.2.2.2.2.2.2.2.1 _ (by have := hR.2.2.2.1.1; omega)
  have hS1 : va_S A s.heap F.heap locs := ⟨by rw [f1]; have := hR.2.2.2.1.1; omega, fun a q1 q2 => (hold a (Nat.lt_of_lt_of_le q1 hR.2.2.2.1.1)).trans (hR.2.2.2.1.2.1 a q1 q2), hR.2.2.2.1.2.2⟩
  have hR2 := xRel_pushM (y := y) (r := fun i => H.size + 1 + i) hR (show x.toNat ≤ 1000 by omega) ⟨hy0, by omega⟩ (⟨hAr, fA⟩ : ArrOfT s cA (xAt 24) ∧ va_RA s cA (xAt 24)) (⟨hIr, fC⟩ : ArrOfT s cy (xAt 23) ∧ va_RA s cy (xAt 23)) hP1 hD1 hS1
  rw [exn] at hR2
  have hG : ∀ b : Int, b < (M.2.2.2.1 : Int) → (xGm G (M.2.2.2.1 : Int) x.toNat H.size (fun i => H.size + 1 + i) cA cy).1 b = G.1 b := fun b hb => (xGm_lo hb).1
  have g := xFr_grow (G' := xGm G (M.2.2.2.1 : Int) x.toNat H.size (fun i => H.size + 1 + i) cA cy) (M' := xNm M x y) (st := r) ⟨hF.1, hF.2.1, hF.2.2.1, hr⟩ (by show M.2.2.2.1 ≤ M.2.2.2.1 + 1 + x.toNat; omega) hG
  have hF2 : xFr nL (xGm G (M.2.2.2.1 : Int) x.toNat H.size (fun i => H.size + 1 + i) cA cy) (xNm M x y) L ((2, (M.2.2.2.1 : Int)) :: r) ls := by
    refine ⟨g.1, g.2.1, g.2.2.1, fun v hv => ?_⟩
    rcases List.mem_cons.mp hv with rfl | hv
    · exact ⟨Nat.le_of_ble_eq_true rfl, by show (M.2.2.2.1 : Int) < ((M.2.2.2.1 + 1 + x.toNat : Nat) : Int); omega⟩
    · exact g.2.2.2 v hv
  have k9 := h _ F.heap locs ls hR2 hF2 (by show c0 ≤ M.2.2.2.1 + 1 + x.toNat; omega) (by show s0 ≤ M.2.2.2.2 + (x.toNat + x.toNat * y.toNat); omega)
  have k9 : W p l e R s m args below meth c F.heap locs (M.2.2.2.1 + 1 + x.toNat - c0) (M.2.2.2.2 + (x.toNat + x.toNat * y.toNat) - s0) Z (F0 m (ps.getD (pc + 1) 0) ls (xc (xGm G (M.2.2.2.1 : Int) x.toNat H.size (fun i => H.size + 1 + i) cA cy).1 (2, (M.2.2.2.1 : Int)) :: r.map (xc (xGm G (M.2.2.2.1 : Int) x.toNat H.size (fun i => H.size + 1 + i) cA cy).1))) := k9
  have e3 : (xGm G (M.2.2.2.1 : Int) x.toNat H.size (fun i => H.size + 1 + i) cA cy).1 (M.2.2.2.1 : Int) = H.size := if_pos rfl
  rw [hn, xMap_ext hG hr, xc_ref (show (M.2.2.2.1 : Int) ≠ 0 by have := hR.1.1; omega), e3] at k9
  have e1 : M.2.2.2.1 + 1 + x.toNat - c0 = M.2.2.2.1 - c0 + 1 + x.toNat := by omega
  have e2 : M.2.2.2.2 + (x.toNat + x.toNat * y.toNat) - s0 = M.2.2.2.2 - s0 + x.toNat + x.toNat * y.toNat := by omega
  rw [e1, e2] at k9
  obtain ⟨t, a1, a2⟩ := k9 F rfl X'
  refine ⟨t, step t ?_, a2⟩
  have e5 : T.heap.size = H.size := by rw [hTh]
  rw [e5]
  exact a1
end XMNA
