theorem xAt_ref {κ : Int} (h : 24 ≤ κ) : (xAt κ).isReference = true := by
  unfold xAt
  rw [if_neg (by omega), if_neg (by omega), if_neg (by omega), if_neg (by omega)]
  split
  · rfl
  · split
    · rfl
    · split
      · rfl
      · split <;> rfl
theorem xEl_ok {κ y : Int} (h : xEl κ = y) (hy : 0 ≤ y) : 25 ≤ κ ∧ (y = 4 ∨ y = 2 ∨ y = 10 ∨ y = 5) ∧ xAt κ = .object (xCl y.toNat).1 := by
  unfold xEl at h
  by_cases h1 : κ = 25
  · rw [if_pos h1] at h; subst h; subst h1; exact ⟨by omega, Or.inl rfl, rfl⟩
  · rw [if_neg h1] at h
    by_cases h2 : κ = 26
    · rw [if_pos h2] at h; subst h; subst h2; exact ⟨by omega, Or.inr (Or.inl rfl), rfl⟩
    · rw [if_neg h2] at h
      by_cases h3 : κ = 27
      · rw [if_pos h3] at h; subst h; subst h3; exact ⟨by omega, Or.inr (Or.inr (Or.inl rfl)), rfl⟩
      · rw [if_neg h3] at h
        by_cases h4 : κ = 28
        · rw [if_pos h4] at h; subst h; subst h4; exact ⟨by omega, Or.inr (Or.inr (Or.inr rfl)), rfl⟩
        · rw [if_neg h4] at h; omega
theorem xRel_set {J : xJT} {s : State} {A : Nat → Prop} {H0 H H1 : Heap} {G : xG} {M : xH} {locs locs1 : List Loc} {a : Int} {D' : xD} {z : Nat × va_E} (hR : xRel J s A H0 G M H locs) (h0 : 0 < a) (hd : ∀ b : Int, b ≠ a → D' b = M.1 b) (hv : ∀ j : Int, xInN M.2.2.2.1 (xTy (M.2.1 a) j) (D' a j)) (hz : z = (G.1 a, xEnt G (D', M.2) a)) (hP : va_P J.1 vwCl ((xWs G M).set (a - 1).toNat z) H1) (hD : va_D A ((xWs G M).set (a - 1).toNat z)) (hS : va_S A H0 H1 locs1) : xRel J s A H0 G (D', M.2) H1 locs1 := by
  obtain ⟨k0, -, -, -, k4, k5⟩ := hR
  have e : (xWs G M).set (a - 1).toNat z = xWs G (D', M.2) := xWs_set h0 rfl hz (fun b hb => by
    unfold xEnt
    show (if 20 ≤ M.2.1 b then Sum.inl (G.2 b, (M.2.2.1 b).toNat, xCont G.1 (M.2.1 b) (D' b)) else Sum.inr ((M.2.1 b).toNat, xFs G.1 (M.2.1 b).toNat (D' b))) = _
    rw [hd b hb])
  rw [e] at hP hD
  refine ⟨⟨k0.1, k0.2.1, k0.2.2.1, k0.2.2.2.1, k0.2.2.2.2.1, fun b j => ?_⟩, hP, hD, hS, k4, k5.1, k5.2.1, k5.2.2.1, fun q => ?_⟩
  · show xInN M.2.2.2.1 (xTy (M.2.1 b) j) (D' b j)
    by_cases hb : b = a
    · rw [hb]; exact hv j
    · rw [hd b hb]; exact k0.2.2.2.2.2 b j
  · have q2 := k5.2.2.2 q
    refine ⟨q2.1, fun i hi => ?_⟩
    show D' (-1) (i : Int) = _
    rw [hd (-1) (by omega)]
    exact q2.2 i hi
theorem xRel_lt {J : xJT} {s : State} {A : Nat → Prop} {H0 H : Heap} {G : xG} {M : xH} {locs : List Loc} (hR : xRel J s A H0 G M H locs) {a : Int} (h0 : 0 < a) (hk : 0 ≤ M.2.1 a) : a < (M.2.2.2.1 : Int) := by
  rcases hR.1.2.1 a hk with h | h
  · omega
  · exact h.2
theorem xK1 {J : xJT} {s : State} {A : Nat → Prop} {H0 H : Heap} {G : xG} {M : xH} {locs : List Loc} (hT : xTab J s) (hR : xRel J s A H0 G M H locs) {a : Int} (h0 : 0 < a) (hk : 20 ≤ M.2.1 a) : va_K J.1 vwCl [(G.2 a, xAt (M.2.1 a))] s := by
  refine ⟨hT.1.1, fun k q hq => ?_⟩
  match k, hq with
  | 0, hq =>
    have e : (G.2 a, xAt (M.2.1 a)) = q := Option.some.inj hq
    rw [← e]
    exact hR.2.2.2.2.1 a h0 (xRel_lt hR h0 (by omega)) hk
  | k + 1, hq => simp at hq
theorem xE_arr {G : xG} {M : xH} {a : Int} (hk : 20 ≤ M.2.1 a) : xEnt G M a = .inl (G.2 a, (M.2.2.1 a).toNat, xCont G.1 (M.2.1 a) (M.1 a)) := by
  rw [xEnt, if_pos hk]
theorem xE_obj {G : xG} {M : xH} {a : Int} {c : Nat} (hk : M.2.1 a = (c : Int)) (hc : c < 13) : xEnt G M a = .inr (c, xFs G.1 c (M.1 a)) := by
  rw [xEnt, if_neg (by omega), hk]
  rfl
theorem xCt_i (ad : Int → Nat) {κ : Int} (h : κ ≤ 22) (f : Int → Int) : xCont ad κ f = .inl (fun i => Int32.ofInt (f (i : Int))) := by rw [xCont, if_pos h]
theorem xCt_j (ad : Int → Nat) (f : Int → Int) : xCont ad 23 f = .inr (.inl (fun i => Int64.ofInt (f (i : Int)))) := by rw [xCont, if_neg (by omega), if_pos rfl]
theorem xCt_r (ad : Int → Nat) {κ : Int} (h : 24 ≤ κ) (f : Int → Int) : xCont ad κ f = .inr (.inr (.inr (.inr (fun i => xRv ad (f (i : Int)))))) := by rw [xCont, if_neg (by omega), if_neg (by omega)]
theorem xUp_ne (D : xD) {a i v b : Int} (h : b ≠ a) : xUp D a i v b = D b := by
  funext j
  show (if b = a ∧ j = i then v else D b j) = _
  rw [if_neg (fun q => h q.1)]
theorem xUp_i (D : xD) (a : Int) {i : Int} (v : Int) (hi : 0 ≤ i) : (fun k : Nat => Int32.ofInt (xUp D a i v a (k : Int))) = upd (fun k : Nat => Int32.ofInt (D a (k : Int))) i.toNat (Int32.ofInt v) := by
  funext k
  show Int32.ofInt (if a = a ∧ (k : Int) = i then v else D a (k : Int)) = if k = i.toNat then _ else _
  by_cases e : k = i.toNat
  · rw [if_pos e, if_pos ⟨rfl, by omega⟩]
  · rw [if_neg e, if_neg (fun q => e (by omega))]
theorem xUp_j (D : xD) (a : Int) {i : Int} (v : Int) (hi : 0 ≤ i) : (fun k : Nat => Int64.ofInt (xUp D a i v a (k : Int))) = vp_updL (fun k : Nat => Int64.ofInt (D a (k : Int))) i.toNat (Int64.ofInt v) := by
  funext k
  show Int64.ofInt (if a = a ∧ (k : Int) = i then v else D a (k : Int)) = if k = i.toNat then _ else _
  by_cases e : k = i.toNat
  · rw [if_pos e, if_pos ⟨rfl, by omega⟩]
  · rw [if_neg e, if_neg (fun q => e (by omega))]
theorem xUp_r (ad : Int → Nat) (D : xD) (a : Int) {i v : Int} (hv : v ≠ 0) (hi : 0 ≤ i) : (fun k : Nat => xRv ad (xUp D a i v a (k : Int))) = va_up (fun k : Nat => xRv ad (D a (k : Int))) i.toNat (some (ad v)) := by
  funext k
  show xRv ad (if a = a ∧ (k : Int) = i then v else D a (k : Int)) = if k = i.toNat then _ else _
  by_cases e : k = i.toNat
  · rw [if_pos e, if_pos ⟨rfl, by omega⟩, xRv, if_neg hv]
  · rw [if_neg e, if_neg (fun q => e (by omega))]
theorem xUp_v {n t : Nat} {D : xD} {a i v : Int} {ty : Int → Nat} (h : ∀ j, xInN n (ty j) (D a j)) (hv : ty i = t) (hx : xInN n t v) : ∀ j, xInN n (ty j) (xUp D a i v a j) := by
  intro j
  show xInN n (ty j) (if a = a ∧ j = i then v else D a j)
  by_cases e : j = i
  · rw [if_pos ⟨rfl, e⟩, e, hv]; exact hx
  · rw [if_neg (fun q => e q.2)]; exact h j
theorem xi_bool {x : Int} (h : x = 0 ∨ x = 1) : vp_nar .boolean (Int32.ofInt x) = Int32.ofInt x := by
  rcases h with rfl | rfl <;> rfl
section XOPU
variable {p : Program} {l : Launch} {e : Env} {R : Room} {s : State} {m : MethodId} {args : Array Value} {below : List Frame} {meth : Method} {c : Code}
variable {J : xJT} {A : Nat → Prop} {Z : State → Prop} {nL c0 s0 own d pc : Nat} {cc : ByteArray} {ps : List Nat} {L r : List xV} {M : xH}
theorem o_iaload (C : xCtx p R s m args c own cc nL d J A) (hd : decode cc (ps.getD pc 0) = .ok (.iaload, 1)) (hn : ps.getD (pc + 1) 0 = ps.getD pc 0 + 1) {a i : Int} (hk : M.2.1 a = 20) (hi0 : 0 ≤ i) (hi1 : i < M.2.2.1 a) (h : xRd (p, l, e, R, s, m, args, below, meth, c) J A Z nL c0 s0 ps (pc + 1, L, (0, M.1 a i) :: r, M)) : xRd (p, l, e, R, s, m, args, below, meth, c) J A Z nL c0 s0 ps (pc, L, (0, i) :: (2, a) :: r, M) := by
  intro G H locs ls hR hF h1 h2
  replace hR : xRel J s A s.heap G M H locs := hR
  have ii : xIn 0 i := (hF.2.2.2 (0, i) (by simp)).2
  have hT := C.2.2.2.2.2.1
  have ic := hR.1.2.2.2.2.2 a i
  rw [hk] at ic
  have ic : xInN M.2.2.2.1 0 (M.1 a i) := ic
  have k := h G H locs ls hR ⟨hF.1, hF.2.1, hF.2.2.1, fun v hv => ?_⟩ h1 h2
  · have k : W p l e R s m args below meth c H locs (M.2.2.2.1 - c0) (M.2.2.2.2 - s0) Z (F0 m (ps.getD (pc + 1) 0) ls (.int (Int32.ofInt (M.1 a i)) :: r.map (xc G.1))) := k
    rw [hn] at k
    have ei : ((i.toNat : Nat) : Int) = i := Int.toNat_of_nonneg hi0
    rcases hR.1.2.1 a (by omega) with h0 | ⟨h0, -⟩
    · subst h0
      obtain ⟨hX, hbl, hbA, -⟩ := C.2.2.2.2.2.2.1
      obtain ⟨g1, -, -, g3⟩ := hR.2.2.2.2.2
      obtain ⟨g4, g5⟩ := g3 hk
      have hin : vp_in (Int32.ofInt i) J.2.2.2.2.1 := by
        have q := xi_vin ii hi0 hi1
        rw [g4] at q
        exact q
      have hit : i.toNat < J.2.2.2.2.1 := by omega
      show W p l e R s m args below meth c H locs (M.2.2.2.1 - c0) (M.2.2.2.2 - s0) Z (F0 m (ps.getD pc 0) ls (.int (Int32.ofInt i) :: xc G.1 (2, -1) :: r.map (xc G.1)))
      rw [xc_ref (show (-1 : Int) ≠ 0 by decide), g1]
      refine va_sld C.1 C.2.1 hX hbl hbA hR.2.2.2.1 hin hd ?_
      have q := g5 i.toNat hit
      rw [ei] at q
      rw [xi_cl ii, ← xi_eq (J.2.2.2.2.2.1 i.toNat), ← q]
      exact k
    · have h0 : 0 < a := h0
      have hE : (xWs G M)[(a - 1).toNat]? = some (G.1 a, .inl (G.2 a, (M.2.2.1 a).toNat, .inl (fun i => Int32.ofInt (M.1 a (i : Int))))) := by
        rw [xWs_get h0 (xRel_lt hR h0 (by omega)), xE_arr (by omega), hk, xCt_i _ (by omega)]
      have hK := xK1 hT hR h0 (by omega)
      rw [hk] at hK
      show W p l e R s m args below meth c H locs (M.2.2.2.1 - c0) (M.2.2.2.2 - s0) Z (F0 m (ps.getD pc 0) ls (.int (Int32.ofInt i) :: xc G.1 (2, a) :: r.map (xc G.1)))
      rw [xc_ref (show a ≠ 0 by omega)]
      refine va_iald C.1 C.2.1 hK hR.2.1 (a - 1).toNat 0 hE rfl (xi_vin ii hi0 hi1) hd ?_
      rw [xi_cl ii, ei]
      exact k
  · have hv : v ∈ ((0, M.1 a i) :: r : List xV) := hv
    rcases List.mem_cons.mp hv with rfl | hv
    · exact ⟨Nat.le_of_ble_eq_true rfl, ic⟩
    · exact hF.2.2.2 v (by simp [hv])
theorem o_baload (C : xCtx p R s m args c own cc nL d J A) (hd : decode cc (ps.getD pc 0) = .ok (.baload, 1)) (hn : ps.getD (pc + 1) 0 = ps.getD pc 0 + 1) {a i : Int} (hk : M.2.1 a = 21) (hi0 : 0 ≤ i) (hi1 : i < M.2.2.1 a) (h : xRd (p, l, e, R, s, m, args, below, meth, c) J A Z nL c0 s0 ps (pc + 1, L, (0, M.1 a i) :: r, M)) : xRd (p, l, e, R, s, m, args, below, meth, c) J A Z nL c0 s0 ps (pc, L, (0, i) :: (2, a) :: r, M) := by
  intro G H locs ls hR hF h1 h2
  replace hR : xRel J s A s.heap G M H locs := hR
  have ii : xIn 0 i := (hF.2.2.2 (0, i) (by simp)).2
  have hT := C.2.2.2.2.2.1
  have ic := hR.1.2.2.2.2.2 a i
  rw [hk] at ic
  have ic : xInN M.2.2.2.1 4 (M.1 a i) := ic
  have k := h G H locs ls hR ⟨hF.1, hF.2.1, hF.2.2.1, fun v hv => ?_⟩ h1 h2
  · have k : W p l e R s m args below meth c H locs (M.2.2.2.1 - c0) (M.2.2.2.2 - s0) Z (F0 m (ps.getD (pc + 1) 0) ls (.int (Int32.ofInt (M.1 a i)) :: r.map (xc G.1))) := k
    rw [hn] at k
    have ei : ((i.toNat : Nat) : Int) = i := Int.toNat_of_nonneg hi0
    have h0 : 0 < a := by
      rcases hR.1.2.1 a (by omega) with z | z
      · subst z
        have q := hR.1.2.2.2.1 (by omega)
        omega
      · exact z.1
    have h0 : 0 < a := h0
    have hE : (xWs G M)[(a - 1).toNat]? = some (G.1 a, .inl (G.2 a, (M.2.2.1 a).toNat, .inl (fun i => Int32.ofInt (M.1 a (i : Int))))) := by
      rw [xWs_get h0 (xRel_lt hR h0 (by omega)), xE_arr (by omega), hk, xCt_i _ (by omega)]
    have hK := xK1 hT hR h0 (by omega)
    rw [hk] at hK
    show W p l e R s m args below meth c H locs (M.2.2.2.1 - c0) (M.2.2.2.2 - s0) Z (F0 m (ps.getD pc 0) ls (.int (Int32.ofInt i) :: xc G.1 (2, a) :: r.map (xc G.1)))
    rw [xc_ref (show a ≠ 0 by omega)]
    refine va_bald C.1 C.2.1 hK hR.2.1 (a - 1).toNat 0 hE rfl (xi_vin ii hi0 hi1) hd ?_
    rw [xi_cl ii, ei]
    exact k
  · have hv : v ∈ ((0, M.1 a i) :: r : List xV) := hv
    rcases List.mem_cons.mp hv with rfl | hv
    · exact ⟨Nat.le_of_ble_eq_true rfl, xIn40 ic⟩
    · exact hF.2.2.2 v (by simp [hv])
theorem o_caload (C : xCtx p R s m args c own cc nL d J A) (hd : decode cc (ps.getD pc 0) = .ok (.baload, 1)) (hn : ps.getD (pc + 1) 0 = ps.getD pc 0 + 1) {a i : Int} (hk : M.2.1 a = 22) (hi0 : 0 ≤ i) (hi1 : i < M.2.2.1 a) (h : xRd (p, l, e, R, s, m, args, below, meth, c) J A Z nL c0 s0 ps (pc + 1, L, (0, M.1 a i) :: r, M)) : xRd (p, l, e, R, s, m, args, below, meth, c) J A Z nL c0 s0 ps (pc, L, (0, i) :: (2, a) :: r, M) := by
  intro G H locs ls hR hF h1 h2
  replace hR : xRel J s A s.heap G M H locs := hR
  have ii : xIn 0 i := (hF.2.2.2 (0, i) (by simp)).2
  have hT := C.2.2.2.2.2.1
  have ic := hR.1.2.2.2.2.2 a i
  rw [hk] at ic
  have ic : xInN M.2.2.2.1 3 (M.1 a i) := ic
  have k := h G H locs ls hR ⟨hF.1, hF.2.1, hF.2.2.1, fun v hv => ?_⟩ h1 h2
  · have k : W p l e R s m args below meth c H locs (M.2.2.2.1 - c0) (M.2.2.2.2 - s0) Z (F0 m (ps.getD (pc + 1) 0) ls (.int (Int32.ofInt (M.1 a i)) :: r.map (xc G.1))) := k
    rw [hn] at k
    have ei : ((i.toNat : Nat) : Int) = i := Int.toNat_of_nonneg hi0
    have h0 : 0 < a := by
      rcases hR.1.2.1 a (by omega) with z | z
      · subst z
        have q := hR.1.2.2.2.1 (by omega)
        omega
      · exact z.1
    have h0 : 0 < a := h0
    have hE : (xWs G M)[(a - 1).toNat]? = some (G.1 a, .inl (G.2 a, (M.2.2.1 a).toNat, .inl (fun i => Int32.ofInt (M.1 a (i : Int))))) := by
      rw [xWs_get h0 (xRel_lt hR h0 (by omega)), xE_arr (by omega), hk, xCt_i _ (by omega)]
    have hK := xK1 hT hR h0 (by omega)
    rw [hk] at hK
    show W p l e R s m args below meth c H locs (M.2.2.2.1 - c0) (M.2.2.2.2 - s0) Z (F0 m (ps.getD pc 0) ls (.int (Int32.ofInt i) :: xc G.1 (2, a) :: r.map (xc G.1)))
    rw [xc_ref (show a ≠ 0 by omega)]
    refine va_zald C.1 C.2.1 hK hR.2.1 (a - 1).toNat 0 hE rfl (xi_vin ii hi0 hi1) hd ?_
    rw [xi_cl ii, ei]
    exact k
  · have hv : v ∈ ((0, M.1 a i) :: r : List xV) := hv
    rcases List.mem_cons.mp hv with rfl | hv
    · exact ⟨Nat.le_of_ble_eq_true rfl, xIn30 ic⟩
    · exact hF.2.2.2 v (by simp [hv])
theorem o_laload (C : xCtx p R s m args c own cc nL d J A) (hd : decode cc (ps.getD pc 0) = .ok (.laload, 1)) (hn : ps.getD (pc + 1) 0 = ps.getD pc 0 + 1) {a i : Int} (hk : M.2.1 a = 23) (hi0 : 0 ≤ i) (hi1 : i < M.2.2.1 a) (h : xRd (p, l, e, R, s, m, args, below, meth, c) J A Z nL c0 s0 ps (pc + 1, L, (1, M.1 a i) :: r, M)) : xRd (p, l, e, R, s, m, args, below, meth, c) J A Z nL c0 s0 ps (pc, L, (0, i) :: (2, a) :: r, M) := by
  intro G H locs ls hR hF h1 h2
  replace hR : xRel J s A s.heap G M H locs := hR
  have ii : xIn 0 i := (hF.2.2.2 (0, i) (by simp)).2
  have hT := C.2.2.2.2.2.1
  have ic := hR.1.2.2.2.2.2 a i
  rw [hk] at ic
  have ic : xInN M.2.2.2.1 1 (M.1 a i) := ic
  have k := h G H locs ls hR ⟨hF.1, hF.2.1, hF.2.2.1, fun v hv => ?_⟩ h1 h2
  · have k : W p l e R s m args below meth c H locs (M.2.2.2.1 - c0) (M.2.2.2.2 - s0) Z (F0 m (ps.getD (pc + 1) 0) ls (.long (Int64.ofInt (M.1 a i)) :: r.map (xc G.1))) := k
    rw [hn] at k
    have ei : ((i.toNat : Nat) : Int) = i := Int.toNat_of_nonneg hi0
    have h0 : 0 < a := by
      rcases hR.1.2.1 a (by omega) with z | z
      · subst z
        have q := hR.1.2.2.2.1 (by omega)
        omega
      · exact z.1
    have h0 : 0 < a := h0
    have hE : (xWs G M)[(a - 1).toNat]? = some (G.1 a, .inl (G.2 a, (M.2.2.1 a).toNat, .inr (.inl (fun i => Int64.ofInt (M.1 a (i : Int)))))) := by
      rw [xWs_get h0 (xRel_lt hR h0 (by omega)), xE_arr (by omega), hk, xCt_j]
    have hK := xK1 hT hR h0 (by omega)
    rw [hk] at hK
    show W p l e R s m args below meth c H locs (M.2.2.2.1 - c0) (M.2.2.2.2 - s0) Z (F0 m (ps.getD pc 0) ls (.int (Int32.ofInt i) :: xc G.1 (2, a) :: r.map (xc G.1)))
    rw [xc_ref (show a ≠ 0 by omega)]
    refine va_lald C.1 C.2.1 hK hR.2.1 (a - 1).toNat 0 hE rfl (xi_vin ii hi0 hi1) hd ?_
    rw [xi_cl ii, ei]
    exact k
  · have hv : v ∈ ((1, M.1 a i) :: r : List xV) := hv
    rcases List.mem_cons.mp hv with rfl | hv
    · exact ⟨Nat.le_of_ble_eq_true rfl, ic⟩
    · exact hF.2.2.2 v (by simp [hv])
theorem o_aaload (C : xCtx p R s m args c own cc nL d J A) (hd : decode cc (ps.getD pc 0) = .ok (.aaload, 1)) (hn : ps.getD (pc + 1) 0 = ps.getD pc 0 + 1) {a i : Int} (hk : 24 ≤ M.2.1 a) (hi0 : 0 ≤ i) (hi1 : i < M.2.2.1 a) (h : xRd (p, l, e, R, s, m, args, below, meth, c) J A Z nL c0 s0 ps (pc + 1, L, (2, M.1 a i) :: r, M)) : xRd (p, l, e, R, s, m, args, below, meth, c) J A Z nL c0 s0 ps (pc, L, (0, i) :: (2, a) :: r, M) := by
  intro G H locs ls hR hF h1 h2
  replace hR : xRel J s A s.heap G M H locs := hR
  have ii : xIn 0 i := (hF.2.2.2 (0, i) (by simp)).2
  have hT := C.2.2.2.2.2.1
  have ic := hR.1.2.2.2.2.2 a i
  rw [xTy_ge hk] at ic
  have k := h G H locs ls hR ⟨hF.1, hF.2.1, hF.2.2.1, fun v hv => ?_⟩ h1 h2
  · have k : W p l e R s m args below meth c H locs (M.2.2.2.1 - c0) (M.2.2.2.2 - s0) Z (F0 m (ps.getD (pc + 1) 0) ls (xc G.1 (2, M.1 a i) :: r.map (xc G.1))) := k
    rw [hn] at k
    have ei : ((i.toNat : Nat) : Int) = i := Int.toNat_of_nonneg hi0
    have h0 : 0 < a := by
      rcases hR.1.2.1 a (by omega) with z | z
      · subst z
        have q := hR.1.2.2.2.1 (by omega)
        omega
      · exact z.1
    have hE : (xWs G M)[(a - 1).toNat]? = some (G.1 a, .inl (G.2 a, (M.2.2.1 a).toNat, .inr (.inr (.inr (.inr (fun i => xRv G.1 (M.1 a (i : Int)))))))) := by
      rw [xWs_get h0 (xRel_lt hR h0 (by omega)), xE_arr (by omega), xCt_r _ hk]
    have hK := (xK1 hT hR h0 (by omega)).2 0 _ rfl
    have hv := xi_vin ii hi0 hi1
    show W p l e R s m args below meth c H locs (M.2.2.2.1 - c0) (M.2.2.2.2 - s0) Z (F0 m (ps.getD pc 0) ls (.int (Int32.ofInt i) :: xc G.1 (2, a) :: r.map (xc G.1)))
    rw [xc_ref (show a ≠ 0 by omega)]
    have hlt : (Int32.ofInt i).toNatClampNeg < (M.2.2.1 a).toNat := Nat.not_le.mp fun q => hv (Or.inr q)
    refine W.aald (v := va_rf (xRv G.1 (M.1 a (((Int32.ofInt i).toNatClampNeg : Nat) : Int)))) (ty := xAt (M.2.1 a)) C.1 C.2.1 (hR.2.1 _ _ hE) (hK.1 (M.2.2.1 a).toNat (fun j => va_rf (xRv G.1 (M.1 a (j : Int))))) (xAt_ref hk) (fun q => by cases q) (by show ¬ (Int32.ofInt i < 0 ∨ (arrV _ _ _).slots.size ≤ _); rw [arrV_size]; exact hv) (by show (arrV _ _ _).slots[_]? = _; rw [arrV_read _ _ hlt]) rfl rfl hd ?_
    rw [xi_cl ii, ei]
    exact k
  · have hv : v ∈ ((2, M.1 a i) :: r : List xV) := hv
    rcases List.mem_cons.mp hv with rfl | hv
    · exact ⟨Nat.le_of_ble_eq_true rfl, ic⟩
    · exact hF.2.2.2 v (by simp [hv])
theorem o_alen (C : xCtx p R s m args c own cc nL d J A) (hd : decode cc (ps.getD pc 0) = .ok (.arraylength, 1)) (hn : ps.getD (pc + 1) 0 = ps.getD pc 0 + 1) {a : Int} (hk : 20 ≤ M.2.1 a) (h : xRd (p, l, e, R, s, m, args, below, meth, c) J A Z nL c0 s0 ps (pc + 1, L, (0, M.2.2.1 a) :: r, M)) : xRd (p, l, e, R, s, m, args, below, meth, c) J A Z nL c0 s0 ps (pc, L, (2, a) :: r, M) := by
  intro G H locs ls hR hF h1 h2
  replace hR : xRel J s A s.heap G M H locs := hR
  have hT := C.2.2.2.2.2.1
  have hN := hR.1.2.2.2.2.1 a hk
  have iN : xIn 0 (M.2.2.1 a) := by
    show (-2147483648 : Int) ≤ M.2.2.1 a ∧ M.2.2.1 a < 2147483648
    omega
  have k := h G H locs ls hR ⟨hF.1, hF.2.1, hF.2.2.1, fun v hv => ?_⟩ h1 h2
  · have k : W p l e R s m args below meth c H locs (M.2.2.2.1 - c0) (M.2.2.2.2 - s0) Z (F0 m (ps.getD (pc + 1) 0) ls (.int (Int32.ofInt (M.2.2.1 a)) :: r.map (xc G.1))) := k
    rw [hn] at k
    show W p l e R s m args below meth c H locs (M.2.2.2.1 - c0) (M.2.2.2.2 - s0) Z (F0 m (ps.getD pc 0) ls (xc G.1 (2, a) :: r.map (xc G.1)))
    rcases hR.1.2.1 a (by omega) with h0 | ⟨h0, -⟩
    · subst h0
      obtain ⟨hX, hbl, hbA, -⟩ := C.2.2.2.2.2.2.1
      obtain ⟨g1, -, -, g3⟩ := hR.2.2.2.2.2
      obtain ⟨g4, g5⟩ := g3 (hR.1.2.2.2.1 (by omega))
      rw [xc_ref (show (-1 : Int) ≠ 0 by decide), g1]
      refine va_slen C.1 C.2.1 hX hbl hbA hR.2.2.2.1 hd ?_
      rw [g4, xi_nat] at k
      exact k
    · rw [xc_ref (show a ≠ 0 by omega)]
      have hE : (xWs G M)[(a - 1).toNat]? = some (G.1 a, .inl (G.2 a, (M.2.2.1 a).toNat, xCont G.1 (M.2.1 a) (M.1 a))) := by
        rw [xWs_get h0 (xRel_lt hR h0 (by omega)), xE_arr hk]
      refine va_alen C.1 C.2.1 (xK1 hT hR h0 hk) hR.2.1 (a - 1).toNat 0 hE rfl (v := Int32.ofInt (M.2.2.1 a)) ?_ hd k
      show Int32.ofNat (M.2.2.1 a).toNat = _
      rw [← xi_nat, Int.toNat_of_nonneg hN.1]
  · have hv : v ∈ ((0, M.2.2.1 a) :: r : List xV) := hv
    rcases List.mem_cons.mp hv with rfl | hv
    · exact ⟨Nat.le_of_ble_eq_true rfl, iN⟩
    · exact hF.2.2.2 v (by simp [hv])
theorem o_iastore (C : xCtx p R s m args c own cc nL d J A) (hd : decode cc (ps.getD pc 0) = .ok (.iastore, 1)) (hn : ps.getD (pc + 1) 0 = ps.getD pc 0 + 1) {a i x : Int} (h0 : 0 < a) (hk : M.2.1 a = 20) (hi0 : 0 ≤ i) (hi1 : i < M.2.2.1 a) (h : xRd (p, l, e, R, s, m, args, below, meth, c) J A Z nL c0 s0 ps (pc + 1, L, r, (xUp M.1 a i (x), M.2))) : xRd (p, l, e, R, s, m, args, below, meth, c) J A Z nL c0 s0 ps (pc, L, (0, x) :: (0, i) :: (2, a) :: r, M) := by
  intro G H locs ls hR hF h1 h2
  replace hR : xRel J s A s.heap G M H locs := hR
  have ix : xIn 0 x := (hF.2.2.2 (0, x) (by simp)).2
  have ii : xIn 0 i := (hF.2.2.2 (0, i) (by simp)).2
  have hT := C.2.2.2.2.2.1
  have hE : (xWs G M)[(a - 1).toNat]? = some (G.1 a, .inl (G.2 a, (M.2.2.1 a).toNat, .inl (fun i => Int32.ofInt (M.1 a (i : Int))))) := by
    rw [xWs_get h0 (xRel_lt hR h0 (by omega)), xE_arr (by omega), hk, xCt_i _ (by omega)]
  have hK := xK1 hT hR h0 (by omega)
  rw [hk] at hK
  show W p l e R s m args below meth c H locs (M.2.2.2.1 - c0) (M.2.2.2.2 - s0) Z (F0 m (ps.getD pc 0) ls (.int (Int32.ofInt x) :: .int (Int32.ofInt i) :: xc G.1 (2, a) :: r.map (xc G.1)))
  rw [xc_ref (show a ≠ 0 by omega)]
  refine va_iast C.1 C.2.1 hK hR.2.1 hR.2.2.1 hR.2.2.2.1 (a - 1).toNat 0 hE rfl (xi_vin ii hi0 hi1) hd (fun H1 locs1 hP hD hS => ?_)
  have hR2 := xRel_set (D' := xUp M.1 a i (x)) hR h0 (fun b hb => xUp_ne _ hb) (xUp_v (hR.1.2.2.2.2.2 a) (t := 0) (by rw [hk]; rfl) ix) (by
    rw [xE_arr (by show 20 ≤ M.2.1 a; omega)]
    show _ = (G.1 a, Sum.inl (G.2 a, (M.2.2.1 a).toNat, xCont G.1 (M.2.1 a) (xUp M.1 a i (x) a)))
    rw [hk, xCt_i _ (by omega), xUp_i _ _ _ hi0, xi_cl ii]) hP hD hS
  have k := h G H1 locs1 ls hR2 ⟨hF.1, hF.2.1, hF.2.2.1, fun v hv => hF.2.2.2 v (by simp [show v ∈ r from hv])⟩ h1 h2
  have k : W p l e R s m args below meth c H1 locs1 (M.2.2.2.1 - c0) (M.2.2.2.2 - s0) Z (F0 m (ps.getD (pc + 1) 0) ls (r.map (xc G.1))) := k
  rw [hn] at k
  exact k
theorem o_bastore (C : xCtx p R s m args c own cc nL d J A) (hd : decode cc (ps.getD pc 0) = .ok (.bastore, 1)) (hn : ps.getD (pc + 1) 0 = ps.getD pc 0 + 1) {a i x : Int} (h0 : 0 < a) (hk : M.2.1 a = 21) (hi0 : 0 ≤ i) (hi1 : i < M.2.2.1 a) (h : xRd (p, l, e, R, s, m, args, below, meth, c) J A Z nL c0 s0 ps (pc + 1, L, r, (xUp M.1 a i (w8 x), M.2))) : xRd (p, l, e, R, s, m, args, below, meth, c) J A Z nL c0 s0 ps (pc, L, (0, x) :: (0, i) :: (2, a) :: r, M) := by
  intro G H locs ls hR hF h1 h2
  replace hR : xRel J s A s.heap G M H locs := hR
  have ix : xIn 0 x := (hF.2.2.2 (0, x) (by simp)).2
  have ii : xIn 0 i := (hF.2.2.2 (0, i) (by simp)).2
  have hT := C.2.2.2.2.2.1
  have hE : (xWs G M)[(a - 1).toNat]? = some (G.1 a, .inl (G.2 a, (M.2.2.1 a).toNat, .inl (fun i => Int32.ofInt (M.1 a (i : Int))))) := by
    rw [xWs_get h0 (xRel_lt hR h0 (by omega)), xE_arr (by omega), hk, xCt_i _ (by omega)]
  have hK := xK1 hT hR h0 (by omega)
  rw [hk] at hK
  show W p l e R s m args below meth c H locs (M.2.2.2.1 - c0) (M.2.2.2.2 - s0) Z (F0 m (ps.getD pc 0) ls (.int (Int32.ofInt x) :: .int (Int32.ofInt i) :: xc G.1 (2, a) :: r.map (xc G.1)))
  rw [xc_ref (show a ≠ 0 by omega)]
  refine va_bast C.1 C.2.1 hK hR.2.1 hR.2.2.1 hR.2.2.2.1 (a - 1).toNat 0 hE rfl (xi_vin ii hi0 hi1) hd (fun H1 locs1 hP hD hS => ?_)
  have hR2 := xRel_set (D' := xUp M.1 a i (w8 x)) hR h0 (fun b hb => xUp_ne _ hb) (xUp_v (hR.1.2.2.2.2.2 a) (t := 4) (by rw [hk]; rfl) (w8_in x)) (by
    rw [xE_arr (by show 20 ≤ M.2.1 a; omega)]
    show _ = (G.1 a, Sum.inl (G.2 a, (M.2.2.1 a).toNat, xCont G.1 (M.2.1 a) (xUp M.1 a i (w8 x) a)))
    rw [hk, xCt_i _ (by omega), xUp_i _ _ _ hi0, xi_cl ii, vp_nar_byte, xi_b x ix]) hP hD hS
  have k := h G H1 locs1 ls hR2 ⟨hF.1, hF.2.1, hF.2.2.1, fun v hv => hF.2.2.2 v (by simp [show v ∈ r from hv])⟩ h1 h2
  have k : W p l e R s m args below meth c H1 locs1 (M.2.2.2.1 - c0) (M.2.2.2.2 - s0) Z (F0 m (ps.getD (pc + 1) 0) ls (r.map (xc G.1))) := k
  rw [hn] at k
  exact k
theorem o_castore (C : xCtx p R s m args c own cc nL d J A) (hd : decode cc (ps.getD pc 0) = .ok (.bastore, 1)) (hn : ps.getD (pc + 1) 0 = ps.getD pc 0 + 1) {a i x : Int} (h0 : 0 < a) (hk : M.2.1 a = 22) (hi0 : 0 ≤ i) (hi1 : i < M.2.2.1 a) (hb1 : x = 0 ∨ x = 1) (h : xRd (p, l, e, R, s, m, args, below, meth, c) J A Z nL c0 s0 ps (pc + 1, L, r, (xUp M.1 a i (x), M.2))) : xRd (p, l, e, R, s, m, args, below, meth, c) J A Z nL c0 s0 ps (pc, L, (0, x) :: (0, i) :: (2, a) :: r, M) := by
  intro G H locs ls hR hF h1 h2
  replace hR : xRel J s A s.heap G M H locs := hR
  have ix : xIn 0 x := (hF.2.2.2 (0, x) (by simp)).2
  have ii : xIn 0 i := (hF.2.2.2 (0, i) (by simp)).2
  have hT := C.2.2.2.2.2.1
  have hE : (xWs G M)[(a - 1).toNat]? = some (G.1 a, .inl (G.2 a, (M.2.2.1 a).toNat, .inl (fun i => Int32.ofInt (M.1 a (i : Int))))) := by
    rw [xWs_get h0 (xRel_lt hR h0 (by omega)), xE_arr (by omega), hk, xCt_i _ (by omega)]
  have hK := xK1 hT hR h0 (by omega)
  rw [hk] at hK
  show W p l e R s m args below meth c H locs (M.2.2.2.1 - c0) (M.2.2.2.2 - s0) Z (F0 m (ps.getD pc 0) ls (.int (Int32.ofInt x) :: .int (Int32.ofInt i) :: xc G.1 (2, a) :: r.map (xc G.1)))
  rw [xc_ref (show a ≠ 0 by omega)]
  refine va_zast C.1 C.2.1 hK hR.2.1 hR.2.2.1 hR.2.2.2.1 (a - 1).toNat 0 hE rfl (xi_vin ii hi0 hi1) hd (fun H1 locs1 hP hD hS => ?_)
  have hR2 := xRel_set (D' := xUp M.1 a i (x)) hR h0 (fun b hb => xUp_ne _ hb) (xUp_v (hR.1.2.2.2.2.2 a) (t := 3) (by rw [hk]; rfl) hb1) (by
    rw [xE_arr (by show 20 ≤ M.2.1 a; omega)]
    show _ = (G.1 a, Sum.inl (G.2 a, (M.2.2.1 a).toNat, xCont G.1 (M.2.1 a) (xUp M.1 a i (x) a)))
    rw [hk, xCt_i _ (by omega), xUp_i _ _ _ hi0, xi_cl ii, xi_bool hb1]) hP hD hS
  have k := h G H1 locs1 ls hR2 ⟨hF.1, hF.2.1, hF.2.2.1, fun v hv => hF.2.2.2 v (by simp [show v ∈ r from hv])⟩ h1 h2
  have k : W p l e R s m args below meth c H1 locs1 (M.2.2.2.1 - c0) (M.2.2.2.2 - s0) Z (F0 m (ps.getD (pc + 1) 0) ls (r.map (xc G.1))) := k
  rw [hn] at k
  exact k
theorem o_lastore (C : xCtx p R s m args c own cc nL d J A) (hd : decode cc (ps.getD pc 0) = .ok (.lastore, 1)) (hn : ps.getD (pc + 1) 0 = ps.getD pc 0 + 1) {a i x : Int} (h0 : 0 < a) (hk : M.2.1 a = 23) (hi0 : 0 ≤ i) (hi1 : i < M.2.2.1 a) (h : xRd (p, l, e, R, s, m, args, below, meth, c) J A Z nL c0 s0 ps (pc + 1, L, r, (xUp M.1 a i (x), M.2))) : xRd (p, l, e, R, s, m, args, below, meth, c) J A Z nL c0 s0 ps (pc, L, (1, x) :: (0, i) :: (2, a) :: r, M) := by
  intro G H locs ls hR hF h1 h2
  replace hR : xRel J s A s.heap G M H locs := hR
  have ix : xIn 1 x := (hF.2.2.2 (1, x) (by simp)).2
  have ii : xIn 0 i := (hF.2.2.2 (0, i) (by simp)).2
  have hT := C.2.2.2.2.2.1
  have hE : (xWs G M)[(a - 1).toNat]? = some (G.1 a, .inl (G.2 a, (M.2.2.1 a).toNat, .inr (.inl (fun i => Int64.ofInt (M.1 a (i : Int)))))) := by
    rw [xWs_get h0 (xRel_lt hR h0 (by omega)), xE_arr (by omega), hk, xCt_j]
  have hK := xK1 hT hR h0 (by omega)
  rw [hk] at hK
  show W p l e R s m args below meth c H locs (M.2.2.2.1 - c0) (M.2.2.2.2 - s0) Z (F0 m (ps.getD pc 0) ls (.long (Int64.ofInt x) :: .int (Int32.ofInt i) :: xc G.1 (2, a) :: r.map (xc G.1)))
  rw [xc_ref (show a ≠ 0 by omega)]
  refine va_last C.1 C.2.1 hK hR.2.1 hR.2.2.1 hR.2.2.2.1 (a - 1).toNat 0 hE rfl (xi_vin ii hi0 hi1) hd (fun H1 locs1 hP hD hS => ?_)
  have hR2 := xRel_set (D' := xUp M.1 a i (x)) hR h0 (fun b hb => xUp_ne _ hb) (xUp_v (hR.1.2.2.2.2.2 a) (t := 1) (by rw [hk]; rfl) ix) (by
    rw [xE_arr (by show 20 ≤ M.2.1 a; omega)]
    show _ = (G.1 a, Sum.inl (G.2 a, (M.2.2.1 a).toNat, xCont G.1 (M.2.1 a) (xUp M.1 a i (x) a)))
    rw [hk, xCt_j, xUp_j _ _ _ hi0, xi_cl ii]) hP hD hS
  have k := h G H1 locs1 ls hR2 ⟨hF.1, hF.2.1, hF.2.2.1, fun v hv => hF.2.2.2 v (by simp [show v ∈ r from hv])⟩ h1 h2
  have k : W p l e R s m args below meth c H1 locs1 (M.2.2.2.1 - c0) (M.2.2.2.2 - s0) Z (F0 m (ps.getD (pc + 1) 0) ls (r.map (xc G.1))) := k
  rw [hn] at k
  exact k
theorem o_aastore (C : xCtx p R s m args c own cc nL d J A) (hd : decode cc (ps.getD pc 0) = .ok (.aastore, 1)) (hn : ps.getD (pc + 1) 0 = ps.getD pc 0 + 1) {a i x : Int} (h0 : 0 < a) (hk : xEl (M.2.1 a) = M.2.1 x) (hk2 : 0 ≤ M.2.1 x) (hi0 : 0 ≤ i) (hi1 : i < M.2.2.1 a) (h : xRd (p, l, e, R, s, m, args, below, meth, c) J A Z nL c0 s0 ps (pc + 1, L, r, (xUp M.1 a i x, M.2))) : xRd (p, l, e, R, s, m, args, below, meth, c) J A Z nL c0 s0 ps (pc, L, (2, x) :: (0, i) :: (2, a) :: r, M) := by
  intro G H locs ls hR hF h1 h2
  replace hR : xRel J s A s.heap G M H locs := hR
  have ix : x < (M.2.2.2.1 : Int) := (hF.2.2.2 (2, x) (by simp)).2
  have ii : xIn 0 i := (hF.2.2.2 (0, i) (by simp)).2
  have hT := C.2.2.2.2.2.1
  obtain ⟨q1, q2, q3⟩ := xEl_ok hk hk2
  have hx0 : 0 < x := by
    rcases hR.1.2.1 x hk2 with z | z
    · subst z
      have q := hR.1.2.2.2.1 hk2
      omega
    · exact z.1
  have hE : (xWs G M)[(a - 1).toNat]? = some (G.1 a, .inl (G.2 a, (M.2.2.1 a).toNat, .inr (.inr (.inr (.inr (fun i => xRv G.1 (M.1 a (i : Int)))))))) := by
    rw [xWs_get h0 (xRel_lt hR h0 (by omega)), xE_arr (by omega), xCt_r _ (by omega)]
  have hE2 : (xWs G M)[(x - 1).toNat]? = some (G.1 x, .inr ((M.2.1 x).toNat, xFs G.1 (M.2.1 x).toNat (M.1 x))) := by
    rw [xWs_get hx0 ix, xE_obj (c := (M.2.1 x).toNat) (by omega) (by omega)]
  have hK := xK1 hT hR h0 (by omega)
  rw [q3] at hK
  show W p l e R s m args below meth c H locs (M.2.2.2.1 - c0) (M.2.2.2.2 - s0) Z (F0 m (ps.getD pc 0) ls (xc G.1 (2, x) :: .int (Int32.ofInt i) :: xc G.1 (2, a) :: r.map (xc G.1)))
  rw [xc_ref (show a ≠ 0 by omega), xc_ref (show x ≠ 0 by omega)]
  refine va_astq C.1 C.2.1 hK hR.2.1 hR.2.2.1 hR.2.2.2.1 (a - 1).toNat 0 (x - 1).toNat (M.2.1 x).toNat hE rfl hE2 (xCl_get _ (by omega)) (xi_vin ii hi0 hi1) hd (fun H1 locs1 hP hD hS => ?_)
  have hR2 := xRel_set (D' := xUp M.1 a i x) hR h0 (fun b hb => xUp_ne _ hb) (xUp_v (hR.1.2.2.2.2.2 a) (t := 2) (xTy_ge (by omega)) ix) (by
    rw [xE_arr (by show 20 ≤ M.2.1 a; omega)]
    show _ = (G.1 a, Sum.inl (G.2 a, (M.2.2.1 a).toNat, xCont G.1 (M.2.1 a) (xUp M.1 a i x a)))
    rw [xCt_r _ (by omega), xUp_r _ _ _ (show x ≠ 0 by omega) hi0, xi_cl ii]) hP hD hS
  have k := h G H1 locs1 ls hR2 ⟨hF.1, hF.2.1, hF.2.2.1, fun v hv => hF.2.2.2 v (by simp [show v ∈ r from hv])⟩ h1 h2
  have k : W p l e R s m args below meth c H1 locs1 (M.2.2.2.1 - c0) (M.2.2.2.2 - s0) Z (F0 m (ps.getD (pc + 1) 0) ls (r.map (xc G.1))) := k
  rw [hn] at k
  exact k
end XOPU
