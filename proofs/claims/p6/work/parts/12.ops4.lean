theorem xGw_of {w : Cond} (h : w ∈ tables_1) (g : goodWord w = true) : w ∈ xGw := List.mem_filter.mpr ⟨x_in h, g⟩
theorem xUws_good {C : String} {T : u_T} {N : Nat} : ∀ w ∈ u_ws C T N, goodWord w = true := by
  intro w hw
  obtain ⟨k, -, rfl⟩ := List.mem_map.mp hw
  unfold u_lay
  split <;> rfl
theorem xCl_gw {c : Nat} (hc : c < 13) : ∀ w ∈ u_ws (xCl c).1 (xCl c).2.1 (xCl c).2.2, w ∈ xGw := fun w hw => List.mem_filter.mpr ⟨xCl_in c hc w hw, xUws_good w hw⟩
theorem xFl_rng : xFl.all (fun e => Nat.blt e.2.2.1 13 && Nat.blt e.2.2.2 (xCl e.2.2.1).2.2) = true := by decide +kernel
theorem xFn_rng : xFn.all (fun e => Nat.blt e.2.2.1 13 && Nat.blt e.2.2.2 (xCl e.2.2.1).2.2) = true := by decide +kernel
theorem xFd_rng {own i c k : Nat} (h : (own, i, c, k) ∈ xFl ∨ (own, i, c, k) ∈ xFn) : c < 13 ∧ k < (xCl c).2.2 := by
  have q : (Nat.blt c 13 && Nat.blt k (xCl c).2.2) = true := by
    rcases h with h | h
    · exact List.all_eq_true.mp xFl_rng _ h
    · exact List.all_eq_true.mp xFn_rng _ h
  simp only [Bool.and_eq_true, Nat.blt_eq] at q
  exact q
theorem xTg_le {c k : Nat} (hc : c < 13) (hk : k < (xCl c).2.2) : xTg (xFT c k) ≤ 2 := by
  rcases xFt_code hc hk with ⟨-, e⟩ | ⟨-, e⟩ | ⟨-, e⟩ | ⟨-, e⟩ <;> rw [e] <;> decide
theorem xTg_in {n c k : Nat} {x : Int} (hc : c < 13) (hk : k < (xCl c).2.2) (h : xInN n (xFT c k) x) : xInN n (xTg (xFT c k)) x := by
  rcases xFt_code hc hk with ⟨-, e⟩ | ⟨-, e⟩ | ⟨-, e⟩ | ⟨-, e⟩ <;> rw [e] at h ⊢
  · exact h
  · exact xIn30 h
  · exact h
  · exact h
theorem xOk_obj {M : xH} (hok : xOk M) {a : Int} {c : Nat} (hk : M.2.1 a = (c : Int)) (hc : c < 13) : 0 < a ∧ a < (M.2.2.2.1 : Int) := by
  rcases hok.2.1 a (by omega) with z | z
  · subst z
    have q := hok.2.2.2.1 (by omega)
    omega
  · exact z
theorem xOk_fld {M : xH} (hok : xOk M) {a : Int} {c k : Nat} (hk : M.2.1 a = (c : Int)) (hc : c < 13) : xInN M.2.2.2.1 (xFT c k) (M.1 a (k : Int)) := by
  have q := hok.2.2.2.2.2 a (k : Int)
  rw [xTy_cl (by omega) (by omega), hk] at q
  exact q
theorem xFs_def {ad : Int → Nat} {c : Nat} (hc : c < 13) : ∀ j, j < (xCl c).2.2 → defaultValue (xTyF c j) = vp_V (xFs ad c (fun _ => 0)) j := by
  intro j hj
  have e : vp_V (xFs ad c (fun _ => 0)) j = xc ad (xTg (xFT c j), 0) := by
    unfold vp_V
    rw [List.getD_eq_getElem?_getD, xFs_get hj]
    rfl
  rw [e]
  rcases xFt_code hc hj with ⟨e1, e2⟩ | ⟨e1, e2⟩ | ⟨e1, e2⟩ | ⟨⟨n, e1⟩ | ⟨n, e1⟩, e2⟩ <;> rw [e1, e2] <;> rfl
theorem xTys_ok {c : Nat} (hc : c < 13) : ∀ k, k < (xCl c).2.2 → parseFieldDescriptor ((xCl c).2.1 k).2.2.1 = some (xTyF c k) := fun _ hk => xFt_parse hc hk
theorem xo_cl : ∀ c : Nat, c < 13 → xo c = (xCl c).1 := x13 rfl rfl rfl rfl rfl rfl rfl rfl rfl rfl rfl rfl rfl
/-- the relation, behind a new object -/
theorem xWs_push {G G' : xG} {M M' : xH} {z : Nat × va_E} (h1 : 1 ≤ M.2.2.2.1) (hn : M'.2.2.2.1 = M.2.2.2.1 + 1) (hz : z = (G'.1 (M.2.2.2.1 : Int), xEnt G' M' (M.2.2.2.1 : Int))) (hE : ∀ b : Int, 0 < b → b < (M.2.2.2.1 : Int) → G'.1 b = G.1 b ∧ xEnt G' M' b = xEnt G M b) : xWs G M ++ [z] = xWs G' M' := by
  subst hz
  unfold xWs
  have e : M'.2.2.2.1 - 1 = (M.2.2.2.1 - 1) + 1 := by omega
  rw [e, List.range_succ, List.map_append]
  congr 1
  · apply List.map_congr_left
    intro k hk
    have hk := List.mem_range.mp hk
    have q := hE ((k : Int) + 1) (by omega) (by omega)
    rw [q.1, q.2]
  · have e2 : ((M.2.2.2.1 - 1 : Nat) : Int) + 1 = (M.2.2.2.1 : Int) := by omega
    show _ = [(G'.1 (((M.2.2.2.1 - 1 : Nat) : Int) + 1), xEnt G' M' (((M.2.2.2.1 - 1 : Nat) : Int) + 1))]
    rw [e2]
def xGn (G : xG) (n : Int) (q : Nat) (cA : ClassId) : xG := (fun b => if b = n then q else G.1 b, fun b => if b = n then cA else G.2 b)
theorem xGn_ne {G : xG} {n b : Int} {q : Nat} {cA : ClassId} (h : b ≠ n) : (xGn G n q cA).1 b = G.1 b ∧ (xGn G n q cA).2 b = G.2 b := ⟨if_neg h, if_neg h⟩
theorem xRel_push {J : xJT} {s : State} {A : Nat → Prop} {H0 H H1 : Heap} {G : xG} {M : xH} {locs locs1 : List Loc} {κ n : Int} {ns q : Nat} {cA : ClassId} {z : Nat × va_E} (hR : xRel J s A H0 G M H locs) (hκ : (0 ≤ κ ∧ κ < 13) ∨ (20 ≤ κ ∧ κ ≤ 28)) (hn : 0 ≤ n ∧ n < 2147483648) (hkn : 20 ≤ κ → ArrOfT s cA (xAt κ) ∧ va_RA s cA (xAt κ)) (hz : z = (q, xEnt (xGn G (M.2.2.2.1 : Int) q cA) (xNw M κ n ns) (M.2.2.2.1 : Int))) (hP : va_P J.1 vwCl (xWs G M ++ [z]) H1) (hD : va_D A (xWs G M ++ [z])) (hS : va_S A H0 H1 locs1) : xRel J s A H0 (xGn G (M.2.2.2.1 : Int) q cA) (xNw M κ n ns) H1 locs1 := by
  obtain ⟨k0, -, -, -, k4, k5⟩ := hR
  have hx1 := k0.1
  have hK : ∀ b : Int, b ≠ (M.2.2.2.1 : Int) → (xNw M κ n ns).1 b = M.1 b ∧ (xNw M κ n ns).2.1 b = M.2.1 b ∧ (xNw M κ n ns).2.2.1 b = M.2.2.1 b := fun b hb => by
    refine ⟨funext fun j => ?_, ?_, ?_⟩
    · show (if b = (M.2.2.2.1 : Int) then 0 else M.1 b j) = _; rw [if_neg hb]
    · show (if b = (M.2.2.2.1 : Int) then κ else M.2.1 b) = _; rw [if_neg hb]
    · show (if b = (M.2.2.2.1 : Int) then n else M.2.2.1 b) = _; rw [if_neg hb]
  have hC : (xNw M κ n ns).2.1 (M.2.2.2.1 : Int) = κ := by
    show (if (M.2.2.2.1 : Int) = (M.2.2.2.1 : Int) then κ else _) = _; rw [if_pos rfl]
  have hN : (xNw M κ n ns).2.2.1 (M.2.2.2.1 : Int) = n := by
    show (if (M.2.2.2.1 : Int) = (M.2.2.2.1 : Int) then n else _) = _; rw [if_pos rfl]
  have e : xWs G M ++ [z] = xWs (xGn G (M.2.2.2.1 : Int) q cA) (xNw M κ n ns) := by
    refine xWs_push hx1 rfl ?_ (fun b b0 b1 => ⟨(xGn_ne (by omega)).1, ?_⟩)
    · rw [hz]
      show _ = ((if (M.2.2.2.1 : Int) = (M.2.2.2.1 : Int) then q else _), _)
      rw [if_pos rfl]
    · obtain ⟨e1, e2, e3⟩ := hK b (by omega)
      have e4 : xEnt (xGn G (M.2.2.2.1 : Int) q cA) (xNw M κ n ns) b = xEnt (xGn G (M.2.2.2.1 : Int) q cA) M b := by
        unfold xEnt
        rw [e1, e2, e3]
      rw [e4]
      exact xEnt_ext k0 b0 b1 (fun y hy => (xGn_ne (by omega)).1) (xGn_ne (by omega)).2
  rw [e] at hP hD
  refine ⟨⟨by show 1 ≤ M.2.2.2.1 + 1; omega, fun a ha => ?_, fun a a0 a1 => ?_, fun ha => ?_, fun a ha => ?_, fun a j => ?_⟩, hP, hD, hS, fun a a0 a1 ha => ?_, ?_, ⟨fun j hj => ?_, fun b hb => ?_⟩, ?_, fun ha => ?_⟩
  · show a = -1 ∨ (0 < a ∧ a < ((M.2.2.2.1 + 1 : Nat) : Int))
    by_cases hb : a = (M.2.2.2.1 : Int)
    · right; omega
    · rw [(hK a hb).2.1] at ha
      rcases k0.2.1 a ha with y | y
      · left; exact y
      · right; omega
  · have a1 : a < ((M.2.2.2.1 + 1 : Nat) : Int) := a1
    by_cases hb : a = (M.2.2.2.1 : Int)
    · rw [hb, hC]; exact hκ
    · rw [(hK a hb).2.1]; exact k0.2.2.1 a a0 (by omega)
  · rw [(hK (-1) (by omega)).2.1] at ha ⊢; exact k0.2.2.2.1 ha
  · by_cases hb : a = (M.2.2.2.1 : Int)
    · rw [hb, hN]; exact hn
    · rw [(hK a hb).2.1] at ha
      rw [(hK a hb).2.2]
      exact k0.2.2.2.2.1 a ha
  · show xInN (M.2.2.2.1 + 1) _ _
    by_cases hb : a = (M.2.2.2.1 : Int)
    · have q0 : (xNw M κ n ns).1 a j = 0 := by
        show (if a = (M.2.2.2.1 : Int) then 0 else M.1 a j) = _; rw [if_pos hb]
      rw [q0]
      exact xInN_0 (by omega)
    · rw [(hK a hb).1, (hK a hb).2.1]
      exact xInN_mono (k0.2.2.2.2.2 a j) (by omega)
  · have a1 : a < ((M.2.2.2.1 + 1 : Nat) : Int) := a1
    by_cases hb : a = (M.2.2.2.1 : Int)
    · rw [hb, hC] at ha
      rw [hb, hC]
      show ArrOfT s (if (M.2.2.2.1 : Int) = (M.2.2.2.1 : Int) then cA else _) _ ∧ va_RA s (if (M.2.2.2.1 : Int) = (M.2.2.2.1 : Int) then cA else _) _
      rw [if_pos rfl]
      exact hkn ha
    · rw [(hK a hb).2.1] at ha ⊢
      rw [(xGn_ne hb).2]
      exact k4 a a0 (by omega) ha
  · rw [(xGn_ne (by omega)).1]; exact k5.1
  · rw [(xGn_ne (by omega)).1]; exact k5.2.1.1 j hj
  · have z := k5.2.2.1
    rw [(xGn_ne (by omega)).1]; exact k5.2.1.2 b hb
  · have z := k5.2.2.1
    show J.2.2.2.2.2.2.2 ≤ ((M.2.2.2.1 + 1 : Nat) : Int)
    omega
  · rw [(hK (-1) (by omega)).2.1] at ha
    rw [(hK (-1) (by omega)).2.2, (hK (-1) (by omega)).1]
    exact k5.2.2.2 ha
theorem xc_ext {ad ad' : Int → Nat} {n : Nat} (h : ∀ b : Int, b < (n : Int) → ad' b = ad b) {v : xV} (hv : xVk n v) : xc ad' v = xc ad v := by
  obtain ⟨t, x⟩ := v
  obtain ⟨q1, q2⟩ := hv
  match t, q1, q2 with
  | 0, _, _ => rfl
  | 1, _, _ => rfl
  | 2, _, q2 =>
    show va_rf (xRv ad' x) = va_rf (xRv ad x)
    rw [xRv_ext h q2]
theorem xMap_ext {ad ad' : Int → Nat} {n : Nat} (h : ∀ b : Int, b < (n : Int) → ad' b = ad b) {st : List xV} (hv : ∀ v ∈ st, xVk n v) : st.map (xc ad') = st.map (xc ad) := List.map_congr_left fun v hm => xc_ext h (hv v hm)
theorem xVk_mono {n n' : Nat} {v : xV} (h : xVk n v) (hn : n ≤ n') : xVk n' v := ⟨h.1, xInN_mono h.2 hn⟩
theorem xFr_grow {nL : Nat} {G G' : xG} {M M' : xH} {L st : List xV} {ls : Array Slot} (h : xFr nL G M L st ls) (hn : M.2.2.2.1 ≤ M'.2.2.2.1) (hG : ∀ b : Int, b < (M.2.2.2.1 : Int) → G'.1 b = G.1 b) : xFr nL G' M' L st ls := by
  obtain ⟨f1, f2, f3, f4⟩ := h
  refine ⟨xL_sub f1 (fun q hq => ?_), f2, fun v hv => ?_, fun v hv => xVk_mono (f4 v hv) hn⟩
  · obtain ⟨v, hv, h9, he⟩ := xLv_of hq
    have hk := ((f3 v (List.mem_of_getElem? hv)).resolve_left h9).1
    rw [xc_ext hG hk] at he
    have q3 := xLv_mem (ad := G.1) hv h9
    rw [← he] at q3
    exact q3
  · rcases f3 v hv with h9 | h9
    · exact Or.inl h9
    · exact Or.inr ⟨xVk_mono h9.1 hn, h9.2⟩
