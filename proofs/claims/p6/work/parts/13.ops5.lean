theorem AC_boolean : Cond.arrayClass .boolean ∈ tables_1 := List.mem_of_getElem? (i := 388) (by decide +kernel)
theorem AC_byte : Cond.arrayClass .byte ∈ tables_1 := List.mem_of_getElem? (i := 68) (by decide +kernel)
theorem AC_int : Cond.arrayClass .int ∈ tables_1 := List.mem_of_getElem? (i := 69) (by decide +kernel)
theorem AC_long : Cond.arrayClass .long ∈ tables_1 := List.mem_of_getElem? (i := 630) (by decide +kernel)
theorem xIns_all : ∀ c : Nat, c < 13 → Cond.instantiable (xCl c).1 (xCl c).2.2 ∈ tables_1 := x13 xIns_0 xIns_1 xIns_2 xIns_3 xIns_4 xIns_5 xIns_6 xIns_7 xIns_8 xIns_9 xIns_10 xIns_11 xIns_12
theorem xIni_all : ∀ c : Nat, c < 13 → Cond.initialized (xCl c).1 ∈ tables_1 := x13 xIni_0 xIni_1 xIni_2 xIni_3 xIni_4 xIni_5 xIni_6 xIni_7 xIni_8 xIni_9 xIni_10 xIni_11 xIni_12
theorem xCont_ext' (ad ad' : Int → Nat) (κ : Int) : xCont ad' κ (fun _ => 0) = xCont ad κ (fun _ => 0) := by
  unfold xCont
  split
  · rfl
  · split
    · rfl
    · rfl
theorem xCont_0 (ad ad' : Int → Nat) {κ : Int} : xCont ad' κ (fun _ => 0) = xCont ad κ (fun _ => 0) := xCont_ext' ad ad' κ
theorem xCb {κ : Int} {x : Int} (h1 : 20 ≤ κ) (h2 : κ ≤ 23) (h3 : 0 ≤ x) (h4 : x ≤ 1000000) : x.toNat * componentBytes (xAt κ) ≤ 536870912 := by
  have h5 : κ = 20 ∨ κ = 21 ∨ κ = 22 ∨ κ = 23 := by omega
  have h6 : componentBytes (xAt κ) ≤ 8 := by rcases h5 with rfl | rfl | rfl | rfl <;> decide
  calc x.toNat * componentBytes (xAt κ) ≤ x.toNat * 8 := Nat.mul_le_mul_left _ h6
    _ ≤ 536870912 := by omega
theorem xCont_def (ad : Int → Nat) {κ : Int} (h1 : 20 ≤ κ) (h2 : κ ≤ 23) (cA : ClassId) (n : Nat) : vp_cell cA (n, xCont ad κ (fun _ => 0)) = arrV cA n (fun _ => defaultValue (xAt κ)) := by
  have h5 : κ = 20 ∨ κ = 21 ∨ κ = 22 ∨ κ = 23 := by omega
  rcases h5 with rfl | rfl | rfl | rfl <;> rfl
theorem xEl_rng {κ : Nat} (h1 : 25 ≤ κ) (h2 : κ ≤ 28) : (xEl (κ : Int)).toNat < 13 ∧ ((xEl (κ : Int)).toNat = 2 ∨ (xEl (κ : Int)).toNat = 4 ∨ (xEl (κ : Int)).toNat = 5 ∨ (xEl (κ : Int)).toNat = 10) ∧ xAt (κ : Int) = .object (xCl (xEl (κ : Int)).toNat).1 := by
  have h5 : κ = 25 ∨ κ = 26 ∨ κ = 27 ∨ κ = 28 := by omega
  rcases h5 with rfl | rfl | rfl | rfl
  · exact ⟨by decide, Or.inr (Or.inl rfl), rfl⟩
  · exact ⟨by decide, Or.inl rfl, rfl⟩
  · exact ⟨by decide, Or.inr (Or.inr (Or.inr rfl)), rfl⟩
  · exact ⟨by decide, Or.inr (Or.inr (Or.inl rfl)), rfl⟩
theorem xPut_val {ad : Int → Nat} {nx c k t : Nat} {x : Int} {p : Prop} (hc : c < 13) (hk : k < (xCl c).2.2) (h : xPt (xFT c k) t x p) (hv : xVk nx (t, x)) : p ∧ xInN nx (xFT c k) x ∧ xc ad (t, x) = xc ad (xTg (xFT c k), x) ∧ narrow (xTyF c k) (xc ad (t, x)) = xc ad (t, x) ∧ fits (xTyF c k) (xc ad (t, x)) = true := by
  rcases xFt_code hc hk with ⟨e1, e2⟩ | ⟨e1, e2⟩ | ⟨e1, e2⟩ | ⟨e1, e2⟩
  · rw [e2] at h ⊢
    rw [e1]
    match t, h, hv with
    | 0, h, hv => exact ⟨h, hv.2, rfl, rfl, rfl⟩
    | t + 1, h, _ => exact absurd h (by simp [xPt])
  · rw [e2] at h ⊢
    rw [e1]
    match t, h, hv with
    | 0, h, hv =>
      obtain ⟨h1, h2⟩ := h
      exact ⟨h1, h2, rfl, by rcases h2 with rfl | rfl <;> rfl, by rcases h2 with rfl | rfl <;> rfl⟩
    | t + 1, h, _ => exact absurd h (by simp [xPt])
  · rw [e2] at h ⊢
    rw [e1]
    match t, h, hv with
    | 0, h, _ => exact absurd h (by simp [xPt])
    | 1, h, hv => exact ⟨h, hv.2, rfl, rfl, rfl⟩
    | t + 2, h, _ => exact absurd h (by simp [xPt])
  · rw [e2] at h ⊢
    match t, h, hv with
    | 0, h, _ => exact absurd h (by simp [xPt])
    | 1, h, _ => exact absurd h (by simp [xPt])
    | 2, h, hv =>
      refine ⟨h, hv.2, rfl, ?_, ?_⟩
      · rcases e1 with ⟨n, e1⟩ | ⟨n, e1⟩ <;> rw [e1] <;> rfl
      · by_cases hx : x = 0
        · subst hx
          rcases e1 with ⟨n, e1⟩ | ⟨n, e1⟩ <;> rw [e1] <;> rfl
        · rw [xc_ref hx]
          rcases e1 with ⟨n, e1⟩ | ⟨n, e1⟩ <;> rw [e1] <;> rfl
    | t + 3, h, _ => exact absurd h (by simp [xPt])
theorem xFsUp {ad : Int → Nat} {c k : Nat} {D : xD} {a x : Int} {v : Value} (hk : k < (xCl c).2.2) (hv : v = xc ad (xTg (xFT c k), x)) : (xFs ad c (D a)).set k v = xFs ad c (xUp D a (k : Int) x a) := by
  refine xFs_set hk ?_ (fun i hi => ?_)
  · rw [hv]
    show xc ad (_, x) = xc ad (_, if a = a ∧ (k : Int) = (k : Int) then x else D a (k : Int))
    rw [if_pos ⟨rfl, rfl⟩]
  · show (if a = a ∧ i = (k : Int) then x else D a i) = D a i
    rw [if_neg (fun q => hi q.2)]
theorem xAk_ok {t : ArrayType} (h : 0 ≤ xAk t) : 20 ≤ xAk t ∧ xAk t ≤ 23 ∧ xAt (xAk t) = newarray.typeOf t ∧ Cond.arrayClass (newarray.typeOf t) ∈ xGw := by
  cases t
  · exact ⟨by decide, by decide, rfl, xGw_of AC_boolean rfl⟩
  · exact absurd h (by decide)
  · exact absurd h (by decide)
  · exact absurd h (by decide)
  · exact ⟨by decide, by decide, rfl, xGw_of AC_byte rfl⟩
  · exact absurd h (by decide)
  · exact ⟨by decide, by decide, rfl, xGw_of AC_int rfl⟩
  · exact ⟨by decide, by decide, rfl, xGw_of AC_long rfl⟩
section XOPF
variable {p : Program} {l : Launch} {e : Env} {R : Room} {s : State} {m : MethodId} {args : Array Value} {below : List Frame} {meth : Method} {c : Code}
variable {J : xJT} {A : Nat → Prop} {Z : State → Prop} {nL c0 s0 own d pc : Nat} {cc : ByteArray} {ps : List Nat} {L r : List xV} {M : xH}
theorem o_getf (C : xCtx p R s m args c own cc nL d J A) {i ci k : Nat} (hf : (own, i, ci, k) ∈ xFl ∨ (own, i, ci, k) ∈ xFn) (hd : decode cc (ps.getD pc 0) = .ok (.getfield i, 3)) (hn : ps.getD (pc + 1) 0 = ps.getD pc 0 + 3) {a : Int} (hk : M.2.1 a = (ci : Int)) (h : xRd (p, l, e, R, s, m, args, below, meth, c) J A Z nL c0 s0 ps (pc + 1, L, (xTg (xFT ci k), M.1 a (k : Int)) :: r, M)) : xRd (p, l, e, R, s, m, args, below, meth, c) J A Z nL c0 s0 ps (pc, L, (2, a) :: r, M) := by
  intro G H locs ls hR hF h1 h2
  replace hR : xRel J s A s.heap G M H locs := hR
  obtain ⟨hc, hkk⟩ := xFd_rng hf
  have hT := C.2.2.2.2.2.1
  obtain ⟨a0, a1⟩ := xOk_obj hR.1 hk hc
  have k9 := h G H locs ls hR ⟨hF.1, hF.2.1, hF.2.2.1, fun v hv => ?_⟩ h1 h2
  · have k9 : W p l e R s m args below meth c H locs (M.2.2.2.1 - c0) (M.2.2.2.2 - s0) Z (F0 m (ps.getD (pc + 1) 0) ls (xc G.1 (xTg (xFT ci k), M.1 a (k : Int)) :: r.map (xc G.1))) := k9
    rw [hn] at k9
    have hE : (xWs G M)[(a - 1).toNat]? = some (G.1 a, .inr (ci, xFs G.1 ci (M.1 a))) := by
      rw [xWs_get a0 a1, xE_obj hk hc]
    show W p l e R s m args below meth c H locs (M.2.2.2.1 - c0) (M.2.2.2.2 - s0) Z (F0 m (ps.getD pc 0) ls (xc G.1 (2, a) :: r.map (xc G.1)))
    rw [xc_ref (show a ≠ 0 by omega)]
    rcases hf with hf | hf
    · exact va_get C.1 C.2.1 C.2.2.2.2.1 (xCl_gw hc) C.2.2.2.1 hT.1 hR.2.1 (a - 1).toNat hE (xCl_get ci hc) k hkk (C.2.2.2.2.1 _ (xGw_of (xFl_ok _ hf) rfl)) (fun _ q => q) (xFs_get hkk) hd k9
    · exact va_getN C.1 C.2.1 C.2.2.2.2.1 (xCl_gw hc) C.2.2.2.1 hT.1 hR.2.1 (a - 1).toNat hE (xCl_get ci hc) k hkk (va_Nw.use rfl (hT.2.1 _ hf)) (fun _ q => q) (xFs_get hkk) hd k9
  · have hv : v ∈ ((xTg (xFT ci k), M.1 a (k : Int)) :: r : List xV) := hv
    rcases List.mem_cons.mp hv with rfl | hv
    · exact ⟨xTg_le hc hkk, xTg_in hc hkk (xOk_fld hR.1 hk hc)⟩
    · exact hF.2.2.2 v (by simp [hv])
theorem o_putf (C : xCtx p R s m args c own cc nL d J A) {i ci k : Nat} (hf : (own, i, ci, k) ∈ xFl ∨ (own, i, ci, k) ∈ xFn) (hfin : (xF ci k).2.2.2 = false ∨ ((own, i, ci, k) ∈ xFl ∧ own = ci ∧ meth.name = "<init>")) (hd : decode cc (ps.getD pc 0) = .ok (.putfield i, 3)) (hn : ps.getD (pc + 1) 0 = ps.getD pc 0 + 3) {a x : Int} {t : Nat} (hp : xPt (xFT ci k) t x (M.2.1 a = (ci : Int))) (h : xRd (p, l, e, R, s, m, args, below, meth, c) J A Z nL c0 s0 ps (pc + 1, L, r, (xUp M.1 a (k : Int) x, M.2))) : xRd (p, l, e, R, s, m, args, below, meth, c) J A Z nL c0 s0 ps (pc, L, (t, x) :: (2, a) :: r, M) := by
  intro G H locs ls hR hF h1 h2
  replace hR : xRel J s A s.heap G M H locs := hR
  obtain ⟨hc, hkk⟩ := xFd_rng hf
  have hT := C.2.2.2.2.2.1
  obtain ⟨hk, hvi, hv1, hv2, hv3⟩ := xPut_val (ad := G.1) (nx := M.2.2.2.1) hc hkk hp (hF.2.2.2 (t, x) (by simp))
  obtain ⟨a0, a1⟩ := xOk_obj hR.1 hk hc
  have hE : (xWs G M)[(a - 1).toNat]? = some (G.1 a, .inr (ci, xFs G.1 ci (M.1 a))) := by
    rw [xWs_get a0 a1, xE_obj hk hc]
  have kk : ∀ (H1 : Heap) (locs1 : List Loc), va_P J.1 vwCl ((xWs G M).set (a - 1).toNat (G.1 a, .inr (ci, (xFs G.1 ci (M.1 a)).set k (xc G.1 (t, x))))) H1 → va_D A ((xWs G M).set (a - 1).toNat (G.1 a, .inr (ci, (xFs G.1 ci (M.1 a)).set k (xc G.1 (t, x))))) → va_S A s.heap H1 locs1 → W p l e R s m args below meth c H1 locs1 (M.2.2.2.1 - c0) (M.2.2.2.2 - s0) Z (F0 m (ps.getD pc 0 + 3) ls (r.map (xc G.1))) := by
    intro H1 locs1 hP hD hS
    have hR2 := xRel_set (D' := xUp M.1 a (k : Int) x) hR a0 (fun b hb => xUp_ne _ hb) (xUp_v (hR.1.2.2.2.2.2 a) (t := xFT ci k) (by rw [hk, xTy_cl (by omega) (by omega)]; rfl) hvi) (by
      rw [xE_obj (c := ci) (by show M.2.1 a = _; exact hk) hc, xFsUp hkk hv1]) hP hD hS
    have k9 := h G H1 locs1 ls hR2 ⟨hF.1, hF.2.1, hF.2.2.1, fun v hv => hF.2.2.2 v (by simp [show v ∈ r from hv])⟩ h1 h2
    have k9 : W p l e R s m args below meth c H1 locs1 (M.2.2.2.1 - c0) (M.2.2.2.2 - s0) Z (F0 m (ps.getD (pc + 1) 0) ls (r.map (xc G.1))) := k9
    rw [hn] at k9
    exact k9
  show W p l e R s m args below meth c H locs (M.2.2.2.1 - c0) (M.2.2.2.2 - s0) Z (F0 m (ps.getD pc 0) ls (xc G.1 (t, x) :: xc G.1 (2, a) :: r.map (xc G.1)))
  rw [xc_ref (show a ≠ 0 by omega)]
  have hl : k < (xFs G.1 ci (M.1 a)).length := by rw [xFs_len]; exact hkk
  rcases hfin with hfin | ⟨hf2, ho, hi⟩
  · rcases hf with hf | hf
    · exact va_put C.1 C.2.1 C.2.2.2.2.1 (xCl_gw hc) (xTyF ci) (xTys_ok hc) (xCl_nm ci hc) C.2.2.2.1 hT.1 hR.2.1 hR.2.2.1 hR.2.2.2.1 (a - 1).toNat hE (xCl_get ci hc) k hkk (C.2.2.2.2.1 _ (xGw_of (xFl_ok _ hf) rfl)) (fun _ q => q) hfin (xFt_parse hc hkk) hv2 hv3 hl hd kk
    · exact va_putN C.1 C.2.1 C.2.2.2.2.1 (xCl_gw hc) (xTyF ci) (xTys_ok hc) (xCl_nm ci hc) C.2.2.2.1 hT.1 hR.2.1 hR.2.2.1 hR.2.2.2.1 (a - 1).toNat hE (xCl_get ci hc) k hkk (va_Nw.use rfl (hT.2.1 _ hf)) (fun _ q => q) hfin (xFt_parse hc hkk) hv2 hv3 hl hd kk
  · by_cases hfin : (xF ci k).2.2.2 = false
    · exact va_put C.1 C.2.1 C.2.2.2.2.1 (xCl_gw hc) (xTyF ci) (xTys_ok hc) (xCl_nm ci hc) C.2.2.2.1 hT.1 hR.2.1 hR.2.2.1 hR.2.2.2.1 (a - 1).toNat hE (xCl_get ci hc) k hkk (C.2.2.2.2.1 _ (xGw_of (xFl_ok _ hf2) rfl)) (fun _ q => q) hfin (xFt_parse hc hkk) hv2 hv3 hl hd kk
    · have hft : (xF ci k).2.2.2 = true := by
        cases q : (xF ci k).2.2.2
        · exact absurd q hfin
        · rfl
      exact va_putF C.1 C.2.1 C.2.2.2.2.1 (xCl_gw hc) (xTyF ci) (xTys_ok hc) (xCl_nm ci hc) C.2.2.2.1 hT.1 hR.2.1 hR.2.2.1 hR.2.2.2.1 (a - 1).toNat hE (xCl_get ci hc) k hkk (C.2.2.2.2.1 _ (xGw_of (xFl_ok _ hf2) rfl)) (fun _ q => q) hft hi ((xFt_own hc hkk).trans (by rw [ho, xo_cl ci hc])) (xFt_parse hc hkk) hv2 hv3 hl hd kk
theorem o_new (C : xCtx p R s m args c own cc nL d J A) {i ci : Nat} (hc : ci < 13) (hw : (own, i, ci) ∈ xKc) (hd : decode cc (ps.getD pc 0) = .ok (.new i, 3)) (hn : ps.getD (pc + 1) 0 = ps.getD pc 0 + 3) (hl1 : M.2.2.2.1 + 1 ≤ c0 + R.cells) (hl2 : M.2.2.2.2 + ((xCl ci).2.2) ≤ s0 + R.slots) (h : xRd (p, l, e, R, s, m, args, below, meth, c) J A Z nL c0 s0 ps (pc + 1, L, (2, (M.2.2.2.1 : Int)) :: r, xNw M ((ci : Int)) (0) ((xCl ci).2.2))) : xRd (p, l, e, R, s, m, args, below, meth, c) J A Z nL c0 s0 ps (pc, L, r, M) := by
  intro G H locs ls hR hF h1 h2
  replace hR : xRel J s A s.heap G M H locs := hR
  have h1 : c0 ≤ M.2.2.2.1 := h1
  have h2 : s0 ≤ M.2.2.2.2 := h2
  have hT := C.2.2.2.2.2.1
  have hr : ∀ v ∈ r, xVk M.2.2.2.1 v := fun v hv => hF.2.2.2 v (hv)
  have kk : ∀ (q : Nat) (cA : ClassId) (H1 : Heap) (locs1 : List Loc), xRel J s A s.heap (xGn G (M.2.2.2.1 : Int) q cA) (xNw M ((ci : Int)) (0) ((xCl ci).2.2)) H1 locs1 → W p l e R s m args below meth c H1 locs1 (M.2.2.2.1 - c0 + 1) (M.2.2.2.2 - s0 + ((xCl ci).2.2)) Z (F0 m (ps.getD pc 0 + 3) ls (.ref q :: r.map (xc G.1))) := by
    intro q cA H1 locs1 hR2
    have hG : ∀ b : Int, b < (M.2.2.2.1 : Int) → (xGn G (M.2.2.2.1 : Int) q cA).1 b = G.1 b := fun b hb => (xGn_ne (by omega)).1
    have hF2 : xFr nL (xGn G (M.2.2.2.1 : Int) q cA) (xNw M ((ci : Int)) (0) ((xCl ci).2.2)) L ((2, (M.2.2.2.1 : Int)) :: r) ls := by
      have g := xFr_grow (G' := xGn G (M.2.2.2.1 : Int) q cA) (M' := xNw M ((ci : Int)) (0) ((xCl ci).2.2)) (st := r) ⟨hF.1, hF.2.1, hF.2.2.1, hr⟩ (by show M.2.2.2.1 ≤ M.2.2.2.1 + 1; omega) hG
      refine ⟨g.1, g.2.1, g.2.2.1, fun v hv => ?_⟩
      rcases List.mem_cons.mp hv with rfl | hv
      · exact ⟨Nat.le_of_ble_eq_true rfl, by show (M.2.2.2.1 : Int) < ((M.2.2.2.1 + 1 : Nat) : Int); omega⟩
      · exact g.2.2.2 v hv
    have k9 := h _ H1 locs1 ls hR2 hF2 (by show c0 ≤ M.2.2.2.1 + 1; omega) (by show s0 ≤ M.2.2.2.2 + ((xCl ci).2.2); omega)
    have k9 : W p l e R s m args below meth c H1 locs1 (M.2.2.2.1 + 1 - c0) (M.2.2.2.2 + ((xCl ci).2.2) - s0) Z (F0 m (ps.getD (pc + 1) 0) ls (xc (xGn G (M.2.2.2.1 : Int) q cA).1 (2, (M.2.2.2.1 : Int)) :: r.map (xc (xGn G (M.2.2.2.1 : Int) q cA).1))) := k9
    rw [hn, xMap_ext hG hr, xc_ref (show (M.2.2.2.1 : Int) ≠ 0 by have := hR.1.1; omega)] at k9
    have e1 : M.2.2.2.1 + 1 - c0 = M.2.2.2.1 - c0 + 1 := by omega
    have e2 : M.2.2.2.2 + ((xCl ci).2.2) - s0 = M.2.2.2.2 - s0 + ((xCl ci).2.2) := by omega
    have e3 : (xGn G (M.2.2.2.1 : Int) q cA).1 (M.2.2.2.1 : Int) = q := if_pos rfl
    rw [e1, e2, e3] at k9
    exact k9
  show W p l e R s m args below meth c H locs (M.2.2.2.1 - c0) (M.2.2.2.2 - s0) Z (F0 m (ps.getD pc 0) ls (r.map (xc G.1)))
  have hok := hR.1
  refine va_new (fs := xFs G.1 ci (fun _ => 0)) C.1 C.2.1 C.2.2.2.2.1 (xCl_gw hc) (xTyF ci) (xTys_ok hc) C.2.2.2.1 (C.2.2.2.2.1 _ (xGw_of (xKc_ok _ hw) rfl)) (C.2.2.2.2.1 _ (xGw_of (xIns_all ci hc) rfl)) (C.2.2.2.2.1 _ (xGw_of (xIni_all ci hc) rfl)) hT.1 hR.2.1 hR.2.2.1 hR.2.2.2.1 C.2.2.2.2.2.2.2.1 (xCl_get ci hc) (xFs_def hc) (by omega) (by omega) hd (fun q H1 hP hD hS => kk q 0 H1 locs (xRel_push hR (Or.inl ⟨by omega, by omega⟩) ⟨by omega, by omega⟩ (fun z => by omega) ?_ hP hD hS))
  rw [xE_obj (c := ci) (by show (if (M.2.2.2.1 : Int) = (M.2.2.2.1 : Int) then (ci : Int) else _) = _; rw [if_pos rfl]) hc]
  have e9 : (xNw M (ci : Int) 0 ((xCl ci).2.2)).1 (M.2.2.2.1 : Int) = fun _ => 0 := funext fun j => if_pos rfl
  rw [e9, xFs_ext (n := 1) hc (ad := G.1) (ad' := (xGn G (M.2.2.2.1 : Int) q 0).1) (fun b hb => (xGn_ne (by have := hok.1; omega)).1) (fun _ _ _ => by decide)]
theorem o_newarray (C : xCtx p R s m args c own cc nL d J A) {t : ArrayType} {x : Int} (hk : 0 ≤ xAk t) (hx0 : 0 ≤ x) (hx1 : x ≤ 1000000) (hd : decode cc (ps.getD pc 0) = .ok (.newarray t, 2)) (hn : ps.getD (pc + 1) 0 = ps.getD pc 0 + 2) (hl1 : M.2.2.2.1 + 1 ≤ c0 + R.cells) (hl2 : M.2.2.2.2 + (x.toNat) ≤ s0 + R.slots) (h : xRd (p, l, e, R, s, m, args, below, meth, c) J A Z nL c0 s0 ps (pc + 1, L, (2, (M.2.2.2.1 : Int)) :: r, xNw M (xAk t) (x) (x.toNat))) : xRd (p, l, e, R, s, m, args, below, meth, c) J A Z nL c0 s0 ps (pc, L, (0, x) :: r, M) := by
  intro G H locs ls hR hF h1 h2
  replace hR : xRel J s A s.heap G M H locs := hR
  have h1 : c0 ≤ M.2.2.2.1 := h1
  have h2 : s0 ≤ M.2.2.2.2 := h2
  have hT := C.2.2.2.2.2.1
  have hr : ∀ v ∈ r, xVk M.2.2.2.1 v := fun v hv => hF.2.2.2 v (by simp [hv])
  have kk : ∀ (q : Nat) (cA : ClassId) (H1 : Heap) (locs1 : List Loc), xRel J s A s.heap (xGn G (M.2.2.2.1 : Int) q cA) (xNw M (xAk t) (x) (x.toNat)) H1 locs1 → W p l e R s m args below meth c H1 locs1 (M.2.2.2.1 - c0 + 1) (M.2.2.2.2 - s0 + (x.toNat)) Z (F0 m (ps.getD pc 0 + 2) ls (.ref q :: r.map (xc G.1))) := by
    intro q cA H1 locs1 hR2
    have hG : ∀ b : Int, b < (M.2.2.2.1 : Int) → (xGn G (M.2.2.2.1 : Int) q cA).1 b = G.1 b := fun b hb => (xGn_ne (by omega)).1
    have hF2 : xFr nL (xGn G (M.2.2.2.1 : Int) q cA) (xNw M (xAk t) (x) (x.toNat)) L ((2, (M.2.2.2.1 : Int)) :: r) ls := by
      have g := xFr_grow (G' := xGn G (M.2.2.2.1 : Int) q cA) (M' := xNw M (xAk t) (x) (x.toNat)) (st := r) ⟨hF.1, hF.2.1, hF.2.2.1, hr⟩ (by show M.2.2.2.1 ≤ M.2.2.2.1 + 1; omega) hG
      refine ⟨g.1, g.2.1, g.2.2.1, fun v hv => ?_⟩
      rcases List.mem_cons.mp hv with rfl | hv
      · exact ⟨Nat.le_of_ble_eq_true rfl, by show (M.2.2.2.1 : Int) < ((M.2.2.2.1 + 1 : Nat) : Int); omega⟩
      · exact g.2.2.2 v hv
    have k9 := h _ H1 locs1 ls hR2 hF2 (by show c0 ≤ M.2.2.2.1 + 1; omega) (by show s0 ≤ M.2.2.2.2 + (x.toNat); omega)
    have k9 : W p l e R s m args below meth c H1 locs1 (M.2.2.2.1 + 1 - c0) (M.2.2.2.2 + (x.toNat) - s0) Z (F0 m (ps.getD (pc + 1) 0) ls (xc (xGn G (M.2.2.2.1 : Int) q cA).1 (2, (M.2.2.2.1 : Int)) :: r.map (xc (xGn G (M.2.2.2.1 : Int) q cA).1))) := k9
    rw [hn, xMap_ext hG hr, xc_ref (show (M.2.2.2.1 : Int) ≠ 0 by have := hR.1.1; omega)] at k9
    have e1 : M.2.2.2.1 + 1 - c0 = M.2.2.2.1 - c0 + 1 := by omega
    have e2 : M.2.2.2.2 + (x.toNat) - s0 = M.2.2.2.2 - s0 + (x.toNat) := by omega
    have e3 : (xGn G (M.2.2.2.1 : Int) q cA).1 (M.2.2.2.1 : Int) = q := if_pos rfl
    rw [e1, e2, e3] at k9
    exact k9
  show W p l e R s m args below meth c H locs (M.2.2.2.1 - c0) (M.2.2.2.2 - s0) Z (F0 m (ps.getD pc 0) ls (.int (Int32.ofInt x) :: r.map (xc G.1)))
  have ix : xIn 0 x := (hF.2.2.2 (0, x) (by simp)).2
  obtain ⟨b1, b2, b3, b4⟩ := xAk_ok hk
  refine va_newa (ty := xAt (xAk t)) (a0 := (x.toNat, xCont G.1 (xAk t) (fun _ => 0))) C.1 C.2.1 (C.2.2.2.2.1 _ b4) b3.symm hT.1 hR.2.1 hR.2.2.1 hR.2.2.2.1 C.2.2.2.2.2.2.2.1 (fun cA => xCont_def G.1 (by omega) (by omega) cA x.toNat) (fun z => by have := (xi_lt0 ix).mp z; omega) (xi_cl ix) (xCb (by omega) (by omega) hx0 hx1) (by omega) (by omega) hd (fun q cA H1 hK hP hD hS => kk q cA H1 locs (xRel_push hR (Or.inr ⟨by omega, by omega⟩) ⟨hx0, by omega⟩ (fun _ => hK.2 0 _ rfl) ?_ hP hD hS))
  have e1 : (xNw M (xAk t) x x.toNat).2.1 (M.2.2.2.1 : Int) = xAk t := if_pos rfl
  have e2 : (xNw M (xAk t) x x.toNat).2.2.1 (M.2.2.2.1 : Int) = x := if_pos rfl
  have e3 : (xGn G (M.2.2.2.1 : Int) q cA).2 (M.2.2.2.1 : Int) = cA := if_pos rfl
  have e9 : (xNw M (xAk t) x x.toNat).1 (M.2.2.2.1 : Int) = fun _ => 0 := funext fun j => if_pos rfl
  rw [xE_arr (by rw [e1]; omega), e1, e2, e3, e9, xCont_0 G.1 (xGn G (M.2.2.2.1 : Int) q cA).1]
theorem o_anewarray (C : xCtx p R s m args c own cc nL d J A) {i κ : Nat} {x : Int} (hκ1 : 25 ≤ κ) (hκ2 : κ ≤ 28) (hw : (own, i, (xEl (κ : Int)).toNat) ∈ xKc) (hx0 : 0 ≤ x) (hx1 : x ≤ 1000000) (hd : decode cc (ps.getD pc 0) = .ok (.anewarray i, 3)) (hn : ps.getD (pc + 1) 0 = ps.getD pc 0 + 3) (hl1 : M.2.2.2.1 + 1 ≤ c0 + R.cells) (hl2 : M.2.2.2.2 + (x.toNat) ≤ s0 + R.slots) (h : xRd (p, l, e, R, s, m, args, below, meth, c) J A Z nL c0 s0 ps (pc + 1, L, (2, (M.2.2.2.1 : Int)) :: r, xNw M ((κ : Int)) (x) (x.toNat))) : xRd (p, l, e, R, s, m, args, below, meth, c) J A Z nL c0 s0 ps (pc, L, (0, x) :: r, M) := by
  intro G H locs ls hR hF h1 h2
  replace hR : xRel J s A s.heap G M H locs := hR
  have h1 : c0 ≤ M.2.2.2.1 := h1
  have h2 : s0 ≤ M.2.2.2.2 := h2
  have hT := C.2.2.2.2.2.1
  have hr : ∀ v ∈ r, xVk M.2.2.2.1 v := fun v hv => hF.2.2.2 v (by simp [hv])
  have kk : ∀ (q : Nat) (cA : ClassId) (H1 : Heap) (locs1 : List Loc), xRel J s A s.heap (xGn G (M.2.2.2.1 : Int) q cA) (xNw M ((κ : Int)) (x) (x.toNat)) H1 locs1 → W p l e R s m args below meth c H1 locs1 (M.2.2.2.1 - c0 + 1) (M.2.2.2.2 - s0 + (x.toNat)) Z (F0 m (ps.getD pc 0 + 3) ls (.ref q :: r.map (xc G.1))) := by
    intro q cA H1 locs1 hR2
    have hG : ∀ b : Int, b < (M.2.2.2.1 : Int) → (xGn G (M.2.2.2.1 : Int) q cA).1 b = G.1 b := fun b hb => (xGn_ne (by omega)).1
    have hF2 : xFr nL (xGn G (M.2.2.2.1 : Int) q cA) (xNw M ((κ : Int)) (x) (x.toNat)) L ((2, (M.2.2.2.1 : Int)) :: r) ls := by
      have g := xFr_grow (G' := xGn G (M.2.2.2.1 : Int) q cA) (M' := xNw M ((κ : Int)) (x) (x.toNat)) (st := r) ⟨hF.1, hF.2.1, hF.2.2.1, hr⟩ (by show M.2.2.2.1 ≤ M.2.2.2.1 + 1; omega) hG
      refine ⟨g.1, g.2.1, g.2.2.1, fun v hv => ?_⟩
      rcases List.mem_cons.mp hv with rfl | hv
      · exact ⟨Nat.le_of_ble_eq_true rfl, by show (M.2.2.2.1 : Int) < ((M.2.2.2.1 + 1 : Nat) : Int); omega⟩
      · exact g.2.2.2 v hv
    have k9 := h _ H1 locs1 ls hR2 hF2 (by show c0 ≤ M.2.2.2.1 + 1; omega) (by show s0 ≤ M.2.2.2.2 + (x.toNat); omega)
    have k9 : W p l e R s m args below meth c H1 locs1 (M.2.2.2.1 + 1 - c0) (M.2.2.2.2 + (x.toNat) - s0) Z (F0 m (ps.getD (pc + 1) 0) ls (xc (xGn G (M.2.2.2.1 : Int) q cA).1 (2, (M.2.2.2.1 : Int)) :: r.map (xc (xGn G (M.2.2.2.1 : Int) q cA).1))) := k9
    rw [hn, xMap_ext hG hr, xc_ref (show (M.2.2.2.1 : Int) ≠ 0 by have := hR.1.1; omega)] at k9
    have e1 : M.2.2.2.1 + 1 - c0 = M.2.2.2.1 - c0 + 1 := by omega
    have e2 : M.2.2.2.2 + (x.toNat) - s0 = M.2.2.2.2 - s0 + (x.toNat) := by omega
    have e3 : (xGn G (M.2.2.2.1 : Int) q cA).1 (M.2.2.2.1 : Int) = q := if_pos rfl
    rw [e1, e2, e3] at k9
    exact k9
  show W p l e R s m args below meth c H locs (M.2.2.2.1 - c0) (M.2.2.2.2 - s0) Z (F0 m (ps.getD pc 0) ls (.int (Int32.ofInt x) :: r.map (xc G.1)))
  have ix : xIn 0 x := (hF.2.2.2 (0, x) (by simp)).2
  obtain ⟨b1, b2, b3⟩ := xEl_rng hκ1 hκ2
  refine va_newq (N' := x.toNat) C.1 C.2.1 C.2.2.2.1 (C.2.2.2.2.1 _ (xGw_of (xKc_ok _ hw) rfl)) (hT.2.2.2.2.1 _ b2) hT.1 hR.2.1 hR.2.2.1 hR.2.2.2.1 C.2.2.2.2.2.2.2.1 (fun z => by have := (xi_lt0 ix).mp z; omega) (xi_cl ix) (by omega) (by omega) (by omega) hd (fun q cA H1 hK hP hD hS => kk q cA H1 locs (xRel_push hR (Or.inr ⟨by omega, by omega⟩) ⟨hx0, by omega⟩ (fun _ => by have z := hK.2 0 _ rfl; rw [b3]; exact z) ?_ hP hD hS))
  have e1 : (xNw M (κ : Int) x x.toNat).2.1 (M.2.2.2.1 : Int) = (κ : Int) := if_pos rfl
  have e2 : (xNw M (κ : Int) x x.toNat).2.2.1 (M.2.2.2.1 : Int) = x := if_pos rfl
  have e3 : (xGn G (M.2.2.2.1 : Int) q cA).2 (M.2.2.2.1 : Int) = cA := if_pos rfl
  have e9 : (xNw M (κ : Int) x x.toNat).1 (M.2.2.2.1 : Int) = fun _ => 0 := funext fun j => if_pos rfl
  rw [xE_arr (by rw [e1]; omega), e1, e2, e3, e9, xCt_r _ (by omega)]
  rfl
end XOPF
