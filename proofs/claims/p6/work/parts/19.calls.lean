section XCALS
variable {p : Program} {l : Launch} {e : Env} {R : Room} {s : State} {m : MethodId} {args : Array Value} {below : List Frame} {meth : Method} {c : Code}
variable {J : xJT} {A : Nat → Prop} {Z : State → Prop} {nL c0 s0 own d pc : Nat} {cc : ByteArray} {ps : List Nat} {L r : List xV} {M : xH}
theorem xW_init {j : Nat} (hj : j < 336) : Cond.initialized (xM j).1.cls ∈ xGw := xGw_of (xM_init _ (List.mem_filter.mpr ⟨xMnc hj, rfl⟩)) rfl
theorem xW_stat {j : Nat} (hj : j < 336) (h : (xM j).2.2.2.2.1 = true) : Cond.static (xM j).1 ∈ xGw := xGw_of (xM_stat _ (List.mem_filter.mpr ⟨xMnc hj, h⟩)) rfl
theorem xW_inst {j : Nat} (hj : j < 336) (h : (xM j).2.2.2.2.1 = false) : Cond.instanceMethod (xM j).1 ∈ xGw := xGw_of (xM_inst _ (List.mem_filter.mpr ⟨xMnc hj, by rw [h]; rfl⟩)) rfl
theorem xW_code {j : Nat} (hj : j < 336) : Cond.code (xM j).1 (xM j).2.1 (xM j).2.2.1 (xM j).2.2.2.1 ∈ xGw := xGw_of (xM_code _ (xMnc hj)) rfl
theorem xW_sel {j : Nat} (h : j ∈ xVpub ∨ j ∈ xVpri) : Cond.selects (xM j).1.cls (xM j).1 (xM j).1 ∈ xGw := List.mem_filter.mpr ⟨h.elim (xV_pub j) (xV_pri j), rfl⟩
theorem xFr_drop {G : xG} {ls : Array Slot} {as : List xV} {st : List xV} (h : xFr nL G M L (as ++ st) ls) : xFr nL G M L st ls := ⟨h.1, h.2.1, h.2.2.1, fun w hw => h.2.2.2 w (List.mem_append_right _ hw)⟩
theorem o_cS (C : xCtx p R s m args c own cc nL (d + 1) J A) (hS : xSnd l (d + 1)) {i j : Nat} (hd : decode cc (ps.getD pc 0) = .ok (.invokestatic i, 3)) (hn : ps.getD (pc + 1) 0 = ps.getD pc 0 + 3) (hj : j < 336) (hl : (own, i, j) ∈ xMl) {as : List xV} {a r1 : Int} {M1 : xH} (hst : (xM j).2.2.2.2.1 = true) (has : as.length = (xM j).2.2.2.2.2) (hnz : ∀ v ∈ as, v.1 = 2 → v.2 ≠ 0) (hr8 : xCat r ≤ 8) (hcall : xCall (d + 1) j as M (fun r H => r = r1 ∧ H = M1)) (hle : xLe M M1) (hcl : M1.2.2.2.1 ≤ c0 + R.cells) (hsl : M1.2.2.2.2 ≤ s0 + R.slots) (k : xRd (p, l, e, R, s, m, args, below, meth, c) J A Z nL c0 s0 ps (pc + 1, L, xPush (xRc (xM j).2.2.2.1) r1 r, M1)) : xRd (p, l, e, R, s, m, args, below, meth, c) J A Z nL c0 s0 ps (pc, L, as.reverse ++ r, M) := by
  intro G H locs ls hR hF h1 h2
  replace hR : xRel J s A s.heap G M H locs := hR
  replace h1 : c0 ≤ M.2.2.2.1 := h1
  replace h2 : s0 ≤ M.2.2.2.2 := h2
  have hFa : xFr nL G M L (as.reverse ++ r) ls := hF
  have hF2 : xFr nL G M L r ls := xFr_drop hFa
  have hT := C.2.2.2.2.2.1
  have hA := C.2.2.2.2.2.2.2.1
  have hva : ∀ v ∈ as, xVk M.2.2.2.1 v ∧ (v.1 = 2 → v.2 ≠ 0) := fun v hv => ⟨hFa.2.2.2 v (List.mem_append_left _ (List.mem_reverse.mpr hv)), hnz v hv⟩
  have hM := hS j as M M1 r1 hj hcall J G H.size hR.1 hR.2.2.2.2.2 hva
  have hCB := xCallB (rm1 := M1.2.2.2.1 - M.2.2.2.1) (rm2 := M1.2.2.2.2 - M.2.2.2.2) C hj
  have hco := C.2.2.2.2.1 _ (xW_code hj)
  have hini := C.2.2.2.2.1 _ (xW_init hj)
  have hcs : (M.2.2.2.1 - c0) + (M1.2.2.2.1 - M.2.2.2.1) ≤ R.cells ∧ (M.2.2.2.2 - s0) + (M1.2.2.2.2 - M.2.2.2.2) ≤ R.slots := by have := hle.1; have := hle.2; omega
  have hstk : (as.reverse ++ r).map (xc G.1) = (as.map (xc G.1)).reverse ++ r.map (xc G.1) := by
    rw [List.map_append, List.map_reverse]
  show W p l e R s m args below meth c H locs (M.2.2.2.1 - c0) (M.2.2.2.2 - s0) Z (F0 m (ps.getD pc 0) ls ((as.reverse ++ r).map (xc G.1)))
  rw [hstk]
  exact x_after C (xRc_4 _) hR hF2 h1 h2 hle (va_runS (n := as.length) (As := as.map (xc G.1)) (rest := r.map (xc G.1)) ⟨C.1, C.2.1, C.2.2.1, C.2.2.2.1, C.2.2.2.2.1⟩ hM ⟨⟨hCB.1, hCB.2.1, hCB.2.2.1, hCB.2.2.2.1, hCB.2.2.2.2.1, hCB.2.2.2.2.2, hco, hini, (xMp hj).2.1, (xParm hj (by rw [if_pos hst]; exact has.symm)), C.2.2.2.2.1 _ (xGw_of (xMl_ok _ hl) rfl)⟩, C.2.2.2.2.1 _ (xW_stat hj hst)⟩ ⟨xPre_blind, fun U hU hW => ⟨rfl, xPre_of hT C.2.2.2.2.2.2.1 hA hR hU hW⟩⟩ rfl (List.length_map _) hF.1.1 rfl (xRoom8 hF2 hr8) hd hcs) hn k
theorem o_cSn (C : xCtx p R s m args c own cc nL (d + 1) J A) (hS : xSnd l (d + 1)) {i j : Nat} (hd : decode cc (ps.getD pc 0) = .ok (.invokestatic i, 3)) (hn : ps.getD (pc + 1) 0 = ps.getD pc 0 + 3) (hj : j < 336) (hl : (own, i, j) ∈ xMn) {as : List xV} {a r1 : Int} {M1 : xH} (hst : (xM j).2.2.2.2.1 = true) (has : as.length = (xM j).2.2.2.2.2) (hnz : ∀ v ∈ as, v.1 = 2 → v.2 ≠ 0) (hr8 : xCat r ≤ 8) (hcall : xCall (d + 1) j as M (fun r H => r = r1 ∧ H = M1)) (hle : xLe M M1) (hcl : M1.2.2.2.1 ≤ c0 + R.cells) (hsl : M1.2.2.2.2 ≤ s0 + R.slots) (k : xRd (p, l, e, R, s, m, args, below, meth, c) J A Z nL c0 s0 ps (pc + 1, L, xPush (xRc (xM j).2.2.2.1) r1 r, M1)) : xRd (p, l, e, R, s, m, args, below, meth, c) J A Z nL c0 s0 ps (pc, L, as.reverse ++ r, M) := by
  intro G H locs ls hR hF h1 h2
  replace hR : xRel J s A s.heap G M H locs := hR
  replace h1 : c0 ≤ M.2.2.2.1 := h1
  replace h2 : s0 ≤ M.2.2.2.2 := h2
  have hFa : xFr nL G M L (as.reverse ++ r) ls := hF
  have hF2 : xFr nL G M L r ls := xFr_drop hFa
  have hT := C.2.2.2.2.2.1
  have hA := C.2.2.2.2.2.2.2.1
  have hva : ∀ v ∈ as, xVk M.2.2.2.1 v ∧ (v.1 = 2 → v.2 ≠ 0) := fun v hv => ⟨hFa.2.2.2 v (List.mem_append_left _ (List.mem_reverse.mpr hv)), hnz v hv⟩
  have hM := hS j as M M1 r1 hj hcall J G H.size hR.1 hR.2.2.2.2.2 hva
  have hCB := xCallB (rm1 := M1.2.2.2.1 - M.2.2.2.1) (rm2 := M1.2.2.2.2 - M.2.2.2.2) C hj
  have hco := C.2.2.2.2.1 _ (xW_code hj)
  have hini := C.2.2.2.2.1 _ (xW_init hj)
  have hcs : (M.2.2.2.1 - c0) + (M1.2.2.2.1 - M.2.2.2.1) ≤ R.cells ∧ (M.2.2.2.2 - s0) + (M1.2.2.2.2 - M.2.2.2.2) ≤ R.slots := by have := hle.1; have := hle.2; omega
  have hstk : (as.reverse ++ r).map (xc G.1) = (as.map (xc G.1)).reverse ++ r.map (xc G.1) := by
    rw [List.map_append, List.map_reverse]
  show W p l e R s m args below meth c H locs (M.2.2.2.1 - c0) (M.2.2.2.2 - s0) Z (F0 m (ps.getD pc 0) ls ((as.reverse ++ r).map (xc G.1)))
  rw [hstk]
  exact x_after C (xRc_4 _) hR hF2 h1 h2 hle (va_runSN (n := as.length) (As := as.map (xc G.1)) (rest := r.map (xc G.1)) ⟨C.1, C.2.1, C.2.2.1, C.2.2.2.1, C.2.2.2.2.1⟩ hM ⟨⟨hCB, hco, hini, (xMp hj).2.1, (xParm hj (by rw [if_pos hst]; exact has.symm)), va_Nw.use rfl (hT.2.2.1 _ hl)⟩, C.2.2.2.2.1 _ (xW_stat hj hst), trivial⟩ ⟨xPre_blind, fun U hU hW => ⟨rfl, xPre_of hT C.2.2.2.2.2.2.1 hA hR hU hW⟩⟩ rfl (List.length_map _) hF.1.1 rfl (xRoom8 hF2 hr8) hd hcs) hn k
theorem o_cV (C : xCtx p R s m args c own cc nL (d + 1) J A) (hS : xSnd l (d + 1)) {i j : Nat} (hd : decode cc (ps.getD pc 0) = .ok (.invokevirtual i, 3)) (hn : ps.getD (pc + 1) 0 = ps.getD pc 0 + 3) (hj : j < 336) (hl : (own, i, j) ∈ xMl) {as : List xV} {a r1 : Int} {M1 : xH} (hst : (xM j).2.2.2.2.1 = false) (has : as.length + 1 = (xM j).2.2.2.2.2) (ha0 : 0 < a) (hnz : ∀ v ∈ as, v.1 = 2 → v.2 ≠ 0) {ci : Nat} (hci : ci < 13) (hcc : (xCl ci).1 = (xM j).1.cls) (hka : M.2.1 a = (ci : Int)) (hv : j ∈ xVpub ∨ j ∈ xVpri) (hr8 : xCat r ≤ 8) (hcall : xCall (d + 1) j ((2, a) :: as) M (fun r H => r = r1 ∧ H = M1)) (hle : xLe M M1) (hcl : M1.2.2.2.1 ≤ c0 + R.cells) (hsl : M1.2.2.2.2 ≤ s0 + R.slots) (k : xRd (p, l, e, R, s, m, args, below, meth, c) J A Z nL c0 s0 ps (pc + 1, L, xPush (xRc (xM j).2.2.2.1) r1 r, M1)) : xRd (p, l, e, R, s, m, args, below, meth, c) J A Z nL c0 s0 ps (pc, L, as.reverse ++ (2, a) :: r, M) := by
  intro G H locs ls hR hF h1 h2
  replace hR : xRel J s A s.heap G M H locs := hR
  replace h1 : c0 ≤ M.2.2.2.1 := h1
  replace h2 : s0 ≤ M.2.2.2.2 := h2
  have hFa : xFr nL G M L (as.reverse ++ (2, a) :: r) ls := hF
  have hF2 : xFr nL G M L r ls := xFr_tail (xFr_drop hFa)
  have hT := C.2.2.2.2.2.1
  have hA := C.2.2.2.2.2.2.2.1
  have hva : ∀ v ∈ ((2, a) :: as : List xV), xVk M.2.2.2.1 v ∧ (v.1 = 2 → v.2 ≠ 0) := fun v hv => by
    rcases List.mem_cons.mp hv with rfl | hv
    · exact ⟨hFa.2.2.2 _ (List.mem_append_right _ List.mem_cons_self), fun _ => by show a ≠ 0; omega⟩
    · exact ⟨hFa.2.2.2 v (List.mem_append_left _ (List.mem_reverse.mpr hv)), hnz v hv⟩
  have hM := hS j ((2, a) :: as) M M1 r1 hj hcall J G H.size hR.1 hR.2.2.2.2.2 hva
  have hCB := xCallB (rm1 := M1.2.2.2.1 - M.2.2.2.1) (rm2 := M1.2.2.2.2 - M.2.2.2.2) C hj
  have hco := C.2.2.2.2.1 _ (xW_code hj)
  have hini := C.2.2.2.2.1 _ (xW_init hj)
  have hcs : (M.2.2.2.1 - c0) + (M1.2.2.2.1 - M.2.2.2.1) ≤ R.cells ∧ (M.2.2.2.2 - s0) + (M1.2.2.2.2 - M.2.2.2.2) ≤ R.slots := by have := hle.1; have := hle.2; omega
  have hE : (xWs G M)[(a - 1).toNat]? = some (G.1 a, .inr (ci, xFs G.1 ci (M.1 a))) := by
    rw [xWs_get (xOk_obj hR.1 hka hci).1 (xOk_obj hR.1 hka hci).2, xE_obj hka hci]
  have hargs : ((2, a) :: as : List xV).map (xc G.1) = Value.ref (G.1 a) :: as.map (xc G.1) := by
    rw [List.map_cons, xc_ref (show a ≠ 0 by omega)]
  rw [hargs] at hM
  have hstk : (as.reverse ++ (2, a) :: r).map (xc G.1) = (as.map (xc G.1)).reverse ++ Value.ref (G.1 a) :: r.map (xc G.1) := by
    rw [List.map_append, List.map_cons, List.map_reverse, xc_ref (show a ≠ 0 by omega)]
  show W p l e R s m args below meth c H locs (M.2.2.2.1 - c0) (M.2.2.2.2 - s0) Z (F0 m (ps.getD pc 0) ls ((as.reverse ++ (2, a) :: r).map (xc G.1)))
  rw [hstk]
  exact x_after C (xRc_4 _) hR hF2 h1 h2 hle (va_runV (C := (xCl ci).1) (n := as.length) (As := as.map (xc G.1)) (rest := r.map (xc G.1)) ⟨C.1, C.2.1, C.2.2.1, C.2.2.2.1, C.2.2.2.2.1⟩ hM ⟨⟨hCB.1, hCB.2.1, hCB.2.2.1, hCB.2.2.2.1, hCB.2.2.2.2.1, hCB.2.2.2.2.2, hco, hini, (xMp hj).2.1, (xParm hj (by rw [if_neg (by rw [hst]; decide)]; omega)), C.2.2.2.2.1 _ (xGw_of (xMl_ok _ hl) rfl)⟩, C.2.2.2.2.1 _ (xW_inst hj hst), by rw [hcc]; exact C.2.2.2.2.1 _ (xW_sel hv)⟩ ⟨xPre_blind, va_recv hT.1 hR.2.1 (xCl_get ci hci) hE, fun U hU hW => ⟨rfl, xPre_of hT C.2.2.2.2.2.2.1 hA hR hU hW⟩⟩ rfl (List.length_map _) hF.1.1 rfl (xRoom8 hF2 hr8) hd hcs) hn k
theorem o_cVn (C : xCtx p R s m args c own cc nL (d + 1) J A) (hS : xSnd l (d + 1)) {i j : Nat} (hd : decode cc (ps.getD pc 0) = .ok (.invokevirtual i, 3)) (hn : ps.getD (pc + 1) 0 = ps.getD pc 0 + 3) (hj : j < 336) (hl : (own, i, j) ∈ xMn) {as : List xV} {a r1 : Int} {M1 : xH} (hst : (xM j).2.2.2.2.1 = false) (has : as.length + 1 = (xM j).2.2.2.2.2) (ha0 : 0 < a) (hnz : ∀ v ∈ as, v.1 = 2 → v.2 ≠ 0) {ci : Nat} (hci : ci < 13) (hcc : (xCl ci).1 = (xM j).1.cls) (hka : M.2.1 a = (ci : Int)) (hv : j ∈ xVpub ∨ j ∈ xVpri) (hr8 : xCat r ≤ 8) (hcall : xCall (d + 1) j ((2, a) :: as) M (fun r H => r = r1 ∧ H = M1)) (hle : xLe M M1) (hcl : M1.2.2.2.1 ≤ c0 + R.cells) (hsl : M1.2.2.2.2 ≤ s0 + R.slots) (k : xRd (p, l, e, R, s, m, args, below, meth, c) J A Z nL c0 s0 ps (pc + 1, L, xPush (xRc (xM j).2.2.2.1) r1 r, M1)) : xRd (p, l, e, R, s, m, args, below, meth, c) J A Z nL c0 s0 ps (pc, L, as.reverse ++ (2, a) :: r, M) := by
  intro G H locs ls hR hF h1 h2
  replace hR : xRel J s A s.heap G M H locs := hR
  replace h1 : c0 ≤ M.2.2.2.1 := h1
  replace h2 : s0 ≤ M.2.2.2.2 := h2
  have hFa : xFr nL G M L (as.reverse ++ (2, a) :: r) ls := hF
  have hF2 : xFr nL G M L r ls := xFr_tail (xFr_drop hFa)
  have hT := C.2.2.2.2.2.1
  have hA := C.2.2.2.2.2.2.2.1
  have hva : ∀ v ∈ ((2, a) :: as : List xV), xVk M.2.2.2.1 v ∧ (v.1 = 2 → v.2 ≠ 0) := fun v hv => by
    rcases List.mem_cons.mp hv with rfl | hv
    · exact ⟨hFa.2.2.2 _ (List.mem_append_right _ List.mem_cons_self), fun _ => by show a ≠ 0; omega⟩
    · exact ⟨hFa.2.2.2 v (List.mem_append_left _ (List.mem_reverse.mpr hv)), hnz v hv⟩
  have hM := hS j ((2, a) :: as) M M1 r1 hj hcall J G H.size hR.1 hR.2.2.2.2.2 hva
  have hCB := xCallB (rm1 := M1.2.2.2.1 - M.2.2.2.1) (rm2 := M1.2.2.2.2 - M.2.2.2.2) C hj
  have hco := C.2.2.2.2.1 _ (xW_code hj)
  have hini := C.2.2.2.2.1 _ (xW_init hj)
  have hcs : (M.2.2.2.1 - c0) + (M1.2.2.2.1 - M.2.2.2.1) ≤ R.cells ∧ (M.2.2.2.2 - s0) + (M1.2.2.2.2 - M.2.2.2.2) ≤ R.slots := by have := hle.1; have := hle.2; omega
  have hE : (xWs G M)[(a - 1).toNat]? = some (G.1 a, .inr (ci, xFs G.1 ci (M.1 a))) := by
    rw [xWs_get (xOk_obj hR.1 hka hci).1 (xOk_obj hR.1 hka hci).2, xE_obj hka hci]
  have hargs : ((2, a) :: as : List xV).map (xc G.1) = Value.ref (G.1 a) :: as.map (xc G.1) := by
    rw [List.map_cons, xc_ref (show a ≠ 0 by omega)]
  rw [hargs] at hM
  have hstk : (as.reverse ++ (2, a) :: r).map (xc G.1) = (as.map (xc G.1)).reverse ++ Value.ref (G.1 a) :: r.map (xc G.1) := by
    rw [List.map_append, List.map_cons, List.map_reverse, xc_ref (show a ≠ 0 by omega)]
  show W p l e R s m args below meth c H locs (M.2.2.2.1 - c0) (M.2.2.2.2 - s0) Z (F0 m (ps.getD pc 0) ls ((as.reverse ++ (2, a) :: r).map (xc G.1)))
  rw [hstk]
  exact x_after C (xRc_4 _) hR hF2 h1 h2 hle (va_runVN (C := (xCl ci).1) (n := as.length) (As := as.map (xc G.1)) (rest := r.map (xc G.1)) ⟨C.1, C.2.1, C.2.2.1, C.2.2.2.1, C.2.2.2.2.1⟩ hM ⟨⟨hCB, hco, hini, (xMp hj).2.1, (xParm hj (by rw [if_neg (by rw [hst]; decide)]; omega)), va_Nw.use rfl (hT.2.2.1 _ hl)⟩, C.2.2.2.2.1 _ (xW_inst hj hst), by rw [hcc]; exact C.2.2.2.2.1 _ (xW_sel hv)⟩ ⟨xPre_blind, va_recv hT.1 hR.2.1 (xCl_get ci hci) hE, fun U hU hW => ⟨rfl, xPre_of hT C.2.2.2.2.2.2.1 hA hR hU hW⟩⟩ rfl (List.length_map _) hF.1.1 rfl (xRoom8 hF2 hr8) hd hcs) hn k
theorem o_cI (C : xCtx p R s m args c own cc nL (d + 1) J A) (hS : xSnd l (d + 1)) {i j : Nat} (hd : decode cc (ps.getD pc 0) = .ok (.invokespecial i, 3)) (hn : ps.getD (pc + 1) 0 = ps.getD pc 0 + 3) (hj : j < 336) (hl : (own, i, j) ∈ xMl) {as : List xV} {a r1 : Int} {M1 : xH} (hst : (xM j).2.2.2.2.1 = false) (has : as.length + 1 = (xM j).2.2.2.2.2) (ha0 : 0 < a) (hnz : ∀ v ∈ as, v.1 = 2 → v.2 ≠ 0) (hni : (xM j).1.name = "<init>") (hret : (xM j).2.2.2.1 = none) (hr8 : xCat r ≤ 8) (hcall : xCall (d + 1) j ((2, a) :: as) M (fun r H => r = r1 ∧ H = M1)) (hle : xLe M M1) (hcl : M1.2.2.2.1 ≤ c0 + R.cells) (hsl : M1.2.2.2.2 ≤ s0 + R.slots) (k : xRd (p, l, e, R, s, m, args, below, meth, c) J A Z nL c0 s0 ps (pc + 1, L, xPush (xRc (xM j).2.2.2.1) r1 r, M1)) : xRd (p, l, e, R, s, m, args, below, meth, c) J A Z nL c0 s0 ps (pc, L, as.reverse ++ (2, a) :: r, M) := by
  intro G H locs ls hR hF h1 h2
  replace hR : xRel J s A s.heap G M H locs := hR
  replace h1 : c0 ≤ M.2.2.2.1 := h1
  replace h2 : s0 ≤ M.2.2.2.2 := h2
  have hFa : xFr nL G M L (as.reverse ++ (2, a) :: r) ls := hF
  have hF2 : xFr nL G M L r ls := xFr_tail (xFr_drop hFa)
  have hT := C.2.2.2.2.2.1
  have hA := C.2.2.2.2.2.2.2.1
  have hva : ∀ v ∈ ((2, a) :: as : List xV), xVk M.2.2.2.1 v ∧ (v.1 = 2 → v.2 ≠ 0) := fun v hv => by
    rcases List.mem_cons.mp hv with rfl | hv
    · exact ⟨hFa.2.2.2 _ (List.mem_append_right _ List.mem_cons_self), fun _ => by show a ≠ 0; omega⟩
    · exact ⟨hFa.2.2.2 v (List.mem_append_left _ (List.mem_reverse.mpr hv)), hnz v hv⟩
  have hM := hS j ((2, a) :: as) M M1 r1 hj hcall J G H.size hR.1 hR.2.2.2.2.2 hva
  have hCB := xCallB (rm1 := M1.2.2.2.1 - M.2.2.2.1) (rm2 := M1.2.2.2.2 - M.2.2.2.2) C hj
  have hco := C.2.2.2.2.1 _ (xW_code hj)
  rw [hret] at hCB hco
  have hini := C.2.2.2.2.1 _ (xW_init hj)
  have hcs : (M.2.2.2.1 - c0) + (M1.2.2.2.1 - M.2.2.2.1) ≤ R.cells ∧ (M.2.2.2.2 - s0) + (M1.2.2.2.2 - M.2.2.2.2) ≤ R.slots := by have := hle.1; have := hle.2; omega
  have hargs : ((2, a) :: as : List xV).map (xc G.1) = Value.ref (G.1 a) :: as.map (xc G.1) := by
    rw [List.map_cons, xc_ref (show a ≠ 0 by omega)]
  rw [hargs] at hM
  have hstk : (as.reverse ++ (2, a) :: r).map (xc G.1) = (as.map (xc G.1)).reverse ++ Value.ref (G.1 a) :: r.map (xc G.1) := by
    rw [List.map_append, List.map_cons, List.map_reverse, xc_ref (show a ≠ 0 by omega)]
  show W p l e R s m args below meth c H locs (M.2.2.2.1 - c0) (M.2.2.2.2 - s0) Z (F0 m (ps.getD pc 0) ls ((as.reverse ++ (2, a) :: r).map (xc G.1)))
  rw [hstk]
  exact x_after C (xRc_4 _) hR hF2 h1 h2 hle (va_runI (n := as.length) (As := as.map (xc G.1)) (rest := r.map (xc G.1)) ⟨C.1, C.2.1, C.2.2.1, C.2.2.2.1, C.2.2.2.2.1⟩ hM ⟨⟨hCB.1, hCB.2.1, hCB.2.2.1, hCB.2.2.2.1, hCB.2.2.2.2.1, hCB.2.2.2.2.2, hco, hini, (xMp hj).2.1, (xParm hj (by rw [if_neg (by rw [hst]; decide)]; omega)), C.2.2.2.2.1 _ (xGw_of (xMl_ok _ hl) rfl)⟩, hni, C.2.2.2.2.1 _ (xW_inst hj hst)⟩ ⟨xPre_blind, fun U hU hW => ⟨rfl, xPre_of hT C.2.2.2.2.2.2.1 hA hR hU hW⟩⟩ rfl (List.length_map _) hF.1.1 rfl (xRoom8 hF2 hr8) hd hcs) hn k
theorem o_cIn (C : xCtx p R s m args c own cc nL (d + 1) J A) (hS : xSnd l (d + 1)) {i j : Nat} (hd : decode cc (ps.getD pc 0) = .ok (.invokespecial i, 3)) (hn : ps.getD (pc + 1) 0 = ps.getD pc 0 + 3) (hj : j < 336) (hl : (own, i, j) ∈ xMn) {as : List xV} {a r1 : Int} {M1 : xH} (hst : (xM j).2.2.2.2.1 = false) (has : as.length + 1 = (xM j).2.2.2.2.2) (ha0 : 0 < a) (hnz : ∀ v ∈ as, v.1 = 2 → v.2 ≠ 0) (hni : (xM j).1.name = "<init>") (hret : (xM j).2.2.2.1 = none) (hr8 : xCat r ≤ 8) (hcall : xCall (d + 1) j ((2, a) :: as) M (fun r H => r = r1 ∧ H = M1)) (hle : xLe M M1) (hcl : M1.2.2.2.1 ≤ c0 + R.cells) (hsl : M1.2.2.2.2 ≤ s0 + R.slots) (k : xRd (p, l, e, R, s, m, args, below, meth, c) J A Z nL c0 s0 ps (pc + 1, L, xPush (xRc (xM j).2.2.2.1) r1 r, M1)) : xRd (p, l, e, R, s, m, args, below, meth, c) J A Z nL c0 s0 ps (pc, L, as.reverse ++ (2, a) :: r, M) := by
  intro G H locs ls hR hF h1 h2
  replace hR : xRel J s A s.heap G M H locs := hR
  replace h1 : c0 ≤ M.2.2.2.1 := h1
  replace h2 : s0 ≤ M.2.2.2.2 := h2
  have hFa : xFr nL G M L (as.reverse ++ (2, a) :: r) ls := hF
  have hF2 : xFr nL G M L r ls := xFr_tail (xFr_drop hFa)
  have hT := C.2.2.2.2.2.1
  have hA := C.2.2.2.2.2.2.2.1
  have hva : ∀ v ∈ ((2, a) :: as : List xV), xVk M.2.2.2.1 v ∧ (v.1 = 2 → v.2 ≠ 0) := fun v hv => by
    rcases List.mem_cons.mp hv with rfl | hv
    · exact ⟨hFa.2.2.2 _ (List.mem_append_right _ List.mem_cons_self), fun _ => by show a ≠ 0; omega⟩
    · exact ⟨hFa.2.2.2 v (List.mem_append_left _ (List.mem_reverse.mpr hv)), hnz v hv⟩
  have hM := hS j ((2, a) :: as) M M1 r1 hj hcall J G H.size hR.1 hR.2.2.2.2.2 hva
  have hCB := xCallB (rm1 := M1.2.2.2.1 - M.2.2.2.1) (rm2 := M1.2.2.2.2 - M.2.2.2.2) C hj
  have hco := C.2.2.2.2.1 _ (xW_code hj)
  rw [hret] at hCB hco
  have hini := C.2.2.2.2.1 _ (xW_init hj)
  have hcs : (M.2.2.2.1 - c0) + (M1.2.2.2.1 - M.2.2.2.1) ≤ R.cells ∧ (M.2.2.2.2 - s0) + (M1.2.2.2.2 - M.2.2.2.2) ≤ R.slots := by have := hle.1; have := hle.2; omega
  have hargs : ((2, a) :: as : List xV).map (xc G.1) = Value.ref (G.1 a) :: as.map (xc G.1) := by
    rw [List.map_cons, xc_ref (show a ≠ 0 by omega)]
  rw [hargs] at hM
  have hstk : (as.reverse ++ (2, a) :: r).map (xc G.1) = (as.map (xc G.1)).reverse ++ Value.ref (G.1 a) :: r.map (xc G.1) := by
    rw [List.map_append, List.map_cons, List.map_reverse, xc_ref (show a ≠ 0 by omega)]
  show W p l e R s m args below meth c H locs (M.2.2.2.1 - c0) (M.2.2.2.2 - s0) Z (F0 m (ps.getD pc 0) ls ((as.reverse ++ (2, a) :: r).map (xc G.1)))
  rw [hstk]
  exact x_after C (xRc_4 _) hR hF2 h1 h2 hle (va_runIN (n := as.length) (As := as.map (xc G.1)) (rest := r.map (xc G.1)) ⟨C.1, C.2.1, C.2.2.1, C.2.2.2.1, C.2.2.2.2.1⟩ hM ⟨⟨hCB, hco, hini, (xMp hj).2.1, (xParm hj (by rw [if_neg (by rw [hst]; decide)]; omega)), va_Nw.use rfl (hT.2.2.1 _ hl)⟩, hni, C.2.2.2.2.1 _ (xW_inst hj hst)⟩ ⟨xPre_blind, fun U hU hW => ⟨rfl, xPre_of hT C.2.2.2.2.2.2.1 hA hR hU hW⟩⟩ rfl (List.length_map _) hF.1.1 rfl (xRoom8 hF2 hr8) hd hcs) hn k
end XCALS
