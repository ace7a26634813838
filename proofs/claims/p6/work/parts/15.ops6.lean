set_option maxRecDepth 100000 in
theorem bw_oi1 : Cond.instanceMethod Lib.objectInit ∈ xGw := xGw_of (List.mem_of_getElem? (i := 28) (by decide +kernel)) rfl
set_option maxRecDepth 100000 in
theorem bw_oi2 : Cond.code Lib.objectInit ⟨#[0xb1]⟩ 1 none ∈ xGw := xGw_of (List.mem_of_getElem? (i := 29) rfl) rfl
set_option maxRecDepth 100000 in
theorem bw_max1 : Cond.static Lib.Math.max.name ∈ xGw := xGw_of (List.mem_of_getElem? (i := 550) (by decide +kernel)) rfl
set_option maxRecDepth 100000 in
theorem bw_max2 : Cond.code Lib.Math.max.name Lib.Math.max.code 2 (some .int) ∈ xGw := xGw_of (List.mem_of_getElem? (i := 551) rfl) rfl
set_option maxRecDepth 100000 in
theorem bw_min1 : Cond.static Lib.Math.min.name ∈ xGw := xGw_of (List.mem_of_getElem? (i := 573) (by decide +kernel)) rfl
set_option maxRecDepth 100000 in
theorem bw_min2 : Cond.code Lib.Math.min.name Lib.Math.min.code 2 (some .int) ∈ xGw := xGw_of (List.mem_of_getElem? (i := 574) rfl) rfl
set_option maxRecDepth 100000 in
theorem bw_math : Cond.initialized "java/lang/Math" ∈ xGw := xGw_of (List.mem_of_getElem? (i := 13) (by decide +kernel)) rfl
set_option maxRecDepth 100000 in
theorem bw_ac1 : Cond.native arraycopyName ∈ xGw := xGw_of (List.mem_of_getElem? (i := 1530) (by decide +kernel)) rfl
set_option maxRecDepth 100000 in
theorem bw_ac2 : Cond.static arraycopyName ∈ xGw := xGw_of (List.mem_of_getElem? (i := 1529) (by decide +kernel)) rfl
set_option maxRecDepth 100000 in
theorem bw_ac3 : Cond.initialized "java/lang/System" ∈ xGw := xGw_of (List.mem_of_getElem? (i := 21) (by decide +kernel)) rfl
theorem xSum_cat {ad : Int → Nat} : ∀ {r : List xV}, (∀ v ∈ r, v.1 ≤ 2) → ((r.map (xc ad)).map fun v => v.category).sum = xCat r
  | [], _ => rfl
  | (t, x) :: r, h => by
    have ih := xSum_cat (ad := ad) (r := r) (fun v hv => h v (List.mem_cons_of_mem _ hv))
    have ht : t ≤ 2 := h (t, x) List.mem_cons_self
    have hc := xc_cat ad (t, x) ht
    simp only [List.map_cons, List.sum_cons, hc, ih]
    match t, ht with
    | 0, _ => rfl
    | 1, _ => rfl
    | 2, _ => rfl
theorem x_ldcwS {p : Program} {l : Launch} {e : Env} {R : Room} {s : State} {m : MethodId} {args : Array Value} {below : List Frame} {meth : Method} {c : Code} {H : Heap} {locs : List Loc} {cells slots : Nat} {Q : State → Prop} {cc : ByteArray} {pc : Nat} {ls : Array Slot} {rest : List Value} (hexec : p.tables.exec = Jvm.exec) (hb : c.code = cc) {own tx : String} {index q : Nat} (hown : s.vm.findClass own = some m.cls) (hZ : vk_R own index tx q s) (hdg : decode cc pc = .ok (.ldc_w index, 3))
    (k : W p l e R s m args below meth c H locs cells slots Q (F0 m (pc + 3) ls (.ref q :: rest))) : W p l e R s m args below meth c H locs cells slots Q (F0 m pc ls rest) := by
  intro T hT X
  obtain ⟨t, a1, b1⟩ := k T hT X
  refine ⟨t, ?_, b1⟩
  obtain ⟨hz1, hz2⟩ := hZ
  obtain ⟨k0, cf, i, a', hk, hcf, hcp, -, hr, hev'⟩ := Cond.stringRef_spec hown hz1
  cases hz2.symm.trans hev'
  obtain ⟨k', hk', he⟩ := X.warmed.alike.2.2 _ _ hk
  have hr' : k'.resolved[index]? = some (some (.string q)) := by
    rcases X.warmed.entry hk hk' index with h | ⟨h, -⟩
    · rw [h]; exact hr
    · rw [hr] at h; cases h
  have hdg' : decode c.code pc = .ok (.ldc_w index, 3) := by rw [hb]; exact hdg
  jvm_step X.here [hexec, hdg', ldc_w.wp_string (e := e) (s := T) (f := F0 m pc ls rest) X.here.top hk' (by rw [he]; exact hcf) hcp hr']
  exact a1
theorem xKs_rng : xKs.all (fun e => Nat.blt e.2.2 27) = true := by decide +kernel
theorem xKs_lt {own i j : Nat} (h : (own, i, j) ∈ xKs) : j < 27 := by
  have q := List.all_eq_true.mp xKs_rng _ h
  simpa using q
theorem xRoom {d : Nat} {R : Room} {n k : Nat} (hd : 0 < d) (h : 41 * d ≤ R.locals) (hn : n ≤ 8) (hk : k ≤ 33) : n + k ≤ R.locals := by omega
section XOPB
variable {p : Program} {l : Launch} {e : Env} {R : Room} {s : State} {m : MethodId} {args : Array Value} {below : List Frame} {meth : Method} {c : Code}
variable {J : xJT} {A : Nat → Prop} {Z : State → Prop} {nL c0 s0 own d pc : Nat} {cc : ByteArray} {ps : List Nat} {L r : List xV} {M : xH}
theorem o_ldcS (C : xCtx p R s m args c own cc nL d J A) {i j : Nat} (hw : (own, i, j) ∈ xKs) (hd : decode cc (ps.getD pc 0) = .ok (.ldc i, 2)) (hn : ps.getD (pc + 1) 0 = ps.getD pc 0 + 2) (h : xRd (p, l, e, R, s, m, args, below, meth, c) J A Z nL c0 s0 ps (pc + 1, L, (2, -2 - (j : Int)) :: r, M)) : xRd (p, l, e, R, s, m, args, below, meth, c) J A Z nL c0 s0 ps (pc, L, r, M) := by
  intro G H locs ls hR hF h1 h2
  replace hR : xRel J s A s.heap G M H locs := hR
  have hT := C.2.2.2.2.2.1
  have hj := xKs_lt hw
  have k := h G H locs ls hR ⟨hF.1, hF.2.1, hF.2.2.1, fun v hv => ?_⟩ h1 h2
  · have k : W p l e R s m args below meth c H locs (M.2.2.2.1 - c0) (M.2.2.2.2 - s0) Z (F0 m (ps.getD (pc + 1) 0) ls (xc G.1 (2, -2 - (j : Int)) :: r.map (xc G.1))) := k
    rw [hn, xc_ref (show -2 - (j : Int) ≠ 0 by omega), hR.2.2.2.2.2.2.1.1 j hj] at k
    have hz : vk_R (xo own) i (xStr.getD j "") (J.2.1 j) s := hT.2.2.2.1 (own, i, j) hw
    generalize xStr.getD j "" = tx at hz
    exact va_ldcS C.1 C.2.1 C.2.2.2.1 hz hd k
  · have hv : v ∈ ((2, -2 - (j : Int)) :: r : List xV) := hv
    rcases List.mem_cons.mp hv with rfl | hv
    · exact ⟨Nat.le_of_ble_eq_true rfl, by have z := hR.1.1; show -2 - (j : Int) < (M.2.2.2.1 : Int); omega⟩
    · exact hF.2.2.2 v hv
theorem o_ldcwS (C : xCtx p R s m args c own cc nL d J A) {i j : Nat} (hw : (own, i, j) ∈ xKs) (hd : decode cc (ps.getD pc 0) = .ok (.ldc_w i, 3)) (hn : ps.getD (pc + 1) 0 = ps.getD pc 0 + 3) (h : xRd (p, l, e, R, s, m, args, below, meth, c) J A Z nL c0 s0 ps (pc + 1, L, (2, -2 - (j : Int)) :: r, M)) : xRd (p, l, e, R, s, m, args, below, meth, c) J A Z nL c0 s0 ps (pc, L, r, M) := by
  intro G H locs ls hR hF h1 h2
  replace hR : xRel J s A s.heap G M H locs := hR
  have hT := C.2.2.2.2.2.1
  have hj := xKs_lt hw
  have k := h G H locs ls hR ⟨hF.1, hF.2.1, hF.2.2.1, fun v hv => ?_⟩ h1 h2
  · have k : W p l e R s m args below meth c H locs (M.2.2.2.1 - c0) (M.2.2.2.2 - s0) Z (F0 m (ps.getD (pc + 1) 0) ls (xc G.1 (2, -2 - (j : Int)) :: r.map (xc G.1))) := k
    rw [hn, xc_ref (show -2 - (j : Int) ≠ 0 by omega), hR.2.2.2.2.2.2.1.1 j hj] at k
    have hz : vk_R (xo own) i (xStr.getD j "") (J.2.1 j) s := hT.2.2.2.1 (own, i, j) hw
    generalize xStr.getD j "" = tx at hz
    exact x_ldcwS C.1 C.2.1 C.2.2.2.1 hz hd k
  · have hv : v ∈ ((2, -2 - (j : Int)) :: r : List xV) := hv
    rcases List.mem_cons.mp hv with rfl | hv
    · exact ⟨Nat.le_of_ble_eq_true rfl, by have z := hR.1.1; show -2 - (j : Int) < (M.2.2.2.1 : Int); omega⟩
    · exact hF.2.2.2 v hv
theorem o_init (C : xCtx p R s m args c own cc nL d J A) {i : Nat} (hw : (own, i, 0) ∈ xBl) (hd : decode cc (ps.getD pc 0) = .ok (.invokespecial i, 3)) (hn : ps.getD (pc + 1) 0 = ps.getD pc 0 + 3) {a : Int} (ha : 0 < a) (hd0 : 0 < d) (hr8 : xCat r ≤ 8) (h : xRd (p, l, e, R, s, m, args, below, meth, c) J A Z nL c0 s0 ps (pc + 1, L, r, M)) : xRd (p, l, e, R, s, m, args, below, meth, c) J A Z nL c0 s0 ps (pc, L, (2, a) :: r, M) := by
  intro G H locs ls hR hF h1 h2
  have hF2 : xFr nL G M L r ls := xFr_tail hF
  have hs : ((r.map (xc G.1)).map fun v => v.category).sum = xCat r := xSum_cat (fun v hv => (hF2.2.2.2 v hv).1)
  have k := h G H locs ls hR hF2 h1 h2
  have k : W p l e R s m args below meth c H locs (M.2.2.2.1 - c0) (M.2.2.2.2 - s0) Z (F0 m (ps.getD (pc + 1) 0) ls (r.map (xc G.1))) := k
  rw [hn] at k
  show W p l e R s m args below meth c H locs (M.2.2.2.1 - c0) (M.2.2.2.2 - s0) Z (F0 m (ps.getD pc 0) ls (xc G.1 (2, a) :: r.map (xc G.1)))
  rw [xc_ref (show a ≠ 0 by omega)]
  refine W.objInit C.1 C.2.1 C.2.2.2.1 (C.2.2.2.2.1 _ (xGw_of (xBl_ok _ hw) rfl)) (C.2.2.2.2.1 _ bw_oi1) (C.2.2.2.2.1 _ bw_oi2) rfl (by rw [C.2.2.1]; exact hF.1.1) rfl hd (Nat.le_trans hd0 C.2.2.2.2.2.2.2.2.1) ?_ ?_
  · show 0 + ((r.map (xc G.1)).map fun v => v.category).sum + 12 ≤ R.locals
    have := C.2.2.2.2.2.2.2.2.2
    omega
  · exact k
theorem o_max (C : xCtx p R s m args c own cc nL d J A) {i : Nat} (hw : (own, i, 1) ∈ xBl) (hd : decode cc (ps.getD pc 0) = .ok (.invokestatic i, 3)) (hn : ps.getD (pc + 1) 0 = ps.getD pc 0 + 3) {x y : Int} (hd0 : 0 < d) (hr8 : xCat r ≤ 8) (hcl : M.2.2.2.1 ≤ c0 + R.cells) (hsl : M.2.2.2.2 ≤ s0 + R.slots) (h : xRd (p, l, e, R, s, m, args, below, meth, c) J A Z nL c0 s0 ps (pc + 1, L, (0, max x y) :: r, M)) : xRd (p, l, e, R, s, m, args, below, meth, c) J A Z nL c0 s0 ps (pc, L, (0, y) :: (0, x) :: r, M) := by
  intro G H locs ls hR hF h1 h2
  have ix : xIn 0 x := (hF.2.2.2 (0, x) (by simp)).2
  have iy : xIn 0 y := (hF.2.2.2 (0, y) (by simp)).2
  have hF2 : xFr nL G M L r ls := xFr_tail (xFr_tail hF)
  have hs : ((r.map (xc G.1)).map fun v => v.category).sum = xCat r := xSum_cat (fun v hv => (hF2.2.2.2 v hv).1)
  have k := h G H locs ls hR ⟨hF.1, hF.2.1, hF.2.2.1, fun v hv => ?_⟩ h1 h2
  · have k : W p l e R s m args below meth c H locs (M.2.2.2.1 - c0) (M.2.2.2.2 - s0) Z (F0 m (ps.getD (pc + 1) 0) ls (.int (Int32.ofInt (max x y)) :: r.map (xc G.1))) := k
    rw [hn] at k
    show W p l e R s m args below meth c H locs (M.2.2.2.1 - c0) (M.2.2.2.2 - s0) Z (F0 m (ps.getD pc 0) ls (.int (Int32.ofInt y) :: .int (Int32.ofInt x) :: r.map (xc G.1)))
    refine va_mmax C.1 C.2.1 (by rw [C.2.2.1]; exact hF.1.1.symm) C.2.2.2.1 (C.2.2.2.2.1 _ (xGw_of (xBl_ok _ hw) rfl)) (C.2.2.2.2.1 _ bw_max1) (C.2.2.2.2.1 _ bw_math) (C.2.2.2.2.1 _ bw_max2) (Nat.le_trans hd0 C.2.2.2.2.2.2.2.2.1) (by have := C.2.2.2.2.2.2.2.2.2; omega) (by omega) (by omega) hd ?_
    rw [xi_max ix iy]
    exact k
  · have hv : v ∈ ((0, max x y) :: r : List xV) := hv
    rcases List.mem_cons.mp hv with rfl | hv
    · exact ⟨Nat.le_of_ble_eq_true rfl, x_max_in ix iy⟩
    · exact hF.2.2.2 v (by simp [hv])
theorem o_min (C : xCtx p R s m args c own cc nL d J A) {i : Nat} (hw : (own, i, 2) ∈ xBl) (hd : decode cc (ps.getD pc 0) = .ok (.invokestatic i, 3)) (hn : ps.getD (pc + 1) 0 = ps.getD pc 0 + 3) {x y : Int} (hd0 : 0 < d) (hr8 : xCat r ≤ 8) (hcl : M.2.2.2.1 ≤ c0 + R.cells) (hsl : M.2.2.2.2 ≤ s0 + R.slots) (h : xRd (p, l, e, R, s, m, args, below, meth, c) J A Z nL c0 s0 ps (pc + 1, L, (0, min x y) :: r, M)) : xRd (p, l, e, R, s, m, args, below, meth, c) J A Z nL c0 s0 ps (pc, L, (0, y) :: (0, x) :: r, M) := by
  intro G H locs ls hR hF h1 h2
  have ix : xIn 0 x := (hF.2.2.2 (0, x) (by simp)).2
  have iy : xIn 0 y := (hF.2.2.2 (0, y) (by simp)).2
  have hF2 : xFr nL G M L r ls := xFr_tail (xFr_tail hF)
  have hs : ((r.map (xc G.1)).map fun v => v.category).sum = xCat r := xSum_cat (fun v hv => (hF2.2.2.2 v hv).1)
  have k := h G H locs ls hR ⟨hF.1, hF.2.1, hF.2.2.1, fun v hv => ?_⟩ h1 h2
  · have k : W p l e R s m args below meth c H locs (M.2.2.2.1 - c0) (M.2.2.2.2 - s0) Z (F0 m (ps.getD (pc + 1) 0) ls (.int (Int32.ofInt (min x y)) :: r.map (xc G.1))) := k
    rw [hn] at k
    show W p l e R s m args below meth c H locs (M.2.2.2.1 - c0) (M.2.2.2.2 - s0) Z (F0 m (ps.getD pc 0) ls (.int (Int32.ofInt y) :: .int (Int32.ofInt x) :: r.map (xc G.1)))
    refine va_mmin C.1 C.2.1 (by rw [C.2.2.1]; exact hF.1.1.symm) C.2.2.2.1 (C.2.2.2.2.1 _ (xGw_of (xBl_ok _ hw) rfl)) (C.2.2.2.2.1 _ bw_min1) (C.2.2.2.2.1 _ bw_math) (C.2.2.2.2.1 _ bw_min2) (Nat.le_trans hd0 C.2.2.2.2.2.2.2.2.1) (by have := C.2.2.2.2.2.2.2.2.2; omega) (by omega) (by omega) hd ?_
    rw [xi_min ix iy]
    exact k
  · have hv : v ∈ ((0, min x y) :: r : List xV) := hv
    rcases List.mem_cons.mp hv with rfl | hv
    · exact ⟨Nat.le_of_ble_eq_true rfl, x_min_in ix iy⟩
    · exact hF.2.2.2 v (by simp [hv])
theorem x_copyi (D : xD) (a b : Int) {sp dp n : Int} (h1 : 0 ≤ sp) (h2 : 0 ≤ dp) (h3 : 0 ≤ n) : (fun j : Nat => Int32.ofInt (xCpy D a sp b dp n b (j : Int))) = va_cpy (fun j : Nat => Int32.ofInt (D a (j : Int))) (fun j : Nat => Int32.ofInt (D b (j : Int))) sp.toNat dp.toNat n.toNat := by
  funext j
  show Int32.ofInt (if b = b ∧ dp ≤ (j : Int) ∧ (j : Int) < dp + n then D a (sp + ((j : Int) - dp)) else D b (j : Int)) = if dp.toNat ≤ j ∧ j < dp.toNat + n.toNat then Int32.ofInt (D a ((sp.toNat + (j - dp.toNat) : Nat) : Int)) else Int32.ofInt (D b (j : Int))
  by_cases q : dp ≤ (j : Int) ∧ (j : Int) < dp + n
  · rw [if_pos ⟨rfl, q⟩, if_pos (by omega)]
    congr 2
    omega
  · rw [if_neg (fun z => q z.2), if_neg (by omega)]
theorem o_copyi (C : xCtx p R s m args c own cc nL d J A) {i : Nat} (hw : (own, i, 3) ∈ xBl) (hd : decode cc (ps.getD pc 0) = .ok (.invokestatic i, 3)) (hn : ps.getD (pc + 1) 0 = ps.getD pc 0 + 3) {a b sp dp n : Int} (hd0 : 0 < d) (hr8 : xCat r ≤ 8) (ha0 : 0 < a) (hb0 : 0 < b) (hka : M.2.1 a = 20) (hkb : M.2.1 b = 20) (hsp : 0 ≤ sp) (hdp : 0 ≤ dp) (hn0 : 0 ≤ n) (hs1 : sp + n ≤ M.2.2.1 a) (hs2 : dp + n ≤ M.2.2.1 b) (h : xRd (p, l, e, R, s, m, args, below, meth, c) J A Z nL c0 s0 ps (pc + 1, L, r, (xCpy M.1 a sp b dp n, M.2))) : xRd (p, l, e, R, s, m, args, below, meth, c) J A Z nL c0 s0 ps (pc, L, (0, n) :: (0, dp) :: (2, b) :: (0, sp) :: (2, a) :: r, M) := by
  intro G H locs ls hR hF h1 h2
  replace hR : xRel J s A s.heap G M H locs := hR
  have isp : xIn 0 sp := (hF.2.2.2 (0, sp) (by simp)).2
  have idp : xIn 0 dp := (hF.2.2.2 (0, dp) (by simp)).2
  have i_n : xIn 0 n := (hF.2.2.2 (0, n) (by simp)).2
  have hF2 : xFr nL G M L r ls := xFr_tail (xFr_tail (xFr_tail (xFr_tail (xFr_tail hF))))
  have hs : ((r.map (xc G.1)).map fun v => v.category).sum = xCat r := xSum_cat (fun v hv => (hF2.2.2.2 v hv).1)
  have hT := C.2.2.2.2.2.1
  have hEa : (xWs G M)[(a - 1).toNat]? = some (G.1 a, .inl (G.2 a, (M.2.2.1 a).toNat, .inl (fun i => Int32.ofInt (M.1 a (i : Int))))) := by
    rw [xWs_get ha0 (xRel_lt hR ha0 (by omega)), xE_arr (by omega), hka, xCt_i _ (by omega)]
  have hEb : (xWs G M)[(b - 1).toNat]? = some (G.1 b, .inl (G.2 b, (M.2.2.1 b).toNat, .inl (fun i => Int32.ofInt (M.1 b (i : Int))))) := by
    rw [xWs_get hb0 (xRel_lt hR hb0 (by omega)), xE_arr (by omega), hkb, xCt_i _ (by omega)]
  have hKa := xK1 hT hR ha0 (by omega)
  have hKb := xK1 hT hR hb0 (by omega)
  rw [hka] at hKa
  rw [hkb] at hKb
  have hK := hKa.app hKb
  show W p l e R s m args below meth c H locs (M.2.2.2.1 - c0) (M.2.2.2.2 - s0) Z (F0 m (ps.getD pc 0) ls (.int (Int32.ofInt n) :: .int (Int32.ofInt dp) :: xc G.1 (2, b) :: .int (Int32.ofInt sp) :: xc G.1 (2, a) :: r.map (xc G.1)))
  rw [xc_ref (show a ≠ 0 by omega), xc_ref (show b ≠ 0 by omega)]
  refine va_copyi (ty := xAt 20) C.1 C.2.1 (by rw [C.2.2.1]; exact hF.1.1.symm) C.2.2.2.1 (C.2.2.2.2.1 _ (xGw_of (xBl_ok _ hw) rfl)) (C.2.2.2.2.1 _ bw_ac1) (C.2.2.2.2.1 _ bw_ac2) (C.2.2.2.2.1 _ bw_ac3) hK hR.2.1 hR.2.2.1 hR.2.2.2.1 (a - 1).toNat (b - 1).toNat 0 1 hEa hEb rfl rfl rfl
    (fun z => by have := (xi_lt0 isp).mp z; omega) (fun z => by have := (xi_lt0 idp).mp z; omega) (fun z => by have := (xi_lt0 i_n).mp z; omega) (by rw [xi_cl isp, xi_cl i_n]; omega) (by rw [xi_cl idp, xi_cl i_n]; omega) (fun j _ => rfl) (Nat.le_trans hd0 C.2.2.2.2.2.2.2.2.1) (by rw [hs, show nativeFrameWords "java/lang/System" "arraycopy" 5 = 7 by decide +kernel]; have := C.2.2.2.2.2.2.2.2.2; omega) hd (fun H1 locs1 hP hD hS => ?_)
  have hR2 := xRel_set (D' := xCpy M.1 a sp b dp n) hR hb0 (fun c hc => funext fun j => by show (if c = b ∧ _ then _ else M.1 c j) = _; rw [if_neg (fun z => hc z.1)]) (fun j => by
    show xInN _ _ (if b = b ∧ dp ≤ j ∧ j < dp + n then M.1 a (sp + (j - dp)) else M.1 b j)
    have e1 : xTy (M.2.1 b) j = 0 := by rw [hkb]; rfl
    rw [e1]
    split
    · have q := hR.1.2.2.2.2.2 a (sp + (j - dp))
      rw [hka] at q
      exact q
    · have q := hR.1.2.2.2.2.2 b j
      rw [e1] at q
      exact q) (by
    rw [xE_arr (by show 20 ≤ M.2.1 b; omega)]
    show _ = (G.1 b, Sum.inl (G.2 b, (M.2.2.1 b).toNat, xCont G.1 (M.2.1 b) (xCpy M.1 a sp b dp n b)))
    rw [hkb, xCt_i _ (by omega), x_copyi _ _ _ hsp hdp hn0, xi_cl isp, xi_cl idp, xi_cl i_n]) hP hD hS
  have k := h G H1 locs1 ls hR2 ⟨hF.1, hF.2.1, hF.2.2.1, fun v hv => hF.2.2.2 v (by simp [show v ∈ r from hv])⟩ h1 h2
  have k : W p l e R s m args below meth c H1 locs1 (M.2.2.2.1 - c0) (M.2.2.2.2 - s0) Z (F0 m (ps.getD (pc + 1) 0) ls (r.map (xc G.1))) := k
  rw [hn] at k
  exact k
theorem x_copyl (D : xD) (a b : Int) {sp dp n : Int} (h1 : 0 ≤ sp) (h2 : 0 ≤ dp) (h3 : 0 ≤ n) : (fun j : Nat => Int64.ofInt (xCpy D a sp b dp n b (j : Int))) = va_cpy (fun j : Nat => Int64.ofInt (D a (j : Int))) (fun j : Nat => Int64.ofInt (D b (j : Int))) sp.toNat dp.toNat n.toNat := by
  funext j
  show Int64.ofInt (if b = b ∧ dp ≤ (j : Int) ∧ (j : Int) < dp + n then D a (sp + ((j : Int) - dp)) else D b (j : Int)) = if dp.toNat ≤ j ∧ j < dp.toNat + n.toNat then Int64.ofInt (D a ((sp.toNat + (j - dp.toNat) : Nat) : Int)) else Int64.ofInt (D b (j : Int))
  by_cases q : dp ≤ (j : Int) ∧ (j : Int) < dp + n
  · rw [if_pos ⟨rfl, q⟩, if_pos (by omega)]
    congr 2
    omega
  · rw [if_neg (fun z => q z.2), if_neg (by omega)]
theorem o_copyl (C : xCtx p R s m args c own cc nL d J A) {i : Nat} (hw : (own, i, 3) ∈ xBl) (hd : decode cc (ps.getD pc 0) = .ok (.invokestatic i, 3)) (hn : ps.getD (pc + 1) 0 = ps.getD pc 0 + 3) {a b sp dp n : Int} (hd0 : 0 < d) (hr8 : xCat r ≤ 8) (ha0 : 0 < a) (hb0 : 0 < b) (hka : M.2.1 a = 23) (hkb : M.2.1 b = 23) (hsp : 0 ≤ sp) (hdp : 0 ≤ dp) (hn0 : 0 ≤ n) (hs1 : sp + n ≤ M.2.2.1 a) (hs2 : dp + n ≤ M.2.2.1 b) (h : xRd (p, l, e, R, s, m, args, below, meth, c) J A Z nL c0 s0 ps (pc + 1, L, r, (xCpy M.1 a sp b dp n, M.2))) : xRd (p, l, e, R, s, m, args, below, meth, c) J A Z nL c0 s0 ps (pc, L, (0, n) :: (0, dp) :: (2, b) :: (0, sp) :: (2, a) :: r, M) := by
  intro G H locs ls hR hF h1 h2
  replace hR : xRel J s A s.heap G M H locs := hR
  have isp : xIn 0 sp := (hF.2.2.2 (0, sp) (by simp)).2
  have idp : xIn 0 dp := (hF.2.2.2 (0, dp) (by simp)).2
  have i_n : xIn 0 n := (hF.2.2.2 (0, n) (by simp)).2
  have hF2 : xFr nL G M L r ls := xFr_tail (xFr_tail (xFr_tail (xFr_tail (xFr_tail hF))))
  have hs : ((r.map (xc G.1)).map fun v => v.category).sum = xCat r := xSum_cat (fun v hv => (hF2.2.2.2 v hv).1)
  have hT := C.2.2.2.2.2.1
  have hEa : (xWs G M)[(a - 1).toNat]? = some (G.1 a, .inl (G.2 a, (M.2.2.1 a).toNat, .inr (.inl (fun i => Int64.ofInt (M.1 a (i : Int)))))) := by
    rw [xWs_get ha0 (xRel_lt hR ha0 (by omega)), xE_arr (by omega), hka, xCt_j]
  have hEb : (xWs G M)[(b - 1).toNat]? = some (G.1 b, .inl (G.2 b, (M.2.2.1 b).toNat, .inr (.inl (fun i => Int64.ofInt (M.1 b (i : Int)))))) := by
    rw [xWs_get hb0 (xRel_lt hR hb0 (by omega)), xE_arr (by omega), hkb, xCt_j]
  have hKa := xK1 hT hR ha0 (by omega)
  have hKb := xK1 hT hR hb0 (by omega)
  rw [hka] at hKa
  rw [hkb] at hKb
  have hK := hKa.app hKb
  show W p l e R s m args below meth c H locs (M.2.2.2.1 - c0) (M.2.2.2.2 - s0) Z (F0 m (ps.getD pc 0) ls (.int (Int32.ofInt n) :: .int (Int32.ofInt dp) :: xc G.1 (2, b) :: .int (Int32.ofInt sp) :: xc G.1 (2, a) :: r.map (xc G.1)))
  rw [xc_ref (show a ≠ 0 by omega), xc_ref (show b ≠ 0 by omega)]
  refine va_copyl (ty := xAt 23) C.1 C.2.1 (by rw [C.2.2.1]; exact hF.1.1.symm) C.2.2.2.1 (C.2.2.2.2.1 _ (xGw_of (xBl_ok _ hw) rfl)) (C.2.2.2.2.1 _ bw_ac1) (C.2.2.2.2.1 _ bw_ac2) (C.2.2.2.2.1 _ bw_ac3) hK hR.2.1 hR.2.2.1 hR.2.2.2.1 (a - 1).toNat (b - 1).toNat 0 1 hEa hEb rfl rfl rfl
    (fun z => by have := (xi_lt0 isp).mp z; omega) (fun z => by have := (xi_lt0 idp).mp z; omega) (fun z => by have := (xi_lt0 i_n).mp z; omega) (by rw [xi_cl isp, xi_cl i_n]; omega) (by rw [xi_cl idp, xi_cl i_n]; omega) (fun j _ => rfl) (Nat.le_trans hd0 C.2.2.2.2.2.2.2.2.1) (by rw [hs, show nativeFrameWords "java/lang/System" "arraycopy" 5 = 7 by decide +kernel]; have := C.2.2.2.2.2.2.2.2.2; omega) hd (fun H1 locs1 hP hD hS => ?_)
  have hR2 := xRel_set (D' := xCpy M.1 a sp b dp n) hR hb0 (fun c hc => funext fun j => by show (if c = b ∧ _ then _ else M.1 c j) = _; rw [if_neg (fun z => hc z.1)]) (fun j => by
    show xInN _ _ (if b = b ∧ dp ≤ j ∧ j < dp + n then M.1 a (sp + (j - dp)) else M.1 b j)
    have e1 : xTy (M.2.1 b) j = 1 := by rw [hkb]; rfl
    rw [e1]
    split
    · have q := hR.1.2.2.2.2.2 a (sp + (j - dp))
      rw [hka] at q
      exact q
    · have q := hR.1.2.2.2.2.2 b j
      rw [e1] at q
      exact q) (by
    rw [xE_arr (by show 20 ≤ M.2.1 b; omega)]
    show _ = (G.1 b, Sum.inl (G.2 b, (M.2.2.1 b).toNat, xCont G.1 (M.2.1 b) (xCpy M.1 a sp b dp n b)))
    rw [hkb, xCt_j, x_copyl _ _ _ hsp hdp hn0, xi_cl isp, xi_cl idp, xi_cl i_n]) hP hD hS
  have k := h G H1 locs1 ls hR2 ⟨hF.1, hF.2.1, hF.2.2.1, fun v hv => hF.2.2.2 v (by simp [show v ∈ r from hv])⟩ h1 h2
  have k : W p l e R s m args below meth c H1 locs1 (M.2.2.2.1 - c0) (M.2.2.2.2 - s0) Z (F0 m (ps.getD (pc + 1) 0) ls (r.map (xc G.1))) := k
  rw [hn] at k
  exact k
end XOPB
