theorem xi_c8 {x : Int} (h : -128 ≤ x ∧ x < 128) : (Int8.ofInt x).toInt32 = Int32.ofInt x := by
  apply Int32.toInt_inj.mp
  rw [Int8.toInt_toInt32, Int8.toInt_ofInt_of_le (by omega) (by omega), xi_toInt (xIn40 h)]
theorem xi_c16 {x : Int} (h : -32768 ≤ x ∧ x < 32768) : (Int16.ofInt x).toInt32 = Int32.ofInt x := by
  apply Int32.toInt_inj.mp
  rw [Int16.toInt_toInt32, Int16.toInt_ofInt_of_le (by omega) (by omega), xi_toInt (show (-2147483648 : Int) ≤ x ∧ x < 2147483648 by omega)]
section XOPS
variable {p : Program} {l : Launch} {e : Env} {R : Room} {s : State} {m : MethodId} {args : Array Value} {below : List Frame} {meth : Method} {c : Code}
variable {J : xJT} {A : Nat → Prop} {Z : State → Prop} {nL c0 s0 own d pc : Nat} {cc : ByteArray} {ps : List Nat} {L r : List xV} {M : xH}
theorem o_iadd (C : xCtx p R s m args c own cc nL d J A) (hd : decode cc (ps.getD pc 0) = .ok (.iadd, 1)) (hn : ps.getD (pc + 1) 0 = ps.getD pc 0 + 1) {y : Int} {x : Int} (h : xRd (p, l, e, R, s, m, args, below, meth, c) J A Z nL c0 s0 ps (pc + 1, L, (0, w32 (x + y)) :: r, M)) : xRd (p, l, e, R, s, m, args, below, meth, c) J A Z nL c0 s0 ps (pc, L, (0, y) :: (0, x) :: r, M) := by
  intro G H locs ls hR hF h1 h2
  obtain ⟨f1, f2, f3, f4⟩ := hF
  show W p l e R s m args below meth c H locs (M.2.2.2.1 - c0) (M.2.2.2.2 - s0) Z (F0 m (ps.getD pc 0) ls (.int (Int32.ofInt y) :: .int (Int32.ofInt x) :: r.map (xc G.1)))
  have iy : xInN M.2.2.2.1 0 y := (f4 (0, y) (by simp)).2
  have ix : xInN M.2.2.2.1 0 x := (f4 (0, x) (by simp)).2
  have k := h G H locs ls hR ⟨f1, f2, f3, fun v hv => ?_⟩ h1 h2
  · refine lv_iadd C.1 C.2.1 hd ?_
    have k : W p l e R s m args below meth c H locs (M.2.2.2.1 - c0) (M.2.2.2.2 - s0) Z (F0 m (ps.getD (pc + 1) 0) ls (.int (Int32.ofInt (w32 (x + y))) :: r.map (xc G.1))) := k
    rw [hn] at k
    have q : Int32.ofInt x + Int32.ofInt y = Int32.ofInt (w32 (x + y)) := Int32.toInt_inj.mp (by rw [xi_add, xi_toInt (show xIn 0 x from ix), xi_toInt (show xIn 0 y from iy), xi_toInt (w32_in _)])
    rw [q]
    exact k
  · have hv : v ∈ ((0, w32 (x + y)) :: r : List xV) := hv
    simp only [List.mem_cons] at hv
    rcases hv with rfl | hv
    · exact ⟨Nat.le_of_ble_eq_true rfl, w32_in _⟩
    · exact f4 v (by simp [hv])
theorem o_isub (C : xCtx p R s m args c own cc nL d J A) (hd : decode cc (ps.getD pc 0) = .ok (.isub, 1)) (hn : ps.getD (pc + 1) 0 = ps.getD pc 0 + 1) {y : Int} {x : Int} (h : xRd (p, l, e, R, s, m, args, below, meth, c) J A Z nL c0 s0 ps (pc + 1, L, (0, w32 (x - y)) :: r, M)) : xRd (p, l, e, R, s, m, args, below, meth, c) J A Z nL c0 s0 ps (pc, L, (0, y) :: (0, x) :: r, M) := by
  intro G H locs ls hR hF h1 h2
  obtain ⟨f1, f2, f3, f4⟩ := hF
  show W p l e R s m args below meth c H locs (M.2.2.2.1 - c0) (M.2.2.2.2 - s0) Z (F0 m (ps.getD pc 0) ls (.int (Int32.ofInt y) :: .int (Int32.ofInt x) :: r.map (xc G.1)))
  have iy : xInN M.2.2.2.1 0 y := (f4 (0, y) (by simp)).2
  have ix : xInN M.2.2.2.1 0 x := (f4 (0, x) (by simp)).2
  have k := h G H locs ls hR ⟨f1, f2, f3, fun v hv => ?_⟩ h1 h2
  · refine lv_isub C.1 C.2.1 hd ?_
    have k : W p l e R s m args below meth c H locs (M.2.2.2.1 - c0) (M.2.2.2.2 - s0) Z (F0 m (ps.getD (pc + 1) 0) ls (.int (Int32.ofInt (w32 (x - y))) :: r.map (xc G.1))) := k
    rw [hn] at k
    have q : Int32.ofInt x - Int32.ofInt y = Int32.ofInt (w32 (x - y)) := Int32.toInt_inj.mp (by rw [xi_sub, xi_toInt (show xIn 0 x from ix), xi_toInt (show xIn 0 y from iy), xi_toInt (w32_in _)])
    rw [q]
    exact k
  · have hv : v ∈ ((0, w32 (x - y)) :: r : List xV) := hv
    simp only [List.mem_cons] at hv
    rcases hv with rfl | hv
    · exact ⟨Nat.le_of_ble_eq_true rfl, w32_in _⟩
    · exact f4 v (by simp [hv])
theorem o_imul (C : xCtx p R s m args c own cc nL d J A) (hd : decode cc (ps.getD pc 0) = .ok (.imul, 1)) (hn : ps.getD (pc + 1) 0 = ps.getD pc 0 + 1) {y : Int} {x : Int} (h : xRd (p, l, e, R, s, m, args, below, meth, c) J A Z nL c0 s0 ps (pc + 1, L, (0, w32 (x * y)) :: r, M)) : xRd (p, l, e, R, s, m, args, below, meth, c) J A Z nL c0 s0 ps (pc, L, (0, y) :: (0, x) :: r, M) := by
  intro G H locs ls hR hF h1 h2
  obtain ⟨f1, f2, f3, f4⟩ := hF
  show W p l e R s m args below meth c H locs (M.2.2.2.1 - c0) (M.2.2.2.2 - s0) Z (F0 m (ps.getD pc 0) ls (.int (Int32.ofInt y) :: .int (Int32.ofInt x) :: r.map (xc G.1)))
  have iy : xInN M.2.2.2.1 0 y := (f4 (0, y) (by simp)).2
  have ix : xInN M.2.2.2.1 0 x := (f4 (0, x) (by simp)).2
  have k := h G H locs ls hR ⟨f1, f2, f3, fun v hv => ?_⟩ h1 h2
  · refine lv_imul C.1 C.2.1 hd ?_
    have k : W p l e R s m args below meth c H locs (M.2.2.2.1 - c0) (M.2.2.2.2 - s0) Z (F0 m (ps.getD (pc + 1) 0) ls (.int (Int32.ofInt (w32 (x * y))) :: r.map (xc G.1))) := k
    rw [hn] at k
    have q : Int32.ofInt x * Int32.ofInt y = Int32.ofInt (w32 (x * y)) := Int32.toInt_inj.mp (by rw [xi_mul, xi_toInt (show xIn 0 x from ix), xi_toInt (show xIn 0 y from iy), xi_toInt (w32_in _)])
    rw [q]
    exact k
  · have hv : v ∈ ((0, w32 (x * y)) :: r : List xV) := hv
    simp only [List.mem_cons] at hv
    rcases hv with rfl | hv
    · exact ⟨Nat.le_of_ble_eq_true rfl, w32_in _⟩
    · exact f4 v (by simp [hv])
theorem o_idiv (C : xCtx p R s m args c own cc nL d J A) (hd : decode cc (ps.getD pc 0) = .ok (.idiv, 1)) (hn : ps.getD (pc + 1) 0 = ps.getD pc 0 + 1) {x y : Int} (hz : y ≠ 0) (h : xRd (p, l, e, R, s, m, args, below, meth, c) J A Z nL c0 s0 ps (pc + 1, L, (0, w32 (x.tdiv y)) :: r, M)) : xRd (p, l, e, R, s, m, args, below, meth, c) J A Z nL c0 s0 ps (pc, L, (0, y) :: (0, x) :: r, M) := by
  intro G H locs ls hR hF h1 h2
  obtain ⟨f1, f2, f3, f4⟩ := hF
  show W p l e R s m args below meth c H locs (M.2.2.2.1 - c0) (M.2.2.2.2 - s0) Z (F0 m (ps.getD pc 0) ls (.int (Int32.ofInt y) :: .int (Int32.ofInt x) :: r.map (xc G.1)))
  have ix : xIn 0 x := (f4 (0, x) (by simp)).2
  have iy : xIn 0 y := (f4 (0, y) (by simp)).2
  have k := h G H locs ls hR ⟨f1, f2, f3, fun v hv => ?_⟩ h1 h2
  · refine lv_idiv C.1 C.2.1 hd (xi_ne0 iy hz) ?_
    have k : W p l e R s m args below meth c H locs (M.2.2.2.1 - c0) (M.2.2.2.2 - s0) Z (F0 m (ps.getD (pc + 1) 0) ls (.int (Int32.ofInt (w32 (x.tdiv y))) :: r.map (xc G.1))) := k
    rw [hn] at k
    have q : Int32.ofInt x / Int32.ofInt y = Int32.ofInt (w32 (x.tdiv y)) := Int32.toInt_inj.mp (by rw [xi_div, xi_toInt ix, xi_toInt iy, xi_toInt (w32_in _)])
    rw [q]
    exact k
  · have hv : v ∈ ((0, w32 (x.tdiv y)) :: r : List xV) := hv
    simp only [List.mem_cons] at hv
    rcases hv with rfl | hv
    · exact ⟨Nat.le_of_ble_eq_true rfl, w32_in _⟩
    · exact f4 v (by simp [hv])
theorem o_ldiv (C : xCtx p R s m args c own cc nL d J A) (hd : decode cc (ps.getD pc 0) = .ok (.ldiv, 1)) (hn : ps.getD (pc + 1) 0 = ps.getD pc 0 + 1) {x y : Int} (hz : y ≠ 0) (h : xRd (p, l, e, R, s, m, args, below, meth, c) J A Z nL c0 s0 ps (pc + 1, L, (1, w64 (x.tdiv y)) :: r, M)) : xRd (p, l, e, R, s, m, args, below, meth, c) J A Z nL c0 s0 ps (pc, L, (1, y) :: (1, x) :: r, M) := by
  intro G H locs ls hR hF h1 h2
  obtain ⟨f1, f2, f3, f4⟩ := hF
  show W p l e R s m args below meth c H locs (M.2.2.2.1 - c0) (M.2.2.2.2 - s0) Z (F0 m (ps.getD pc 0) ls (.long (Int64.ofInt y) :: .long (Int64.ofInt x) :: r.map (xc G.1)))
  have ix : xIn 1 x := (f4 (1, x) (by simp)).2
  have iy : xIn 1 y := (f4 (1, y) (by simp)).2
  have k := h G H locs ls hR ⟨f1, f2, f3, fun v hv => ?_⟩ h1 h2
  · refine lv_ldiv C.1 C.2.1 hd (xj_ne0 iy hz) ?_
    have k : W p l e R s m args below meth c H locs (M.2.2.2.1 - c0) (M.2.2.2.2 - s0) Z (F0 m (ps.getD (pc + 1) 0) ls (.long (Int64.ofInt (w64 (x.tdiv y))) :: r.map (xc G.1))) := k
    rw [hn] at k
    have q : Int64.ofInt x / Int64.ofInt y = Int64.ofInt (w64 (x.tdiv y)) := Int64.toInt_inj.mp (by rw [xj_div, xj_toInt ix, xj_toInt iy, xj_toInt (w64_in _)])
    rw [q]
    exact k
  · have hv : v ∈ ((1, w64 (x.tdiv y)) :: r : List xV) := hv
    simp only [List.mem_cons] at hv
    rcases hv with rfl | hv
    · exact ⟨Nat.le_of_ble_eq_true rfl, w64_in _⟩
    · exact f4 v (by simp [hv])
theorem o_irem (C : xCtx p R s m args c own cc nL d J A) (hd : decode cc (ps.getD pc 0) = .ok (.irem, 1)) (hn : ps.getD (pc + 1) 0 = ps.getD pc 0 + 1) {x y : Int} (hz : y ≠ 0) (h : xRd (p, l, e, R, s, m, args, below, meth, c) J A Z nL c0 s0 ps (pc + 1, L, (0, x.tmod y) :: r, M)) : xRd (p, l, e, R, s, m, args, below, meth, c) J A Z nL c0 s0 ps (pc, L, (0, y) :: (0, x) :: r, M) := by
  intro G H locs ls hR hF h1 h2
  obtain ⟨f1, f2, f3, f4⟩ := hF
  show W p l e R s m args below meth c H locs (M.2.2.2.1 - c0) (M.2.2.2.2 - s0) Z (F0 m (ps.getD pc 0) ls (.int (Int32.ofInt y) :: .int (Int32.ofInt x) :: r.map (xc G.1)))
  have ix : xIn 0 x := (f4 (0, x) (by simp)).2
  have iy : xIn 0 y := (f4 (0, y) (by simp)).2
  have k := h G H locs ls hR ⟨f1, f2, f3, fun v hv => ?_⟩ h1 h2
  · refine lv_irem C.1 C.2.1 hd (xi_ne0 iy hz) ?_
    have k : W p l e R s m args below meth c H locs (M.2.2.2.1 - c0) (M.2.2.2.2 - s0) Z (F0 m (ps.getD (pc + 1) 0) ls (.int (Int32.ofInt (x.tmod y)) :: r.map (xc G.1))) := k
    rw [hn] at k
    have q : Int32.ofInt x - Int32.ofInt x / Int32.ofInt y * Int32.ofInt y = Int32.ofInt (x.tmod y) := Int32.toInt_inj.mp (by rw [xi_rem, xi_toInt ix, xi_toInt iy, xi_toInt (x_tmod_in (Or.inl rfl) _ ix)])
    rw [q]
    exact k
  · have hv : v ∈ ((0, x.tmod y) :: r : List xV) := hv
    simp only [List.mem_cons] at hv
    rcases hv with rfl | hv
    · exact ⟨Nat.le_of_ble_eq_true rfl, x_tmod_in (Or.inl rfl) _ ix⟩
    · exact f4 v (by simp [hv])
theorem o_lrem (C : xCtx p R s m args c own cc nL d J A) (hd : decode cc (ps.getD pc 0) = .ok (.lrem, 1)) (hn : ps.getD (pc + 1) 0 = ps.getD pc 0 + 1) {x y : Int} (hz : y ≠ 0) (h : xRd (p, l, e, R, s, m, args, below, meth, c) J A Z nL c0 s0 ps (pc + 1, L, (1, x.tmod y) :: r, M)) : xRd (p, l, e, R, s, m, args, below, meth, c) J A Z nL c0 s0 ps (pc, L, (1, y) :: (1, x) :: r, M) := by
  intro G H locs ls hR hF h1 h2
  obtain ⟨f1, f2, f3, f4⟩ := hF
  show W p l e R s m args below meth c H locs (M.2.2.2.1 - c0) (M.2.2.2.2 - s0) Z (F0 m (ps.getD pc 0) ls (.long (Int64.ofInt y) :: .long (Int64.ofInt x) :: r.map (xc G.1)))
  have ix : xIn 1 x := (f4 (1, x) (by simp)).2
  have iy : xIn 1 y := (f4 (1, y) (by simp)).2
  have k := h G H locs ls hR ⟨f1, f2, f3, fun v hv => ?_⟩ h1 h2
  · refine lv_lrem C.1 C.2.1 hd (xj_ne0 iy hz) ?_
    have k : W p l e R s m args below meth c H locs (M.2.2.2.1 - c0) (M.2.2.2.2 - s0) Z (F0 m (ps.getD (pc + 1) 0) ls (.long (Int64.ofInt (x.tmod y)) :: r.map (xc G.1))) := k
    rw [hn] at k
    have q : Int64.ofInt x - Int64.ofInt x / Int64.ofInt y * Int64.ofInt y = Int64.ofInt (x.tmod y) := Int64.toInt_inj.mp (by rw [xj_rem, xj_toInt ix, xj_toInt iy, xj_toInt (x_tmod_in (Or.inr rfl) _ ix)])
    rw [q]
    exact k
  · have hv : v ∈ ((1, x.tmod y) :: r : List xV) := hv
    simp only [List.mem_cons] at hv
    rcases hv with rfl | hv
    · exact ⟨Nat.le_of_ble_eq_true rfl, x_tmod_in (Or.inr rfl) _ ix⟩
    · exact f4 v (by simp [hv])
theorem o_ineg (C : xCtx p R s m args c own cc nL d J A) (hd : decode cc (ps.getD pc 0) = .ok (.ineg, 1)) (hn : ps.getD (pc + 1) 0 = ps.getD pc 0 + 1) {x : Int} (h : xRd (p, l, e, R, s, m, args, below, meth, c) J A Z nL c0 s0 ps (pc + 1, L, (0, w32 (-x)) :: r, M)) : xRd (p, l, e, R, s, m, args, below, meth, c) J A Z nL c0 s0 ps (pc, L, (0, x) :: r, M) := by
  intro G H locs ls hR hF h1 h2
  obtain ⟨f1, f2, f3, f4⟩ := hF
  show W p l e R s m args below meth c H locs (M.2.2.2.1 - c0) (M.2.2.2.2 - s0) Z (F0 m (ps.getD pc 0) ls (.int (Int32.ofInt x) :: r.map (xc G.1)))
  have ix : xInN M.2.2.2.1 0 x := (f4 (0, x) (by simp)).2
  have k := h G H locs ls hR ⟨f1, f2, f3, fun v hv => ?_⟩ h1 h2
  · refine lv_ineg C.1 C.2.1 hd ?_
    have k : W p l e R s m args below meth c H locs (M.2.2.2.1 - c0) (M.2.2.2.2 - s0) Z (F0 m (ps.getD (pc + 1) 0) ls (.int (Int32.ofInt (w32 (-x))) :: r.map (xc G.1))) := k
    rw [hn] at k
    have q : -Int32.ofInt x = Int32.ofInt (w32 (-x)) := Int32.toInt_inj.mp (by rw [xi_neg, xi_toInt (show xIn 0 x from ix), xi_toInt (w32_in _)])
    rw [q]
    exact k
  · have hv : v ∈ ((0, w32 (-x)) :: r : List xV) := hv
    simp only [List.mem_cons] at hv
    rcases hv with rfl | hv
    · exact ⟨Nat.le_of_ble_eq_true rfl, w32_in _⟩
    · exact f4 v (by simp [hv])
theorem o_ishl (C : xCtx p R s m args c own cc nL d J A) (hd : decode cc (ps.getD pc 0) = .ok (.ishl, 1)) (hn : ps.getD (pc + 1) 0 = ps.getD pc 0 + 1) {y : Int} {x : Int} (h : xRd (p, l, e, R, s, m, args, below, meth, c) J A Z nL c0 s0 ps (pc + 1, L, (0, xShl x y) :: r, M)) : xRd (p, l, e, R, s, m, args, below, meth, c) J A Z nL c0 s0 ps (pc, L, (0, y) :: (0, x) :: r, M) := by
  intro G H locs ls hR hF h1 h2
  obtain ⟨f1, f2, f3, f4⟩ := hF
  show W p l e R s m args below meth c H locs (M.2.2.2.1 - c0) (M.2.2.2.2 - s0) Z (F0 m (ps.getD pc 0) ls (.int (Int32.ofInt y) :: .int (Int32.ofInt x) :: r.map (xc G.1)))
  have iy : xInN M.2.2.2.1 0 y := (f4 (0, y) (by simp)).2
  have ix : xInN M.2.2.2.1 0 x := (f4 (0, x) (by simp)).2
  have k := h G H locs ls hR ⟨f1, f2, f3, fun v hv => ?_⟩ h1 h2
  · refine lv_ishl C.1 C.2.1 hd ?_
    have k : W p l e R s m args below meth c H locs (M.2.2.2.1 - c0) (M.2.2.2.2 - s0) Z (F0 m (ps.getD (pc + 1) 0) ls (.int (Int32.ofInt (xShl x y)) :: r.map (xc G.1))) := k
    rw [hn] at k
    rw [show Int32.ofInt (xShl x y) = _ from xi_eq _] at k
    exact k
  · have hv : v ∈ ((0, xShl x y) :: r : List xV) := hv
    simp only [List.mem_cons] at hv
    rcases hv with rfl | hv
    · exact ⟨Nat.le_of_ble_eq_true rfl, xi_in _⟩
    · exact f4 v (by simp [hv])
theorem o_ishr (C : xCtx p R s m args c own cc nL d J A) (hd : decode cc (ps.getD pc 0) = .ok (.ishr, 1)) (hn : ps.getD (pc + 1) 0 = ps.getD pc 0 + 1) {y : Int} {x : Int} (h : xRd (p, l, e, R, s, m, args, below, meth, c) J A Z nL c0 s0 ps (pc + 1, L, (0, xShr x y) :: r, M)) : xRd (p, l, e, R, s, m, args, below, meth, c) J A Z nL c0 s0 ps (pc, L, (0, y) :: (0, x) :: r, M) := by
  intro G H locs ls hR hF h1 h2
  obtain ⟨f1, f2, f3, f4⟩ := hF
  show W p l e R s m args below meth c H locs (M.2.2.2.1 - c0) (M.2.2.2.2 - s0) Z (F0 m (ps.getD pc 0) ls (.int (Int32.ofInt y) :: .int (Int32.ofInt x) :: r.map (xc G.1)))
  have iy : xInN M.2.2.2.1 0 y := (f4 (0, y) (by simp)).2
  have ix : xInN M.2.2.2.1 0 x := (f4 (0, x) (by simp)).2
  have k := h G H locs ls hR ⟨f1, f2, f3, fun v hv => ?_⟩ h1 h2
  · refine lv_ishr C.1 C.2.1 hd ?_
    have k : W p l e R s m args below meth c H locs (M.2.2.2.1 - c0) (M.2.2.2.2 - s0) Z (F0 m (ps.getD (pc + 1) 0) ls (.int (Int32.ofInt (xShr x y)) :: r.map (xc G.1))) := k
    rw [hn] at k
    rw [show Int32.ofInt (xShr x y) = _ from xi_eq _] at k
    exact k
  · have hv : v ∈ ((0, xShr x y) :: r : List xV) := hv
    simp only [List.mem_cons] at hv
    rcases hv with rfl | hv
    · exact ⟨Nat.le_of_ble_eq_true rfl, xi_in _⟩
    · exact f4 v (by simp [hv])
theorem o_iand (C : xCtx p R s m args c own cc nL d J A) (hd : decode cc (ps.getD pc 0) = .ok (.iand, 1)) (hn : ps.getD (pc + 1) 0 = ps.getD pc 0 + 1) {y : Int} {x : Int} (h : xRd (p, l, e, R, s, m, args, below, meth, c) J A Z nL c0 s0 ps (pc + 1, L, (0, xAnd x y) :: r, M)) : xRd (p, l, e, R, s, m, args, below, meth, c) J A Z nL c0 s0 ps (pc, L, (0, y) :: (0, x) :: r, M) := by
  intro G H locs ls hR hF h1 h2
  obtain ⟨f1, f2, f3, f4⟩ := hF
  show W p l e R s m args below meth c H locs (M.2.2.2.1 - c0) (M.2.2.2.2 - s0) Z (F0 m (ps.getD pc 0) ls (.int (Int32.ofInt y) :: .int (Int32.ofInt x) :: r.map (xc G.1)))
  have iy : xInN M.2.2.2.1 0 y := (f4 (0, y) (by simp)).2
  have ix : xInN M.2.2.2.1 0 x := (f4 (0, x) (by simp)).2
  have k := h G H locs ls hR ⟨f1, f2, f3, fun v hv => ?_⟩ h1 h2
  · refine lv_iand C.1 C.2.1 hd ?_
    have k : W p l e R s m args below meth c H locs (M.2.2.2.1 - c0) (M.2.2.2.2 - s0) Z (F0 m (ps.getD (pc + 1) 0) ls (.int (Int32.ofInt (xAnd x y)) :: r.map (xc G.1))) := k
    rw [hn] at k
    rw [show Int32.ofInt (xAnd x y) = _ from xi_eq _] at k
    exact k
  · have hv : v ∈ ((0, xAnd x y) :: r : List xV) := hv
    simp only [List.mem_cons] at hv
    rcases hv with rfl | hv
    · exact ⟨Nat.le_of_ble_eq_true rfl, xi_in _⟩
    · exact f4 v (by simp [hv])
theorem o_ior (C : xCtx p R s m args c own cc nL d J A) (hd : decode cc (ps.getD pc 0) = .ok (.ior, 1)) (hn : ps.getD (pc + 1) 0 = ps.getD pc 0 + 1) {y : Int} {x : Int} (h : xRd (p, l, e, R, s, m, args, below, meth, c) J A Z nL c0 s0 ps (pc + 1, L, (0, xOr x y) :: r, M)) : xRd (p, l, e, R, s, m, args, below, meth, c) J A Z nL c0 s0 ps (pc, L, (0, y) :: (0, x) :: r, M) := by
  intro G H locs ls hR hF h1 h2
  obtain ⟨f1, f2, f3, f4⟩ := hF
  show W p l e R s m args below meth c H locs (M.2.2.2.1 - c0) (M.2.2.2.2 - s0) Z (F0 m (ps.getD pc 0) ls (.int (Int32.ofInt y) :: .int (Int32.ofInt x) :: r.map (xc G.1)))
  have iy : xInN M.2.2.2.1 0 y := (f4 (0, y) (by simp)).2
  have ix : xInN M.2.2.2.1 0 x := (f4 (0, x) (by simp)).2
  have k := h G H locs ls hR ⟨f1, f2, f3, fun v hv => ?_⟩ h1 h2
  · refine lv_ior C.1 C.2.1 hd ?_
    have k : W p l e R s m args below meth c H locs (M.2.2.2.1 - c0) (M.2.2.2.2 - s0) Z (F0 m (ps.getD (pc + 1) 0) ls (.int (Int32.ofInt (xOr x y)) :: r.map (xc G.1))) := k
    rw [hn] at k
    rw [show Int32.ofInt (xOr x y) = _ from xi_eq _] at k
    exact k
  · have hv : v ∈ ((0, xOr x y) :: r : List xV) := hv
    simp only [List.mem_cons] at hv
    rcases hv with rfl | hv
    · exact ⟨Nat.le_of_ble_eq_true rfl, xi_in _⟩
    · exact f4 v (by simp [hv])
theorem o_ixor (C : xCtx p R s m args c own cc nL d J A) (hd : decode cc (ps.getD pc 0) = .ok (.ixor, 1)) (hn : ps.getD (pc + 1) 0 = ps.getD pc 0 + 1) {y : Int} {x : Int} (h : xRd (p, l, e, R, s, m, args, below, meth, c) J A Z nL c0 s0 ps (pc + 1, L, (0, xXor x y) :: r, M)) : xRd (p, l, e, R, s, m, args, below, meth, c) J A Z nL c0 s0 ps (pc, L, (0, y) :: (0, x) :: r, M) := by
  intro G H locs ls hR hF h1 h2
  obtain ⟨f1, f2, f3, f4⟩ := hF
  show W p l e R s m args below meth c H locs (M.2.2.2.1 - c0) (M.2.2.2.2 - s0) Z (F0 m (ps.getD pc 0) ls (.int (Int32.ofInt y) :: .int (Int32.ofInt x) :: r.map (xc G.1)))
  have iy : xInN M.2.2.2.1 0 y := (f4 (0, y) (by simp)).2
  have ix : xInN M.2.2.2.1 0 x := (f4 (0, x) (by simp)).2
  have k := h G H locs ls hR ⟨f1, f2, f3, fun v hv => ?_⟩ h1 h2
  · refine lv_ixor C.1 C.2.1 hd ?_
    have k : W p l e R s m args below meth c H locs (M.2.2.2.1 - c0) (M.2.2.2.2 - s0) Z (F0 m (ps.getD (pc + 1) 0) ls (.int (Int32.ofInt (xXor x y)) :: r.map (xc G.1))) := k
    rw [hn] at k
    rw [show Int32.ofInt (xXor x y) = _ from xi_eq _] at k
    exact k
  · have hv : v ∈ ((0, xXor x y) :: r : List xV) := hv
    simp only [List.mem_cons] at hv
    rcases hv with rfl | hv
    · exact ⟨Nat.le_of_ble_eq_true rfl, xi_in _⟩
    · exact f4 v (by simp [hv])
theorem o_ladd (C : xCtx p R s m args c own cc nL d J A) (hd : decode cc (ps.getD pc 0) = .ok (.ladd, 1)) (hn : ps.getD (pc + 1) 0 = ps.getD pc 0 + 1) {y : Int} {x : Int} (h : xRd (p, l, e, R, s, m, args, below, meth, c) J A Z nL c0 s0 ps (pc + 1, L, (1, w64 (x + y)) :: r, M)) : xRd (p, l, e, R, s, m, args, below, meth, c) J A Z nL c0 s0 ps (pc, L, (1, y) :: (1, x) :: r, M) := by
  intro G H locs ls hR hF h1 h2
  obtain ⟨f1, f2, f3, f4⟩ := hF
  show W p l e R s m args below meth c H locs (M.2.2.2.1 - c0) (M.2.2.2.2 - s0) Z (F0 m (ps.getD pc 0) ls (.long (Int64.ofInt y) :: .long (Int64.ofInt x) :: r.map (xc G.1)))
  have iy : xInN M.2.2.2.1 1 y := (f4 (1, y) (by simp)).2
  have ix : xInN M.2.2.2.1 1 x := (f4 (1, x) (by simp)).2
  have k := h G H locs ls hR ⟨f1, f2, f3, fun v hv => ?_⟩ h1 h2
  · refine lv_ladd C.1 C.2.1 hd ?_
    have k : W p l e R s m args below meth c H locs (M.2.2.2.1 - c0) (M.2.2.2.2 - s0) Z (F0 m (ps.getD (pc + 1) 0) ls (.long (Int64.ofInt (w64 (x + y))) :: r.map (xc G.1))) := k
    rw [hn] at k
    have q : Int64.ofInt x + Int64.ofInt y = Int64.ofInt (w64 (x + y)) := Int64.toInt_inj.mp (by rw [xj_add, xj_toInt (show xIn 1 x from ix), xj_toInt (show xIn 1 y from iy), xj_toInt (w64_in _)])
    rw [q]
    exact k
  · have hv : v ∈ ((1, w64 (x + y)) :: r : List xV) := hv
    simp only [List.mem_cons] at hv
    rcases hv with rfl | hv
    · exact ⟨Nat.le_of_ble_eq_true rfl, w64_in _⟩
    · exact f4 v (by simp [hv])
theorem o_lmul (C : xCtx p R s m args c own cc nL d J A) (hd : decode cc (ps.getD pc 0) = .ok (.lmul, 1)) (hn : ps.getD (pc + 1) 0 = ps.getD pc 0 + 1) {y : Int} {x : Int} (h : xRd (p, l, e, R, s, m, args, below, meth, c) J A Z nL c0 s0 ps (pc + 1, L, (1, w64 (x * y)) :: r, M)) : xRd (p, l, e, R, s, m, args, below, meth, c) J A Z nL c0 s0 ps (pc, L, (1, y) :: (1, x) :: r, M) := by
  intro G H locs ls hR hF h1 h2
  obtain ⟨f1, f2, f3, f4⟩ := hF
  show W p l e R s m args below meth c H locs (M.2.2.2.1 - c0) (M.2.2.2.2 - s0) Z (F0 m (ps.getD pc 0) ls (.long (Int64.ofInt y) :: .long (Int64.ofInt x) :: r.map (xc G.1)))
  have iy : xInN M.2.2.2.1 1 y := (f4 (1, y) (by simp)).2
  have ix : xInN M.2.2.2.1 1 x := (f4 (1, x) (by simp)).2
  have k := h G H locs ls hR ⟨f1, f2, f3, fun v hv => ?_⟩ h1 h2
  · refine lv_lmul C.1 C.2.1 hd ?_
    have k : W p l e R s m args below meth c H locs (M.2.2.2.1 - c0) (M.2.2.2.2 - s0) Z (F0 m (ps.getD (pc + 1) 0) ls (.long (Int64.ofInt (w64 (x * y))) :: r.map (xc G.1))) := k
    rw [hn] at k
    have q : Int64.ofInt x * Int64.ofInt y = Int64.ofInt (w64 (x * y)) := Int64.toInt_inj.mp (by rw [xj_mul, xj_toInt (show xIn 1 x from ix), xj_toInt (show xIn 1 y from iy), xj_toInt (w64_in _)])
    rw [q]
    exact k
  · have hv : v ∈ ((1, w64 (x * y)) :: r : List xV) := hv
    simp only [List.mem_cons] at hv
    rcases hv with rfl | hv
    · exact ⟨Nat.le_of_ble_eq_true rfl, w64_in _⟩
    · exact f4 v (by simp [hv])
theorem o_land (C : xCtx p R s m args c own cc nL d J A) (hd : decode cc (ps.getD pc 0) = .ok (.land, 1)) (hn : ps.getD (pc + 1) 0 = ps.getD pc 0 + 1) {y : Int} {x : Int} (h : xRd (p, l, e, R, s, m, args, below, meth, c) J A Z nL c0 s0 ps (pc + 1, L, (1, xLand x y) :: r, M)) : xRd (p, l, e, R, s, m, args, below, meth, c) J A Z nL c0 s0 ps (pc, L, (1, y) :: (1, x) :: r, M) := by
  intro G H locs ls hR hF h1 h2
  obtain ⟨f1, f2, f3, f4⟩ := hF
  show W p l e R s m args below meth c H locs (M.2.2.2.1 - c0) (M.2.2.2.2 - s0) Z (F0 m (ps.getD pc 0) ls (.long (Int64.ofInt y) :: .long (Int64.ofInt x) :: r.map (xc G.1)))
  have iy : xInN M.2.2.2.1 1 y := (f4 (1, y) (by simp)).2
  have ix : xInN M.2.2.2.1 1 x := (f4 (1, x) (by simp)).2
  have k := h G H locs ls hR ⟨f1, f2, f3, fun v hv => ?_⟩ h1 h2
  · refine lv_land C.1 C.2.1 hd ?_
    have k : W p l e R s m args below meth c H locs (M.2.2.2.1 - c0) (M.2.2.2.2 - s0) Z (F0 m (ps.getD (pc + 1) 0) ls (.long (Int64.ofInt (xLand x y)) :: r.map (xc G.1))) := k
    rw [hn] at k
    rw [show Int64.ofInt (xLand x y) = _ from xj_eq _] at k
    exact k
  · have hv : v ∈ ((1, xLand x y) :: r : List xV) := hv
    simp only [List.mem_cons] at hv
    rcases hv with rfl | hv
    · exact ⟨Nat.le_of_ble_eq_true rfl, xj_in _⟩
    · exact f4 v (by simp [hv])
theorem o_lor (C : xCtx p R s m args c own cc nL d J A) (hd : decode cc (ps.getD pc 0) = .ok (.lor, 1)) (hn : ps.getD (pc + 1) 0 = ps.getD pc 0 + 1) {y : Int} {x : Int} (h : xRd (p, l, e, R, s, m, args, below, meth, c) J A Z nL c0 s0 ps (pc + 1, L, (1, xLor x y) :: r, M)) : xRd (p, l, e, R, s, m, args, below, meth, c) J A Z nL c0 s0 ps (pc, L, (1, y) :: (1, x) :: r, M) := by
  intro G H locs ls hR hF h1 h2
  obtain ⟨f1, f2, f3, f4⟩ := hF
  show W p l e R s m args below meth c H locs (M.2.2.2.1 - c0) (M.2.2.2.2 - s0) Z (F0 m (ps.getD pc 0) ls (.long (Int64.ofInt y) :: .long (Int64.ofInt x) :: r.map (xc G.1)))
  have iy : xInN M.2.2.2.1 1 y := (f4 (1, y) (by simp)).2
  have ix : xInN M.2.2.2.1 1 x := (f4 (1, x) (by simp)).2
  have k := h G H locs ls hR ⟨f1, f2, f3, fun v hv => ?_⟩ h1 h2
  · refine lv_lor C.1 C.2.1 hd ?_
    have k : W p l e R s m args below meth c H locs (M.2.2.2.1 - c0) (M.2.2.2.2 - s0) Z (F0 m (ps.getD (pc + 1) 0) ls (.long (Int64.ofInt (xLor x y)) :: r.map (xc G.1))) := k
    rw [hn] at k
    rw [show Int64.ofInt (xLor x y) = _ from xj_eq _] at k
    exact k
  · have hv : v ∈ ((1, xLor x y) :: r : List xV) := hv
    simp only [List.mem_cons] at hv
    rcases hv with rfl | hv
    · exact ⟨Nat.le_of_ble_eq_true rfl, xj_in _⟩
    · exact f4 v (by simp [hv])
theorem o_iushr (C : xCtx p R s m args c own cc nL d J A) (hd : decode cc (ps.getD pc 0) = .ok (.iushr, 1)) (hn : ps.getD (pc + 1) 0 = ps.getD pc 0 + 1) {y : Int} {x : Int} (h : xRd (p, l, e, R, s, m, args, below, meth, c) J A Z nL c0 s0 ps (pc + 1, L, (0, xUsh x y) :: r, M)) : xRd (p, l, e, R, s, m, args, below, meth, c) J A Z nL c0 s0 ps (pc, L, (0, y) :: (0, x) :: r, M) := by
  intro G H locs ls hR hF h1 h2
  obtain ⟨f1, f2, f3, f4⟩ := hF
  show W p l e R s m args below meth c H locs (M.2.2.2.1 - c0) (M.2.2.2.2 - s0) Z (F0 m (ps.getD pc 0) ls (.int (Int32.ofInt y) :: .int (Int32.ofInt x) :: r.map (xc G.1)))
  have iy : xIn 0 y := (f4 (0, y) (by simp)).2
  have ix : xIn 0 x := (f4 (0, x) (by simp)).2
  have k := h G H locs ls hR ⟨f1, f2, f3, fun v hv => ?_⟩ h1 h2
  · have k : W p l e R s m args below meth c H locs (M.2.2.2.1 - c0) (M.2.2.2.2 - s0) Z (F0 m (ps.getD (pc + 1) 0) ls (.int (Int32.ofInt (xUsh x y)) :: r.map (xc G.1))) := k
    rw [hn] at k
    exact lv_iushr C.1 C.2.1 hd (xi_eq _).symm k
  · have hv : v ∈ ((0, xUsh x y) :: r : List xV) := hv
    simp only [List.mem_cons] at hv
    rcases hv with rfl | hv
    · exact ⟨Nat.le_of_ble_eq_true rfl, xi_in _⟩
    · exact f4 v (by simp [hv])
theorem o_i2b (C : xCtx p R s m args c own cc nL d J A) (hd : decode cc (ps.getD pc 0) = .ok (.i2b, 1)) (hn : ps.getD (pc + 1) 0 = ps.getD pc 0 + 1) {x : Int} (h : xRd (p, l, e, R, s, m, args, below, meth, c) J A Z nL c0 s0 ps (pc + 1, L, (0, w8 x) :: r, M)) : xRd (p, l, e, R, s, m, args, below, meth, c) J A Z nL c0 s0 ps (pc, L, (0, x) :: r, M) := by
  intro G H locs ls hR hF h1 h2
  obtain ⟨f1, f2, f3, f4⟩ := hF
  show W p l e R s m args below meth c H locs (M.2.2.2.1 - c0) (M.2.2.2.2 - s0) Z (F0 m (ps.getD pc 0) ls (.int (Int32.ofInt x) :: r.map (xc G.1)))
  have ix : xIn 0 x := (f4 (0, x) (by simp)).2
  have k := h G H locs ls hR ⟨f1, f2, f3, fun v hv => ?_⟩ h1 h2
  · have k : W p l e R s m args below meth c H locs (M.2.2.2.1 - c0) (M.2.2.2.2 - s0) Z (F0 m (ps.getD (pc + 1) 0) ls (.int (Int32.ofInt (w8 x)) :: r.map (xc G.1))) := k
    rw [hn] at k
    exact lv_i2b C.1 C.2.1 hd (xi_b x ix) k
  · have hv : v ∈ ((0, w8 x) :: r : List xV) := hv
    simp only [List.mem_cons] at hv
    rcases hv with rfl | hv
    · exact ⟨Nat.le_of_ble_eq_true rfl, xIn40 (w8_in _)⟩
    · exact f4 v (by simp [hv])
theorem o_i2s (C : xCtx p R s m args c own cc nL d J A) (hd : decode cc (ps.getD pc 0) = .ok (.i2s, 1)) (hn : ps.getD (pc + 1) 0 = ps.getD pc 0 + 1) {x : Int} (h : xRd (p, l, e, R, s, m, args, below, meth, c) J A Z nL c0 s0 ps (pc + 1, L, (0, w16 x) :: r, M)) : xRd (p, l, e, R, s, m, args, below, meth, c) J A Z nL c0 s0 ps (pc, L, (0, x) :: r, M) := by
  intro G H locs ls hR hF h1 h2
  obtain ⟨f1, f2, f3, f4⟩ := hF
  show W p l e R s m args below meth c H locs (M.2.2.2.1 - c0) (M.2.2.2.2 - s0) Z (F0 m (ps.getD pc 0) ls (.int (Int32.ofInt x) :: r.map (xc G.1)))
  have ix : xIn 0 x := (f4 (0, x) (by simp)).2
  have k := h G H locs ls hR ⟨f1, f2, f3, fun v hv => ?_⟩ h1 h2
  · have k : W p l e R s m args below meth c H locs (M.2.2.2.1 - c0) (M.2.2.2.2 - s0) Z (F0 m (ps.getD (pc + 1) 0) ls (.int (Int32.ofInt (w16 x)) :: r.map (xc G.1))) := k
    rw [hn] at k
    exact lv_i2s C.1 C.2.1 hd (xi_s x ix) k
  · have hv : v ∈ ((0, w16 x) :: r : List xV) := hv
    simp only [List.mem_cons] at hv
    rcases hv with rfl | hv
    · exact ⟨Nat.le_of_ble_eq_true rfl, w16_in _⟩
    · exact f4 v (by simp [hv])
theorem o_i2l (C : xCtx p R s m args c own cc nL d J A) (hd : decode cc (ps.getD pc 0) = .ok (.i2l, 1)) (hn : ps.getD (pc + 1) 0 = ps.getD pc 0 + 1) {x : Int} (h : xRd (p, l, e, R, s, m, args, below, meth, c) J A Z nL c0 s0 ps (pc + 1, L, (1, x) :: r, M)) : xRd (p, l, e, R, s, m, args, below, meth, c) J A Z nL c0 s0 ps (pc, L, (0, x) :: r, M) := by
  intro G H locs ls hR hF h1 h2
  obtain ⟨f1, f2, f3, f4⟩ := hF
  show W p l e R s m args below meth c H locs (M.2.2.2.1 - c0) (M.2.2.2.2 - s0) Z (F0 m (ps.getD pc 0) ls (.int (Int32.ofInt x) :: r.map (xc G.1)))
  have ix : xIn 0 x := (f4 (0, x) (by simp)).2
  have k := h G H locs ls hR ⟨f1, f2, f3, fun v hv => ?_⟩ h1 h2
  · have k : W p l e R s m args below meth c H locs (M.2.2.2.1 - c0) (M.2.2.2.2 - s0) Z (F0 m (ps.getD (pc + 1) 0) ls (.long (Int64.ofInt (x)) :: r.map (xc G.1))) := k
    rw [hn] at k
    exact lv_i2l C.1 C.2.1 hd (xi_l x ix) k
  · have hv : v ∈ ((1, x) :: r : List xV) := hv
    simp only [List.mem_cons] at hv
    rcases hv with rfl | hv
    · exact ⟨Nat.le_of_ble_eq_true rfl, xIn01 ix⟩
    · exact f4 v (by simp [hv])
theorem o_l2i (C : xCtx p R s m args c own cc nL d J A) (hd : decode cc (ps.getD pc 0) = .ok (.l2i, 1)) (hn : ps.getD (pc + 1) 0 = ps.getD pc 0 + 1) {x : Int} (h : xRd (p, l, e, R, s, m, args, below, meth, c) J A Z nL c0 s0 ps (pc + 1, L, (0, w32 x) :: r, M)) : xRd (p, l, e, R, s, m, args, below, meth, c) J A Z nL c0 s0 ps (pc, L, (1, x) :: r, M) := by
  intro G H locs ls hR hF h1 h2
  obtain ⟨f1, f2, f3, f4⟩ := hF
  show W p l e R s m args below meth c H locs (M.2.2.2.1 - c0) (M.2.2.2.2 - s0) Z (F0 m (ps.getD pc 0) ls (.long (Int64.ofInt x) :: r.map (xc G.1)))
  have ix : xIn 1 x := (f4 (1, x) (by simp)).2
  have k := h G H locs ls hR ⟨f1, f2, f3, fun v hv => ?_⟩ h1 h2
  · have k : W p l e R s m args below meth c H locs (M.2.2.2.1 - c0) (M.2.2.2.2 - s0) Z (F0 m (ps.getD (pc + 1) 0) ls (.int (Int32.ofInt (w32 x)) :: r.map (xc G.1))) := k
    rw [hn] at k
    exact lv_l2i C.1 C.2.1 hd (xj_i x ix) k
  · have hv : v ∈ ((0, w32 x) :: r : List xV) := hv
    simp only [List.mem_cons] at hv
    rcases hv with rfl | hv
    · exact ⟨Nat.le_of_ble_eq_true rfl, w32_in _⟩
    · exact f4 v (by simp [hv])
theorem o_lshl (C : xCtx p R s m args c own cc nL d J A) (hd : decode cc (ps.getD pc 0) = .ok (.lshl, 1)) (hn : ps.getD (pc + 1) 0 = ps.getD pc 0 + 1) {y : Int} {x : Int} (h : xRd (p, l, e, R, s, m, args, below, meth, c) J A Z nL c0 s0 ps (pc + 1, L, (1, xLshl x y) :: r, M)) : xRd (p, l, e, R, s, m, args, below, meth, c) J A Z nL c0 s0 ps (pc, L, (0, y) :: (1, x) :: r, M) := by
  intro G H locs ls hR hF h1 h2
  obtain ⟨f1, f2, f3, f4⟩ := hF
  show W p l e R s m args below meth c H locs (M.2.2.2.1 - c0) (M.2.2.2.2 - s0) Z (F0 m (ps.getD pc 0) ls (.int (Int32.ofInt y) :: .long (Int64.ofInt x) :: r.map (xc G.1)))
  have iy : xIn 0 y := (f4 (0, y) (by simp)).2
  have ix : xIn 1 x := (f4 (1, x) (by simp)).2
  have k := h G H locs ls hR ⟨f1, f2, f3, fun v hv => ?_⟩ h1 h2
  · have k : W p l e R s m args below meth c H locs (M.2.2.2.1 - c0) (M.2.2.2.2 - s0) Z (F0 m (ps.getD (pc + 1) 0) ls (.long (Int64.ofInt (xLshl x y)) :: r.map (xc G.1))) := k
    rw [hn] at k
    exact lv_lshl C.1 C.2.1 hd (xj_eq _).symm k
  · have hv : v ∈ ((1, xLshl x y) :: r : List xV) := hv
    simp only [List.mem_cons] at hv
    rcases hv with rfl | hv
    · exact ⟨Nat.le_of_ble_eq_true rfl, xj_in _⟩
    · exact f4 v (by simp [hv])
theorem o_lshr (C : xCtx p R s m args c own cc nL d J A) (hd : decode cc (ps.getD pc 0) = .ok (.lshr, 1)) (hn : ps.getD (pc + 1) 0 = ps.getD pc 0 + 1) {y : Int} {x : Int} (h : xRd (p, l, e, R, s, m, args, below, meth, c) J A Z nL c0 s0 ps (pc + 1, L, (1, xLshr x y) :: r, M)) : xRd (p, l, e, R, s, m, args, below, meth, c) J A Z nL c0 s0 ps (pc, L, (0, y) :: (1, x) :: r, M) := by
  intro G H locs ls hR hF h1 h2
  obtain ⟨f1, f2, f3, f4⟩ := hF
  show W p l e R s m args below meth c H locs (M.2.2.2.1 - c0) (M.2.2.2.2 - s0) Z (F0 m (ps.getD pc 0) ls (.int (Int32.ofInt y) :: .long (Int64.ofInt x) :: r.map (xc G.1)))
  have iy : xIn 0 y := (f4 (0, y) (by simp)).2
  have ix : xIn 1 x := (f4 (1, x) (by simp)).2
  have k := h G H locs ls hR ⟨f1, f2, f3, fun v hv => ?_⟩ h1 h2
  · have k : W p l e R s m args below meth c H locs (M.2.2.2.1 - c0) (M.2.2.2.2 - s0) Z (F0 m (ps.getD (pc + 1) 0) ls (.long (Int64.ofInt (xLshr x y)) :: r.map (xc G.1))) := k
    rw [hn] at k
    exact lv_lshr C.1 C.2.1 hd (xj_eq _).symm k
  · have hv : v ∈ ((1, xLshr x y) :: r : List xV) := hv
    simp only [List.mem_cons] at hv
    rcases hv with rfl | hv
    · exact ⟨Nat.le_of_ble_eq_true rfl, xj_in _⟩
    · exact f4 v (by simp [hv])
theorem o_lcmp (C : xCtx p R s m args c own cc nL d J A) (hd : decode cc (ps.getD pc 0) = .ok (.lcmp, 1)) (hn : ps.getD (pc + 1) 0 = ps.getD pc 0 + 1) {y : Int} {x : Int} (h : xRd (p, l, e, R, s, m, args, below, meth, c) J A Z nL c0 s0 ps (pc + 1, L, (0, xLcmp x y) :: r, M)) : xRd (p, l, e, R, s, m, args, below, meth, c) J A Z nL c0 s0 ps (pc, L, (1, y) :: (1, x) :: r, M) := by
  intro G H locs ls hR hF h1 h2
  obtain ⟨f1, f2, f3, f4⟩ := hF
  show W p l e R s m args below meth c H locs (M.2.2.2.1 - c0) (M.2.2.2.2 - s0) Z (F0 m (ps.getD pc 0) ls (.long (Int64.ofInt y) :: .long (Int64.ofInt x) :: r.map (xc G.1)))
  have iy : xInN M.2.2.2.1 1 y := (f4 (1, y) (by simp)).2
  have ix : xInN M.2.2.2.1 1 x := (f4 (1, x) (by simp)).2
  have k := h G H locs ls hR ⟨f1, f2, f3, fun v hv => ?_⟩ h1 h2
  · refine W.lcmp C.1 C.2.1 hd ?_
    have k : W p l e R s m args below meth c H locs (M.2.2.2.1 - c0) (M.2.2.2.2 - s0) Z (F0 m (ps.getD (pc + 1) 0) ls (.int (Int32.ofInt (xLcmp x y)) :: r.map (xc G.1))) := k
    rw [hn] at k
    rw [xi_lcmp (show xIn 1 x from ix) (show xIn 1 y from iy)]
    exact k
  · have hv : v ∈ ((0, xLcmp x y) :: r : List xV) := hv
    simp only [List.mem_cons] at hv
    rcases hv with rfl | hv
    · exact ⟨Nat.le_of_ble_eq_true rfl, xLcmp_in _ _⟩
    · exact f4 v (by simp [hv])
theorem o_pop_0 (C : xCtx p R s m args c own cc nL d J A) (hd : decode cc (ps.getD pc 0) = .ok (.pop, 1)) (hn : ps.getD (pc + 1) 0 = ps.getD pc 0 + 1) {x : Int} (h : xRd (p, l, e, R, s, m, args, below, meth, c) J A Z nL c0 s0 ps (pc + 1, L, r, M)) : xRd (p, l, e, R, s, m, args, below, meth, c) J A Z nL c0 s0 ps (pc, L, (0, x) :: r, M) := by
  intro G H locs ls hR hF h1 h2
  obtain ⟨f1, f2, f3, f4⟩ := hF
  show W p l e R s m args below meth c H locs (M.2.2.2.1 - c0) (M.2.2.2.2 - s0) Z (F0 m (ps.getD pc 0) ls (xc G.1 (0, x) :: r.map (xc G.1)))
  have k := h G H locs ls hR ⟨f1, f2, f3, fun v hv => ?_⟩ h1 h2
  · have k : W p l e R s m args below meth c H locs (M.2.2.2.1 - c0) (M.2.2.2.2 - s0) Z (F0 m (ps.getD (pc + 1) 0) ls (r.map (xc G.1))) := k
    rw [hn] at k
    exact lv_pop C.1 C.2.1 hd (by rw [xc_cat _ _ (Nat.le_of_ble_eq_true rfl)]; rfl) k
  · have hv : v ∈ (r : List xV) := hv
    refine f4 v ?_
    exact List.mem_cons_of_mem _ hv
theorem o_pop_2 (C : xCtx p R s m args c own cc nL d J A) (hd : decode cc (ps.getD pc 0) = .ok (.pop, 1)) (hn : ps.getD (pc + 1) 0 = ps.getD pc 0 + 1) {x : Int} (h : xRd (p, l, e, R, s, m, args, below, meth, c) J A Z nL c0 s0 ps (pc + 1, L, r, M)) : xRd (p, l, e, R, s, m, args, below, meth, c) J A Z nL c0 s0 ps (pc, L, (2, x) :: r, M) := by
  intro G H locs ls hR hF h1 h2
  obtain ⟨f1, f2, f3, f4⟩ := hF
  show W p l e R s m args below meth c H locs (M.2.2.2.1 - c0) (M.2.2.2.2 - s0) Z (F0 m (ps.getD pc 0) ls (xc G.1 (2, x) :: r.map (xc G.1)))
  have k := h G H locs ls hR ⟨f1, f2, f3, fun v hv => ?_⟩ h1 h2
  · have k : W p l e R s m args below meth c H locs (M.2.2.2.1 - c0) (M.2.2.2.2 - s0) Z (F0 m (ps.getD (pc + 1) 0) ls (r.map (xc G.1))) := k
    rw [hn] at k
    exact lv_pop C.1 C.2.1 hd (by rw [xc_cat _ _ (Nat.le_of_ble_eq_true rfl)]; rfl) k
  · have hv : v ∈ (r : List xV) := hv
    refine f4 v ?_
    exact List.mem_cons_of_mem _ hv
theorem o_dup_0 (C : xCtx p R s m args c own cc nL d J A) (hd : decode cc (ps.getD pc 0) = .ok (.dup, 1)) (hn : ps.getD (pc + 1) 0 = ps.getD pc 0 + 1) {x : Int} (h : xRd (p, l, e, R, s, m, args, below, meth, c) J A Z nL c0 s0 ps (pc + 1, L, (0, x) :: (0, x) :: r, M)) : xRd (p, l, e, R, s, m, args, below, meth, c) J A Z nL c0 s0 ps (pc, L, (0, x) :: r, M) := by
  intro G H locs ls hR hF h1 h2
  obtain ⟨f1, f2, f3, f4⟩ := hF
  show W p l e R s m args below meth c H locs (M.2.2.2.1 - c0) (M.2.2.2.2 - s0) Z (F0 m (ps.getD pc 0) ls (xc G.1 (0, x) :: r.map (xc G.1)))
  have k := h G H locs ls hR ⟨f1, f2, f3, fun v hv => ?_⟩ h1 h2
  · have k : W p l e R s m args below meth c H locs (M.2.2.2.1 - c0) (M.2.2.2.2 - s0) Z (F0 m (ps.getD (pc + 1) 0) ls (xc G.1 (0, x) :: xc G.1 (0, x) :: r.map (xc G.1))) := k
    rw [hn] at k
    exact lv_dup C.1 C.2.1 hd (by rw [xc_cat _ _ (Nat.le_of_ble_eq_true rfl)]; rfl) k
  · have hv : v ∈ ((0, x) :: (0, x) :: r : List xV) := hv
    refine f4 v ?_
    rcases List.mem_cons.mp hv with q | q
    · exact q ▸ List.mem_cons_self
    · exact q
theorem o_dup_2 (C : xCtx p R s m args c own cc nL d J A) (hd : decode cc (ps.getD pc 0) = .ok (.dup, 1)) (hn : ps.getD (pc + 1) 0 = ps.getD pc 0 + 1) {x : Int} (h : xRd (p, l, e, R, s, m, args, below, meth, c) J A Z nL c0 s0 ps (pc + 1, L, (2, x) :: (2, x) :: r, M)) : xRd (p, l, e, R, s, m, args, below, meth, c) J A Z nL c0 s0 ps (pc, L, (2, x) :: r, M) := by
  intro G H locs ls hR hF h1 h2
  obtain ⟨f1, f2, f3, f4⟩ := hF
  show W p l e R s m args below meth c H locs (M.2.2.2.1 - c0) (M.2.2.2.2 - s0) Z (F0 m (ps.getD pc 0) ls (xc G.1 (2, x) :: r.map (xc G.1)))
  have k := h G H locs ls hR ⟨f1, f2, f3, fun v hv => ?_⟩ h1 h2
  · have k : W p l e R s m args below meth c H locs (M.2.2.2.1 - c0) (M.2.2.2.2 - s0) Z (F0 m (ps.getD (pc + 1) 0) ls (xc G.1 (2, x) :: xc G.1 (2, x) :: r.map (xc G.1))) := k
    rw [hn] at k
    exact lv_dup C.1 C.2.1 hd (by rw [xc_cat _ _ (Nat.le_of_ble_eq_true rfl)]; rfl) k
  · have hv : v ∈ ((2, x) :: (2, x) :: r : List xV) := hv
    refine f4 v ?_
    rcases List.mem_cons.mp hv with q | q
    · exact q ▸ List.mem_cons_self
    · exact q
theorem o_dup2 (C : xCtx p R s m args c own cc nL d J A) (hd : decode cc (ps.getD pc 0) = .ok (.dup2, 1)) (hn : ps.getD (pc + 1) 0 = ps.getD pc 0 + 1) {x y : Int} (h : xRd (p, l, e, R, s, m, args, below, meth, c) J A Z nL c0 s0 ps (pc + 1, L, (0, x) :: (2, y) :: (0, x) :: (2, y) :: r, M)) : xRd (p, l, e, R, s, m, args, below, meth, c) J A Z nL c0 s0 ps (pc, L, (0, x) :: (2, y) :: r, M) := by
  intro G H locs ls hR hF h1 h2
  obtain ⟨f1, f2, f3, f4⟩ := hF
  show W p l e R s m args below meth c H locs (M.2.2.2.1 - c0) (M.2.2.2.2 - s0) Z (F0 m (ps.getD pc 0) ls (xc G.1 (0, x) :: xc G.1 (2, y) :: r.map (xc G.1)))
  have k := h G H locs ls hR ⟨f1, f2, f3, fun v hv => ?_⟩ h1 h2
  · have k : W p l e R s m args below meth c H locs (M.2.2.2.1 - c0) (M.2.2.2.2 - s0) Z (F0 m (ps.getD (pc + 1) 0) ls (xc G.1 (0, x) :: xc G.1 (2, y) :: xc G.1 (0, x) :: xc G.1 (2, y) :: r.map (xc G.1))) := k
    rw [hn] at k
    exact lv_dup2_11 C.1 C.2.1 hd (by rw [xc_cat _ _ (Nat.le_of_ble_eq_true rfl)]; rfl) (by rw [xc_cat _ _ (Nat.le_of_ble_eq_true rfl)]; rfl) k
  · have hv : v ∈ ((0, x) :: (2, y) :: (0, x) :: (2, y) :: r : List xV) := hv
    simp only [List.mem_cons] at hv
    refine f4 v ?_
    rcases hv with q | q | q | q | q
    · exact q ▸ List.mem_cons_self
    · exact q ▸ List.mem_cons_of_mem _ List.mem_cons_self
    · exact q ▸ List.mem_cons_self
    · exact q ▸ List.mem_cons_of_mem _ List.mem_cons_self
    · exact List.mem_cons_of_mem _ (List.mem_cons_of_mem _ q)
theorem o_iconst (C : xCtx p R s m args c own cc nL d J A) {x : Int} (hi : xIn 0 x) (hd : decode cc (ps.getD pc 0) = .ok (.iconst x, 1)) (hn : ps.getD (pc + 1) 0 = ps.getD pc 0 + 1) (h : xRd (p, l, e, R, s, m, args, below, meth, c) J A Z nL c0 s0 ps (pc + 1, L, (0, x) :: r, M)) : xRd (p, l, e, R, s, m, args, below, meth, c) J A Z nL c0 s0 ps (pc, L, r, M) := by
  intro G H locs ls hR hF h1 h2
  obtain ⟨f1, f2, f3, f4⟩ := hF
  show W p l e R s m args below meth c H locs (M.2.2.2.1 - c0) (M.2.2.2.2 - s0) Z (F0 m (ps.getD pc 0) ls (r.map (xc G.1)))
  have k := h G H locs ls hR ⟨f1, f2, f3, fun v hv => ?_⟩ h1 h2
  · have k : W p l e R s m args below meth c H locs (M.2.2.2.1 - c0) (M.2.2.2.2 - s0) Z (F0 m (ps.getD (pc + 1) 0) ls (.int (Int32.ofInt (x)) :: r.map (xc G.1))) := k
    rw [hn] at k
    exact lv_iconst C.1 C.2.1 hd rfl k
  · have hv : v ∈ ((0, x) :: r : List xV) := hv
    simp only [List.mem_cons] at hv
    rcases hv with rfl | hv
    · exact ⟨Nat.le_of_ble_eq_true rfl, hi⟩
    · exact f4 v hv
theorem o_bipush (C : xCtx p R s m args c own cc nL d J A) {x : Int} (h8 : -128 ≤ x ∧ x < 128) (hd : decode cc (ps.getD pc 0) = .ok (.bipush x, 2)) (hn : ps.getD (pc + 1) 0 = ps.getD pc 0 + 2) (h : xRd (p, l, e, R, s, m, args, below, meth, c) J A Z nL c0 s0 ps (pc + 1, L, (0, x) :: r, M)) : xRd (p, l, e, R, s, m, args, below, meth, c) J A Z nL c0 s0 ps (pc, L, r, M) := by
  intro G H locs ls hR hF h1 h2
  obtain ⟨f1, f2, f3, f4⟩ := hF
  show W p l e R s m args below meth c H locs (M.2.2.2.1 - c0) (M.2.2.2.2 - s0) Z (F0 m (ps.getD pc 0) ls (r.map (xc G.1)))
  have k := h G H locs ls hR ⟨f1, f2, f3, fun v hv => ?_⟩ h1 h2
  · have k : W p l e R s m args below meth c H locs (M.2.2.2.1 - c0) (M.2.2.2.2 - s0) Z (F0 m (ps.getD (pc + 1) 0) ls (.int (Int32.ofInt (x)) :: r.map (xc G.1))) := k
    rw [hn] at k
    exact lv_bipush C.1 C.2.1 hd (xi_c8 h8) k
  · have hv : v ∈ ((0, x) :: r : List xV) := hv
    simp only [List.mem_cons] at hv
    rcases hv with rfl | hv
    · exact ⟨Nat.le_of_ble_eq_true rfl, xIn40 h8⟩
    · exact f4 v hv
theorem o_sipush (C : xCtx p R s m args c own cc nL d J A) {x : Int} (h8 : -32768 ≤ x ∧ x < 32768) (hd : decode cc (ps.getD pc 0) = .ok (.sipush x, 3)) (hn : ps.getD (pc + 1) 0 = ps.getD pc 0 + 3) (h : xRd (p, l, e, R, s, m, args, below, meth, c) J A Z nL c0 s0 ps (pc + 1, L, (0, x) :: r, M)) : xRd (p, l, e, R, s, m, args, below, meth, c) J A Z nL c0 s0 ps (pc, L, r, M) := by
  intro G H locs ls hR hF h1 h2
  obtain ⟨f1, f2, f3, f4⟩ := hF
  show W p l e R s m args below meth c H locs (M.2.2.2.1 - c0) (M.2.2.2.2 - s0) Z (F0 m (ps.getD pc 0) ls (r.map (xc G.1)))
  have k := h G H locs ls hR ⟨f1, f2, f3, fun v hv => ?_⟩ h1 h2
  · have k : W p l e R s m args below meth c H locs (M.2.2.2.1 - c0) (M.2.2.2.2 - s0) Z (F0 m (ps.getD (pc + 1) 0) ls (.int (Int32.ofInt (x)) :: r.map (xc G.1))) := k
    rw [hn] at k
    exact lv_sipush C.1 C.2.1 hd (xi_c16 h8) k
  · have hv : v ∈ ((0, x) :: r : List xV) := hv
    simp only [List.mem_cons] at hv
    rcases hv with rfl | hv
    · exact ⟨Nat.le_of_ble_eq_true rfl, by show (-2147483648 : Int) ≤ x ∧ x < 2147483648; omega⟩
    · exact f4 v hv
theorem o_lconst (C : xCtx p R s m args c own cc nL d J A) {x : Fin 2} (hd : decode cc (ps.getD pc 0) = .ok (.lconst x, 1)) (hn : ps.getD (pc + 1) 0 = ps.getD pc 0 + 1) (h : xRd (p, l, e, R, s, m, args, below, meth, c) J A Z nL c0 s0 ps (pc + 1, L, (1, ((x.val : Nat) : Int)) :: r, M)) : xRd (p, l, e, R, s, m, args, below, meth, c) J A Z nL c0 s0 ps (pc, L, r, M) := by
  intro G H locs ls hR hF h1 h2
  obtain ⟨f1, f2, f3, f4⟩ := hF
  show W p l e R s m args below meth c H locs (M.2.2.2.1 - c0) (M.2.2.2.2 - s0) Z (F0 m (ps.getD pc 0) ls (r.map (xc G.1)))
  have k := h G H locs ls hR ⟨f1, f2, f3, fun v hv => ?_⟩ h1 h2
  · have k : W p l e R s m args below meth c H locs (M.2.2.2.1 - c0) (M.2.2.2.2 - s0) Z (F0 m (ps.getD (pc + 1) 0) ls (.long (Int64.ofInt (((x.val : Nat) : Int))) :: r.map (xc G.1))) := k
    rw [hn] at k
    exact lv_lconst C.1 C.2.1 hd (by rw [Int64.ofInt_eq_ofNat]) k
  · have hv : v ∈ ((1, ((x.val : Nat) : Int)) :: r : List xV) := hv
    simp only [List.mem_cons] at hv
    rcases hv with rfl | hv
    · exact ⟨Nat.le_of_ble_eq_true rfl, by have := x.isLt; show (-9223372036854775808 : Int) ≤ ((x.val : Nat) : Int) ∧ ((x.val : Nat) : Int) < 9223372036854775808; omega⟩
    · exact f4 v hv
theorem o_ldc (C : xCtx p R s m args c own cc nL d J A) {x : Int} {i : Nat} (hi : xIn 0 x) (hw : Cond.constant (xo own) i (Int32.ofInt x) ∈ xGw) (hd : decode cc (ps.getD pc 0) = .ok (.ldc i, 2)) (hn : ps.getD (pc + 1) 0 = ps.getD pc 0 + 2) (h : xRd (p, l, e, R, s, m, args, below, meth, c) J A Z nL c0 s0 ps (pc + 1, L, (0, x) :: r, M)) : xRd (p, l, e, R, s, m, args, below, meth, c) J A Z nL c0 s0 ps (pc, L, r, M) := by
  intro G H locs ls hR hF h1 h2
  obtain ⟨f1, f2, f3, f4⟩ := hF
  show W p l e R s m args below meth c H locs (M.2.2.2.1 - c0) (M.2.2.2.2 - s0) Z (F0 m (ps.getD pc 0) ls (r.map (xc G.1)))
  have k := h G H locs ls hR ⟨f1, f2, f3, fun v hv => ?_⟩ h1 h2
  · have k : W p l e R s m args below meth c H locs (M.2.2.2.1 - c0) (M.2.2.2.2 - s0) Z (F0 m (ps.getD (pc + 1) 0) ls (.int (Int32.ofInt (x)) :: r.map (xc G.1))) := k
    rw [hn] at k
    exact lv_ldc C.1 C.2.1 C.2.2.2.1 (C.2.2.2.2.1 _ hw) hd k
  · have hv : v ∈ ((0, x) :: r : List xV) := hv
    simp only [List.mem_cons] at hv
    rcases hv with rfl | hv
    · exact ⟨Nat.le_of_ble_eq_true rfl, hi⟩
    · exact f4 v hv
theorem o_ldcw (C : xCtx p R s m args c own cc nL d J A) {x : Int} {i : Nat} (hi : xIn 0 x) (hw : Cond.constant (xo own) i (Int32.ofInt x) ∈ xGw) (hd : decode cc (ps.getD pc 0) = .ok (.ldc_w i, 3)) (hn : ps.getD (pc + 1) 0 = ps.getD pc 0 + 3) (h : xRd (p, l, e, R, s, m, args, below, meth, c) J A Z nL c0 s0 ps (pc + 1, L, (0, x) :: r, M)) : xRd (p, l, e, R, s, m, args, below, meth, c) J A Z nL c0 s0 ps (pc, L, r, M) := by
  intro G H locs ls hR hF h1 h2
  obtain ⟨f1, f2, f3, f4⟩ := hF
  show W p l e R s m args below meth c H locs (M.2.2.2.1 - c0) (M.2.2.2.2 - s0) Z (F0 m (ps.getD pc 0) ls (r.map (xc G.1)))
  have k := h G H locs ls hR ⟨f1, f2, f3, fun v hv => ?_⟩ h1 h2
  · have k : W p l e R s m args below meth c H locs (M.2.2.2.1 - c0) (M.2.2.2.2 - s0) Z (F0 m (ps.getD (pc + 1) 0) ls (.int (Int32.ofInt (x)) :: r.map (xc G.1))) := k
    rw [hn] at k
    exact lv_ldcw C.1 C.2.1 C.2.2.2.1 (C.2.2.2.2.1 _ hw) hd k
  · have hv : v ∈ ((0, x) :: r : List xV) := hv
    simp only [List.mem_cons] at hv
    rcases hv with rfl | hv
    · exact ⟨Nat.le_of_ble_eq_true rfl, hi⟩
    · exact f4 v hv
theorem o_ldc2 (C : xCtx p R s m args c own cc nL d J A) {x : Int} {i : Nat} (hi : xIn 1 x) (hw : Cond.constantLong (xo own) i (Int64.ofInt x) ∈ xGw) (hd : decode cc (ps.getD pc 0) = .ok (.ldc2_w i, 3)) (hn : ps.getD (pc + 1) 0 = ps.getD pc 0 + 3) (h : xRd (p, l, e, R, s, m, args, below, meth, c) J A Z nL c0 s0 ps (pc + 1, L, (1, x) :: r, M)) : xRd (p, l, e, R, s, m, args, below, meth, c) J A Z nL c0 s0 ps (pc, L, r, M) := by
  intro G H locs ls hR hF h1 h2
  obtain ⟨f1, f2, f3, f4⟩ := hF
  show W p l e R s m args below meth c H locs (M.2.2.2.1 - c0) (M.2.2.2.2 - s0) Z (F0 m (ps.getD pc 0) ls (r.map (xc G.1)))
  have k := h G H locs ls hR ⟨f1, f2, f3, fun v hv => ?_⟩ h1 h2
  · have k : W p l e R s m args below meth c H locs (M.2.2.2.1 - c0) (M.2.2.2.2 - s0) Z (F0 m (ps.getD (pc + 1) 0) ls (.long (Int64.ofInt (x)) :: r.map (xc G.1))) := k
    rw [hn] at k
    exact lv_ldc2 C.1 C.2.1 C.2.2.2.1 (C.2.2.2.2.1 _ hw) hd k
  · have hv : v ∈ ((1, x) :: r : List xV) := hv
    simp only [List.mem_cons] at hv
    rcases hv with rfl | hv
    · exact ⟨Nat.le_of_ble_eq_true rfl, hi⟩
    · exact f4 v hv
end XOPS
