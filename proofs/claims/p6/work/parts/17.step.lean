theorem xB1_inv {call : xCallT} {k : xS → Prop} {Q : Int → xH → Prop} {s : xS} {st : List xV} {f : Int → List xV → xO} (h : xGo call k Q (xB1 s st f)) : ∃ x r, st = (0, x) :: r ∧ xGo call k Q (f x r) := by
  unfold xB1 at h; split at h
  · exact ⟨_, _, rfl, h⟩
  · exact absurd h.1 id
theorem xB2_inv {call : xCallT} {k : xS → Prop} {Q : Int → xH → Prop} {s : xS} {st : List xV} {f : Int → Int → List xV → xO} (h : xGo call k Q (xB2 s st f)) : ∃ x y r, st = (0, y) :: (0, x) :: r ∧ xGo call k Q (f x y r) := by
  unfold xB2 at h; split at h
  · exact ⟨_, _, _, rfl, h⟩
  · exact absurd h.1 id
theorem xJ1_inv {call : xCallT} {k : xS → Prop} {Q : Int → xH → Prop} {s : xS} {st : List xV} {f : Int → List xV → xO} (h : xGo call k Q (xJ1 s st f)) : ∃ x r, st = (1, x) :: r ∧ xGo call k Q (f x r) := by
  unfold xJ1 at h; split at h
  · exact ⟨_, _, rfl, h⟩
  · exact absurd h.1 id
theorem xJ2_inv {call : xCallT} {k : xS → Prop} {Q : Int → xH → Prop} {s : xS} {st : List xV} {f : Int → Int → List xV → xO} (h : xGo call k Q (xJ2 s st f)) : ∃ x y r, st = (1, y) :: (1, x) :: r ∧ xGo call k Q (f x y r) := by
  unfold xJ2 at h; split at h
  · exact ⟨_, _, _, rfl, h⟩
  · exact absurd h.1 id
theorem xJi_inv {call : xCallT} {k : xS → Prop} {Q : Int → xH → Prop} {s : xS} {st : List xV} {f : Int → Int → List xV → xO} (h : xGo call k Q (xJi s st f)) : ∃ x y r, st = (0, y) :: (1, x) :: r ∧ xGo call k Q (f x y r) := by
  unfold xJi at h; split at h
  · exact ⟨_, _, _, rfl, h⟩
  · exact absurd h.1 id
theorem xR1_inv {call : xCallT} {k : xS → Prop} {Q : Int → xH → Prop} {s : xS} {st : List xV} {f : Int → List xV → xO} (h : xGo call k Q (xR1 s st f)) : ∃ x r, st = (2, x) :: r ∧ xGo call k Q (f x r) := by
  unfold xR1 at h; split at h
  · exact ⟨_, _, rfl, h⟩
  · exact absurd h.1 id
theorem xA2_inv {call : xCallT} {k : xS → Prop} {Q : Int → xH → Prop} {s : xS} {st : List xV} {f : Int → Int → List xV → xO} (h : xGo call k Q (xA2 s st f)) : ∃ a i r, st = (0, i) :: (2, a) :: r ∧ xGo call k Q (f a i r) := by
  unfold xA2 at h; split at h
  · exact ⟨_, _, _, rfl, h⟩
  · exact absurd h.1 id
theorem xA3_inv {call : xCallT} {k : xS → Prop} {Q : Int → xH → Prop} {s : xS} {t : Nat} {st : List xV} {f : Int → Int → Int → List xV → xO} (h : xGo call k Q (xA3 s t st f)) : ∃ a i x r, st = (t, x) :: (0, i) :: (2, a) :: r ∧ xGo call k Q (f a i x r) := by
  unfold xA3 at h; split at h
  · split at h
    · rename_i e
      subst e
      exact ⟨_, _, _, _, rfl, h⟩
    · exact absurd h.1 id
  · exact absurd h.1 id
theorem xLo_inv {call : xCallT} {k : xS → Prop} {Q : Int → xH → Prop} {s : xS} {L : List xV} {i t : Nat} {f : xV → xO} (ht : t ≠ 9) (h : xGo call k Q (xLo L i t s f)) : ∃ x, L[i]? = some (t, x) ∧ xGo call k Q (f (t, x)) := by
  unfold xLo at h
  generalize e : L.getD i (9, 0) = v at h
  obtain ⟨u, x⟩ := v
  have h2 : xGo call k Q (if u = t then f (u, x) else xBad s) := h
  clear h
  by_cases e2 : u = t
  · rw [if_pos e2, e2] at h2
    rw [e2] at e
    exact ⟨x, xGetD e (fun q => ht (congrArg Prod.fst q)), h2⟩
  · rw [if_neg e2] at h2
    exact absurd h2.1 id
theorem xIf_inv {call : xCallT} {k : xS → Prop} {Q : Int → xH → Prop} {s : xS} {b : Bool} {x : xO} (h : xGo call k Q (xIf b x (xBad s))) : b = true ∧ xGo call k Q x := by
  cases b
  · exact absurd h.1 id
  · exact ⟨rfl, h⟩
theorem xJmp_ok {ps : List Nat} {pc : Nat} {off t : Int} (h : xJmp ps pc off t = true) : ((ps.getD t.toNat 0 : Nat) : Int) = (pc : Int) + off := by
  simp only [xJmp, Bool.and_eq_true, beq_iff_eq] at h
  exact h.2
theorem xLen_eq {i : Instr} {l : Nat} (h : xLenOk i l = true) (h1 : xLenOk i l = (l == xLen i)) : l = xLen i := by
  rw [h1] at h
  exact eq_of_beq h
theorem xBle {a b : Nat} (h : Nat.ble a b = true) : a ≤ b := Nat.le_of_ble_eq_true h
theorem xBlt {a b : Nat} (h : Nat.blt a b = true) : a < b := Nat.le_of_ble_eq_true h
theorem xIn64_ok {v : Int} (h : xIn64 v = true) : xIn 1 v := by
  simp only [xIn64, Bool.and_eq_true, decide_eq_true_eq] at h
  exact h
theorem xBq_aaload {i : Instr} (h : (i == .aaload) = true) : i = .aaload := by
  cases i <;> first | rfl | exact Bool.noConfusion h
theorem xBq_aastore {i : Instr} (h : (i == .aastore) = true) : i = .aastore := by
  cases i <;> first | rfl | exact Bool.noConfusion h
theorem xBq_arraylength {i : Instr} (h : (i == .arraylength) = true) : i = .arraylength := by
  cases i <;> first | rfl | exact Bool.noConfusion h
theorem xBq_dup {i : Instr} (h : (i == .dup) = true) : i = .dup := by
  cases i <;> first | rfl | exact Bool.noConfusion h
theorem xBq_dup2 {i : Instr} (h : (i == .dup2) = true) : i = .dup2 := by
  cases i <;> first | rfl | exact Bool.noConfusion h
theorem xBq_i2b {i : Instr} (h : (i == .i2b) = true) : i = .i2b := by
  cases i <;> first | rfl | exact Bool.noConfusion h
theorem xBq_i2l {i : Instr} (h : (i == .i2l) = true) : i = .i2l := by
  cases i <;> first | rfl | exact Bool.noConfusion h
theorem xBq_i2s {i : Instr} (h : (i == .i2s) = true) : i = .i2s := by
  cases i <;> first | rfl | exact Bool.noConfusion h
theorem xBq_iadd {i : Instr} (h : (i == .iadd) = true) : i = .iadd := by
  cases i <;> first | rfl | exact Bool.noConfusion h
theorem xBq_iaload {i : Instr} (h : (i == .iaload) = true) : i = .iaload := by
  cases i <;> first | rfl | exact Bool.noConfusion h
theorem xBq_iand {i : Instr} (h : (i == .iand) = true) : i = .iand := by
  cases i <;> first | rfl | exact Bool.noConfusion h
theorem xBq_iastore {i : Instr} (h : (i == .iastore) = true) : i = .iastore := by
  cases i <;> first | rfl | exact Bool.noConfusion h
theorem xBq_idiv {i : Instr} (h : (i == .idiv) = true) : i = .idiv := by
  cases i <;> first | rfl | exact Bool.noConfusion h
theorem xBq_imul {i : Instr} (h : (i == .imul) = true) : i = .imul := by
  cases i <;> first | rfl | exact Bool.noConfusion h
theorem xBq_ineg {i : Instr} (h : (i == .ineg) = true) : i = .ineg := by
  cases i <;> first | rfl | exact Bool.noConfusion h
theorem xBq_ior {i : Instr} (h : (i == .ior) = true) : i = .ior := by
  cases i <;> first | rfl | exact Bool.noConfusion h
theorem xBq_irem {i : Instr} (h : (i == .irem) = true) : i = .irem := by
  cases i <;> first | rfl | exact Bool.noConfusion h
theorem xBq_ishl {i : Instr} (h : (i == .ishl) = true) : i = .ishl := by
  cases i <;> first | rfl | exact Bool.noConfusion h
theorem xBq_ishr {i : Instr} (h : (i == .ishr) = true) : i = .ishr := by
  cases i <;> first | rfl | exact Bool.noConfusion h
theorem xBq_isub {i : Instr} (h : (i == .isub) = true) : i = .isub := by
  cases i <;> first | rfl | exact Bool.noConfusion h
theorem xBq_iushr {i : Instr} (h : (i == .iushr) = true) : i = .iushr := by
  cases i <;> first | rfl | exact Bool.noConfusion h
theorem xBq_ixor {i : Instr} (h : (i == .ixor) = true) : i = .ixor := by
  cases i <;> first | rfl | exact Bool.noConfusion h
theorem xBq_l2i {i : Instr} (h : (i == .l2i) = true) : i = .l2i := by
  cases i <;> first | rfl | exact Bool.noConfusion h
theorem xBq_ladd {i : Instr} (h : (i == .ladd) = true) : i = .ladd := by
  cases i <;> first | rfl | exact Bool.noConfusion h
theorem xBq_laload {i : Instr} (h : (i == .laload) = true) : i = .laload := by
  cases i <;> first | rfl | exact Bool.noConfusion h
theorem xBq_land {i : Instr} (h : (i == .land) = true) : i = .land := by
  cases i <;> first | rfl | exact Bool.noConfusion h
theorem xBq_lastore {i : Instr} (h : (i == .lastore) = true) : i = .lastore := by
  cases i <;> first | rfl | exact Bool.noConfusion h
theorem xBq_lcmp {i : Instr} (h : (i == .lcmp) = true) : i = .lcmp := by
  cases i <;> first | rfl | exact Bool.noConfusion h
theorem xBq_ldiv {i : Instr} (h : (i == .ldiv) = true) : i = .ldiv := by
  cases i <;> first | rfl | exact Bool.noConfusion h
theorem xBq_lmul {i : Instr} (h : (i == .lmul) = true) : i = .lmul := by
  cases i <;> first | rfl | exact Bool.noConfusion h
theorem xBq_lor {i : Instr} (h : (i == .lor) = true) : i = .lor := by
  cases i <;> first | rfl | exact Bool.noConfusion h
theorem xBq_lrem {i : Instr} (h : (i == .lrem) = true) : i = .lrem := by
  cases i <;> first | rfl | exact Bool.noConfusion h
theorem xBq_lshl {i : Instr} (h : (i == .lshl) = true) : i = .lshl := by
  cases i <;> first | rfl | exact Bool.noConfusion h
theorem xBq_lshr {i : Instr} (h : (i == .lshr) = true) : i = .lshr := by
  cases i <;> first | rfl | exact Bool.noConfusion h
theorem xBq_pop {i : Instr} (h : (i == .pop) = true) : i = .pop := by
  cases i <;> first | rfl | exact Bool.noConfusion h
theorem xBq_at {a b : ArrayType} (h : (a == b) = true) : a = b := by
  cases a <;> cases b <;> first | rfl | exact Bool.noConfusion h
theorem xBq_cd {a b : ClassFile.Cond} (h : (a == b) = true) : a = b := by
  cases a <;> cases b <;> first | rfl | exact Bool.noConfusion h
section XSTEP
variable {p : Program} {l : Launch} {e : Env} {R : Room} {s : State} {m : MethodId} {args : Array Value} {below : List Frame} {meth : Method} {c : Code}
variable {J : xJT} {A : Nat → Prop} {Z : State → Prop} {nL c0 s0 own d pc : Nat} {cc : ByteArray} {ps : List Nat} {L st : List xV} {M : xH} {k : xS → Prop} {Q : Int → xH → Prop} {call : xCallT} {ini : Bool} {ret : Option FieldType} {i : Instr} {len : Nat}
theorem st_iadd (C : xCtx p R s m args c own cc nL d J A)  (hp : decode cc (ps.getD pc 0) = .ok (i, len)) (hlen : xLenOk i len = true) (hck : xChk1 own ini ret ps (ps.getD pc 0) i (.iadd) = true) (hnx : ps.getD (pc + 1) 0 = ps.getD pc 0 + len ∨ xTerm (.iadd) = true) (hk : ∀ S, k S → xRd (p, l, e, R, s, m, args, below, meth, c) J A Z nL c0 s0 ps S ∧ S.2.2.2.2.2.2.1 ≤ c0 + R.cells ∧ S.2.2.2.2.2.2.2 ≤ s0 + R.slots) (h : xGo call k Q (xNext d (.iadd) pc L st M)) : xRd (p, l, e, R, s, m, args, below, meth, c) J A Z nL c0 s0 ps (pc, L, st, M) := by
  have hi : i = .iadd := xBq_iadd hck
  subst hi
  have hl := xLen_eq hlen rfl
  subst hl
  have hn := hnx.resolve_right (by simp [xTerm])
  obtain ⟨x, y, r, rfl, h⟩ := xB2_inv h
  exact o_iadd C hp hn (hk _ h).1
theorem st_isub (C : xCtx p R s m args c own cc nL d J A)  (hp : decode cc (ps.getD pc 0) = .ok (i, len)) (hlen : xLenOk i len = true) (hck : xChk1 own ini ret ps (ps.getD pc 0) i (.isub) = true) (hnx : ps.getD (pc + 1) 0 = ps.getD pc 0 + len ∨ xTerm (.isub) = true) (hk : ∀ S, k S → xRd (p, l, e, R, s, m, args, below, meth, c) J A Z nL c0 s0 ps S ∧ S.2.2.2.2.2.2.1 ≤ c0 + R.cells ∧ S.2.2.2.2.2.2.2 ≤ s0 + R.slots) (h : xGo call k Q (xNext d (.isub) pc L st M)) : xRd (p, l, e, R, s, m, args, below, meth, c) J A Z nL c0 s0 ps (pc, L, st, M) := by
  have hi : i = .isub := xBq_isub hck
  subst hi
  have hl := xLen_eq hlen rfl
  subst hl
  have hn := hnx.resolve_right (by simp [xTerm])
  obtain ⟨x, y, r, rfl, h⟩ := xB2_inv h
  exact o_isub C hp hn (hk _ h).1
theorem st_imul (C : xCtx p R s m args c own cc nL d J A)  (hp : decode cc (ps.getD pc 0) = .ok (i, len)) (hlen : xLenOk i len = true) (hck : xChk1 own ini ret ps (ps.getD pc 0) i (.imul) = true) (hnx : ps.getD (pc + 1) 0 = ps.getD pc 0 + len ∨ xTerm (.imul) = true) (hk : ∀ S, k S → xRd (p, l, e, R, s, m, args, below, meth, c) J A Z nL c0 s0 ps S ∧ S.2.2.2.2.2.2.1 ≤ c0 + R.cells ∧ S.2.2.2.2.2.2.2 ≤ s0 + R.slots) (h : xGo call k Q (xNext d (.imul) pc L st M)) : xRd (p, l, e, R, s, m, args, below, meth, c) J A Z nL c0 s0 ps (pc, L, st, M) := by
  have hi : i = .imul := xBq_imul hck
  subst hi
  have hl := xLen_eq hlen rfl
  subst hl
  have hn := hnx.resolve_right (by simp [xTerm])
  obtain ⟨x, y, r, rfl, h⟩ := xB2_inv h
  exact o_imul C hp hn (hk _ h).1
theorem st_ishl (C : xCtx p R s m args c own cc nL d J A)  (hp : decode cc (ps.getD pc 0) = .ok (i, len)) (hlen : xLenOk i len = true) (hck : xChk1 own ini ret ps (ps.getD pc 0) i (.ishl) = true) (hnx : ps.getD (pc + 1) 0 = ps.getD pc 0 + len ∨ xTerm (.ishl) = true) (hk : ∀ S, k S → xRd (p, l, e, R, s, m, args, below, meth, c) J A Z nL c0 s0 ps S ∧ S.2.2.2.2.2.2.1 ≤ c0 + R.cells ∧ S.2.2.2.2.2.2.2 ≤ s0 + R.slots) (h : xGo call k Q (xNext d (.ishl) pc L st M)) : xRd (p, l, e, R, s, m, args, below, meth, c) J A Z nL c0 s0 ps (pc, L, st, M) := by
  have hi : i = .ishl := xBq_ishl hck
  subst hi
  have hl := xLen_eq hlen rfl
  subst hl
  have hn := hnx.resolve_right (by simp [xTerm])
  obtain ⟨x, y, r, rfl, h⟩ := xB2_inv h
  exact o_ishl C hp hn (hk _ h).1
theorem st_ishr (C : xCtx p R s m args c own cc nL d J A)  (hp : decode cc (ps.getD pc 0) = .ok (i, len)) (hlen : xLenOk i len = true) (hck : xChk1 own ini ret ps (ps.getD pc 0) i (.ishr) = true) (hnx : ps.getD (pc + 1) 0 = ps.getD pc 0 + len ∨ xTerm (.ishr) = true) (hk : ∀ S, k S → xRd (p, l, e, R, s, m, args, below, meth, c) J A Z nL c0 s0 ps S ∧ S.2.2.2.2.2.2.1 ≤ c0 + R.cells ∧ S.2.2.2.2.2.2.2 ≤ s0 + R.slots) (h : xGo call k Q (xNext d (.ishr) pc L st M)) : xRd (p, l, e, R, s, m, args, below, meth, c) J A Z nL c0 s0 ps (pc, L, st, M) := by
  have hi : i = .ishr := xBq_ishr hck
  subst hi
  have hl := xLen_eq hlen rfl
  subst hl
  have hn := hnx.resolve_right (by simp [xTerm])
  obtain ⟨x, y, r, rfl, h⟩ := xB2_inv h
  exact o_ishr C hp hn (hk _ h).1
theorem st_iushr (C : xCtx p R s m args c own cc nL d J A)  (hp : decode cc (ps.getD pc 0) = .ok (i, len)) (hlen : xLenOk i len = true) (hck : xChk1 own ini ret ps (ps.getD pc 0) i (.iushr) = true) (hnx : ps.getD (pc + 1) 0 = ps.getD pc 0 + len ∨ xTerm (.iushr) = true) (hk : ∀ S, k S → xRd (p, l, e, R, s, m, args, below, meth, c) J A Z nL c0 s0 ps S ∧ S.2.2.2.2.2.2.1 ≤ c0 + R.cells ∧ S.2.2.2.2.2.2.2 ≤ s0 + R.slots) (h : xGo call k Q (xNext d (.iushr) pc L st M)) : xRd (p, l, e, R, s, m, args, below, meth, c) J A Z nL c0 s0 ps (pc, L, st, M) := by
  have hi : i = .iushr := xBq_iushr hck
  subst hi
  have hl := xLen_eq hlen rfl
  subst hl
  have hn := hnx.resolve_right (by simp [xTerm])
  obtain ⟨x, y, r, rfl, h⟩ := xB2_inv h
  exact o_iushr C hp hn (hk _ h).1
theorem st_iand (C : xCtx p R s m args c own cc nL d J A)  (hp : decode cc (ps.getD pc 0) = .ok (i, len)) (hlen : xLenOk i len = true) (hck : xChk1 own ini ret ps (ps.getD pc 0) i (.iand) = true) (hnx : ps.getD (pc + 1) 0 = ps.getD pc 0 + len ∨ xTerm (.iand) = true) (hk : ∀ S, k S → xRd (p, l, e, R, s, m, args, below, meth, c) J A Z nL c0 s0 ps S ∧ S.2.2.2.2.2.2.1 ≤ c0 + R.cells ∧ S.2.2.2.2.2.2.2 ≤ s0 + R.slots) (h : xGo call k Q (xNext d (.iand) pc L st M)) : xRd (p, l, e, R, s, m, args, below, meth, c) J A Z nL c0 s0 ps (pc, L, st, M) := by
  have hi : i = .iand := xBq_iand hck
  subst hi
  have hl := xLen_eq hlen rfl
  subst hl
  have hn := hnx.resolve_right (by simp [xTerm])
  obtain ⟨x, y, r, rfl, h⟩ := xB2_inv h
  exact o_iand C hp hn (hk _ h).1
theorem st_ior (C : xCtx p R s m args c own cc nL d J A)  (hp : decode cc (ps.getD pc 0) = .ok (i, len)) (hlen : xLenOk i len = true) (hck : xChk1 own ini ret ps (ps.getD pc 0) i (.ior) = true) (hnx : ps.getD (pc + 1) 0 = ps.getD pc 0 + len ∨ xTerm (.ior) = true) (hk : ∀ S, k S → xRd (p, l, e, R, s, m, args, below, meth, c) J A Z nL c0 s0 ps S ∧ S.2.2.2.2.2.2.1 ≤ c0 + R.cells ∧ S.2.2.2.2.2.2.2 ≤ s0 + R.slots) (h : xGo call k Q (xNext d (.ior) pc L st M)) : xRd (p, l, e, R, s, m, args, below, meth, c) J A Z nL c0 s0 ps (pc, L, st, M) := by
  have hi : i = .ior := xBq_ior hck
  subst hi
  have hl := xLen_eq hlen rfl
  subst hl
  have hn := hnx.resolve_right (by simp [xTerm])
  obtain ⟨x, y, r, rfl, h⟩ := xB2_inv h
  exact o_ior C hp hn (hk _ h).1
theorem st_ixor (C : xCtx p R s m args c own cc nL d J A)  (hp : decode cc (ps.getD pc 0) = .ok (i, len)) (hlen : xLenOk i len = true) (hck : xChk1 own ini ret ps (ps.getD pc 0) i (.ixor) = true) (hnx : ps.getD (pc + 1) 0 = ps.getD pc 0 + len ∨ xTerm (.ixor) = true) (hk : ∀ S, k S → xRd (p, l, e, R, s, m, args, below, meth, c) J A Z nL c0 s0 ps S ∧ S.2.2.2.2.2.2.1 ≤ c0 + R.cells ∧ S.2.2.2.2.2.2.2 ≤ s0 + R.slots) (h : xGo call k Q (xNext d (.ixor) pc L st M)) : xRd (p, l, e, R, s, m, args, below, meth, c) J A Z nL c0 s0 ps (pc, L, st, M) := by
  have hi : i = .ixor := xBq_ixor hck
  subst hi
  have hl := xLen_eq hlen rfl
  subst hl
  have hn := hnx.resolve_right (by simp [xTerm])
  obtain ⟨x, y, r, rfl, h⟩ := xB2_inv h
  exact o_ixor C hp hn (hk _ h).1
theorem st_idiv (C : xCtx p R s m args c own cc nL d J A)  (hp : decode cc (ps.getD pc 0) = .ok (i, len)) (hlen : xLenOk i len = true) (hck : xChk1 own ini ret ps (ps.getD pc 0) i (.idiv) = true) (hnx : ps.getD (pc + 1) 0 = ps.getD pc 0 + len ∨ xTerm (.idiv) = true) (hk : ∀ S, k S → xRd (p, l, e, R, s, m, args, below, meth, c) J A Z nL c0 s0 ps S ∧ S.2.2.2.2.2.2.1 ≤ c0 + R.cells ∧ S.2.2.2.2.2.2.2 ≤ s0 + R.slots) (h : xGo call k Q (xNext d (.idiv) pc L st M)) : xRd (p, l, e, R, s, m, args, below, meth, c) J A Z nL c0 s0 ps (pc, L, st, M) := by
  have hi : i = .idiv := xBq_idiv hck
  subst hi
  have hl := xLen_eq hlen rfl
  subst hl
  have hn := hnx.resolve_right (by simp [xTerm])
  obtain ⟨x, y, r, rfl, h⟩ := xB2_inv h
  exact o_idiv C hp hn h.1 (hk _ h.2).1
theorem st_irem (C : xCtx p R s m args c own cc nL d J A)  (hp : decode cc (ps.getD pc 0) = .ok (i, len)) (hlen : xLenOk i len = true) (hck : xChk1 own ini ret ps (ps.getD pc 0) i (.irem) = true) (hnx : ps.getD (pc + 1) 0 = ps.getD pc 0 + len ∨ xTerm (.irem) = true) (hk : ∀ S, k S → xRd (p, l, e, R, s, m, args, below, meth, c) J A Z nL c0 s0 ps S ∧ S.2.2.2.2.2.2.1 ≤ c0 + R.cells ∧ S.2.2.2.2.2.2.2 ≤ s0 + R.slots) (h : xGo call k Q (xNext d (.irem) pc L st M)) : xRd (p, l, e, R, s, m, args, below, meth, c) J A Z nL c0 s0 ps (pc, L, st, M) := by
  have hi : i = .irem := xBq_irem hck
  subst hi
  have hl := xLen_eq hlen rfl
  subst hl
  have hn := hnx.resolve_right (by simp [xTerm])
  obtain ⟨x, y, r, rfl, h⟩ := xB2_inv h
  exact o_irem C hp hn h.1 (hk _ h.2).1
theorem st_ineg (C : xCtx p R s m args c own cc nL d J A)  (hp : decode cc (ps.getD pc 0) = .ok (i, len)) (hlen : xLenOk i len = true) (hck : xChk1 own ini ret ps (ps.getD pc 0) i (.ineg) = true) (hnx : ps.getD (pc + 1) 0 = ps.getD pc 0 + len ∨ xTerm (.ineg) = true) (hk : ∀ S, k S → xRd (p, l, e, R, s, m, args, below, meth, c) J A Z nL c0 s0 ps S ∧ S.2.2.2.2.2.2.1 ≤ c0 + R.cells ∧ S.2.2.2.2.2.2.2 ≤ s0 + R.slots) (h : xGo call k Q (xNext d (.ineg) pc L st M)) : xRd (p, l, e, R, s, m, args, below, meth, c) J A Z nL c0 s0 ps (pc, L, st, M) := by
  have hi : i = .ineg := xBq_ineg hck
  subst hi
  have hl := xLen_eq hlen rfl
  subst hl
  have hn := hnx.resolve_right (by simp [xTerm])
  obtain ⟨x, r, rfl, h⟩ := xB1_inv h
  exact o_ineg C hp hn (hk _ h).1
theorem st_i2l (C : xCtx p R s m args c own cc nL d J A)  (hp : decode cc (ps.getD pc 0) = .ok (i, len)) (hlen : xLenOk i len = true) (hck : xChk1 own ini ret ps (ps.getD pc 0) i (.i2l) = true) (hnx : ps.getD (pc + 1) 0 = ps.getD pc 0 + len ∨ xTerm (.i2l) = true) (hk : ∀ S, k S → xRd (p, l, e, R, s, m, args, below, meth, c) J A Z nL c0 s0 ps S ∧ S.2.2.2.2.2.2.1 ≤ c0 + R.cells ∧ S.2.2.2.2.2.2.2 ≤ s0 + R.slots) (h : xGo call k Q (xNext d (.i2l) pc L st M)) : xRd (p, l, e, R, s, m, args, below, meth, c) J A Z nL c0 s0 ps (pc, L, st, M) := by
  have hi : i = .i2l := xBq_i2l hck
  subst hi
  have hl := xLen_eq hlen rfl
  subst hl
  have hn := hnx.resolve_right (by simp [xTerm])
  obtain ⟨x, r, rfl, h⟩ := xB1_inv h
  exact o_i2l C hp hn (hk _ h).1
theorem st_i2b (C : xCtx p R s m args c own cc nL d J A)  (hp : decode cc (ps.getD pc 0) = .ok (i, len)) (hlen : xLenOk i len = true) (hck : xChk1 own ini ret ps (ps.getD pc 0) i (.i2b) = true) (hnx : ps.getD (pc + 1) 0 = ps.getD pc 0 + len ∨ xTerm (.i2b) = true) (hk : ∀ S, k S → xRd (p, l, e, R, s, m, args, below, meth, c) J A Z nL c0 s0 ps S ∧ S.2.2.2.2.2.2.1 ≤ c0 + R.cells ∧ S.2.2.2.2.2.2.2 ≤ s0 + R.slots) (h : xGo call k Q (xNext d (.i2b) pc L st M)) : xRd (p, l, e, R, s, m, args, below, meth, c) J A Z nL c0 s0 ps (pc, L, st, M) := by
  have hi : i = .i2b := xBq_i2b hck
  subst hi
  have hl := xLen_eq hlen rfl
  subst hl
  have hn := hnx.resolve_right (by simp [xTerm])
  obtain ⟨x, r, rfl, h⟩ := xB1_inv h
  exact o_i2b C hp hn (hk _ h).1
theorem st_i2s (C : xCtx p R s m args c own cc nL d J A)  (hp : decode cc (ps.getD pc 0) = .ok (i, len)) (hlen : xLenOk i len = true) (hck : xChk1 own ini ret ps (ps.getD pc 0) i (.i2s) = true) (hnx : ps.getD (pc + 1) 0 = ps.getD pc 0 + len ∨ xTerm (.i2s) = true) (hk : ∀ S, k S → xRd (p, l, e, R, s, m, args, below, meth, c) J A Z nL c0 s0 ps S ∧ S.2.2.2.2.2.2.1 ≤ c0 + R.cells ∧ S.2.2.2.2.2.2.2 ≤ s0 + R.slots) (h : xGo call k Q (xNext d (.i2s) pc L st M)) : xRd (p, l, e, R, s, m, args, below, meth, c) J A Z nL c0 s0 ps (pc, L, st, M) := by
  have hi : i = .i2s := xBq_i2s hck
  subst hi
  have hl := xLen_eq hlen rfl
  subst hl
  have hn := hnx.resolve_right (by simp [xTerm])
  obtain ⟨x, r, rfl, h⟩ := xB1_inv h
  exact o_i2s C hp hn (hk _ h).1
theorem st_l2i (C : xCtx p R s m args c own cc nL d J A)  (hp : decode cc (ps.getD pc 0) = .ok (i, len)) (hlen : xLenOk i len = true) (hck : xChk1 own ini ret ps (ps.getD pc 0) i (.l2i) = true) (hnx : ps.getD (pc + 1) 0 = ps.getD pc 0 + len ∨ xTerm (.l2i) = true) (hk : ∀ S, k S → xRd (p, l, e, R, s, m, args, below, meth, c) J A Z nL c0 s0 ps S ∧ S.2.2.2.2.2.2.1 ≤ c0 + R.cells ∧ S.2.2.2.2.2.2.2 ≤ s0 + R.slots) (h : xGo call k Q (xNext d (.l2i) pc L st M)) : xRd (p, l, e, R, s, m, args, below, meth, c) J A Z nL c0 s0 ps (pc, L, st, M) := by
  have hi : i = .l2i := xBq_l2i hck
  subst hi
  have hl := xLen_eq hlen rfl
  subst hl
  have hn := hnx.resolve_right (by simp [xTerm])
  obtain ⟨x, r, rfl, h⟩ := xJ1_inv h
  exact o_l2i C hp hn (hk _ h).1
theorem st_ladd (C : xCtx p R s m args c own cc nL d J A)  (hp : decode cc (ps.getD pc 0) = .ok (i, len)) (hlen : xLenOk i len = true) (hck : xChk1 own ini ret ps (ps.getD pc 0) i (.ladd) = true) (hnx : ps.getD (pc + 1) 0 = ps.getD pc 0 + len ∨ xTerm (.ladd) = true) (hk : ∀ S, k S → xRd (p, l, e, R, s, m, args, below, meth, c) J A Z nL c0 s0 ps S ∧ S.2.2.2.2.2.2.1 ≤ c0 + R.cells ∧ S.2.2.2.2.2.2.2 ≤ s0 + R.slots) (h : xGo call k Q (xNext d (.ladd) pc L st M)) : xRd (p, l, e, R, s, m, args, below, meth, c) J A Z nL c0 s0 ps (pc, L, st, M) := by
  have hi : i = .ladd := xBq_ladd hck
  subst hi
  have hl := xLen_eq hlen rfl
  subst hl
  have hn := hnx.resolve_right (by simp [xTerm])
  obtain ⟨x, y, r, rfl, h⟩ := xJ2_inv h
  exact o_ladd C hp hn (hk _ h).1
theorem st_lmul (C : xCtx p R s m args c own cc nL d J A)  (hp : decode cc (ps.getD pc 0) = .ok (i, len)) (hlen : xLenOk i len = true) (hck : xChk1 own ini ret ps (ps.getD pc 0) i (.lmul) = true) (hnx : ps.getD (pc + 1) 0 = ps.getD pc 0 + len ∨ xTerm (.lmul) = true) (hk : ∀ S, k S → xRd (p, l, e, R, s, m, args, below, meth, c) J A Z nL c0 s0 ps S ∧ S.2.2.2.2.2.2.1 ≤ c0 + R.cells ∧ S.2.2.2.2.2.2.2 ≤ s0 + R.slots) (h : xGo call k Q (xNext d (.lmul) pc L st M)) : xRd (p, l, e, R, s, m, args, below, meth, c) J A Z nL c0 s0 ps (pc, L, st, M) := by
  have hi : i = .lmul := xBq_lmul hck
  subst hi
  have hl := xLen_eq hlen rfl
  subst hl
  have hn := hnx.resolve_right (by simp [xTerm])
  obtain ⟨x, y, r, rfl, h⟩ := xJ2_inv h
  exact o_lmul C hp hn (hk _ h).1
theorem st_land (C : xCtx p R s m args c own cc nL d J A)  (hp : decode cc (ps.getD pc 0) = .ok (i, len)) (hlen : xLenOk i len = true) (hck : xChk1 own ini ret ps (ps.getD pc 0) i (.land) = true) (hnx : ps.getD (pc + 1) 0 = ps.getD pc 0 + len ∨ xTerm (.land) = true) (hk : ∀ S, k S → xRd (p, l, e, R, s, m, args, below, meth, c) J A Z nL c0 s0 ps S ∧ S.2.2.2.2.2.2.1 ≤ c0 + R.cells ∧ S.2.2.2.2.2.2.2 ≤ s0 + R.slots) (h : xGo call k Q (xNext d (.land) pc L st M)) : xRd (p, l, e, R, s, m, args, below, meth, c) J A Z nL c0 s0 ps (pc, L, st, M) := by
  have hi : i = .land := xBq_land hck
  subst hi
  have hl := xLen_eq hlen rfl
  subst hl
  have hn := hnx.resolve_right (by simp [xTerm])
  obtain ⟨x, y, r, rfl, h⟩ := xJ2_inv h
  exact o_land C hp hn (hk _ h).1
theorem st_lor (C : xCtx p R s m args c own cc nL d J A)  (hp : decode cc (ps.getD pc 0) = .ok (i, len)) (hlen : xLenOk i len = true) (hck : xChk1 own ini ret ps (ps.getD pc 0) i (.lor) = true) (hnx : ps.getD (pc + 1) 0 = ps.getD pc 0 + len ∨ xTerm (.lor) = true) (hk : ∀ S, k S → xRd (p, l, e, R, s, m, args, below, meth, c) J A Z nL c0 s0 ps S ∧ S.2.2.2.2.2.2.1 ≤ c0 + R.cells ∧ S.2.2.2.2.2.2.2 ≤ s0 + R.slots) (h : xGo call k Q (xNext d (.lor) pc L st M)) : xRd (p, l, e, R, s, m, args, below, meth, c) J A Z nL c0 s0 ps (pc, L, st, M) := by
  have hi : i = .lor := xBq_lor hck
  subst hi
  have hl := xLen_eq hlen rfl
  subst hl
  have hn := hnx.resolve_right (by simp [xTerm])
  obtain ⟨x, y, r, rfl, h⟩ := xJ2_inv h
  exact o_lor C hp hn (hk _ h).1
theorem st_lcmp (C : xCtx p R s m args c own cc nL d J A)  (hp : decode cc (ps.getD pc 0) = .ok (i, len)) (hlen : xLenOk i len = true) (hck : xChk1 own ini ret ps (ps.getD pc 0) i (.lcmp) = true) (hnx : ps.getD (pc + 1) 0 = ps.getD pc 0 + len ∨ xTerm (.lcmp) = true) (hk : ∀ S, k S → xRd (p, l, e, R, s, m, args, below, meth, c) J A Z nL c0 s0 ps S ∧ S.2.2.2.2.2.2.1 ≤ c0 + R.cells ∧ S.2.2.2.2.2.2.2 ≤ s0 + R.slots) (h : xGo call k Q (xNext d (.lcmp) pc L st M)) : xRd (p, l, e, R, s, m, args, below, meth, c) J A Z nL c0 s0 ps (pc, L, st, M) := by
  have hi : i = .lcmp := xBq_lcmp hck
  subst hi
  have hl := xLen_eq hlen rfl
  subst hl
  have hn := hnx.resolve_right (by simp [xTerm])
  obtain ⟨x, y, r, rfl, h⟩ := xJ2_inv h
  exact o_lcmp C hp hn (hk _ h).1
theorem st_ldiv (C : xCtx p R s m args c own cc nL d J A)  (hp : decode cc (ps.getD pc 0) = .ok (i, len)) (hlen : xLenOk i len = true) (hck : xChk1 own ini ret ps (ps.getD pc 0) i (.ldiv) = true) (hnx : ps.getD (pc + 1) 0 = ps.getD pc 0 + len ∨ xTerm (.ldiv) = true) (hk : ∀ S, k S → xRd (p, l, e, R, s, m, args, below, meth, c) J A Z nL c0 s0 ps S ∧ S.2.2.2.2.2.2.1 ≤ c0 + R.cells ∧ S.2.2.2.2.2.2.2 ≤ s0 + R.slots) (h : xGo call k Q (xNext d (.ldiv) pc L st M)) : xRd (p, l, e, R, s, m, args, below, meth, c) J A Z nL c0 s0 ps (pc, L, st, M) := by
  have hi : i = .ldiv := xBq_ldiv hck
  subst hi
  have hl := xLen_eq hlen rfl
  subst hl
  have hn := hnx.resolve_right (by simp [xTerm])
  obtain ⟨x, y, r, rfl, h⟩ := xJ2_inv h
  exact o_ldiv C hp hn h.1 (hk _ h.2).1
theorem st_lrem (C : xCtx p R s m args c own cc nL d J A)  (hp : decode cc (ps.getD pc 0) = .ok (i, len)) (hlen : xLenOk i len = true) (hck : xChk1 own ini ret ps (ps.getD pc 0) i (.lrem) = true) (hnx : ps.getD (pc + 1) 0 = ps.getD pc 0 + len ∨ xTerm (.lrem) = true) (hk : ∀ S, k S → xRd (p, l, e, R, s, m, args, below, meth, c) J A Z nL c0 s0 ps S ∧ S.2.2.2.2.2.2.1 ≤ c0 + R.cells ∧ S.2.2.2.2.2.2.2 ≤ s0 + R.slots) (h : xGo call k Q (xNext d (.lrem) pc L st M)) : xRd (p, l, e, R, s, m, args, below, meth, c) J A Z nL c0 s0 ps (pc, L, st, M) := by
  have hi : i = .lrem := xBq_lrem hck
  subst hi
  have hl := xLen_eq hlen rfl
  subst hl
  have hn := hnx.resolve_right (by simp [xTerm])
  obtain ⟨x, y, r, rfl, h⟩ := xJ2_inv h
  exact o_lrem C hp hn h.1 (hk _ h.2).1
theorem st_lshl (C : xCtx p R s m args c own cc nL d J A)  (hp : decode cc (ps.getD pc 0) = .ok (i, len)) (hlen : xLenOk i len = true) (hck : xChk1 own ini ret ps (ps.getD pc 0) i (.lshl) = true) (hnx : ps.getD (pc + 1) 0 = ps.getD pc 0 + len ∨ xTerm (.lshl) = true) (hk : ∀ S, k S → xRd (p, l, e, R, s, m, args, below, meth, c) J A Z nL c0 s0 ps S ∧ S.2.2.2.2.2.2.1 ≤ c0 + R.cells ∧ S.2.2.2.2.2.2.2 ≤ s0 + R.slots) (h : xGo call k Q (xNext d (.lshl) pc L st M)) : xRd (p, l, e, R, s, m, args, below, meth, c) J A Z nL c0 s0 ps (pc, L, st, M) := by
  have hi : i = .lshl := xBq_lshl hck
  subst hi
  have hl := xLen_eq hlen rfl
  subst hl
  have hn := hnx.resolve_right (by simp [xTerm])
  obtain ⟨x, y, r, rfl, h⟩ := xJi_inv h
  exact o_lshl C hp hn (hk _ h).1
theorem st_lshr (C : xCtx p R s m args c own cc nL d J A)  (hp : decode cc (ps.getD pc 0) = .ok (i, len)) (hlen : xLenOk i len = true) (hck : xChk1 own ini ret ps (ps.getD pc 0) i (.lshr) = true) (hnx : ps.getD (pc + 1) 0 = ps.getD pc 0 + len ∨ xTerm (.lshr) = true) (hk : ∀ S, k S → xRd (p, l, e, R, s, m, args, below, meth, c) J A Z nL c0 s0 ps S ∧ S.2.2.2.2.2.2.1 ≤ c0 + R.cells ∧ S.2.2.2.2.2.2.2 ≤ s0 + R.slots) (h : xGo call k Q (xNext d (.lshr) pc L st M)) : xRd (p, l, e, R, s, m, args, below, meth, c) J A Z nL c0 s0 ps (pc, L, st, M) := by
  have hi : i = .lshr := xBq_lshr hck
  subst hi
  have hl := xLen_eq hlen rfl
  subst hl
  have hn := hnx.resolve_right (by simp [xTerm])
  obtain ⟨x, y, r, rfl, h⟩ := xJi_inv h
  exact o_lshr C hp hn (hk _ h).1
theorem st_dup (C : xCtx p R s m args c own cc nL d J A)  (hp : decode cc (ps.getD pc 0) = .ok (i, len)) (hlen : xLenOk i len = true) (hck : xChk1 own ini ret ps (ps.getD pc 0) i (.dup) = true) (hnx : ps.getD (pc + 1) 0 = ps.getD pc 0 + len ∨ xTerm (.dup) = true) (hk : ∀ S, k S → xRd (p, l, e, R, s, m, args, below, meth, c) J A Z nL c0 s0 ps S ∧ S.2.2.2.2.2.2.1 ≤ c0 + R.cells ∧ S.2.2.2.2.2.2.2 ≤ s0 + R.slots) (h : xGo call k Q (xNext d (.dup) pc L st M)) : xRd (p, l, e, R, s, m, args, below, meth, c) J A Z nL c0 s0 ps (pc, L, st, M) := by
  have hi : i = .dup := xBq_dup hck
  subst hi
  have hl := xLen_eq hlen rfl
  subst hl
  have hn := hnx.resolve_right (by simp [xTerm])
  simp only [xNext] at h
  split at h
  · exact o_dup_0 C hp hn (hk _ h).1
  · exact o_dup_2 C hp hn (hk _ h).1
  · exact absurd h.1 id
theorem st_pop (C : xCtx p R s m args c own cc nL d J A)  (hp : decode cc (ps.getD pc 0) = .ok (i, len)) (hlen : xLenOk i len = true) (hck : xChk1 own ini ret ps (ps.getD pc 0) i (.pop) = true) (hnx : ps.getD (pc + 1) 0 = ps.getD pc 0 + len ∨ xTerm (.pop) = true) (hk : ∀ S, k S → xRd (p, l, e, R, s, m, args, below, meth, c) J A Z nL c0 s0 ps S ∧ S.2.2.2.2.2.2.1 ≤ c0 + R.cells ∧ S.2.2.2.2.2.2.2 ≤ s0 + R.slots) (h : xGo call k Q (xNext d (.pop) pc L st M)) : xRd (p, l, e, R, s, m, args, below, meth, c) J A Z nL c0 s0 ps (pc, L, st, M) := by
  have hi : i = .pop := xBq_pop hck
  subst hi
  have hl := xLen_eq hlen rfl
  subst hl
  have hn := hnx.resolve_right (by simp [xTerm])
  simp only [xNext] at h
  split at h
  · exact o_pop_0 C hp hn (hk _ h).1
  · exact o_pop_2 C hp hn (hk _ h).1
  · exact absurd h.1 id
theorem st_dup2 (C : xCtx p R s m args c own cc nL d J A)  (hp : decode cc (ps.getD pc 0) = .ok (i, len)) (hlen : xLenOk i len = true) (hck : xChk1 own ini ret ps (ps.getD pc 0) i (.dup2) = true) (hnx : ps.getD (pc + 1) 0 = ps.getD pc 0 + len ∨ xTerm (.dup2) = true) (hk : ∀ S, k S → xRd (p, l, e, R, s, m, args, below, meth, c) J A Z nL c0 s0 ps S ∧ S.2.2.2.2.2.2.1 ≤ c0 + R.cells ∧ S.2.2.2.2.2.2.2 ≤ s0 + R.slots) (h : xGo call k Q (xNext d (.dup2) pc L st M)) : xRd (p, l, e, R, s, m, args, below, meth, c) J A Z nL c0 s0 ps (pc, L, st, M) := by
  have hi : i = .dup2 := xBq_dup2 hck
  subst hi
  have hl := xLen_eq hlen rfl
  subst hl
  have hn := hnx.resolve_right (by simp [xTerm])
  obtain ⟨a, i, r, rfl, h⟩ := xA2_inv h
  exact o_dup2 C hp hn (hk _ h).1
theorem st_iload (C : xCtx p R s m args c own cc nL d J A) {n : Nat}  (hp : decode cc (ps.getD pc 0) = .ok (i, len)) (hlen : xLenOk i len = true) (hck : xChk1 own ini ret ps (ps.getD pc 0) i (.iload n) = true) (hnx : ps.getD (pc + 1) 0 = ps.getD pc 0 + len ∨ xTerm (.iload n) = true) (hk : ∀ S, k S → xRd (p, l, e, R, s, m, args, below, meth, c) J A Z nL c0 s0 ps S ∧ S.2.2.2.2.2.2.1 ≤ c0 + R.cells ∧ S.2.2.2.2.2.2.2 ≤ s0 + R.slots) (h : xGo call k Q (xNext d (.iload n) pc L st M)) : xRd (p, l, e, R, s, m, args, below, meth, c) J A Z nL c0 s0 ps (pc, L, st, M) := by
  have hn := hnx.resolve_right (by simp [xTerm])
  simp only [xChk1] at hck
  simp only [xNext] at h
  obtain ⟨x, hx, g⟩ := xLo_inv (t := 0) (by decide) h
  clear h
  split at hck
  · have e := eq_of_beq hck
    subst e
    have hl := xLen_eq hlen rfl
    subst hl
    exact o_iload C hp hn hx (hk _ g).1
  · have e := eq_of_beq hck
    have hl := xLen_eq hlen rfl
    subst hl
    exact o_iload_n C e hp hn hx (hk _ g).1
  · cases hck
theorem st_lload (C : xCtx p R s m args c own cc nL d J A) {n : Nat}  (hp : decode cc (ps.getD pc 0) = .ok (i, len)) (hlen : xLenOk i len = true) (hck : xChk1 own ini ret ps (ps.getD pc 0) i (.lload n) = true) (hnx : ps.getD (pc + 1) 0 = ps.getD pc 0 + len ∨ xTerm (.lload n) = true) (hk : ∀ S, k S → xRd (p, l, e, R, s, m, args, below, meth, c) J A Z nL c0 s0 ps S ∧ S.2.2.2.2.2.2.1 ≤ c0 + R.cells ∧ S.2.2.2.2.2.2.2 ≤ s0 + R.slots) (h : xGo call k Q (xNext d (.lload n) pc L st M)) : xRd (p, l, e, R, s, m, args, below, meth, c) J A Z nL c0 s0 ps (pc, L, st, M) := by
  have hn := hnx.resolve_right (by simp [xTerm])
  simp only [xChk1] at hck
  simp only [xNext] at h
  obtain ⟨x, hx, g⟩ := xLo_inv (t := 1) (by decide) h
  clear h
  split at hck
  · have e := eq_of_beq hck
    subst e
    have hl := xLen_eq hlen rfl
    subst hl
    exact o_lload C hp hn hx (hk _ g).1
  · have e := eq_of_beq hck
    have hl := xLen_eq hlen rfl
    subst hl
    exact o_lload_n C e hp hn hx (hk _ g).1
  · cases hck
theorem st_aload (C : xCtx p R s m args c own cc nL d J A) {n : Nat}  (hp : decode cc (ps.getD pc 0) = .ok (i, len)) (hlen : xLenOk i len = true) (hck : xChk1 own ini ret ps (ps.getD pc 0) i (.aload n) = true) (hnx : ps.getD (pc + 1) 0 = ps.getD pc 0 + len ∨ xTerm (.aload n) = true) (hk : ∀ S, k S → xRd (p, l, e, R, s, m, args, below, meth, c) J A Z nL c0 s0 ps S ∧ S.2.2.2.2.2.2.1 ≤ c0 + R.cells ∧ S.2.2.2.2.2.2.2 ≤ s0 + R.slots) (h : xGo call k Q (xNext d (.aload n) pc L st M)) : xRd (p, l, e, R, s, m, args, below, meth, c) J A Z nL c0 s0 ps (pc, L, st, M) := by
  have hn := hnx.resolve_right (by simp [xTerm])
  simp only [xChk1] at hck
  simp only [xNext] at h
  obtain ⟨x, hx, g⟩ := xLo_inv (t := 2) (by decide) h
  clear h
  split at hck
  · have e := eq_of_beq hck
    subst e
    have hl := xLen_eq hlen rfl
    subst hl
    exact o_aload C hp hn hx (hk _ g).1
  · have e := eq_of_beq hck
    have hl := xLen_eq hlen rfl
    subst hl
    exact o_aload_n C e hp hn hx (hk _ g).1
  · cases hck
theorem st_istore (C : xCtx p R s m args c own cc nL d J A) {n : Nat}  (hp : decode cc (ps.getD pc 0) = .ok (i, len)) (hlen : xLenOk i len = true) (hck : xChk1 own ini ret ps (ps.getD pc 0) i (.istore n) = true) (hnx : ps.getD (pc + 1) 0 = ps.getD pc 0 + len ∨ xTerm (.istore n) = true) (hk : ∀ S, k S → xRd (p, l, e, R, s, m, args, below, meth, c) J A Z nL c0 s0 ps S ∧ S.2.2.2.2.2.2.1 ≤ c0 + R.cells ∧ S.2.2.2.2.2.2.2 ≤ s0 + R.slots) (h : xGo call k Q (xNext d (.istore n) pc L st M)) : xRd (p, l, e, R, s, m, args, below, meth, c) J A Z nL c0 s0 ps (pc, L, st, M) := by
  have hn := hnx.resolve_right (by simp [xTerm])
  simp only [xChk1] at hck
  obtain ⟨x, r, rfl, h⟩ := xB1_inv h
  obtain ⟨hb, h⟩ := xIf_inv h
  have hb := xBlt hb
  split at hck
  · have e := eq_of_beq hck
    subst e
    have hl := xLen_eq hlen rfl
    subst hl
    exact o_istore C hp hn hb (hk _ h).1
  · have e := eq_of_beq hck
    have hl := xLen_eq hlen rfl
    subst hl
    exact o_istore_n C e hp hn hb (hk _ h).1
  · cases hck
theorem st_lstore (C : xCtx p R s m args c own cc nL d J A) {n : Nat}  (hp : decode cc (ps.getD pc 0) = .ok (i, len)) (hlen : xLenOk i len = true) (hck : xChk1 own ini ret ps (ps.getD pc 0) i (.lstore n) = true) (hnx : ps.getD (pc + 1) 0 = ps.getD pc 0 + len ∨ xTerm (.lstore n) = true) (hk : ∀ S, k S → xRd (p, l, e, R, s, m, args, below, meth, c) J A Z nL c0 s0 ps S ∧ S.2.2.2.2.2.2.1 ≤ c0 + R.cells ∧ S.2.2.2.2.2.2.2 ≤ s0 + R.slots) (h : xGo call k Q (xNext d (.lstore n) pc L st M)) : xRd (p, l, e, R, s, m, args, below, meth, c) J A Z nL c0 s0 ps (pc, L, st, M) := by
  have hn := hnx.resolve_right (by simp [xTerm])
  simp only [xChk1] at hck
  obtain ⟨x, r, rfl, h⟩ := xJ1_inv h
  obtain ⟨hb, h⟩ := xIf_inv h
  have hb := xBlt hb
  split at hck
  · have e := eq_of_beq hck
    subst e
    have hl := xLen_eq hlen rfl
    subst hl
    exact o_lstore C hp hn hb (hk _ h).1
  · have e := eq_of_beq hck
    have hl := xLen_eq hlen rfl
    subst hl
    exact o_lstore_n C e hp hn hb (hk _ h).1
  · cases hck
theorem st_astore (C : xCtx p R s m args c own cc nL d J A) {n : Nat}  (hp : decode cc (ps.getD pc 0) = .ok (i, len)) (hlen : xLenOk i len = true) (hck : xChk1 own ini ret ps (ps.getD pc 0) i (.astore n) = true) (hnx : ps.getD (pc + 1) 0 = ps.getD pc 0 + len ∨ xTerm (.astore n) = true) (hk : ∀ S, k S → xRd (p, l, e, R, s, m, args, below, meth, c) J A Z nL c0 s0 ps S ∧ S.2.2.2.2.2.2.1 ≤ c0 + R.cells ∧ S.2.2.2.2.2.2.2 ≤ s0 + R.slots) (h : xGo call k Q (xNext d (.astore n) pc L st M)) : xRd (p, l, e, R, s, m, args, below, meth, c) J A Z nL c0 s0 ps (pc, L, st, M) := by
  have hn := hnx.resolve_right (by simp [xTerm])
  simp only [xChk1] at hck
  obtain ⟨x, r, rfl, h⟩ := xR1_inv h
  obtain ⟨hb, h⟩ := xIf_inv h
  have hb := xBlt hb
  split at hck
  · have e := eq_of_beq hck
    subst e
    have hl := xLen_eq hlen rfl
    subst hl
    exact o_astore C hp hn h.1 hb (hk _ h.2).1
  · have e := eq_of_beq hck
    have hl := xLen_eq hlen rfl
    subst hl
    exact o_astore_n C e hp hn h.1 hb (hk _ h.2).1
  · cases hck
theorem st_iinc (C : xCtx p R s m args c own cc nL d J A) {n : Nat} {q : Int}  (hp : decode cc (ps.getD pc 0) = .ok (i, len)) (hlen : xLenOk i len = true) (hck : xChk1 own ini ret ps (ps.getD pc 0) i (.iinc n q) = true) (hnx : ps.getD (pc + 1) 0 = ps.getD pc 0 + len ∨ xTerm (.iinc n q) = true) (hk : ∀ S, k S → xRd (p, l, e, R, s, m, args, below, meth, c) J A Z nL c0 s0 ps S ∧ S.2.2.2.2.2.2.1 ≤ c0 + R.cells ∧ S.2.2.2.2.2.2.2 ≤ s0 + R.slots) (h : xGo call k Q (xNext d (.iinc n q) pc L st M)) : xRd (p, l, e, R, s, m, args, below, meth, c) J A Z nL c0 s0 ps (pc, L, st, M) := by
  have hn := hnx.resolve_right (by simp [xTerm])
  simp only [xChk1, Bool.and_eq_true] at hck
  obtain ⟨hck, h32⟩ := hck
  simp only [xNext] at h
  obtain ⟨x, hx, h⟩ := xLo_inv (t := 0) (by decide) h
  obtain ⟨hb, h⟩ := xIf_inv h
  split at hck
  · simp only [Bool.and_eq_true, beq_iff_eq] at hck
    obtain ⟨e1, e2⟩ := hck
    subst e1
    subst e2
    simp only [xLenOk, Bool.or_eq_true, beq_iff_eq] at hlen
    rcases hlen with rfl | rfl
    · exact o_iinc C hp hn (xIn32_ok h32) hx (hk _ h).1
    · exact o_iincW C hp hn (xIn32_ok h32) hx (hk _ h).1
  · cases hck
theorem st_iconst (C : xCtx p R s m args c own cc nL d J A) {v : Int}  (hp : decode cc (ps.getD pc 0) = .ok (i, len)) (hlen : xLenOk i len = true) (hck : xChk1 own ini ret ps (ps.getD pc 0) i (.iconst v) = true) (hnx : ps.getD (pc + 1) 0 = ps.getD pc 0 + len ∨ xTerm (.iconst v) = true) (hk : ∀ S, k S → xRd (p, l, e, R, s, m, args, below, meth, c) J A Z nL c0 s0 ps S ∧ S.2.2.2.2.2.2.1 ≤ c0 + R.cells ∧ S.2.2.2.2.2.2.2 ≤ s0 + R.slots) (h : xGo call k Q (xNext d (.iconst v) pc L st M)) : xRd (p, l, e, R, s, m, args, below, meth, c) J A Z nL c0 s0 ps (pc, L, st, M) := by
  have hn := hnx.resolve_right (by simp [xTerm])
  simp only [xChk1, Bool.and_eq_true] at hck
  obtain ⟨h32, hck⟩ := hck
  have hi := xIn32_ok h32
  split at hck
  · have e := eq_of_beq hck
    subst e
    have hl := xLen_eq hlen rfl
    subst hl
    exact o_iconst C hi hp hn (hk _ h).1
  · simp only [Bool.and_eq_true, beq_iff_eq, decide_eq_true_eq] at hck
    obtain ⟨⟨e, e1⟩, e2⟩ := hck
    subst e
    have hl := xLen_eq hlen rfl
    subst hl
    exact o_bipush C ⟨e1, e2⟩ hp hn (hk _ h).1
  · simp only [Bool.and_eq_true, beq_iff_eq, decide_eq_true_eq] at hck
    obtain ⟨⟨e, e1⟩, e2⟩ := hck
    subst e
    have hl := xLen_eq hlen rfl
    subst hl
    exact o_sipush C ⟨e1, e2⟩ hp hn (hk _ h).1
  · have hl := xLen_eq hlen rfl
    subst hl
    exact o_ldc C hi (xGw_of (xKi_ok _ (List.contains_iff_mem.mp hck)) rfl) hp hn (hk _ h).1
  · have hl := xLen_eq hlen rfl
    subst hl
    exact o_ldcw C hi (xGw_of (xKi_ok _ (List.contains_iff_mem.mp hck)) rfl) hp hn (hk _ h).1
  · cases hck
theorem st_jsr (C : xCtx p R s m args c own cc nL d J A) {v : Int}  (hp : decode cc (ps.getD pc 0) = .ok (i, len)) (hlen : xLenOk i len = true) (hck : xChk1 own ini ret ps (ps.getD pc 0) i (.jsr v) = true) (hnx : ps.getD (pc + 1) 0 = ps.getD pc 0 + len ∨ xTerm (.jsr v) = true) (hk : ∀ S, k S → xRd (p, l, e, R, s, m, args, below, meth, c) J A Z nL c0 s0 ps S ∧ S.2.2.2.2.2.2.1 ≤ c0 + R.cells ∧ S.2.2.2.2.2.2.2 ≤ s0 + R.slots) (h : xGo call k Q (xNext d (.jsr v) pc L st M)) : xRd (p, l, e, R, s, m, args, below, meth, c) J A Z nL c0 s0 ps (pc, L, st, M) := by
  have hn := hnx.resolve_right (by simp [xTerm])
  simp only [xChk1, Bool.and_eq_true] at hck
  obtain ⟨h64, hck⟩ := hck
  have hi := xIn64_ok h64
  split at hck
  · have e := eq_of_beq hck
    subst e
    have hl := xLen_eq hlen rfl
    subst hl
    exact o_lconst C hp hn (hk _ h).1
  · have hl := xLen_eq hlen rfl
    subst hl
    exact o_ldc2 C hi (xGw_of (xKl_ok _ (List.contains_iff_mem.mp hck)) rfl) hp hn (hk _ h).1
  · cases hck
theorem st_ldc (C : xCtx p R s m args c own cc nL d J A) {j : Nat}  (hp : decode cc (ps.getD pc 0) = .ok (i, len)) (hlen : xLenOk i len = true) (hck : xChk1 own ini ret ps (ps.getD pc 0) i (.ldc j) = true) (hnx : ps.getD (pc + 1) 0 = ps.getD pc 0 + len ∨ xTerm (.ldc j) = true) (hk : ∀ S, k S → xRd (p, l, e, R, s, m, args, below, meth, c) J A Z nL c0 s0 ps S ∧ S.2.2.2.2.2.2.1 ≤ c0 + R.cells ∧ S.2.2.2.2.2.2.2 ≤ s0 + R.slots) (h : xGo call k Q (xNext d (.ldc j) pc L st M)) : xRd (p, l, e, R, s, m, args, below, meth, c) J A Z nL c0 s0 ps (pc, L, st, M) := by
  have hn := hnx.resolve_right (by simp [xTerm])
  simp only [xChk1] at hck
  split at hck
  · have hl := xLen_eq hlen rfl
    subst hl
    exact o_ldcS C (List.contains_iff_mem.mp hck) hp hn (hk _ h).1
  · have hl := xLen_eq hlen rfl
    subst hl
    exact o_ldcwS C (List.contains_iff_mem.mp hck) hp hn (hk _ h).1
  · cases hck
theorem st_ifCond (C : xCtx p R s m args c own cc nL d J A) {q : ClassFile.Cond} {t : Int}  (hp : decode cc (ps.getD pc 0) = .ok (i, len)) (hlen : xLenOk i len = true) (hck : xChk1 own ini ret ps (ps.getD pc 0) i (.ifCond q t) = true) (hnx : ps.getD (pc + 1) 0 = ps.getD pc 0 + len ∨ xTerm (.ifCond q t) = true) (hk : ∀ S, k S → xRd (p, l, e, R, s, m, args, below, meth, c) J A Z nL c0 s0 ps S ∧ S.2.2.2.2.2.2.1 ≤ c0 + R.cells ∧ S.2.2.2.2.2.2.2 ≤ s0 + R.slots) (h : xGo call k Q (xNext d (.ifCond q t) pc L st M)) : xRd (p, l, e, R, s, m, args, below, meth, c) J A Z nL c0 s0 ps (pc, L, st, M) := by
  have hn := hnx.resolve_right (by simp [xTerm])
  simp only [xChk1] at hck
  obtain ⟨x, r, rfl, h⟩ := xB1_inv h
  split at hck
  · simp only [Bool.and_eq_true] at hck
    obtain ⟨e1, e2⟩ := hck
    have e1 := xBq_cd e1
    subst e1
    have hl := xLen_eq hlen rfl
    subst hl
    exact o_ifCond C hp hn (xJmp_ok e2) (fun z => (hk _ (h.1 z)).1) (fun z => (hk _ (h.2 z)).1)
  · cases hck
theorem st_if_icmp (C : xCtx p R s m args c own cc nL d J A) {q : ClassFile.Cond} {t : Int}  (hp : decode cc (ps.getD pc 0) = .ok (i, len)) (hlen : xLenOk i len = true) (hck : xChk1 own ini ret ps (ps.getD pc 0) i (.if_icmp q t) = true) (hnx : ps.getD (pc + 1) 0 = ps.getD pc 0 + len ∨ xTerm (.if_icmp q t) = true) (hk : ∀ S, k S → xRd (p, l, e, R, s, m, args, below, meth, c) J A Z nL c0 s0 ps S ∧ S.2.2.2.2.2.2.1 ≤ c0 + R.cells ∧ S.2.2.2.2.2.2.2 ≤ s0 + R.slots) (h : xGo call k Q (xNext d (.if_icmp q t) pc L st M)) : xRd (p, l, e, R, s, m, args, below, meth, c) J A Z nL c0 s0 ps (pc, L, st, M) := by
  have hn := hnx.resolve_right (by simp [xTerm])
  simp only [xChk1] at hck
  obtain ⟨x, y, r, rfl, h⟩ := xB2_inv h
  split at hck
  · simp only [Bool.and_eq_true] at hck
    obtain ⟨e1, e2⟩ := hck
    have e1 := xBq_cd e1
    subst e1
    have hl := xLen_eq hlen rfl
    subst hl
    exact o_if_icmp C hp hn (xJmp_ok e2) (fun z => (hk _ (h.1 z)).1) (fun z => (hk _ (h.2 z)).1)
  · cases hck
theorem st_ifnull (C : xCtx p R s m args c own cc nL d J A) {t : Int}  (hp : decode cc (ps.getD pc 0) = .ok (i, len)) (hlen : xLenOk i len = true) (hck : xChk1 own ini ret ps (ps.getD pc 0) i (.ifnull t) = true) (hnx : ps.getD (pc + 1) 0 = ps.getD pc 0 + len ∨ xTerm (.ifnull t) = true) (hk : ∀ S, k S → xRd (p, l, e, R, s, m, args, below, meth, c) J A Z nL c0 s0 ps S ∧ S.2.2.2.2.2.2.1 ≤ c0 + R.cells ∧ S.2.2.2.2.2.2.2 ≤ s0 + R.slots) (h : xGo call k Q (xNext d (.ifnull t) pc L st M)) : xRd (p, l, e, R, s, m, args, below, meth, c) J A Z nL c0 s0 ps (pc, L, st, M) := by
  have hn := hnx.resolve_right (by simp [xTerm])
  simp only [xChk1] at hck
  obtain ⟨x, r, rfl, h⟩ := xR1_inv h
  split at hck
  · have hl := xLen_eq hlen rfl
    subst hl
    exact o_ifnull C hp hn (xJmp_ok hck) (fun z => (hk _ (h.1 z)).1) (fun z => (hk _ (h.2 z)).1)
  · cases hck
theorem st_ifnonnull (C : xCtx p R s m args c own cc nL d J A) {t : Int}  (hp : decode cc (ps.getD pc 0) = .ok (i, len)) (hlen : xLenOk i len = true) (hck : xChk1 own ini ret ps (ps.getD pc 0) i (.ifnonnull t) = true) (hnx : ps.getD (pc + 1) 0 = ps.getD pc 0 + len ∨ xTerm (.ifnonnull t) = true) (hk : ∀ S, k S → xRd (p, l, e, R, s, m, args, below, meth, c) J A Z nL c0 s0 ps S ∧ S.2.2.2.2.2.2.1 ≤ c0 + R.cells ∧ S.2.2.2.2.2.2.2 ≤ s0 + R.slots) (h : xGo call k Q (xNext d (.ifnonnull t) pc L st M)) : xRd (p, l, e, R, s, m, args, below, meth, c) J A Z nL c0 s0 ps (pc, L, st, M) := by
  have hn := hnx.resolve_right (by simp [xTerm])
  simp only [xChk1] at hck
  obtain ⟨x, r, rfl, h⟩ := xR1_inv h
  split at hck
  · have hl := xLen_eq hlen rfl
    subst hl
    exact o_ifnonnull C hp hn (xJmp_ok hck) (fun z => (hk _ (h.1 z)).1) (fun z => (hk _ (h.2 z)).1)
  · cases hck
theorem st_goto (C : xCtx p R s m args c own cc nL d J A) {t : Int}  (hp : decode cc (ps.getD pc 0) = .ok (i, len)) (hlen : xLenOk i len = true) (hck : xChk1 own ini ret ps (ps.getD pc 0) i (.goto t) = true) (hnx : ps.getD (pc + 1) 0 = ps.getD pc 0 + len ∨ xTerm (.goto t) = true) (hk : ∀ S, k S → xRd (p, l, e, R, s, m, args, below, meth, c) J A Z nL c0 s0 ps S ∧ S.2.2.2.2.2.2.1 ≤ c0 + R.cells ∧ S.2.2.2.2.2.2.2 ≤ s0 + R.slots) (h : xGo call k Q (xNext d (.goto t) pc L st M)) : xRd (p, l, e, R, s, m, args, below, meth, c) J A Z nL c0 s0 ps (pc, L, st, M) := by
  simp only [xChk1] at hck
  split at hck
  · have hl := xLen_eq hlen rfl
    subst hl
    exact o_goto C hp (xJmp_ok hck) (hk _ h).1
  · cases hck
theorem st_tableswitch (C : xCtx p R s m args c own cc nL d J A) {t lo hi : Int} {ts : Array Int}  (hp : decode cc (ps.getD pc 0) = .ok (i, len)) (hlen : xLenOk i len = true) (hck : xChk1 own ini ret ps (ps.getD pc 0) i (.tableswitch t lo hi ts) = true) (hnx : ps.getD (pc + 1) 0 = ps.getD pc 0 + len ∨ xTerm (.tableswitch t lo hi ts) = true) (hk : ∀ S, k S → xRd (p, l, e, R, s, m, args, below, meth, c) J A Z nL c0 s0 ps S ∧ S.2.2.2.2.2.2.1 ≤ c0 + R.cells ∧ S.2.2.2.2.2.2.2 ≤ s0 + R.slots) (h : xGo call k Q (xNext d (.tableswitch t lo hi ts) pc L st M)) : xRd (p, l, e, R, s, m, args, below, meth, c) J A Z nL c0 s0 ps (pc, L, st, M) := by
  simp only [xChk1] at hck
  obtain ⟨x, r, rfl, h⟩ := xB1_inv h
  split at hck
  · rename_i dd lo2 hi2 offs
    simp only [Bool.and_eq_true, beq_iff_eq] at hck
    obtain ⟨⟨⟨⟨⟨⟨⟨e1, e2⟩, e3⟩, e4⟩, e5⟩, e6⟩, e7⟩, e8⟩ := hck
    subst e1
    subst e2
    refine o_table (ts := []) C hp (xIn32_ok e4) (xIn32_ok e5) (by rw [e6, e7]) (xJmp_ok e3) (fun j hj hx => ?_) (fun z => (hk _ (h.2 (by rw [List.length_map, Array.length_toList]; omega))).1)
    have h1 : ts.toList[j]? = some (ts[j]'(by omega)) := by rw [Array.getElem?_toList]; exact Array.getElem?_eq_getElem (by omega)
    have h2 : offs.toList[j]? = some (offs[j]'hj) := by rw [Array.getElem?_toList]; exact Array.getElem?_eq_getElem hj
    have hz : (ts.toList.zip offs.toList)[j]? = some (ts[j]'(by omega), offs[j]'hj) := by
      rw [List.getElem?_zip_eq_some]
      exact ⟨h1, h2⟩
    have hq := List.all_eq_true.mp e8 _ (List.mem_of_getElem? hz)
    have hm : (ts.toList.map fun u => (u.toNat, L, r, M))[j]? = some ((ts[j]'(by omega)).toNat, L, r, M) := by
      rw [List.getElem?_map, h1]; rfl
    exact ⟨_, _, Array.getElem?_eq_getElem hj, xJmp_ok hq, (hk _ (xSw_get _ _ hm hx h.1)).1⟩
  · cases hck
theorem st_iaload (C : xCtx p R s m args c own cc nL d J A)  (hp : decode cc (ps.getD pc 0) = .ok (i, len)) (hlen : xLenOk i len = true) (hck : xChk1 own ini ret ps (ps.getD pc 0) i (.iaload) = true) (hnx : ps.getD (pc + 1) 0 = ps.getD pc 0 + len ∨ xTerm (.iaload) = true) (hk : ∀ S, k S → xRd (p, l, e, R, s, m, args, below, meth, c) J A Z nL c0 s0 ps S ∧ S.2.2.2.2.2.2.1 ≤ c0 + R.cells ∧ S.2.2.2.2.2.2.2 ≤ s0 + R.slots) (h : xGo call k Q (xNext d (.iaload) pc L st M)) : xRd (p, l, e, R, s, m, args, below, meth, c) J A Z nL c0 s0 ps (pc, L, st, M) := by
  have hi : i = .iaload := xBq_iaload hck
  subst hi
  have hl := xLen_eq hlen rfl
  subst hl
  have hn := hnx.resolve_right (by simp [xTerm])
  obtain ⟨a, i, r, rfl, h⟩ := xA2_inv h
  exact o_iaload C hp hn h.1.1 h.1.2.1 h.1.2.2 (hk _ h.2).1
theorem st_laload (C : xCtx p R s m args c own cc nL d J A)  (hp : decode cc (ps.getD pc 0) = .ok (i, len)) (hlen : xLenOk i len = true) (hck : xChk1 own ini ret ps (ps.getD pc 0) i (.laload) = true) (hnx : ps.getD (pc + 1) 0 = ps.getD pc 0 + len ∨ xTerm (.laload) = true) (hk : ∀ S, k S → xRd (p, l, e, R, s, m, args, below, meth, c) J A Z nL c0 s0 ps S ∧ S.2.2.2.2.2.2.1 ≤ c0 + R.cells ∧ S.2.2.2.2.2.2.2 ≤ s0 + R.slots) (h : xGo call k Q (xNext d (.laload) pc L st M)) : xRd (p, l, e, R, s, m, args, below, meth, c) J A Z nL c0 s0 ps (pc, L, st, M) := by
  have hi : i = .laload := xBq_laload hck
  subst hi
  have hl := xLen_eq hlen rfl
  subst hl
  have hn := hnx.resolve_right (by simp [xTerm])
  obtain ⟨a, i, r, rfl, h⟩ := xA2_inv h
  exact o_laload C hp hn h.1.1 h.1.2.1 h.1.2.2 (hk _ h.2).1
theorem st_aaload (C : xCtx p R s m args c own cc nL d J A)  (hp : decode cc (ps.getD pc 0) = .ok (i, len)) (hlen : xLenOk i len = true) (hck : xChk1 own ini ret ps (ps.getD pc 0) i (.aaload) = true) (hnx : ps.getD (pc + 1) 0 = ps.getD pc 0 + len ∨ xTerm (.aaload) = true) (hk : ∀ S, k S → xRd (p, l, e, R, s, m, args, below, meth, c) J A Z nL c0 s0 ps S ∧ S.2.2.2.2.2.2.1 ≤ c0 + R.cells ∧ S.2.2.2.2.2.2.2 ≤ s0 + R.slots) (h : xGo call k Q (xNext d (.aaload) pc L st M)) : xRd (p, l, e, R, s, m, args, below, meth, c) J A Z nL c0 s0 ps (pc, L, st, M) := by
  have hi : i = .aaload := xBq_aaload hck
  subst hi
  have hl := xLen_eq hlen rfl
  subst hl
  have hn := hnx.resolve_right (by simp [xTerm])
  obtain ⟨a, i, r, rfl, h⟩ := xA2_inv h
  exact o_aaload C hp hn h.1.1 h.1.2.1 h.1.2.2 (hk _ h.2).1
theorem st_baload (C : xCtx p R s m args c own cc nL d J A)  (hp : decode cc (ps.getD pc 0) = .ok (i, len)) (hlen : xLenOk i len = true) (hck : xChk1 own ini ret ps (ps.getD pc 0) i (.baload) = true) (hnx : ps.getD (pc + 1) 0 = ps.getD pc 0 + len ∨ xTerm (.baload) = true) (hk : ∀ S, k S → xRd (p, l, e, R, s, m, args, below, meth, c) J A Z nL c0 s0 ps S ∧ S.2.2.2.2.2.2.1 ≤ c0 + R.cells ∧ S.2.2.2.2.2.2.2 ≤ s0 + R.slots) (h : xGo call k Q (xNext d (.baload) pc L st M)) : xRd (p, l, e, R, s, m, args, below, meth, c) J A Z nL c0 s0 ps (pc, L, st, M) := by
  have hn := hnx.resolve_right (by simp [xTerm])
  simp only [xChk1] at hck
  split at hck
  · have hl := xLen_eq hlen rfl
    subst hl
    obtain ⟨a, i, r, rfl, h⟩ := xA2_inv h
    exact o_baload C hp hn h.1.1 h.1.2.1 h.1.2.2 (hk _ h.2).1
  · cases hck
theorem st_caload (C : xCtx p R s m args c own cc nL d J A)  (hp : decode cc (ps.getD pc 0) = .ok (i, len)) (hlen : xLenOk i len = true) (hck : xChk1 own ini ret ps (ps.getD pc 0) i (.caload) = true) (hnx : ps.getD (pc + 1) 0 = ps.getD pc 0 + len ∨ xTerm (.caload) = true) (hk : ∀ S, k S → xRd (p, l, e, R, s, m, args, below, meth, c) J A Z nL c0 s0 ps S ∧ S.2.2.2.2.2.2.1 ≤ c0 + R.cells ∧ S.2.2.2.2.2.2.2 ≤ s0 + R.slots) (h : xGo call k Q (xNext d (.caload) pc L st M)) : xRd (p, l, e, R, s, m, args, below, meth, c) J A Z nL c0 s0 ps (pc, L, st, M) := by
  have hn := hnx.resolve_right (by simp [xTerm])
  simp only [xChk1] at hck
  split at hck
  · have hl := xLen_eq hlen rfl
    subst hl
    obtain ⟨a, i, r, rfl, h⟩ := xA2_inv h
    exact o_caload C hp hn h.1.1 h.1.2.1 h.1.2.2 (hk _ h.2).1
  · cases hck
theorem st_iastore (C : xCtx p R s m args c own cc nL d J A)  (hp : decode cc (ps.getD pc 0) = .ok (i, len)) (hlen : xLenOk i len = true) (hck : xChk1 own ini ret ps (ps.getD pc 0) i (.iastore) = true) (hnx : ps.getD (pc + 1) 0 = ps.getD pc 0 + len ∨ xTerm (.iastore) = true) (hk : ∀ S, k S → xRd (p, l, e, R, s, m, args, below, meth, c) J A Z nL c0 s0 ps S ∧ S.2.2.2.2.2.2.1 ≤ c0 + R.cells ∧ S.2.2.2.2.2.2.2 ≤ s0 + R.slots) (h : xGo call k Q (xNext d (.iastore) pc L st M)) : xRd (p, l, e, R, s, m, args, below, meth, c) J A Z nL c0 s0 ps (pc, L, st, M) := by
  have hi : i = .iastore := xBq_iastore hck
  subst hi
  have hl := xLen_eq hlen rfl
  subst hl
  have hn := hnx.resolve_right (by simp [xTerm])
  obtain ⟨a, i, x, r, rfl, h⟩ := xA3_inv h
  exact o_iastore C hp hn h.1.1 h.1.2.1 h.1.2.2.1 h.1.2.2.2 (hk _ h.2).1
theorem st_lastore (C : xCtx p R s m args c own cc nL d J A)  (hp : decode cc (ps.getD pc 0) = .ok (i, len)) (hlen : xLenOk i len = true) (hck : xChk1 own ini ret ps (ps.getD pc 0) i (.lastore) = true) (hnx : ps.getD (pc + 1) 0 = ps.getD pc 0 + len ∨ xTerm (.lastore) = true) (hk : ∀ S, k S → xRd (p, l, e, R, s, m, args, below, meth, c) J A Z nL c0 s0 ps S ∧ S.2.2.2.2.2.2.1 ≤ c0 + R.cells ∧ S.2.2.2.2.2.2.2 ≤ s0 + R.slots) (h : xGo call k Q (xNext d (.lastore) pc L st M)) : xRd (p, l, e, R, s, m, args, below, meth, c) J A Z nL c0 s0 ps (pc, L, st, M) := by
  have hi : i = .lastore := xBq_lastore hck
  subst hi
  have hl := xLen_eq hlen rfl
  subst hl
  have hn := hnx.resolve_right (by simp [xTerm])
  obtain ⟨a, i, x, r, rfl, h⟩ := xA3_inv h
  exact o_lastore C hp hn h.1.1 h.1.2.1 h.1.2.2.1 h.1.2.2.2 (hk _ h.2).1
theorem st_bastore (C : xCtx p R s m args c own cc nL d J A)  (hp : decode cc (ps.getD pc 0) = .ok (i, len)) (hlen : xLenOk i len = true) (hck : xChk1 own ini ret ps (ps.getD pc 0) i (.bastore) = true) (hnx : ps.getD (pc + 1) 0 = ps.getD pc 0 + len ∨ xTerm (.bastore) = true) (hk : ∀ S, k S → xRd (p, l, e, R, s, m, args, below, meth, c) J A Z nL c0 s0 ps S ∧ S.2.2.2.2.2.2.1 ≤ c0 + R.cells ∧ S.2.2.2.2.2.2.2 ≤ s0 + R.slots) (h : xGo call k Q (xNext d (.bastore) pc L st M)) : xRd (p, l, e, R, s, m, args, below, meth, c) J A Z nL c0 s0 ps (pc, L, st, M) := by
  have hn := hnx.resolve_right (by simp [xTerm])
  simp only [xChk1] at hck
  split at hck
  · have hl := xLen_eq hlen rfl
    subst hl
    obtain ⟨a, i, x, r, rfl, h⟩ := xA3_inv h
    exact o_bastore C hp hn h.1.1 h.1.2.1 h.1.2.2.1 h.1.2.2.2 (hk _ h.2).1
  · cases hck
theorem st_castore (C : xCtx p R s m args c own cc nL d J A)  (hp : decode cc (ps.getD pc 0) = .ok (i, len)) (hlen : xLenOk i len = true) (hck : xChk1 own ini ret ps (ps.getD pc 0) i (.castore) = true) (hnx : ps.getD (pc + 1) 0 = ps.getD pc 0 + len ∨ xTerm (.castore) = true) (hk : ∀ S, k S → xRd (p, l, e, R, s, m, args, below, meth, c) J A Z nL c0 s0 ps S ∧ S.2.2.2.2.2.2.1 ≤ c0 + R.cells ∧ S.2.2.2.2.2.2.2 ≤ s0 + R.slots) (h : xGo call k Q (xNext d (.castore) pc L st M)) : xRd (p, l, e, R, s, m, args, below, meth, c) J A Z nL c0 s0 ps (pc, L, st, M) := by
  have hn := hnx.resolve_right (by simp [xTerm])
  simp only [xChk1] at hck
  split at hck
  · have hl := xLen_eq hlen rfl
    subst hl
    obtain ⟨a, i, x, r, rfl, h⟩ := xA3_inv h
    exact o_castore C hp hn h.1.1 h.1.2.1 h.1.2.2.1 h.1.2.2.2.1 h.1.2.2.2.2 (hk _ h.2).1
  · cases hck
theorem st_aastore (C : xCtx p R s m args c own cc nL d J A)  (hp : decode cc (ps.getD pc 0) = .ok (i, len)) (hlen : xLenOk i len = true) (hck : xChk1 own ini ret ps (ps.getD pc 0) i (.aastore) = true) (hnx : ps.getD (pc + 1) 0 = ps.getD pc 0 + len ∨ xTerm (.aastore) = true) (hk : ∀ S, k S → xRd (p, l, e, R, s, m, args, below, meth, c) J A Z nL c0 s0 ps S ∧ S.2.2.2.2.2.2.1 ≤ c0 + R.cells ∧ S.2.2.2.2.2.2.2 ≤ s0 + R.slots) (h : xGo call k Q (xNext d (.aastore) pc L st M)) : xRd (p, l, e, R, s, m, args, below, meth, c) J A Z nL c0 s0 ps (pc, L, st, M) := by
  have hi : i = .aastore := xBq_aastore hck
  subst hi
  have hl := xLen_eq hlen rfl
  subst hl
  have hn := hnx.resolve_right (by simp [xTerm])
  obtain ⟨a, i, x, r, rfl, h⟩ := xA3_inv h
  exact o_aastore C hp hn h.1.1 h.1.2.1 h.1.2.2.1 h.1.2.2.2.1 h.1.2.2.2.2 (hk _ h.2).1
theorem st_arraylength (C : xCtx p R s m args c own cc nL d J A)  (hp : decode cc (ps.getD pc 0) = .ok (i, len)) (hlen : xLenOk i len = true) (hck : xChk1 own ini ret ps (ps.getD pc 0) i (.arraylength) = true) (hnx : ps.getD (pc + 1) 0 = ps.getD pc 0 + len ∨ xTerm (.arraylength) = true) (hk : ∀ S, k S → xRd (p, l, e, R, s, m, args, below, meth, c) J A Z nL c0 s0 ps S ∧ S.2.2.2.2.2.2.1 ≤ c0 + R.cells ∧ S.2.2.2.2.2.2.2 ≤ s0 + R.slots) (h : xGo call k Q (xNext d (.arraylength) pc L st M)) : xRd (p, l, e, R, s, m, args, below, meth, c) J A Z nL c0 s0 ps (pc, L, st, M) := by
  have hi : i = .arraylength := xBq_arraylength hck
  subst hi
  have hl := xLen_eq hlen rfl
  subst hl
  have hn := hnx.resolve_right (by simp [xTerm])
  obtain ⟨a, r, rfl, h⟩ := xR1_inv h
  exact o_alen C hp hn h.1 (hk _ h.2).1
theorem st_newarray (C : xCtx p R s m args c own cc nL d J A) {t : ArrayType}  (hp : decode cc (ps.getD pc 0) = .ok (i, len)) (hlen : xLenOk i len = true) (hck : xChk1 own ini ret ps (ps.getD pc 0) i (.newarray t) = true) (hnx : ps.getD (pc + 1) 0 = ps.getD pc 0 + len ∨ xTerm (.newarray t) = true) (hk : ∀ S, k S → xRd (p, l, e, R, s, m, args, below, meth, c) J A Z nL c0 s0 ps S ∧ S.2.2.2.2.2.2.1 ≤ c0 + R.cells ∧ S.2.2.2.2.2.2.2 ≤ s0 + R.slots) (h : xGo call k Q (xNext d (.newarray t) pc L st M)) : xRd (p, l, e, R, s, m, args, below, meth, c) J A Z nL c0 s0 ps (pc, L, st, M) := by
  have hn := hnx.resolve_right (by simp [xTerm])
  simp only [xChk1] at hck
  split at hck
  · have hl := xLen_eq hlen rfl
    subst hl
    simp only [Bool.and_eq_true, decide_eq_true_eq] at hck
    obtain ⟨e1, e2⟩ := hck
    have e1 := xBq_at e1
    subst e1
    obtain ⟨x, r, rfl, h⟩ := xB1_inv h
    exact o_newarray C e2 h.1.1 h.1.2 hp hn (hk _ h.2).2.1 (hk _ h.2).2.2 (hk _ h.2).1
  · cases hck
theorem st_anewarray (C : xCtx p R s m args c own cc nL d J A) {κ : Nat}  (hp : decode cc (ps.getD pc 0) = .ok (i, len)) (hlen : xLenOk i len = true) (hck : xChk1 own ini ret ps (ps.getD pc 0) i (.anewarray κ) = true) (hnx : ps.getD (pc + 1) 0 = ps.getD pc 0 + len ∨ xTerm (.anewarray κ) = true) (hk : ∀ S, k S → xRd (p, l, e, R, s, m, args, below, meth, c) J A Z nL c0 s0 ps S ∧ S.2.2.2.2.2.2.1 ≤ c0 + R.cells ∧ S.2.2.2.2.2.2.2 ≤ s0 + R.slots) (h : xGo call k Q (xNext d (.anewarray κ) pc L st M)) : xRd (p, l, e, R, s, m, args, below, meth, c) J A Z nL c0 s0 ps (pc, L, st, M) := by
  have hn := hnx.resolve_right (by simp [xTerm])
  simp only [xChk1] at hck
  split at hck
  · have hl := xLen_eq hlen rfl
    subst hl
    simp only [Bool.and_eq_true] at hck
    obtain ⟨x, r, rfl, h⟩ := xB1_inv h
    exact o_anewarray C (xBle hck.1.1) (xBle hck.1.2) (List.contains_iff_mem.mp hck.2) h.1.1 h.1.2 hp hn (hk _ h.2).2.1 (hk _ h.2).2.2 (hk _ h.2).1
  · cases hck
theorem st_new (C : xCtx p R s m args c own cc nL d J A) {q : Nat}  (hp : decode cc (ps.getD pc 0) = .ok (i, len)) (hlen : xLenOk i len = true) (hck : xChk1 own ini ret ps (ps.getD pc 0) i (.new q) = true) (hnx : ps.getD (pc + 1) 0 = ps.getD pc 0 + len ∨ xTerm (.new q) = true) (hk : ∀ S, k S → xRd (p, l, e, R, s, m, args, below, meth, c) J A Z nL c0 s0 ps S ∧ S.2.2.2.2.2.2.1 ≤ c0 + R.cells ∧ S.2.2.2.2.2.2.2 ≤ s0 + R.slots) (h : xGo call k Q (xNext d (.new q) pc L st M)) : xRd (p, l, e, R, s, m, args, below, meth, c) J A Z nL c0 s0 ps (pc, L, st, M) := by
  have hn := hnx.resolve_right (by simp [xTerm])
  simp only [xChk1] at hck
  split at hck
  · have hl := xLen_eq hlen rfl
    subst hl
    simp only [Bool.and_eq_true] at hck
    have hc := xBlt hck.1
    have z := hk _ h
    rw [show xNs.getD q 0 = (xCl q).2.2 from xCl_ns q hc] at z
    exact o_new C hc (List.contains_iff_mem.mp hck.2) hp hn z.2.1 z.2.2 z.1
  · cases hck
theorem st_multianewarray (C : xCtx p R s m args c own cc nL d J A) {q1 q2 : Nat}  (hp : decode cc (ps.getD pc 0) = .ok (i, len)) (hlen : xLenOk i len = true) (hck : xChk1 own ini ret ps (ps.getD pc 0) i (.multianewarray q1 q2) = true) (hnx : ps.getD (pc + 1) 0 = ps.getD pc 0 + len ∨ xTerm (.multianewarray q1 q2) = true) (hk : ∀ S, k S → xRd (p, l, e, R, s, m, args, below, meth, c) J A Z nL c0 s0 ps S ∧ S.2.2.2.2.2.2.1 ≤ c0 + R.cells ∧ S.2.2.2.2.2.2.2 ≤ s0 + R.slots) (h : xGo call k Q (xNext d (.multianewarray q1 q2) pc L st M)) : xRd (p, l, e, R, s, m, args, below, meth, c) J A Z nL c0 s0 ps (pc, L, st, M) := by
  have hn := hnx.resolve_right (by simp [xTerm])
  simp only [xChk1] at hck
  split at hck
  · have hl := xLen_eq hlen rfl
    subst hl
    simp only [Bool.and_eq_true, beq_iff_eq] at hck
    obtain ⟨⟨e1, e2⟩, e3⟩ := hck
    subst e1
    subst e2
    subst e3
    obtain ⟨l1, m1, r, rfl, h⟩ := xB2_inv h
    exact o_mna C hp hn h.1.1 h.1.2.1 h.1.2.2.1 h.1.2.2.2 (hk _ h.2).2.1 (hk _ h.2).2.2 (hk _ h.2).1
  · cases hck
theorem xFldOk_ok {own k m : Nat} (h : xFldOk own k m = true) : (own, k, m / 1000, m / 10 % 100) ∈ xFl ∨ (own, k, m / 1000, m / 10 % 100) ∈ xFn := by
  simp only [xFldOk, Bool.or_eq_true] at h
  exact h.imp List.contains_iff_mem.mp List.contains_iff_mem.mp
theorem xTg_mod {t n : Nat} (h : n = (if t = 3 then 0 else t)) (ht : t = 0 ∨ t = 1 ∨ t = 2 ∨ t = 3) : n = xTg t := by
  rcases ht with rfl | rfl | rfl | rfl <;> exact h
theorem xFT_4 {c k : Nat} (hc : c < 13) (hk : k < (xCl c).2.2) : xFT c k = 0 ∨ xFT c k = 1 ∨ xFT c k = 2 ∨ xFT c k = 3 := by
  rcases xFt_code hc hk with ⟨-, e⟩ | ⟨-, e⟩ | ⟨-, e⟩ | ⟨-, e⟩ <;> rw [e] <;> decide
theorem st_getfield (C : xCtx p R s m args c own cc nL d J A) {q : Nat}  (hp : decode cc (ps.getD pc 0) = .ok (i, len)) (hlen : xLenOk i len = true) (hck : xChk1 own ini ret ps (ps.getD pc 0) i (.getfield q) = true) (hnx : ps.getD (pc + 1) 0 = ps.getD pc 0 + len ∨ xTerm (.getfield q) = true) (hk : ∀ S, k S → xRd (p, l, e, R, s, m, args, below, meth, c) J A Z nL c0 s0 ps S ∧ S.2.2.2.2.2.2.1 ≤ c0 + R.cells ∧ S.2.2.2.2.2.2.2 ≤ s0 + R.slots) (h : xGo call k Q (xNext d (.getfield q) pc L st M)) : xRd (p, l, e, R, s, m, args, below, meth, c) J A Z nL c0 s0 ps (pc, L, st, M) := by
  have hn := hnx.resolve_right (by simp [xTerm])
  simp only [xChk1] at hck
  split at hck
  · have hl := xLen_eq hlen rfl
    subst hl
    simp only [Bool.and_eq_true, beq_iff_eq] at hck
    have hf := xFldOk_ok hck.1
    obtain ⟨hc, hkk⟩ := xFd_rng hf
    obtain ⟨a, r, rfl, h⟩ := xR1_inv h
    have z := hk _ h.2
    rw [xTg_mod hck.2 (xFT_4 hc hkk)] at z
    exact o_getf C hf hp hn h.1 z.1
  · cases hck
theorem st_putfield (C : xCtx p R s m args c own cc nL d J A) {q : Nat} (hini : ini = true → meth.name = "<init>")  (hp : decode cc (ps.getD pc 0) = .ok (i, len)) (hlen : xLenOk i len = true) (hck : xChk1 own ini ret ps (ps.getD pc 0) i (.putfield q) = true) (hnx : ps.getD (pc + 1) 0 = ps.getD pc 0 + len ∨ xTerm (.putfield q) = true) (hk : ∀ S, k S → xRd (p, l, e, R, s, m, args, below, meth, c) J A Z nL c0 s0 ps S ∧ S.2.2.2.2.2.2.1 ≤ c0 + R.cells ∧ S.2.2.2.2.2.2.2 ≤ s0 + R.slots) (h : xGo call k Q (xNext d (.putfield q) pc L st M)) : xRd (p, l, e, R, s, m, args, below, meth, c) J A Z nL c0 s0 ps (pc, L, st, M) := by
  have hn := hnx.resolve_right (by simp [xTerm])
  simp only [xChk1] at hck
  split at hck
  · have hl := xLen_eq hlen rfl
    subst hl
    simp only [Bool.and_eq_true, Bool.or_eq_true, beq_iff_eq] at hck
    obtain ⟨⟨hf, hty⟩, hfin⟩ := hck
    have hf := xFldOk_ok hf
    simp only [xNext] at h
    split at h
    · rename_i t x a r
      have h1 := h.1
      rw [hty] at h1
      refine o_putf C hf ?_ hp hn h1 (hk _ h.2).1
      rcases hfin with q1 | ⟨⟨q1, q2⟩, q3⟩
      · exact Or.inl (by simpa using q1)
      · exact Or.inr ⟨List.contains_iff_mem.mp q3, q2, hini q1⟩
    · exact absurd h.1 id
  · cases hck
theorem st_dneg (C : xCtx p R s m args c own cc nL d J A)  (hp : decode cc (ps.getD pc 0) = .ok (i, len)) (hlen : xLenOk i len = true) (hck : xChk1 own ini ret ps (ps.getD pc 0) i (.dneg) = true) (hnx : ps.getD (pc + 1) 0 = ps.getD pc 0 + len ∨ xTerm (.dneg) = true) (hk : ∀ S, k S → xRd (p, l, e, R, s, m, args, below, meth, c) J A Z nL c0 s0 ps S ∧ S.2.2.2.2.2.2.1 ≤ c0 + R.cells ∧ S.2.2.2.2.2.2.2 ≤ s0 + R.slots) (h : xGo call k Q (xNext d (.dneg) pc L st M)) : xRd (p, l, e, R, s, m, args, below, meth, c) J A Z nL c0 s0 ps (pc, L, st, M) := by
  have hn := hnx.resolve_right (by simp [xTerm])
  simp only [xChk1] at hck
  split at hck
  · have hl := xLen_eq hlen rfl
    subst hl
    obtain ⟨a, r, rfl, h⟩ := xR1_inv h
    obtain ⟨hb, h⟩ := xIf_inv h
    exact o_init C (List.contains_iff_mem.mp hck) hp hn h.1.2 h.1.1 (xBle hb) (hk _ h.2).1
  · cases hck
theorem st_dadd (C : xCtx p R s m args c own cc nL d J A)  (hp : decode cc (ps.getD pc 0) = .ok (i, len)) (hlen : xLenOk i len = true) (hck : xChk1 own ini ret ps (ps.getD pc 0) i (.dadd) = true) (hnx : ps.getD (pc + 1) 0 = ps.getD pc 0 + len ∨ xTerm (.dadd) = true) (hk : ∀ S, k S → xRd (p, l, e, R, s, m, args, below, meth, c) J A Z nL c0 s0 ps S ∧ S.2.2.2.2.2.2.1 ≤ c0 + R.cells ∧ S.2.2.2.2.2.2.2 ≤ s0 + R.slots) (h : xGo call k Q (xNext d (.dadd) pc L st M)) : xRd (p, l, e, R, s, m, args, below, meth, c) J A Z nL c0 s0 ps (pc, L, st, M) := by
  have hn := hnx.resolve_right (by simp [xTerm])
  simp only [xChk1] at hck
  split at hck
  · have hl := xLen_eq hlen rfl
    subst hl
    obtain ⟨x, y, r, rfl, h⟩ := xB2_inv h
    obtain ⟨hb, h⟩ := xIf_inv h
    exact o_max C (List.contains_iff_mem.mp hck) hp hn h.1 (xBle hb) (hk _ h.2).2.1 (hk _ h.2).2.2 (hk _ h.2).1
  · cases hck
theorem st_dsub (C : xCtx p R s m args c own cc nL d J A)  (hp : decode cc (ps.getD pc 0) = .ok (i, len)) (hlen : xLenOk i len = true) (hck : xChk1 own ini ret ps (ps.getD pc 0) i (.dsub) = true) (hnx : ps.getD (pc + 1) 0 = ps.getD pc 0 + len ∨ xTerm (.dsub) = true) (hk : ∀ S, k S → xRd (p, l, e, R, s, m, args, below, meth, c) J A Z nL c0 s0 ps S ∧ S.2.2.2.2.2.2.1 ≤ c0 + R.cells ∧ S.2.2.2.2.2.2.2 ≤ s0 + R.slots) (h : xGo call k Q (xNext d (.dsub) pc L st M)) : xRd (p, l, e, R, s, m, args, below, meth, c) J A Z nL c0 s0 ps (pc, L, st, M) := by
  have hn := hnx.resolve_right (by simp [xTerm])
  simp only [xChk1] at hck
  split at hck
  · have hl := xLen_eq hlen rfl
    subst hl
    obtain ⟨x, y, r, rfl, h⟩ := xB2_inv h
    obtain ⟨hb, h⟩ := xIf_inv h
    exact o_min C (List.contains_iff_mem.mp hck) hp hn h.1 (xBle hb) (hk _ h.2).2.1 (hk _ h.2).2.2 (hk _ h.2).1
  · cases hck
theorem st_dmul (C : xCtx p R s m args c own cc nL d J A)  (hp : decode cc (ps.getD pc 0) = .ok (i, len)) (hlen : xLenOk i len = true) (hck : xChk1 own ini ret ps (ps.getD pc 0) i (.dmul) = true) (hnx : ps.getD (pc + 1) 0 = ps.getD pc 0 + len ∨ xTerm (.dmul) = true) (hk : ∀ S, k S → xRd (p, l, e, R, s, m, args, below, meth, c) J A Z nL c0 s0 ps S ∧ S.2.2.2.2.2.2.1 ≤ c0 + R.cells ∧ S.2.2.2.2.2.2.2 ≤ s0 + R.slots) (h : xGo call k Q (xNext d (.dmul) pc L st M)) : xRd (p, l, e, R, s, m, args, below, meth, c) J A Z nL c0 s0 ps (pc, L, st, M) := by
  have hn := hnx.resolve_right (by simp [xTerm])
  simp only [xChk1] at hck
  split at hck
  · have hl := xLen_eq hlen rfl
    subst hl
    simp only [xNext] at h
    split at h
    · obtain ⟨hb, h⟩ := xIf_inv h
      obtain ⟨⟨q1, q2, q3, q4, q5, q6, q7, q8, q9, q10⟩, h⟩ := h
      exact o_copyi C (List.contains_iff_mem.mp hck) hp hn q1 (xBle hb) q2 q3 q4 q5 q6 q7 q8 q9 q10 (hk _ h).1
    · exact absurd h.1 id
  · cases hck
theorem st_ddiv (C : xCtx p R s m args c own cc nL d J A)  (hp : decode cc (ps.getD pc 0) = .ok (i, len)) (hlen : xLenOk i len = true) (hck : xChk1 own ini ret ps (ps.getD pc 0) i (.ddiv) = true) (hnx : ps.getD (pc + 1) 0 = ps.getD pc 0 + len ∨ xTerm (.ddiv) = true) (hk : ∀ S, k S → xRd (p, l, e, R, s, m, args, below, meth, c) J A Z nL c0 s0 ps S ∧ S.2.2.2.2.2.2.1 ≤ c0 + R.cells ∧ S.2.2.2.2.2.2.2 ≤ s0 + R.slots) (h : xGo call k Q (xNext d (.ddiv) pc L st M)) : xRd (p, l, e, R, s, m, args, below, meth, c) J A Z nL c0 s0 ps (pc, L, st, M) := by
  have hn := hnx.resolve_right (by simp [xTerm])
  simp only [xChk1] at hck
  split at hck
  · have hl := xLen_eq hlen rfl
    subst hl
    simp only [xNext] at h
    split at h
    · obtain ⟨hb, h⟩ := xIf_inv h
      obtain ⟨⟨q1, q2, q3, q4, q5, q6, q7, q8, q9, q10⟩, h⟩ := h
      exact o_copyl C (List.contains_iff_mem.mp hck) hp hn q1 (xBle hb) q2 q3 q4 q5 q6 q7 q8 q9 q10 (hk _ h).1
    · exact absurd h.1 id
  · cases hck
theorem st_d2i (C : xCtx p R s m args c own cc nL d J A)  (hp : decode cc (ps.getD pc 0) = .ok (i, len)) (hlen : xLenOk i len = true) (hck : xChk1 own ini ret ps (ps.getD pc 0) i (.d2i) = true) (hnx : ps.getD (pc + 1) 0 = ps.getD pc 0 + len ∨ xTerm (.d2i) = true) (hk : ∀ S, k S → xRd (p, l, e, R, s, m, args, below, meth, c) J A Z nL c0 s0 ps S ∧ S.2.2.2.2.2.2.1 ≤ c0 + R.cells ∧ S.2.2.2.2.2.2.2 ≤ s0 + R.slots) (h : xGo call k Q (xNext d (.d2i) pc L st M)) : xRd (p, l, e, R, s, m, args, below, meth, c) J A Z nL c0 s0 ps (pc, L, st, M) := by
  have hn := hnx.resolve_right (by simp [xTerm])
  simp only [xChk1] at hck
  split at hck
  · have hl := xLen_eq hlen rfl
    subst hl
    obtain ⟨x, r, rfl, h⟩ := xR1_inv h
    obtain ⟨hb, h⟩ := xIf_inv h
    exact o_len C (List.contains_iff_mem.mp hck) hp hn h.1.1 (xBle hb) h.1.2.1 h.1.2.2 (hk _ h.2).2.1 (hk _ h.2).2.2 (hk _ h.2).1
  · cases hck
theorem st_d2l (C : xCtx p R s m args c own cc nL d J A)  (hp : decode cc (ps.getD pc 0) = .ok (i, len)) (hlen : xLenOk i len = true) (hck : xChk1 own ini ret ps (ps.getD pc 0) i (.d2l) = true) (hnx : ps.getD (pc + 1) 0 = ps.getD pc 0 + len ∨ xTerm (.d2l) = true) (hk : ∀ S, k S → xRd (p, l, e, R, s, m, args, below, meth, c) J A Z nL c0 s0 ps S ∧ S.2.2.2.2.2.2.1 ≤ c0 + R.cells ∧ S.2.2.2.2.2.2.2 ≤ s0 + R.slots) (h : xGo call k Q (xNext d (.d2l) pc L st M)) : xRd (p, l, e, R, s, m, args, below, meth, c) J A Z nL c0 s0 ps (pc, L, st, M) := by
  have hn := hnx.resolve_right (by simp [xTerm])
  simp only [xChk1] at hck
  split at hck
  · have hl := xLen_eq hlen rfl
    subst hl
    simp only [xNext] at h
    split at h
    · obtain ⟨hb, h⟩ := xIf_inv h
      obtain ⟨⟨q1, q2, q3, q4, q5⟩, h⟩ := h
      exact o_chr C (List.contains_iff_mem.mp hck) hp hn q1 (xBle hb) q2 q3 q4 q5 (hk _ h).2.1 (hk _ h).2.2 (hk _ h).1
    · exact absurd h.1 id
  · cases hck
end XSTEP
