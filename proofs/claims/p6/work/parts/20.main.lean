/-! the main induction: a run of the plain machine is a run of the machine -/
def xJw (J : xJT) (G : xG) (M : xH) : xJT := (J.1, J.2.1, J.2.2.1, J.2.2.2.1, J.2.2.2.2.1, J.2.2.2.2.2.1, G.1, (M.2.2.2.1 : Int))
def xPts (own : Nat) (ini : Bool) (ret : Option FieldType) (bytes : ByteArray) (cd : List Instr) (ps : List Nat) : Prop := ∀ (pc : Nat) (a : Instr), cd[pc]? = some a → ∃ (i : Instr) (len : Nat), decode bytes (ps.getD pc 0) = .ok (i, len) ∧ xLenOk i len = true ∧ xChk1 own ini ret ps (ps.getD pc 0) i a = true ∧ (ps.getD (pc + 1) 0 = ps.getD pc 0 + len ∨ xTerm a = true)
theorem xChkP_at {own : Nat} {ini : Bool} {ret : Option FieldType} {bytes : ByteArray} {ps : List Nat} : ∀ {l : List (Instr × Nat)} {nx : List Nat}, xChkP own ini ret bytes ps l nx = true → ∀ (k : Nat) (a : Instr) (pc : Nat), l[k]? = some (a, pc) → ∃ (i : Instr) (len : Nat), decode bytes pc = .ok (i, len) ∧ xLenOk i len = true ∧ xChk1 own ini ret ps pc i a = true ∧ ((∃ q, nx[k]? = some q ∧ q = pc + len) ∨ (nx[k]? = none ∧ xTerm a = true))
  | [], _, _, k, a, pc, hk => by simp at hk
  | (b, q) :: r, nx, h, k, a, pc, hk => by
    unfold xChkP at h
    rw [Bool.and_eq_true] at h
    obtain ⟨h1, h2⟩ := h
    match k, hk with
    | 0, hk =>
      have e : (b, q) = (a, pc) := by simpa using hk
      cases e
      split at h1
      · rename_i i len hd
        simp only [Bool.and_eq_true] at h1
        obtain ⟨q1, q2, q3⟩ := h1
        refine ⟨i, len, hd, q1, q2, ?_⟩
        match nx, q3 with
        | [], q3 => exact Or.inr ⟨rfl, q3⟩
        | z :: zs, q3 => exact Or.inl ⟨z, rfl, eq_of_beq q3⟩
      · cases h1
    | k + 1, hk =>
      obtain ⟨i, len, q1, q2, q3, q4⟩ := xChkP_at h2 k a pc (by simpa using hk)
      refine ⟨i, len, q1, q2, q3, ?_⟩
      have e : nx.tail[k]? = nx[k + 1]? := by cases nx <;> simp
      rw [e] at q4
      exact q4
theorem xPts_of {own : Nat} {ini : Bool} {ret : Option FieldType} {bytes : ByteArray} {cd : List Instr} {ps : List Nat} (h : xChkM own ini ret bytes cd ps = true) : xPts own ini ret bytes cd ps ∧ ps.getD 0 0 = 0 := by
  simp only [xChkM, Bool.and_eq_true, beq_iff_eq] at h
  obtain ⟨⟨h1, h2⟩, h3⟩ := h
  refine ⟨fun pc a ha => ?_, ?_⟩
  · have hl : pc < cd.length := (List.getElem?_eq_some_iff.mp ha).1
    have hp : ps[pc]? = some (ps.getD pc 0) := by
      rw [List.getD_eq_getElem?_getD, List.getElem?_eq_getElem (by omega)]
      rfl
    have hz : (cd.zip ps)[pc]? = some (a, ps.getD pc 0) := by
      rw [List.getElem?_zip_eq_some]
      exact ⟨ha, hp⟩
    obtain ⟨i, len, q1, q2, q3, q4⟩ := xChkP_at h3 pc a _ hz
    refine ⟨i, len, q1, q2, q3, ?_⟩
    rcases q4 with ⟨q, e1, e2⟩ | ⟨-, e⟩
    · left
      have e : ps.tail[pc]? = ps[pc + 1]? := by cases ps <;> simp
      rw [e] at e1
      rw [List.getD_eq_getElem?_getD, e1]
      exact e2
    · exact Or.inr e
  · cases ps with
    | nil => simp at h2
    | cons z zs =>
      have : z = 0 := by simpa using h2
      subst this
      rfl
def xRetEv (cc : ByteArray) (pcv : Nat) (ret : Option FieldType) (rt : Nat) (x : Int) : Prop :=
  (rt = 0 ∧ decode cc pcv = .ok (.ireturn, 1) ∧ (ret = some .int ∨ (ret = some .boolean ∧ (x = 0 ∨ x = 1)))) ∨ (rt = 1 ∧ decode cc pcv = .ok (.lreturn, 1) ∧ ret = some .long) ∨ (rt = 2 ∧ decode cc pcv = .ok (.areturn, 1) ∧ ((∃ n, ret = some (.object n)) ∨ ∃ t, ret = some (.array t))) ∨ (rt = 3 ∧ decode cc pcv = .ok (.return_, 1) ∧ ret = none ∧ x = 0)
section XMAIN
variable {p : Program} {l : Launch} {e : Env} {R : Room} {s : State} {m : MethodId} {args : Array Value} {below : List Frame} {meth : Method} {c : Code}
variable {J : xJT} {A : Nat → Prop} {Z : State → Prop} {nL c0 s0 own d pc : Nat} {cc : ByteArray} {ps : List Nat} {L st : List xV} {M M0 : xH} {r0 : Int} {k : xS → Prop} {Q : Int → xH → Prop} {ini : Bool} {ret : Option FieldType} {i : Instr} {len : Nat}
theorem st_ret (hRet : ∀ (pc : Nat) (L : List xV) (M' : xH) (rt : Nat) (x : Int), xRetEv cc (ps.getD pc 0) ret rt x → Q x M' → xRd (p, l, e, R, s, m, args, below, meth, c) J A Z nL c0 s0 ps (pc, L, xPush rt x [], M')) {a : Instr} (ha : a = .ireturn ∨ a = .freturn ∨ a = .lreturn ∨ a = .areturn ∨ a = .return_) (hp : decode cc (ps.getD pc 0) = .ok (i, len)) (hlen : xLenOk i len = true) (hck : xChk1 own ini ret ps (ps.getD pc 0) i a = true) {call : xCallT} (h : xGo call k Q (xNext d a pc L st M)) : xRd (p, l, e, R, s, m, args, below, meth, c) J A Z nL c0 s0 ps (pc, L, st, M) := by
  rcases ha with rfl | rfl | rfl | rfl | rfl
  · simp only [xChk1, Bool.and_eq_true, beq_iff_eq] at hck
    obtain ⟨h1, h2⟩ := hck
    split at h1
    · have hl := xLen_eq hlen rfl
      subst hl
      simp only [xNext] at h
      split at h
      · exact hRet pc L M 0 _ (Or.inl ⟨rfl, hp, Or.inl h2⟩) h.2
      · exact absurd h.1 id
    · cases h1
  · simp only [xChk1, Bool.and_eq_true, beq_iff_eq] at hck
    obtain ⟨h1, h2⟩ := hck
    split at h1
    · have hl := xLen_eq hlen rfl
      subst hl
      simp only [xNext] at h
      split at h
      · exact hRet pc L M 0 _ (Or.inl ⟨rfl, hp, Or.inr ⟨h2, h.1⟩⟩) h.2
      · exact absurd h.1 id
    · cases h1
  · simp only [xChk1, Bool.and_eq_true, beq_iff_eq] at hck
    obtain ⟨h1, h2⟩ := hck
    split at h1
    · have hl := xLen_eq hlen rfl
      subst hl
      simp only [xNext] at h
      split at h
      · exact hRet pc L M 1 _ (Or.inr (Or.inl ⟨rfl, hp, h2⟩)) h.2
      · exact absurd h.1 id
    · cases h1
  · simp only [xChk1, Bool.and_eq_true] at hck
    obtain ⟨h1, h2⟩ := hck
    split at h1
    · have hl := xLen_eq hlen rfl
      subst hl
      simp only [xNext] at h
      have h3 : (∃ n, ret = some (.object n)) ∨ ∃ t, ret = some (.array t) := by
        split at h2
        · exact Or.inl ⟨_, rfl⟩
        · exact Or.inr ⟨_, rfl⟩
        · cases h2
      split at h
      · exact hRet pc L M 2 _ (Or.inr (Or.inr (Or.inl ⟨rfl, hp, h3⟩))) h.2
      · exact absurd h.1 id
    · cases h1
  · simp only [xChk1, Bool.and_eq_true, beq_iff_eq] at hck
    obtain ⟨h1, h2⟩ := hck
    split at h1
    · have hl := xLen_eq hlen rfl
      subst hl
      simp only [xNext] at h
      split at h
      · exact hRet pc L M 3 0 (Or.inr (Or.inr (Or.inr ⟨rfl, hp, h2, rfl⟩))) h.2
      · exact absurd h.1 id
    · cases h1
theorem xNz_ok {q : Prop} : ∀ {as : List xV}, xNz q as → q ∧ ∀ v ∈ as, v.1 = 2 → v.2 ≠ 0
  | [], h => ⟨h, fun _ h => absurd h List.not_mem_nil⟩
  | (0, x) :: r, h => by
    have z := xNz_ok (as := r) h
    exact ⟨z.1, fun v hv => by
      rcases List.mem_cons.mp hv with rfl | hv
      · exact fun e => absurd e (show ¬ (0 : Nat) = 2 by decide)
      · exact z.2 v hv⟩
  | (1, x) :: r, h => by
    have z := xNz_ok (as := r) h
    exact ⟨z.1, fun v hv => by
      rcases List.mem_cons.mp hv with rfl | hv
      · exact fun e => absurd e (show ¬ (1 : Nat) = 2 by decide)
      · exact z.2 v hv⟩
  | (2, x) :: r, h => by
    have z := xNz_ok (as := r) h.2
    exact ⟨z.1, fun v hv => by
      rcases List.mem_cons.mp hv with rfl | hv
      · exact fun _ => h.1
      · exact z.2 v hv⟩
  | (t + 3, x) :: r, h => by
    have z := xNz_ok (as := r) h
    exact ⟨z.1, fun v hv => by
      rcases List.mem_cons.mp hv with rfl | hv
      · exact fun e => absurd e (show ¬ t + 3 = 2 by omega)
      · exact z.2 v hv⟩
theorem xTake_rev {n : Nat} {as : List xV} (h : (st.take n).reverse = as) (hl : n ≤ st.length) : st = as.reverse ++ st.drop n ∧ as.length = n := by
  subst h
  rw [List.reverse_reverse, List.take_append_drop]
  refine ⟨rfl, ?_⟩
  rw [List.length_reverse, List.length_take]
  omega
theorem st_callS (C : xCtx p R s m args c own cc nL d J A) (hS : xSnd l d) {q : Nat} (hp : decode cc (ps.getD pc 0) = .ok (i, len)) (hlen : xLenOk i len = true) (hck : xChk1 own ini ret ps (ps.getD pc 0) i (.invokestatic q) = true) (hnx : ps.getD (pc + 1) 0 = ps.getD pc 0 + len ∨ xTerm (.invokestatic q) = true) (hk : ∀ S, k S → xRd (p, l, e, R, s, m, args, below, meth, c) J A Z nL c0 s0 ps S ∧ S.2.2.2.2.2.2.1 ≤ c0 + R.cells ∧ S.2.2.2.2.2.2.2 ≤ s0 + R.slots) (h : xGo (xCall d) k Q (xNext d (.invokestatic q) pc L st M)) : xRd (p, l, e, R, s, m, args, below, meth, c) J A Z nL c0 s0 ps (pc, L, st, M) := by
  have hn := hnx.resolve_right (by simp [xTerm])
  simp only [xChk1] at hck
  split at hck
  · have hl := xLen_eq hlen rfl
    subst hl
    simp only [xCalOk, Bool.and_eq_true, Bool.or_eq_true, beq_iff_eq] at hck
    obtain ⟨⟨⟨⟨q1, q2⟩, q3⟩, q4⟩, q5⟩ := hck
    have hj : q / 8000 < 336 := by rw [← xMt_len]; exact xBlt q2
    simp only [xNext] at h
    split at h
    · rename_i hb
      rw [Bool.and_eq_true] at hb
      obtain ⟨hb1, hb2⟩ := hb
      generalize hast : (st.take (q / 4 % 20)).reverse = as at h
      obtain ⟨e1, e2⟩ := xTake_rev hast (xBle hb2)
      obtain ⟨h1, h2⟩ := h
      cases d with
      | zero => exact absurd h2 id
      | succ d =>
        obtain ⟨r1, M1, g1, g2, g3⟩ := (xCall_md (d + 1)).2 _ _ _ _ h2
        have z := hk _ g1
        rw [← q4] at z
        rw [e1]
        rcases q1 with q1 | q1
        · exact o_cS C hS hp hn hj (List.contains_iff_mem.mp q1) (a := 0) q5 (by rw [e2, q3]) (xNz_ok h1).2 (xBle hb1) g3 g2 z.2.1 z.2.2 z.1
        · exact o_cSn C hS hp hn hj (List.contains_iff_mem.mp q1) (a := 0) q5 (by rw [e2, q3]) (xNz_ok h1).2 (xBle hb1) g3 g2 z.2.1 z.2.2 z.1
    · exact absurd h.1 id
  · cases hck
theorem st_callV (C : xCtx p R s m args c own cc nL d J A) (hS : xSnd l d) {q : Nat} (hp : decode cc (ps.getD pc 0) = .ok (i, len)) (hlen : xLenOk i len = true) (hck : xChk1 own ini ret ps (ps.getD pc 0) i (.invokevirtual q) = true) (hnx : ps.getD (pc + 1) 0 = ps.getD pc 0 + len ∨ xTerm (.invokevirtual q) = true) (hok : ∀ a : Int, 0 ≤ M.2.1 a → M.2.1 a < 13 → 0 < a) (hk : ∀ S, k S → xRd (p, l, e, R, s, m, args, below, meth, c) J A Z nL c0 s0 ps S ∧ S.2.2.2.2.2.2.1 ≤ c0 + R.cells ∧ S.2.2.2.2.2.2.2 ≤ s0 + R.slots) (h : xGo (xCall d) k Q (xNext d (.invokevirtual q) pc L st M)) : xRd (p, l, e, R, s, m, args, below, meth, c) J A Z nL c0 s0 ps (pc, L, st, M) := by
  have hn := hnx.resolve_right (by simp [xTerm])
  simp only [xChk1] at hck
  split at hck
  · have hl := xLen_eq hlen rfl
    subst hl
    simp only [xCalOk, Bool.and_eq_true, Bool.or_eq_true, beq_iff_eq, Bool.not_eq_true'] at hck
    obtain ⟨⟨⟨⟨⟨⟨⟨q1, q2⟩, q3⟩, q4⟩, q5⟩, q6⟩, q7⟩, q8⟩ := hck
    have hj : q / 8000 < 336 := by rw [← xMt_len]; exact xBlt q2
    simp only [xNext] at h
    split at h
    · rename_i a as hast hb
      rw [Bool.and_eq_true] at hb
      obtain ⟨hb1, hb2⟩ := hb
      obtain ⟨e1, e2⟩ := xTake_rev hast (xBle hb2)
      rw [List.reverse_cons, List.append_assoc] at e1
      have e2 : as.length + 1 = q / 4 % 20 := e2
      obtain ⟨h1, h2⟩ := h
      obtain ⟨h3, h4⟩ := xNz_ok h1
      have hci := xBlt q7
      cases d with
      | zero => exact absurd h2 id
      | succ d =>
        obtain ⟨r1, M1, g1, g2, g3⟩ := (xCall_md (d + 1)).2 _ _ _ _ h2
        have z := hk _ g1
        rw [← q4] at z
        rw [e1]
        have ha0 : 0 < a := hok a (by omega) (by omega)
        have hvv := q8.imp List.contains_iff_mem.mp List.contains_iff_mem.mp
        rcases q1 with q1 | q1
        · exact o_cV C hS hp hn hj (List.contains_iff_mem.mp q1) q5 (by rw [e2, q3]) ha0 h4 hci q6 h3 hvv (xBle hb1) g3 g2 z.2.1 z.2.2 z.1
        · exact o_cVn C hS hp hn hj (List.contains_iff_mem.mp q1) q5 (by rw [e2, q3]) ha0 h4 hci q6 h3 hvv (xBle hb1) g3 g2 z.2.1 z.2.2 z.1
    · exact absurd h.1 id
  · cases hck
theorem st_callI (C : xCtx p R s m args c own cc nL d J A) (hS : xSnd l d) {q : Nat} (hp : decode cc (ps.getD pc 0) = .ok (i, len)) (hlen : xLenOk i len = true) (hck : xChk1 own ini ret ps (ps.getD pc 0) i (.invokespecial q) = true) (hnx : ps.getD (pc + 1) 0 = ps.getD pc 0 + len ∨ xTerm (.invokespecial q) = true) (hok : ∀ a : Int, 0 ≤ M.2.1 a → M.2.1 a < 13 → 0 < a) (hci : q / 80 % 100 < 13) (hk : ∀ S, k S → xRd (p, l, e, R, s, m, args, below, meth, c) J A Z nL c0 s0 ps S ∧ S.2.2.2.2.2.2.1 ≤ c0 + R.cells ∧ S.2.2.2.2.2.2.2 ≤ s0 + R.slots) (h : xGo (xCall d) k Q (xNext d (.invokespecial q) pc L st M)) : xRd (p, l, e, R, s, m, args, below, meth, c) J A Z nL c0 s0 ps (pc, L, st, M) := by
  have hn := hnx.resolve_right (by simp [xTerm])
  simp only [xChk1] at hck
  split at hck
  · have hl := xLen_eq hlen rfl
    subst hl
    simp only [xCalOk, Bool.and_eq_true, Bool.or_eq_true, beq_iff_eq, Bool.not_eq_true'] at hck
    obtain ⟨⟨⟨⟨⟨⟨q1, q2⟩, q3⟩, q4⟩, q5⟩, q6⟩, q7⟩ := hck
    have hj : q / 8000 < 336 := by rw [← xMt_len]; exact xBlt q2
    simp only [xNext] at h
    split at h
    · rename_i a as hast hb
      rw [Bool.and_eq_true] at hb
      obtain ⟨hb1, hb2⟩ := hb
      obtain ⟨e1, e2⟩ := xTake_rev hast (xBle hb2)
      rw [List.reverse_cons, List.append_assoc] at e1
      have e2 : as.length + 1 = q / 4 % 20 := e2
      obtain ⟨h1, h2⟩ := h
      obtain ⟨h3, h4⟩ := xNz_ok h1
      cases d with
      | zero => exact absurd h2 id
      | succ d =>
        obtain ⟨r1, M1, g1, g2, g3⟩ := (xCall_md (d + 1)).2 _ _ _ _ h2
        have z := hk _ g1
        rw [← q4] at z
        rw [e1]
        have ha0 : 0 < a := hok a (by omega) (by omega)
        rcases q1 with q1 | q1
        · exact o_cI C hS hp hn hj (List.contains_iff_mem.mp q1) q5 (by rw [e2, q3]) ha0 h4 q6 q7 (xBle hb1) g3 g2 z.2.1 z.2.2 z.1
        · exact o_cIn C hS hp hn hj (List.contains_iff_mem.mp q1) q5 (by rw [e2, q3]) ha0 h4 q6 q7 (xBle hb1) g3 g2 z.2.1 z.2.2 z.1
    · exact absurd h.1 id
  · cases hck
end XMAIN
