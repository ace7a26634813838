/-! calls: what a method's contract over the machine is, out of a run of the plain machine -/
def xWj (j : Nat) : List Cond := Cond.code (xM j).1 (xM j).2.1 (xM j).2.2.1 (xM j).2.2.2.1 :: xGw
def xPre (J : xJT) (G : xG) (M : xH) (sz : Nat) (U : State) : Prop := U.heap.size = sz ∧ va_P J.1 vwCl (xWs G M) U.heap ∧ va_D (fun _ => True) (xWs G M) ∧ xKn G M U ∧ xTab J U ∧ xOld J (va_A (xWs G M) sz) U U.heap
def xPost (J : xJT) (G : xG) (M : xH) (sz : Nat) (rt : Nat) (r : Int) (M0 : xH) : Array Value → State → Outcome → State → Prop := fun _ st oc t => ∃ G' : xG, oc = .returned (if rt = 3 then none else some (xc G'.1 (rt, r))) ∧ (rt ≠ 3 → xVk M0.2.2.2.1 (rt, r)) ∧ xOk M0 ∧ va_P J.1 vwCl (xWs G' M0) t.heap ∧ va_D (va_A (xWs G M) sz) (xWs G' M0) ∧ xKn G' M0 t ∧ xGd J G' M0 ∧ (∀ b : Int, b < (M.2.2.2.1 : Int) → G'.1 b = G.1 b) ∧ va_F (va_A (xWs G M) sz) st t
def xSnd (l : Launch) (d : Nat) : Prop := ∀ (j : Nat) (as : List xV) (M M0 : xH) (r0 : Int), j < 336 → xCall d j as M (fun r H => r = r0 ∧ H = M0) → ∀ (J : xJT) (G : xG) (sz : Nat), xOk M → xGd J G M → (∀ v ∈ as, xVk M.2.2.2.1 v ∧ (v.1 = 2 → v.2 ≠ 0)) →
  Met l (xM j).1 (xWj j) (xRm (d - 1) (M0.2.2.2.1 - M.2.2.2.1) (M0.2.2.2.2 - M.2.2.2.2)) (va_Pc (as.map (xc G.1)) (xPre J G M sz)) (xPost J G M sz (xRc (xM j).2.2.2.1) r0 M0) (M0.2.2.2.1 - M.2.2.2.1) (M0.2.2.2.2 - M.2.2.2.2) (va_A (xWs G M) sz)
theorem xAOL_moved {u U : State} (hvm : u.vm.Alike U.vm) (h : xAOL u) : xAOL U := by
  have h2 : (Cond.arrayOver (.array .long)).before #[] (u.setVm U.vm) = true := (Cond.arrayOver_setVmC (args := #[]) hvm (.array .long)).trans h
  unfold xAOL
  unfold Cond.before Cond.holds at h2 ⊢
  simp only [Cond.value] at h2 ⊢
  exact h2
theorem xTab_same {J : xJT} {u U : State} (h : U.vm = u.vm) (hT : xTab J u) : xTab J U := by
  have ha : u.vm.Alike U.vm := by rw [h]; exact Vm.Alike.refl _
  exact ⟨va_K.moved ha hT.1, fun e he => va_Nw.same rfl h.symm (hT.2.1 e he), fun e he => va_Nw.same rfl h.symm (hT.2.2.1 e he), fun e he => vk_R.same h (hT.2.2.2.1 e he), fun c hc => va_AO.moved ha (hT.2.2.2.2.1 c hc), xAOL_moved ha hT.2.2.2.2.2⟩
theorem xTab_warm {J : xJT} {s U : State} (hW : s.WarmedH U.vm) (hT : xTab J s) : xTab J U :=
  ⟨va_K.moved hW.alike hT.1, fun e he => va_Nw.warmF hW (hT.2.1 e he), fun e he => va_Nw.warmM hW (hT.2.2.1 e he), fun e he => vk_R.warm hW (hT.2.2.2.1 e he), fun c hc => va_AO.moved hW.alike (hT.2.2.2.2.1 c hc), xAOL_moved hW.alike hT.2.2.2.2.2⟩
theorem xKn_moved {G : xG} {M : xH} {u U : State} (hvm : u.vm.Alike U.vm) (h : xKn G M u) : xKn G M U := fun a a0 a1 ha => ⟨arrOfT_moved hvm (h a a0 a1 ha).1, (h a a0 a1 ha).2.moved hvm⟩
theorem xOld_same {J : xJT} {A : Nat → Prop} {u U : State} {H : Heap} (hvm : u.vm.Alike U.vm) (h : xOld J A u H) : xOld J A U H := ⟨va_X.moved hvm h.1, h.2.1, h.2.2.1, xSs_moved hvm h.2.2.2⟩
theorem xPre_blind {J : xJT} {G : xG} {M : xH} {sz : Nat} {as : List Value} : FrameBlind (va_Pc as (xPre J G M sz)) := fun a U g mk q => by
  obtain ⟨q0, q1, qP, qD, qK, qT, qO⟩ := q
  exact ⟨q0, q1, qP, qD, xKn_moved (u := U) (U := U.calling g mk a) (Vm.Alike.refl U.vm) qK, xTab_same (u := U) (U := U.calling g mk a) rfl qT, xOld_same (u := U) (U := U.calling g mk a) (Vm.Alike.refl U.vm) qO⟩
theorem xA_in {J : xJT} {s : State} {A : Nat → Prop} {G : xG} {M : xH} {H : Heap} {locs : List Loc} (hR : xRel J s A s.heap G M H locs) (hA : ∀ q : Nat, s.heap.size ≤ q → A q) : ∀ q : Nat, va_A (xWs G M) H.size q → A q := by
  intro q hq
  rcases hq with ⟨k, e, hk⟩ | hq
  · exact hR.2.2.1.2 k (q, e) hk
  · exact hA q (Nat.le_trans hR.2.2.2.1.1 hq)
/-- the callee's start, out of the caller's world -/
theorem xPre_of {J : xJT} {s : State} {A : Nat → Prop} {G : xG} {M : xH} {H : Heap} {locs : List Loc} (hT : xTab J s) (hO : xOld J A s s.heap) (hA : ∀ q : Nat, s.heap.size ≤ q → A q) (hR : xRel J s A s.heap G M H locs) {U : State} (hU : U.heap = H) (hW : s.WarmedH U.vm) : xPre J G M H.size U := by
  have hin := xA_in hR hA
  refine ⟨by rw [hU], by rw [hU]; exact hR.2.1, ⟨hR.2.2.1.1, fun _ _ _ => trivial⟩, xKn_moved hW.alike hR.2.2.2.2.1, xTab_warm hW hT, ?_⟩
  obtain ⟨h1, h2, h3, h4⟩ := hO
  have hS := hR.2.2.2.1
  rw [hU]
  refine ⟨va_X.moved hW.alike (h1.kept (hS.2.1 _ h2 h3)), Nat.lt_of_lt_of_le h2 hS.1, fun z => h3 (hin _ z), ?_⟩
  exact xSs_narrow (xSs_moved hW.alike (xSs_kept h4 (fun a ha hna => hS.2.1 a ha hna))) hin
section XCALL
variable {p : Program} {l : Launch} {e : Env} {R : Room} {s : State} {m : MethodId} {args : Array Value} {below : List Frame} {meth : Method} {c : Code}
variable {J : xJT} {A : Nat → Prop} {Z : State → Prop} {nL c0 s0 own d pc : Nat} {cc : ByteArray} {ps : List Nat} {L r : List xV} {M : xH}
theorem x_after (C : xCtx p R s m args c own cc nL d J A) {rt : Nat} {r1 : Int} {M1 : xH} {G : xG} {H : Heap} {locs : List Loc} {ls : Array Slot} {st0 : List Value} {aa : Array Value} {pcv : Nat} (hrt : rt = 0 ∨ rt = 1 ∨ rt = 2 ∨ rt = 3) (hR : xRel J s A s.heap G M H locs) (hF : xFr nL G M L r ls) (h1 : c0 ≤ M.2.2.2.1) (h2 : s0 ≤ M.2.2.2.2) (hle : xLe M M1)
    (hr : va_Run p l e R s m args below meth c H locs (M.2.2.2.1 - c0) (M.2.2.2.2 - s0) (M1.2.2.2.1 - M.2.2.2.1) (M1.2.2.2.2 - M.2.2.2.2) (F0 m pcv ls st0) (r.map (xc G.1)) (xPost J G M H.size rt r1 M1 aa) (va_A (xWs G M) H.size))
    (hn : ps.getD (pc + 1) 0 = pcv + 3)
    (k : xRd (p, l, e, R, s, m, args, below, meth, c) J A Z nL c0 s0 ps (pc + 1, L, xPush rt r1 r, M1)) : W p l e R s m args below meth c H locs (M.2.2.2.1 - c0) (M.2.2.2.2 - s0) Z (F0 m pcv ls st0) := by
  intro T hT X
  obtain ⟨v, st₀, t, T', L', h0, X', hL, e1, e2, ⟨G', hoc, hv, hok, hP, hD, hKn, hGd, hG, hFr⟩, st⟩ := hr T hT X
  have hA := C.2.2.2.2.2.2.2.1
  have hin := xA_in hR hA
  have hal : s.vm.Alike T'.vm := X'.warmed.alike
  have hF9 : H.size ≤ t.heap.size ∧ ∀ q : Nat, q < H.size → ¬ va_A (xWs G M) H.size q → t.heap[q]? = H[q]? := by
    have z : st₀.heap.size ≤ t.heap.size ∧ ∀ q : Nat, q < st₀.heap.size → ¬ va_A (xWs G M) H.size q → t.heap[q]? = st₀.heap[q]? := hFr
    rw [h0] at z
    exact z
  have hR2 : xRel J s A s.heap G' M1 T'.heap (locs ++ L') := by
    refine ⟨hok, by rw [e1]; exact hP, ⟨hD.1, fun k q hq => hin _ (hD.2 k q hq)⟩, ?_, xKn_moved (by rw [← e2]; exact hal.symm) hKn, hGd⟩
    refine ⟨Nat.le_trans hR.2.2.2.1.1 (by rw [e1]; exact hF9.1), fun q hq hnq => ?_, fun q hq => ?_⟩
    · rw [e1, hF9.2 q (Nat.lt_of_lt_of_le hq hR.2.2.2.1.1) (fun z => hnq (hin q z))]
      exact hR.2.2.2.1.2.1 q hq hnq
    · rcases List.mem_append.mp hq with z | z
      · exact hR.2.2.2.1.2.2 q z
      · exact hin _ (hL q z)
  have hF2 : xFr nL G' M1 L (xPush rt r1 r) ls := by
    have g := xFr_grow (M' := M1) hF hle.1 hG
    refine ⟨g.1, g.2.1, g.2.2.1, fun w hw => ?_⟩
    by_cases q : rt = 3
    · subst q
      exact g.2.2.2 w hw
    · have hw : w ∈ ((rt, r1) :: r : List xV) := by
        rcases hrt with rfl | rfl | rfl | rfl
        · exact hw
        · exact hw
        · exact hw
        · exact absurd rfl q
      rcases List.mem_cons.mp hw with rfl | hw
      · exact hv q
      · exact g.2.2.2 w hw
  have kk := k G' T'.heap (locs ++ L') ls hR2 hF2 (Nat.le_trans h1 hle.1) (Nat.le_trans h2 hle.2)
  have kk : W p l e R s m args below meth c T'.heap (locs ++ L') (M1.2.2.2.1 - c0) (M1.2.2.2.2 - s0) Z (F0 m (ps.getD (pc + 1) 0) ls ((xPush rt r1 r).map (xc G'.1))) := kk
  have q1 : M.2.2.2.1 - c0 + (M1.2.2.2.1 - M.2.2.2.1) = M1.2.2.2.1 - c0 := by have := hle.1; omega
  have q2 : M.2.2.2.2 - s0 + (M1.2.2.2.2 - M.2.2.2.2) = M1.2.2.2.2 - s0 := by have := hle.2; omega
  rw [q1, q2] at X'
  obtain ⟨t2, a1, b1⟩ := kk T' rfl X'
  refine ⟨t2, st t2 ?_, b1⟩
  have hmap : r.map (xc G'.1) = r.map (xc G.1) := xMap_ext hG hF.2.2.2
  have hst : v.toList ++ r.map (xc G.1) = (xPush rt r1 r).map (xc G'.1) := by
    have hv2 : v = if rt = 3 then none else some (xc G'.1 (rt, r1)) := by cases hoc; rfl
    rw [hv2, ← hmap]
    rcases hrt with rfl | rfl | rfl | rfl <;> rfl
  rw [hn] at a1
  show Steps p.tables e below (T'.setTop (F0 m (pcv + 3) ls (v.toList ++ r.map (xc G.1)))) t2
  rw [hst]
  exact a1
theorem xMnc {j : Nat} (hj : j < 336) : xM j ∈ xMt := by
  have h : j < xMt.length := by rw [xMt_len]; exact hj
  unfold xM
  rw [List.getD_eq_getElem?_getD, List.getElem?_eq_getElem h]
  exact List.getElem_mem h
theorem xMp {j : Nat} (hj : j < 336) : plainName (xM j).1.cls = true ∧ ((xM j).1.cls ≠ "java/lang/invoke/MethodHandle" ∧ (xM j).1.cls ≠ "java/lang/invoke/VarHandle") ∧ (parseMethodDescriptor (xM j).1.desc).map (fun d => d.parameters.length) = some (if (xM j).2.2.2.2.1 then (xM j).2.2.2.2.2 else (xM j).2.2.2.2.2 - 1) ∧ (xM j).2.2.1 ≤ 22 := by
  have h := List.all_eq_true.mp xM_plain _ (xMnc hj)
  simp only [xMplain, Bool.and_eq_true, bne_iff_ne, ne_eq, beq_iff_eq] at h
  exact ⟨h.1.1.1.1, ⟨h.1.1.1.2, h.1.1.2⟩, h.1.2, Nat.le_of_ble_eq_true h.2⟩
theorem xWj_gw {j : Nat} (hj : j < 336) : GoodIn xGw (xWj j) := by
  intro w hw
  have hx : w ∈ xGw := by
    rcases List.mem_cons.mp hw with rfl | h
    · exact xGw_of (xM_code _ (xMnc hj)) rfl
    · exact h
  exact ⟨hx, good_of_word (List.mem_filter.mp hx).2⟩
theorem xParm {j : Nat} (hj : j < 336) {n : Nat} (hn : (if (xM j).2.2.2.2.1 then (xM j).2.2.2.2.2 else (xM j).2.2.2.2.2 - 1) = n) : ∀ sig, parseMethodDescriptor (xM j).1.desc = some sig → n = sig.parameters.length := by
  intro sig h
  have q := (xMp hj).2.2.1
  rw [h, hn] at q
  exact (Option.some.inj q).symm
theorem xRc_4 (r : Option FieldType) : xRc r = 0 ∨ xRc r = 1 ∨ xRc r = 2 ∨ xRc r = 3 := by
  unfold xRc
  split <;> simp
/-- what every call's row wants of the room and the words -/
theorem xCallB {rm1 rm2 : Nat} (C : xCtx p R s m args c own cc nL (d + 1) J A) {j : Nat} (hj : j < 336) : (xRm d rm1 rm2).cells = rm1 ∧ (xRm d rm1 rm2).slots = rm2 ∧ (xRm d rm1 rm2).frames + 1 ≤ R.frames ∧ 8 + ((xM j).2.2.1 + 11) + (xRm d rm1 rm2).locals ≤ R.locals ∧ (∀ w ∈ xWj j, ∀ (a' : Array Value) (U : State), s.WarmedH U.vm → w.before a' U = true) ∧ Cond.code (xM j).1 (xM j).2.1 (xM j).2.2.1 (xM j).2.2.2.1 ∈ xWj j := by
  have h1 := C.2.2.2.2.2.2.2.2.1
  have h2 := C.2.2.2.2.2.2.2.2.2
  have h3 := (xMp hj).2.2.2
  refine ⟨rfl, rfl, h1, ?_, pay_in C.2.2.2.2.1 (xWj_gw hj), List.mem_cons_self⟩
  show 8 + ((xM j).2.2.1 + 11) + 41 * d ≤ R.locals
  omega
end XCALL
