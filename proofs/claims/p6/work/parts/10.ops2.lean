section XOPT
variable {p : Program} {l : Launch} {e : Env} {R : Room} {s : State} {m : MethodId} {args : Array Value} {below : List Frame} {meth : Method} {c : Code}
variable {J : xJT} {A : Nat → Prop} {Z : State → Prop} {nL c0 s0 own d pc : Nat} {cc : ByteArray} {ps : List Nat} {L r : List xV} {M : xH}
theorem o_iload (C : xCtx p R s m args c own cc nL d J A) {i : Nat} (hd : decode cc (ps.getD pc 0) = .ok (.iload i, 2)) (hn : ps.getD (pc + 1) 0 = ps.getD pc 0 + 2) {x : Int} (hv : L[i]? = some (0, x)) (h : xRd (p, l, e, R, s, m, args, below, meth, c) J A Z nL c0 s0 ps (pc + 1, L, (0, x) :: r, M)) : xRd (p, l, e, R, s, m, args, below, meth, c) J A Z nL c0 s0 ps (pc, L, r, M) := by
  intro G H locs ls hR hF h1 h2
  obtain ⟨f1, f2, f3, f4⟩ := hF
  show W p l e R s m args below meth c H locs (M.2.2.2.1 - c0) (M.2.2.2.2 - s0) Z (F0 m (ps.getD pc 0) ls (r.map (xc G.1)))
  have hm := f3 _ (List.mem_of_getElem? hv)
  have hm2 : xVk M.2.2.2.1 (0, x) ∧ (0 = 2 → x ≠ 0) := hm.resolve_left (show ¬ (0 : Nat) = 9 by decide)
  have k := h G H locs ls hR ⟨f1, f2, f3, fun v hv => ?_⟩ h1 h2
  · have k : W p l e R s m args below meth c H locs (M.2.2.2.1 - c0) (M.2.2.2.2 - s0) Z (F0 m (ps.getD (pc + 1) 0) ls (.int (Int32.ofInt x) :: r.map (xc G.1))) := k
    have a : ls[i]? = some (.val (.int (Int32.ofInt x))) := xL_at f1 hv (show ¬ (0 : Nat) = 9 by decide)
    rw [hn] at k
    exact lv_iload C.1 C.2.1 hd a k
  · have hv : v ∈ ((0, x) :: r : List xV) := hv
    simp only [List.mem_cons] at hv
    rcases hv with rfl | hv
    · exact hm2.1
    · exact f4 v hv
theorem o_iload_n (C : xCtx p R s m args c own cc nL d J A) {i : Nat} {q : Fin 4} (hq : (q : Nat) = i) (hd : decode cc (ps.getD pc 0) = .ok (.iload_n q, 1)) (hn : ps.getD (pc + 1) 0 = ps.getD pc 0 + 1) {x : Int} (hv : L[i]? = some (0, x)) (h : xRd (p, l, e, R, s, m, args, below, meth, c) J A Z nL c0 s0 ps (pc + 1, L, (0, x) :: r, M)) : xRd (p, l, e, R, s, m, args, below, meth, c) J A Z nL c0 s0 ps (pc, L, r, M) := by
  intro G H locs ls hR hF h1 h2
  obtain ⟨f1, f2, f3, f4⟩ := hF
  show W p l e R s m args below meth c H locs (M.2.2.2.1 - c0) (M.2.2.2.2 - s0) Z (F0 m (ps.getD pc 0) ls (r.map (xc G.1)))
  have hm := f3 _ (List.mem_of_getElem? hv)
  have hm2 : xVk M.2.2.2.1 (0, x) ∧ (0 = 2 → x ≠ 0) := hm.resolve_left (show ¬ (0 : Nat) = 9 by decide)
  have k := h G H locs ls hR ⟨f1, f2, f3, fun v hv => ?_⟩ h1 h2
  · have k : W p l e R s m args below meth c H locs (M.2.2.2.1 - c0) (M.2.2.2.2 - s0) Z (F0 m (ps.getD (pc + 1) 0) ls (.int (Int32.ofInt x) :: r.map (xc G.1))) := k
    have a : ls[i]? = some (.val (.int (Int32.ofInt x))) := xL_at f1 hv (show ¬ (0 : Nat) = 9 by decide)
    rw [hn] at k
    exact lv_iload_n C.1 C.2.1 hd hq a k
  · have hv : v ∈ ((0, x) :: r : List xV) := hv
    simp only [List.mem_cons] at hv
    rcases hv with rfl | hv
    · exact hm2.1
    · exact f4 v hv
theorem o_lload (C : xCtx p R s m args c own cc nL d J A) {i : Nat} (hd : decode cc (ps.getD pc 0) = .ok (.lload i, 2)) (hn : ps.getD (pc + 1) 0 = ps.getD pc 0 + 2) {x : Int} (hv : L[i]? = some (1, x)) (h : xRd (p, l, e, R, s, m, args, below, meth, c) J A Z nL c0 s0 ps (pc + 1, L, (1, x) :: r, M)) : xRd (p, l, e, R, s, m, args, below, meth, c) J A Z nL c0 s0 ps (pc, L, r, M) := by
  intro G H locs ls hR hF h1 h2
  obtain ⟨f1, f2, f3, f4⟩ := hF
  show W p l e R s m args below meth c H locs (M.2.2.2.1 - c0) (M.2.2.2.2 - s0) Z (F0 m (ps.getD pc 0) ls (r.map (xc G.1)))
  have hm := f3 _ (List.mem_of_getElem? hv)
  have hm2 : xVk M.2.2.2.1 (1, x) ∧ (1 = 2 → x ≠ 0) := hm.resolve_left (show ¬ (1 : Nat) = 9 by decide)
  have k := h G H locs ls hR ⟨f1, f2, f3, fun v hv => ?_⟩ h1 h2
  · have k : W p l e R s m args below meth c H locs (M.2.2.2.1 - c0) (M.2.2.2.2 - s0) Z (F0 m (ps.getD (pc + 1) 0) ls (.long (Int64.ofInt x) :: r.map (xc G.1))) := k
    have a : ls[i]? = some (.val (.long (Int64.ofInt x))) := xL_at f1 hv (show ¬ (1 : Nat) = 9 by decide)
    rw [hn] at k
    exact lv_lload C.1 C.2.1 hd a k
  · have hv : v ∈ ((1, x) :: r : List xV) := hv
    simp only [List.mem_cons] at hv
    rcases hv with rfl | hv
    · exact hm2.1
    · exact f4 v hv
theorem o_lload_n (C : xCtx p R s m args c own cc nL d J A) {i : Nat} {q : Fin 4} (hq : (q : Nat) = i) (hd : decode cc (ps.getD pc 0) = .ok (.lload_n q, 1)) (hn : ps.getD (pc + 1) 0 = ps.getD pc 0 + 1) {x : Int} (hv : L[i]? = some (1, x)) (h : xRd (p, l, e, R, s, m, args, below, meth, c) J A Z nL c0 s0 ps (pc + 1, L, (1, x) :: r, M)) : xRd (p, l, e, R, s, m, args, below, meth, c) J A Z nL c0 s0 ps (pc, L, r, M) := by
  intro G H locs ls hR hF h1 h2
  obtain ⟨f1, f2, f3, f4⟩ := hF
  show W p l e R s m args below meth c H locs (M.2.2.2.1 - c0) (M.2.2.2.2 - s0) Z (F0 m (ps.getD pc 0) ls (r.map (xc G.1)))
  have hm := f3 _ (List.mem_of_getElem? hv)
  have hm2 : xVk M.2.2.2.1 (1, x) ∧ (1 = 2 → x ≠ 0) := hm.resolve_left (show ¬ (1 : Nat) = 9 by decide)
  have k := h G H locs ls hR ⟨f1, f2, f3, fun v hv => ?_⟩ h1 h2
  · have k : W p l e R s m args below meth c H locs (M.2.2.2.1 - c0) (M.2.2.2.2 - s0) Z (F0 m (ps.getD (pc + 1) 0) ls (.long (Int64.ofInt x) :: r.map (xc G.1))) := k
    have a : ls[i]? = some (.val (.long (Int64.ofInt x))) := xL_at f1 hv (show ¬ (1 : Nat) = 9 by decide)
    rw [hn] at k
    exact lv_lload_n C.1 C.2.1 hd hq a k
  · have hv : v ∈ ((1, x) :: r : List xV) := hv
    simp only [List.mem_cons] at hv
    rcases hv with rfl | hv
    · exact hm2.1
    · exact f4 v hv
theorem o_aload (C : xCtx p R s m args c own cc nL d J A) {i : Nat} (hd : decode cc (ps.getD pc 0) = .ok (.aload i, 2)) (hn : ps.getD (pc + 1) 0 = ps.getD pc 0 + 2) {x : Int} (hv : L[i]? = some (2, x)) (h : xRd (p, l, e, R, s, m, args, below, meth, c) J A Z nL c0 s0 ps (pc + 1, L, (2, x) :: r, M)) : xRd (p, l, e, R, s, m, args, below, meth, c) J A Z nL c0 s0 ps (pc, L, r, M) := by
  intro G H locs ls hR hF h1 h2
  obtain ⟨f1, f2, f3, f4⟩ := hF
  show W p l e R s m args below meth c H locs (M.2.2.2.1 - c0) (M.2.2.2.2 - s0) Z (F0 m (ps.getD pc 0) ls (r.map (xc G.1)))
  have hm := f3 _ (List.mem_of_getElem? hv)
  have hm2 : xVk M.2.2.2.1 (2, x) ∧ (2 = 2 → x ≠ 0) := hm.resolve_left (show ¬ (2 : Nat) = 9 by decide)
  have k := h G H locs ls hR ⟨f1, f2, f3, fun v hv => ?_⟩ h1 h2
  · have k : W p l e R s m args below meth c H locs (M.2.2.2.1 - c0) (M.2.2.2.2 - s0) Z (F0 m (ps.getD (pc + 1) 0) ls (xc G.1 (2, x) :: r.map (xc G.1))) := k
    have a := xL_at f1 hv (show ¬ (2 : Nat) = 9 by decide)
    rw [xc_ref (hm2.2 rfl)] at a k
    rw [hn] at k
    exact lv_aload C.1 C.2.1 hd a k
  · have hv : v ∈ ((2, x) :: r : List xV) := hv
    simp only [List.mem_cons] at hv
    rcases hv with rfl | hv
    · exact hm2.1
    · exact f4 v hv
theorem o_aload_n (C : xCtx p R s m args c own cc nL d J A) {i : Nat} {q : Fin 4} (hq : (q : Nat) = i) (hd : decode cc (ps.getD pc 0) = .ok (.aload_n q, 1)) (hn : ps.getD (pc + 1) 0 = ps.getD pc 0 + 1) {x : Int} (hv : L[i]? = some (2, x)) (h : xRd (p, l, e, R, s, m, args, below, meth, c) J A Z nL c0 s0 ps (pc + 1, L, (2, x) :: r, M)) : xRd (p, l, e, R, s, m, args, below, meth, c) J A Z nL c0 s0 ps (pc, L, r, M) := by
  intro G H locs ls hR hF h1 h2
  obtain ⟨f1, f2, f3, f4⟩ := hF
  show W p l e R s m args below meth c H locs (M.2.2.2.1 - c0) (M.2.2.2.2 - s0) Z (F0 m (ps.getD pc 0) ls (r.map (xc G.1)))
  have hm := f3 _ (List.mem_of_getElem? hv)
  have hm2 : xVk M.2.2.2.1 (2, x) ∧ (2 = 2 → x ≠ 0) := hm.resolve_left (show ¬ (2 : Nat) = 9 by decide)
  have k := h G H locs ls hR ⟨f1, f2, f3, fun v hv => ?_⟩ h1 h2
  · have k : W p l e R s m args below meth c H locs (M.2.2.2.1 - c0) (M.2.2.2.2 - s0) Z (F0 m (ps.getD (pc + 1) 0) ls (xc G.1 (2, x) :: r.map (xc G.1))) := k
    have a := xL_at f1 hv (show ¬ (2 : Nat) = 9 by decide)
    rw [xc_ref (hm2.2 rfl)] at a k
    rw [hn] at k
    exact lv_aload_n C.1 C.2.1 hd hq a k
  · have hv : v ∈ ((2, x) :: r : List xV) := hv
    simp only [List.mem_cons] at hv
    rcases hv with rfl | hv
    · exact hm2.1
    · exact f4 v hv
theorem xFrSt1 {G : xG} {ls' : Array Slot} {lv : List (Nat × Value)} {i : Nat} {v : xV} {st : List xV} (f1 : ∀ q ∈ xLv G.1 L, q ∈ lv) (h : lv_has ls' nL ((i, xc G.1 v) :: lv.filter (fun q => !(q.1 == i) && !(q.1 + 1 == i && q.2.category == 2)))) (f2 : L.length = nL) (f3 : ∀ v ∈ L, xLk M.2.2.2.1 v) (hv : xLk M.2.2.2.1 v) (f4 : ∀ v ∈ st, xVk M.2.2.2.1 v) : xFr nL G M (xSt1 L i v) st ls' := by
  refine ⟨xL_sub h (fun q hq => ?_), by rw [xSt1_len]; exact f2, fun w hw => ?_, f4⟩
  · obtain ⟨w, hw, h9, he⟩ := xLv_of hq
    rcases xSt1_get hw h9 with ⟨e1, e2⟩ | ⟨e1, e2, e3⟩
    · obtain ⟨q1, q2⟩ := q
      have e1 : q1 = i := e1
      have he : q2 = xc G.1 w := he
      rw [e1, he, e2]
      exact List.mem_cons_self
    · refine List.mem_cons_of_mem _ (List.mem_filter.mpr ⟨f1 _ ?_, ?_⟩)
      · have q3 := xLv_mem (ad := G.1) e2 h9
        rw [← he] at q3
        exact q3
      · have hc : q.2.category = 2 → w.1 = 1 := fun hc => by
          have hwk := (f3 w (List.mem_of_getElem? e2)).resolve_left h9
          rw [he, xc_cat _ _ hwk.1.1] at hc
          by_cases e4 : w.1 = 1
          · exact e4
          · rw [if_neg e4] at hc; omega
        simp only [Bool.and_eq_true, Bool.not_eq_true', beq_eq_false_iff_ne, Bool.and_eq_false_iff, ne_eq]
        refine ⟨e1, ?_⟩
        by_cases e5 : q.1 + 1 = i
        · exact Or.inr (fun z => e3 ⟨e5, hc z⟩)
        · exact Or.inl e5
  · obtain ⟨j, hj⟩ := List.getElem?_of_mem hw
    by_cases h9 : w.1 = 9
    · exact Or.inl h9
    · rcases xSt1_get hj h9 with ⟨e1, e2⟩ | ⟨e1, e2, e3⟩
      · rw [e2]; exact hv
      · exact f3 w (List.mem_of_getElem? e2)
theorem xFrSt2 {G : xG} {ls' : Array Slot} {i : Nat} {v : xV} {st : List xV} (h : lv_has ls' nL ((i, xc G.1 v) :: (xLv G.1 L).filter (fun q => !(q.1 == i) && (!(q.1 == i + 1) && !(q.1 + 1 == i && q.2.category == 2))))) (f2 : L.length = nL) (f3 : ∀ v ∈ L, xLk M.2.2.2.1 v) (hv : xLk M.2.2.2.1 v) (f4 : ∀ v ∈ st, xVk M.2.2.2.1 v) : xFr nL G M (xSt2 L i v) st ls' := by
  refine ⟨xL_sub h (fun q hq => ?_), by rw [xSt2_len]; exact f2, fun w hw => ?_, f4⟩
  · obtain ⟨w, hw, h9, he⟩ := xLv_of hq
    rcases xSt2_get hw h9 with ⟨e1, e2⟩ | ⟨e1, e0, e2, e3⟩
    · obtain ⟨q1, q2⟩ := q
      have e1 : q1 = i := e1
      have he : q2 = xc G.1 w := he
      rw [e1, he, e2]
      exact List.mem_cons_self
    · refine List.mem_cons_of_mem _ (List.mem_filter.mpr ⟨?_, ?_⟩)
      · have q3 := xLv_mem (ad := G.1) e2 h9
        rw [← he] at q3
        exact q3
      · have hc : q.2.category = 2 → w.1 = 1 := fun hc => by
          have hwk := (f3 w (List.mem_of_getElem? e2)).resolve_left h9
          rw [he, xc_cat _ _ hwk.1.1] at hc
          by_cases e4 : w.1 = 1
          · exact e4
          · rw [if_neg e4] at hc; omega
        simp only [Bool.and_eq_true, Bool.not_eq_true', beq_eq_false_iff_ne, Bool.and_eq_false_iff, ne_eq]
        refine ⟨e1, e0, ?_⟩
        by_cases e5 : q.1 + 1 = i
        · exact Or.inr (fun z => e3 ⟨e5, hc z⟩)
        · exact Or.inl e5
  · obtain ⟨j, hj⟩ := List.getElem?_of_mem hw
    by_cases h9 : w.1 = 9
    · exact Or.inl h9
    · rcases xSt2_get hj h9 with ⟨e1, e2⟩ | ⟨e1, e0, e2, e3⟩
      · rw [e2]; exact hv
      · exact f3 w (List.mem_of_getElem? e2)
theorem o_istore (C : xCtx p R s m args c own cc nL d J A) {i : Nat} (hd : decode cc (ps.getD pc 0) = .ok (.istore i, 2)) (hn : ps.getD (pc + 1) 0 = ps.getD pc 0 + 2) {x : Int} (hi : i < L.length) (h : xRd (p, l, e, R, s, m, args, below, meth, c) J A Z nL c0 s0 ps (pc + 1, xSt1 L i (0, x), r, M)) : xRd (p, l, e, R, s, m, args, below, meth, c) J A Z nL c0 s0 ps (pc, L, (0, x) :: r, M) := by
  intro G H locs ls hR hF h1 h2
  obtain ⟨f1, f2, f3, f4⟩ := hF
  show W p l e R s m args below meth c H locs (M.2.2.2.1 - c0) (M.2.2.2.2 - s0) Z (F0 m (ps.getD pc 0) ls (.int (Int32.ofInt x) :: r.map (xc G.1)))
  have hx := f4 (0, x) List.mem_cons_self
  have f2 : L.length = nL := f2
  refine lv_istore C.1 C.2.1 hd f1 (by omega) rfl (fun ls2 hl => ?_)
  have k := h G H locs ls2 hR (xFrSt1 (fun _ hq => hq) hl f2 f3 (Or.inr ⟨hx, fun q => absurd q (show ¬ (0 : Nat) = 2 by decide)⟩) (fun v hv => f4 v (List.mem_cons_of_mem _ hv))) h1 h2
  have k : W p l e R s m args below meth c H locs (M.2.2.2.1 - c0) (M.2.2.2.2 - s0) Z (F0 m (ps.getD (pc + 1) 0) ls2 (r.map (xc G.1))) := k
  rw [hn] at k
  exact k
theorem o_istore_n (C : xCtx p R s m args c own cc nL d J A) {i : Nat} {q : Fin 4} (hq : (q : Nat) = i) (hd : decode cc (ps.getD pc 0) = .ok (.istore_n q, 1)) (hn : ps.getD (pc + 1) 0 = ps.getD pc 0 + 1) {x : Int} (hi : i < L.length) (h : xRd (p, l, e, R, s, m, args, below, meth, c) J A Z nL c0 s0 ps (pc + 1, xSt1 L i (0, x), r, M)) : xRd (p, l, e, R, s, m, args, below, meth, c) J A Z nL c0 s0 ps (pc, L, (0, x) :: r, M) := by
  intro G H locs ls hR hF h1 h2
  obtain ⟨f1, f2, f3, f4⟩ := hF
  show W p l e R s m args below meth c H locs (M.2.2.2.1 - c0) (M.2.2.2.2 - s0) Z (F0 m (ps.getD pc 0) ls (.int (Int32.ofInt x) :: r.map (xc G.1)))
  have hx := f4 (0, x) List.mem_cons_self
  have f2 : L.length = nL := f2
  refine lv_istore_n C.1 C.2.1 hd hq f1 (by omega) rfl (fun ls2 hl => ?_)
  have k := h G H locs ls2 hR (xFrSt1 (fun _ hq => hq) hl f2 f3 (Or.inr ⟨hx, fun q => absurd q (show ¬ (0 : Nat) = 2 by decide)⟩) (fun v hv => f4 v (List.mem_cons_of_mem _ hv))) h1 h2
  have k : W p l e R s m args below meth c H locs (M.2.2.2.1 - c0) (M.2.2.2.2 - s0) Z (F0 m (ps.getD (pc + 1) 0) ls2 (r.map (xc G.1))) := k
  rw [hn] at k
  exact k
theorem o_lstore (C : xCtx p R s m args c own cc nL d J A) {i : Nat} (hd : decode cc (ps.getD pc 0) = .ok (.lstore i, 2)) (hn : ps.getD (pc + 1) 0 = ps.getD pc 0 + 2) {x : Int} (hi : i + 1 < L.length) (h : xRd (p, l, e, R, s, m, args, below, meth, c) J A Z nL c0 s0 ps (pc + 1, xSt2 L i (1, x), r, M)) : xRd (p, l, e, R, s, m, args, below, meth, c) J A Z nL c0 s0 ps (pc, L, (1, x) :: r, M) := by
  intro G H locs ls hR hF h1 h2
  obtain ⟨f1, f2, f3, f4⟩ := hF
  show W p l e R s m args below meth c H locs (M.2.2.2.1 - c0) (M.2.2.2.2 - s0) Z (F0 m (ps.getD pc 0) ls (.long (Int64.ofInt x) :: r.map (xc G.1)))
  have hx := f4 (1, x) List.mem_cons_self
  have f2 : L.length = nL := f2
  refine lv_lstore C.1 C.2.1 hd f1 (by omega) rfl (fun ls2 hl => ?_)
  have k := h G H locs ls2 hR (xFrSt2 hl f2 f3 (Or.inr ⟨hx, fun q => absurd q (show ¬ (1 : Nat) = 2 by decide)⟩) (fun v hv => f4 v (List.mem_cons_of_mem _ hv))) h1 h2
  have k : W p l e R s m args below meth c H locs (M.2.2.2.1 - c0) (M.2.2.2.2 - s0) Z (F0 m (ps.getD (pc + 1) 0) ls2 (r.map (xc G.1))) := k
  rw [hn] at k
  exact k
theorem o_lstore_n (C : xCtx p R s m args c own cc nL d J A) {i : Nat} {q : Fin 4} (hq : (q : Nat) = i) (hd : decode cc (ps.getD pc 0) = .ok (.lstore_n q, 1)) (hn : ps.getD (pc + 1) 0 = ps.getD pc 0 + 1) {x : Int} (hi : i + 1 < L.length) (h : xRd (p, l, e, R, s, m, args, below, meth, c) J A Z nL c0 s0 ps (pc + 1, xSt2 L i (1, x), r, M)) : xRd (p, l, e, R, s, m, args, below, meth, c) J A Z nL c0 s0 ps (pc, L, (1, x) :: r, M) := by
  intro G H locs ls hR hF h1 h2
  obtain ⟨f1, f2, f3, f4⟩ := hF
  show W p l e R s m args below meth c H locs (M.2.2.2.1 - c0) (M.2.2.2.2 - s0) Z (F0 m (ps.getD pc 0) ls (.long (Int64.ofInt x) :: r.map (xc G.1)))
  have hx := f4 (1, x) List.mem_cons_self
  have f2 : L.length = nL := f2
  refine lv_lstore_n C.1 C.2.1 hd hq f1 (by omega) rfl (fun ls2 hl => ?_)
  have k := h G H locs ls2 hR (xFrSt2 hl f2 f3 (Or.inr ⟨hx, fun q => absurd q (show ¬ (1 : Nat) = 2 by decide)⟩) (fun v hv => f4 v (List.mem_cons_of_mem _ hv))) h1 h2
  have k : W p l e R s m args below meth c H locs (M.2.2.2.1 - c0) (M.2.2.2.2 - s0) Z (F0 m (ps.getD (pc + 1) 0) ls2 (r.map (xc G.1))) := k
  rw [hn] at k
  exact k
theorem o_astore (C : xCtx p R s m args c own cc nL d J A) {i : Nat} (hd : decode cc (ps.getD pc 0) = .ok (.astore i, 2)) (hn : ps.getD (pc + 1) 0 = ps.getD pc 0 + 2) {x : Int} (hx0 : x ≠ 0) (hi : i < L.length) (h : xRd (p, l, e, R, s, m, args, below, meth, c) J A Z nL c0 s0 ps (pc + 1, xSt1 L i (2, x), r, M)) : xRd (p, l, e, R, s, m, args, below, meth, c) J A Z nL c0 s0 ps (pc, L, (2, x) :: r, M) := by
  intro G H locs ls hR hF h1 h2
  obtain ⟨f1, f2, f3, f4⟩ := hF
  show W p l e R s m args below meth c H locs (M.2.2.2.1 - c0) (M.2.2.2.2 - s0) Z (F0 m (ps.getD pc 0) ls (xc G.1 (2, x) :: r.map (xc G.1)))
  rw [xc_ref hx0]
  have hx := f4 (2, x) List.mem_cons_self
  have f2 : L.length = nL := f2
  refine lv_astore C.1 C.2.1 hd f1 (by omega) rfl (fun ls2 hl => ?_)
  rw [← xc_ref hx0] at hl
  have k := h G H locs ls2 hR (xFrSt1 (fun _ hq => hq) hl f2 f3 (Or.inr ⟨hx, fun _ => hx0⟩) (fun v hv => f4 v (List.mem_cons_of_mem _ hv))) h1 h2
  have k : W p l e R s m args below meth c H locs (M.2.2.2.1 - c0) (M.2.2.2.2 - s0) Z (F0 m (ps.getD (pc + 1) 0) ls2 (r.map (xc G.1))) := k
  rw [hn] at k
  exact k
theorem o_astore_n (C : xCtx p R s m args c own cc nL d J A) {i : Nat} {q : Fin 4} (hq : (q : Nat) = i) (hd : decode cc (ps.getD pc 0) = .ok (.astore_n q, 1)) (hn : ps.getD (pc + 1) 0 = ps.getD pc 0 + 1) {x : Int} (hx0 : x ≠ 0) (hi : i < L.length) (h : xRd (p, l, e, R, s, m, args, below, meth, c) J A Z nL c0 s0 ps (pc + 1, xSt1 L i (2, x), r, M)) : xRd (p, l, e, R, s, m, args, below, meth, c) J A Z nL c0 s0 ps (pc, L, (2, x) :: r, M) := by
  intro G H locs ls hR hF h1 h2
  obtain ⟨f1, f2, f3, f4⟩ := hF
  show W p l e R s m args below meth c H locs (M.2.2.2.1 - c0) (M.2.2.2.2 - s0) Z (F0 m (ps.getD pc 0) ls (xc G.1 (2, x) :: r.map (xc G.1)))
  rw [xc_ref hx0]
  have hx := f4 (2, x) List.mem_cons_self
  have f2 : L.length = nL := f2
  refine lv_astore_n C.1 C.2.1 hd hq f1 (by omega) rfl (fun ls2 hl => ?_)
  rw [← xc_ref hx0] at hl
  have k := h G H locs ls2 hR (xFrSt1 (fun _ hq => hq) hl f2 f3 (Or.inr ⟨hx, fun _ => hx0⟩) (fun v hv => f4 v (List.mem_cons_of_mem _ hv))) h1 h2
  have k : W p l e R s m args below meth c H locs (M.2.2.2.1 - c0) (M.2.2.2.2 - s0) Z (F0 m (ps.getD (pc + 1) 0) ls2 (r.map (xc G.1))) := k
  rw [hn] at k
  exact k
theorem o_iinc (C : xCtx p R s m args c own cc nL d J A) {i : Nat} {n : Int} (hd : decode cc (ps.getD pc 0) = .ok (.iinc i n, 3)) (hn : ps.getD (pc + 1) 0 = ps.getD pc 0 + 3) {x : Int} (hn32 : xIn 0 n) (hv : L[i]? = some (0, x)) (h : xRd (p, l, e, R, s, m, args, below, meth, c) J A Z nL c0 s0 ps (pc + 1, xSt1 L i (0, w32 (x + n)), r, M)) : xRd (p, l, e, R, s, m, args, below, meth, c) J A Z nL c0 s0 ps (pc, L, r, M) := by
  intro G H locs ls hR hF h1 h2
  obtain ⟨f1, f2, f3, f4⟩ := hF
  show W p l e R s m args below meth c H locs (M.2.2.2.1 - c0) (M.2.2.2.2 - s0) Z (F0 m (ps.getD pc 0) ls (r.map (xc G.1)))
  have f2 : L.length = nL := f2
  have hi : i < L.length := (List.getElem?_eq_some_iff.mp hv).1
  have hm := f3 _ (List.mem_of_getElem? hv)
  have hm2 : xVk M.2.2.2.1 (0, x) ∧ (0 = 2 → x ≠ 0) := hm.resolve_left (show ¬ (0 : Nat) = 9 by decide)
  have ix : xIn 0 x := hm2.1.2
  have g1 : lv_has ls nL ((i, .int (Int32.ofInt x)) :: xLv G.1 L) := ⟨f1.1, f1.2.1, fun q hq => by
    rcases List.mem_cons.mp hq with rfl | hq
    · exact xL_at f1 hv (show ¬ (0 : Nat) = 9 by decide)
    · exact f1.2.2 q hq⟩
  have q : Int32.ofInt x + Int32.ofInt n = Int32.ofInt (w32 (x + n)) := Int32.toInt_inj.mp (by rw [xi_add, xi_toInt ix, xi_toInt hn32, xi_toInt (w32_in _)])
  refine lv_iinc C.1 C.2.1 hd g1 (k := 0) rfl q (by omega) rfl (fun ls2 hl => ?_)
  have k := h G H locs ls2 hR (xFrSt1 (v := (0, w32 (x + n))) (fun _ hq => List.mem_cons_of_mem _ hq) hl f2 f3 (Or.inr ⟨⟨Nat.le_of_ble_eq_true rfl, w32_in _⟩, fun q => absurd q (show ¬ (0 : Nat) = 2 by decide)⟩) f4) h1 h2
  have k : W p l e R s m args below meth c H locs (M.2.2.2.1 - c0) (M.2.2.2.2 - s0) Z (F0 m (ps.getD (pc + 1) 0) ls2 (r.map (xc G.1))) := k
  rw [hn] at k
  exact k
theorem o_iincW (C : xCtx p R s m args c own cc nL d J A) {i : Nat} {n : Int} (hd : decode cc (ps.getD pc 0) = .ok (.iinc i n, 6)) (hn : ps.getD (pc + 1) 0 = ps.getD pc 0 + 6) {x : Int} (hn32 : xIn 0 n) (hv : L[i]? = some (0, x)) (h : xRd (p, l, e, R, s, m, args, below, meth, c) J A Z nL c0 s0 ps (pc + 1, xSt1 L i (0, w32 (x + n)), r, M)) : xRd (p, l, e, R, s, m, args, below, meth, c) J A Z nL c0 s0 ps (pc, L, r, M) := by
  intro G H locs ls hR hF h1 h2
  obtain ⟨f1, f2, f3, f4⟩ := hF
  show W p l e R s m args below meth c H locs (M.2.2.2.1 - c0) (M.2.2.2.2 - s0) Z (F0 m (ps.getD pc 0) ls (r.map (xc G.1)))
  have f2 : L.length = nL := f2
  have hi : i < L.length := (List.getElem?_eq_some_iff.mp hv).1
  have hm := f3 _ (List.mem_of_getElem? hv)
  have hm2 : xVk M.2.2.2.1 (0, x) ∧ (0 = 2 → x ≠ 0) := hm.resolve_left (show ¬ (0 : Nat) = 9 by decide)
  have ix : xIn 0 x := hm2.1.2
  have g1 : lv_has ls nL ((i, .int (Int32.ofInt x)) :: xLv G.1 L) := ⟨f1.1, f1.2.1, fun q hq => by
    rcases List.mem_cons.mp hq with rfl | hq
    · exact xL_at f1 hv (show ¬ (0 : Nat) = 9 by decide)
    · exact f1.2.2 q hq⟩
  have q : Int32.ofInt x + Int32.ofInt n = Int32.ofInt (w32 (x + n)) := Int32.toInt_inj.mp (by rw [xi_add, xi_toInt ix, xi_toInt hn32, xi_toInt (w32_in _)])
  refine lv_iincW C.1 C.2.1 hd g1 (k := 0) rfl q (by omega) rfl (fun ls2 hl => ?_)
  have k := h G H locs ls2 hR (xFrSt1 (v := (0, w32 (x + n))) (fun _ hq => List.mem_cons_of_mem _ hq) hl f2 f3 (Or.inr ⟨⟨Nat.le_of_ble_eq_true rfl, w32_in _⟩, fun q => absurd q (show ¬ (0 : Nat) = 2 by decide)⟩) f4) h1 h2
  have k : W p l e R s m args below meth c H locs (M.2.2.2.1 - c0) (M.2.2.2.2 - s0) Z (F0 m (ps.getD (pc + 1) 0) ls2 (r.map (xc G.1))) := k
  rw [hn] at k
  exact k
theorem o_goto (C : xCtx p R s m args c own cc nL d J A) {off : Int} {t : Nat} (hd : decode cc (ps.getD pc 0) = .ok (.goto off, 3)) (hj : ((ps.getD t 0 : Nat) : Int) = ((ps.getD pc 0 : Nat) : Int) + off) (h : xRd (p, l, e, R, s, m, args, below, meth, c) J A Z nL c0 s0 ps (t, L, r, M)) : xRd (p, l, e, R, s, m, args, below, meth, c) J A Z nL c0 s0 ps (pc, L, r, M) := by
  intro G H locs ls hR hF h1 h2
  exact lv_goto C.1 C.2.1 hd hj.symm (h G H locs ls hR hF h1 h2)
theorem xFr_tail {G : xG} {v : xV} {st : List xV} {ls : Array Slot} (h : xFr nL G M L (v :: st) ls) : xFr nL G M L st ls := ⟨h.1, h.2.1, h.2.2.1, fun w hw => h.2.2.2 w (List.mem_cons_of_mem _ hw)⟩
theorem o_ifCond (C : xCtx p R s m args c own cc nL d J A) {cnd : ClassFile.Cond} {off : Int} {t : Nat} (hd : decode cc (ps.getD pc 0) = .ok (.ifCond cnd off, 3)) (hn : ps.getD (pc + 1) 0 = ps.getD pc 0 + 3) (hj : ((ps.getD t 0 : Nat) : Int) = ((ps.getD pc 0 : Nat) : Int) + off) {x : Int} (ha : xT cnd x 0 → xRd (p, l, e, R, s, m, args, below, meth, c) J A Z nL c0 s0 ps (t, L, r, M)) (hb2 : xN cnd x 0 → xRd (p, l, e, R, s, m, args, below, meth, c) J A Z nL c0 s0 ps (pc + 1, L, r, M)) : xRd (p, l, e, R, s, m, args, below, meth, c) J A Z nL c0 s0 ps (pc, L, (0, x) :: r, M) := by
  intro G H locs ls hR hF h1 h2
  have ix : xIn 0 x := (hF.2.2.2 (0, x) (by simp)).2
  have hF2 : xFr nL G M L r ls := xFr_tail hF
  have ka : xT cnd x 0 → W p l e R s m args below meth c H locs (M.2.2.2.1 - c0) (M.2.2.2.2 - s0) Z (F0 m (ps.getD t 0) ls (r.map (xc G.1))) := fun q => ha q G H locs ls hR hF2 h1 h2
  have kb : xN cnd x 0 → W p l e R s m args below meth c H locs (M.2.2.2.1 - c0) (M.2.2.2.2 - s0) Z (F0 m (ps.getD pc 0 + 3) ls (r.map (xc G.1))) := fun q => by
    have k := hb2 q G H locs ls hR hF2 h1 h2
    have k : W p l e R s m args below meth c H locs (M.2.2.2.1 - c0) (M.2.2.2.2 - s0) Z (F0 m (ps.getD (pc + 1) 0) ls (r.map (xc G.1))) := k
    rw [hn] at k
    exact k
  show W p l e R s m args below meth c H locs (M.2.2.2.1 - c0) (M.2.2.2.2 - s0) Z (F0 m (ps.getD pc 0) ls (.int (Int32.ofInt x) :: r.map (xc G.1)))
  cases cnd
  · exact lv_if_eq C.1 C.2.1 hd hj.symm (fun q => ka ((xi_inj ix xi_0).mp q)) (fun q => kb (fun z => q ((xi_inj ix xi_0).mpr z)))
  · exact lv_if_ne C.1 C.2.1 hd hj.symm (fun q => ka (fun z => q ((xi_inj ix xi_0).mpr z))) (fun q => kb ((xi_inj ix xi_0).mp q))
  · exact lv_if_lt C.1 C.2.1 hd hj.symm (fun q => ka ((xi_lt ix xi_0).mp q)) (fun q => kb (by have z : ¬ (x < 0) := fun y => q ((xi_lt ix xi_0).mpr y); simp only [xN]; omega))
  · exact lv_if_ge C.1 C.2.1 hd hj.symm (fun q => ka ((xi_le xi_0 ix).mp q)) (fun q => kb (by have z : ¬ (0 ≤ x) := fun y => q ((xi_le xi_0 ix).mpr y); simp only [xN]; omega))
  · exact lv_if_gt C.1 C.2.1 hd hj.symm (fun q => ka ((xi_lt xi_0 ix).mp q)) (fun q => kb (by have z : ¬ (0 < x) := fun y => q ((xi_lt xi_0 ix).mpr y); simp only [xN]; omega))
  · exact lv_if_le C.1 C.2.1 hd hj.symm (fun q => ka ((xi_le ix xi_0).mp q)) (fun q => kb (by have z : ¬ (x ≤ 0) := fun y => q ((xi_le ix xi_0).mpr y); simp only [xN]; omega))
theorem o_if_icmp (C : xCtx p R s m args c own cc nL d J A) {cnd : ClassFile.Cond} {off : Int} {t : Nat} (hd : decode cc (ps.getD pc 0) = .ok (.if_icmp cnd off, 3)) (hn : ps.getD (pc + 1) 0 = ps.getD pc 0 + 3) (hj : ((ps.getD t 0 : Nat) : Int) = ((ps.getD pc 0 : Nat) : Int) + off) {x y : Int} (ha : xT cnd x y → xRd (p, l, e, R, s, m, args, below, meth, c) J A Z nL c0 s0 ps (t, L, r, M)) (hb2 : xN cnd x y → xRd (p, l, e, R, s, m, args, below, meth, c) J A Z nL c0 s0 ps (pc + 1, L, r, M)) : xRd (p, l, e, R, s, m, args, below, meth, c) J A Z nL c0 s0 ps (pc, L, (0, y) :: (0, x) :: r, M) := by
  intro G H locs ls hR hF h1 h2
  have ix : xIn 0 x := (hF.2.2.2 (0, x) (by simp)).2
  have iy : xIn 0 y := (hF.2.2.2 (0, y) (by simp)).2
  have hF2 : xFr nL G M L r ls := xFr_tail (xFr_tail hF)
  have ka : xT cnd x y → W p l e R s m args below meth c H locs (M.2.2.2.1 - c0) (M.2.2.2.2 - s0) Z (F0 m (ps.getD t 0) ls (r.map (xc G.1))) := fun q => ha q G H locs ls hR hF2 h1 h2
  have kb : xN cnd x y → W p l e R s m args below meth c H locs (M.2.2.2.1 - c0) (M.2.2.2.2 - s0) Z (F0 m (ps.getD pc 0 + 3) ls (r.map (xc G.1))) := fun q => by
    have k := hb2 q G H locs ls hR hF2 h1 h2
    have k : W p l e R s m args below meth c H locs (M.2.2.2.1 - c0) (M.2.2.2.2 - s0) Z (F0 m (ps.getD (pc + 1) 0) ls (r.map (xc G.1))) := k
    rw [hn] at k
    exact k
  show W p l e R s m args below meth c H locs (M.2.2.2.1 - c0) (M.2.2.2.2 - s0) Z (F0 m (ps.getD pc 0) ls (.int (Int32.ofInt y) :: .int (Int32.ofInt x) :: r.map (xc G.1)))
  cases cnd
  · exact lv_icmp_eq C.1 C.2.1 hd hj.symm (fun q => ka ((xi_inj ix iy).mp q)) (fun q => kb (fun z => q ((xi_inj ix iy).mpr z)))
  · exact lv_icmp_ne C.1 C.2.1 hd hj.symm (fun q => ka (fun z => q ((xi_inj ix iy).mpr z))) (fun q => kb ((xi_inj ix iy).mp q))
  · exact lv_icmp_lt C.1 C.2.1 hd hj.symm (fun q => ka ((xi_lt ix iy).mp q)) (fun q => kb (by have z : ¬ (x < y) := fun y => q ((xi_lt ix iy).mpr y); simp only [xN]; omega))
  · exact lv_icmp_ge C.1 C.2.1 hd hj.symm (fun q => ka ((xi_le iy ix).mp q)) (fun q => kb (by have z : ¬ (y ≤ x) := fun y => q ((xi_le iy ix).mpr y); simp only [xN]; omega))
  · exact lv_icmp_gt C.1 C.2.1 hd hj.symm (fun q => ka ((xi_lt iy ix).mp q)) (fun q => kb (by have z : ¬ (y < x) := fun y => q ((xi_lt iy ix).mpr y); simp only [xN]; omega))
  · exact lv_icmp_le C.1 C.2.1 hd hj.symm (fun q => ka ((xi_le ix iy).mp q)) (fun q => kb (by have z : ¬ (x ≤ y) := fun y => q ((xi_le ix iy).mpr y); simp only [xN]; omega))
theorem o_ifnull (C : xCtx p R s m args c own cc nL d J A) {off : Int} {t : Nat} (hd : decode cc (ps.getD pc 0) = .ok (.ifnull off, 3)) (hn : ps.getD (pc + 1) 0 = ps.getD pc 0 + 3) (hj : ((ps.getD t 0 : Nat) : Int) = ((ps.getD pc 0 : Nat) : Int) + off) {x : Int} (ha : xT .eq x 0 → xRd (p, l, e, R, s, m, args, below, meth, c) J A Z nL c0 s0 ps (t, L, r, M)) (hb2 : xN .eq x 0 → xRd (p, l, e, R, s, m, args, below, meth, c) J A Z nL c0 s0 ps (pc + 1, L, r, M)) : xRd (p, l, e, R, s, m, args, below, meth, c) J A Z nL c0 s0 ps (pc, L, (2, x) :: r, M) := by
  intro G H locs ls hR hF h1 h2
  have hF2 : xFr nL G M L r ls := xFr_tail hF
  have kb : xN .eq x 0 → W p l e R s m args below meth c H locs (M.2.2.2.1 - c0) (M.2.2.2.2 - s0) Z (F0 m (ps.getD pc 0 + 3) ls (r.map (xc G.1))) := fun q => by
    have k := hb2 q G H locs ls hR hF2 h1 h2
    have k : W p l e R s m args below meth c H locs (M.2.2.2.1 - c0) (M.2.2.2.2 - s0) Z (F0 m (ps.getD (pc + 1) 0) ls (r.map (xc G.1))) := k
    rw [hn] at k
    exact k
  show W p l e R s m args below meth c H locs (M.2.2.2.1 - c0) (M.2.2.2.2 - s0) Z (F0 m (ps.getD pc 0) ls (xc G.1 (2, x) :: r.map (xc G.1)))
  by_cases hx0 : x = 0
  · subst hx0
    exact lv_ifnullN C.1 C.2.1 hd hj.symm (ha rfl G H locs ls hR hF2 h1 h2)
  · rw [xc_ref hx0]
    exact lv_ifnull C.1 C.2.1 hd (kb hx0)
theorem o_ifnonnull (C : xCtx p R s m args c own cc nL d J A) {off : Int} {t : Nat} (hd : decode cc (ps.getD pc 0) = .ok (.ifnonnull off, 3)) (hn : ps.getD (pc + 1) 0 = ps.getD pc 0 + 3) (hj : ((ps.getD t 0 : Nat) : Int) = ((ps.getD pc 0 : Nat) : Int) + off) {x : Int} (ha : xT .ne x 0 → xRd (p, l, e, R, s, m, args, below, meth, c) J A Z nL c0 s0 ps (t, L, r, M)) (hb2 : xN .ne x 0 → xRd (p, l, e, R, s, m, args, below, meth, c) J A Z nL c0 s0 ps (pc + 1, L, r, M)) : xRd (p, l, e, R, s, m, args, below, meth, c) J A Z nL c0 s0 ps (pc, L, (2, x) :: r, M) := by
  intro G H locs ls hR hF h1 h2
  have hF2 : xFr nL G M L r ls := xFr_tail hF
  have kb : xN .ne x 0 → W p l e R s m args below meth c H locs (M.2.2.2.1 - c0) (M.2.2.2.2 - s0) Z (F0 m (ps.getD pc 0 + 3) ls (r.map (xc G.1))) := fun q => by
    have k := hb2 q G H locs ls hR hF2 h1 h2
    have k : W p l e R s m args below meth c H locs (M.2.2.2.1 - c0) (M.2.2.2.2 - s0) Z (F0 m (ps.getD (pc + 1) 0) ls (r.map (xc G.1))) := k
    rw [hn] at k
    exact k
  show W p l e R s m args below meth c H locs (M.2.2.2.1 - c0) (M.2.2.2.2 - s0) Z (F0 m (ps.getD pc 0) ls (xc G.1 (2, x) :: r.map (xc G.1)))
  by_cases hx0 : x = 0
  · subst hx0
    exact lv_ifnonnullN C.1 C.2.1 hd (kb rfl)
  · rw [xc_ref hx0]
    exact lv_ifnonnull C.1 C.2.1 hd hj.symm (ha hx0 G H locs ls hR hF2 h1 h2)
theorem xSw_at {k : xS → Prop} {x : Int} : ∀ {lo : Int} {ts : List xS}, xSw k x lo ts → ∀ j : Nat, ∀ t : xS, ts[j]? = some t → x = lo + (j : Int) → k t
  | lo, [], _, j, t, h, _ => by simp at h
  | lo, u :: ts, ⟨h1, h2⟩, 0, t, h, e => by
    simp at h
    subst h
    exact h1 (by omega)
  | lo, u :: ts, ⟨h1, h2⟩, j + 1, t, h, e => xSw_at h2 j t (by simpa using h) (by omega)
theorem o_table (C : xCtx p R s m args c own cc nL d J A) {dd lo hi : Int} {offs : Array Int} {ln t : Nat} {ts : List xS} (hd : decode cc (ps.getD pc 0) = .ok (.tableswitch dd lo hi offs, ln)) (hl : xIn 0 lo) (hh : xIn 0 hi) (hs : hi - lo + 1 = (offs.size : Int)) (hj : ((ps.getD t 0 : Nat) : Int) = ((ps.getD pc 0 : Nat) : Int) + dd) {x : Int} (ha : ∀ j : Nat, j < offs.size → x = lo + (j : Int) → ∃ (u : Nat) (off : Int), offs[j]? = some off ∧ ((ps.getD u 0 : Nat) : Int) = ((ps.getD pc 0 : Nat) : Int) + off ∧ xRd (p, l, e, R, s, m, args, below, meth, c) J A Z nL c0 s0 ps (u, L, r, M)) (hb2 : x < lo ∨ hi < x → xRd (p, l, e, R, s, m, args, below, meth, c) J A Z nL c0 s0 ps (t, L, r, M)) : xRd (p, l, e, R, s, m, args, below, meth, c) J A Z nL c0 s0 ps (pc, L, (0, x) :: r, M) := by
  intro G H locs ls hR hF h1 h2
  have ix : xIn 0 x := (hF.2.2.2 (0, x) (by simp)).2
  have hF2 : xFr nL G M L r ls := xFr_tail hF
  show W p l e R s m args below meth c H locs (M.2.2.2.1 - c0) (M.2.2.2.2 - s0) Z (F0 m (ps.getD pc 0) ls (.int (Int32.ofInt x) :: r.map (xc G.1)))
  have ex := xi_toInt ix
  by_cases h : x < lo ∨ hi < x
  · exact lv_tableOut C.1 C.2.1 hd (by rw [ex]; exact h) hj.symm (hb2 h G H locs ls hR hF2 h1 h2)
  · obtain ⟨u, off, q1, q2, q3⟩ := ha (x - lo).toNat (by omega) (by omega)
    exact lv_tableIn C.1 C.2.1 hd (by rw [ex]; omega) (by rw [ex]; omega) (by rw [ex]; exact q1) q2.symm (q3 G H locs ls hR hF2 h1 h2)
end XOPT
