/-! new long[x][y], the machine's own step: the outer row, then row by row -/
def mnO (c : ClassId) (n h i : Nat) : Cell := arrV c n (fun j => va_rf (if j < i then some (h + 1 + j) else none))
def mnI (c : ClassId) (k : Nat) : Cell := arrV c k (fun _ => defaultValue .long)
def mnF (s : State) (c q : ClassId) (n k : Nat) : Nat → State
  | 0 => s.pushCell (mnO c n s.heap.size 0)
  | i + 1 => ((mnF s c q n k i).pushCell (mnI q k)).setCell s.heap.size (mnO c n s.heap.size (i + 1))
theorem mnO_sz (c : ClassId) (n h i : Nat) : (mnO c n h i).slots.size = n := arrV_size _ _ _
theorem mnI_sz (c : ClassId) (k : Nat) : (mnI c k).slots.size = k := arrV_size _ _ _
theorem mnO_0 (c : ClassId) (n h : Nat) : ({ cls := c, slots := Array.replicate n .null, vm := .none } : Cell) = mnO c n h 0 := by
  rw [arrV_new]
  exact congrArg (arrV c n) (funext fun j => by simp [va_rf])
theorem mnO_set (c : ClassId) (n h i : Nat) : (mnO c n h i).setSlot i (.ref (h + 1 + i)) = mnO c n h (i + 1) := by
  unfold mnO
  rw [arrV_store]
  refine congrArg (arrV c n) (funext fun j => ?_)
  by_cases e : j = i
  · subst e
    simp [updV, va_rf]
  · by_cases h1 : j < i
    · simp [updV, e, h1, Nat.lt_succ_of_lt h1]
    · simp [updV, e, h1, show ¬ j < i + 1 by omega]
theorem mnF_facts (s : State) (c q : ClassId) (n k : Nat) : ∀ i, (mnF s c q n k i).heap.size = s.heap.size + 1 + i ∧ (mnF s c q n k i).heap[s.heap.size]? = some (mnO c n s.heap.size i) ∧ (mnF s c q n k i).vm = s.vm ∧ (mnF s c q n k i).slotsUsed = s.slotsUsed + n + i * k
  | 0 => ⟨by simp [mnF], by simp [mnF], rfl, by simp [mnF, mnO_sz]⟩
  | i + 1 => by
    obtain ⟨a, b, d, u⟩ := mnF_facts s c q n k i
    have hlt : s.heap.size < (mnF s c q n k i).heap.size := by omega
    have hb : ((mnF s c q n k i).pushCell (mnI q k)).heap[s.heap.size]? = some (mnO c n s.heap.size i) := by rw [State.heap_pushCell_of_lt (h := hlt)]; exact b
    exact ⟨by simp [mnF, State.setCell, a]; omega, State.heap_setCell_self hb, by simp [mnF, d], by simp [mnF, u, mnI_sz, Nat.succ_mul]; omega⟩
theorem mnF_top (s : State) (f : JFrame) (c q : ClassId) (n k : Nat) : ∀ i, mnF (s.setTop f) c q n k i = (mnF s c q n k i).setTop f
  | 0 => rfl
  | i + 1 => by simp only [mnF, mnF_top s f c q n k i, State.heap_setTop, State.pushCell_setTop, State.setCell_setTop]
theorem mnF_old (s : State) (c q : ClassId) (n k : Nat) {a : Addr} (ha : a < s.heap.size) : ∀ i, (mnF s c q n k i).heap[a]? = s.heap[a]?
  | 0 => State.heap_pushCell_of_lt _ _ ha
  | i + 1 => by
    have f1 := (mnF_facts s c q n k i).1
    have hlt : a < (mnF s c q n k i).heap.size := by rw [f1]; exact Nat.lt_of_lt_of_le ha (by omega)
    show (((mnF s c q n k i).pushCell (mnI q k)).setCell s.heap.size _).heap[a]? = _
    rw [State.heap_setCell_other (Nat.ne_of_gt ha), State.heap_pushCell_of_lt (h := hlt)]
    exact mnF_old s c q n k ha i
theorem mnF_row (s : State) (c q : ClassId) (n k : Nat) : ∀ i j, j < i → (mnF s c q n k i).heap[s.heap.size + 1 + j]? = some (mnI q k)
  | 0, _, h => absurd h (Nat.not_lt_zero _)
  | i + 1, j, h => by
    have f1 := (mnF_facts s c q n k i).1
    show (((mnF s c q n k i).pushCell (mnI q k)).setCell s.heap.size _).heap[s.heap.size + 1 + j]? = _
    rw [State.heap_setCell_other (show s.heap.size ≠ s.heap.size + 1 + j by omega)]
    by_cases hj : j < i
    · have hlt : s.heap.size + 1 + j < (mnF s c q n k i).heap.size := by rw [f1]; omega
      rw [State.heap_pushCell_of_lt (h := hlt)]
      exact mnF_row s c q n k i j hj
    · have e : s.heap.size + 1 + j = (mnF s c q n k i).heap.size := by rw [f1]; omega
      rw [e]
      exact State.heap_pushCell_size _ _
section XMN
variable {p : Program} {l : Launch} {e : Env} {R : Room} {s : State} {m : MethodId} {args : Array Value} {below : List Frame} {meth : Method} {c : Code} {T : State} {locs : List Loc} {cells slots : Nat}
theorem mnF_stand (X : Stand p l e R s m args below meth c T locs cells slots) (cA q : ClassId) (n k : Nat) : ∀ i, Stand p l e R s m args below meth c (mnF T cA q n k i) locs (cells + 1 + i) (slots + n + i * k)
  | 0 => by
    have h := X.pushed (mnO cA n T.heap.size 0)
    rw [mnO_sz] at h
    simpa [mnF] using h
  | i + 1 => by
    have Xi := mnF_stand X cA q n k i
    obtain ⟨f1, f2, -, -⟩ := mnF_facts T cA q n k i
    have hlt : T.heap.size < (mnF T cA q n k i).heap.size := by rw [f1]; omega
    have hc : ((mnF T cA q n k i).pushCell (mnI q k)).heap[T.heap.size]? = some (mnO cA n T.heap.size i) := by rw [State.heap_pushCell_of_lt (h := hlt)]; exact f2
    have h := (Xi.pushed (mnI q k)).stored hc i (.ref (T.heap.size + 1 + i))
    rw [mnI_sz, mnO_set] at h
    have e3 : slots + n + (i + 1) * k = slots + n + i * k + k := by rw [Nat.succ_mul]; omega
    rw [e3]
    exact h.forget (fun y hy => by
      cases List.mem_singleton.mp hy
      exact X.same.2.1)
end XMN
section XMW
variable {E : CtlPost} {e : Env} {d : Bool} {acts : List Action} {s : State}
/-- one row made -/
theorem mn_row {q cc : ClassId} {kq : Class} {y : Int32} (hkq : s.vm.classes[q]? = some kq) (hkind : kq.kind = .array cc .long) (hy : ¬ y < 0) (hl : ¬ y.toNatClampNeg > e.platform.arrayLengthLimit) (hh : ¬ y.toNatClampNeg * componentBytes .long > e.platform.maxHeapBytes) (h1 : s.heap.size < e.platform.maxCells) (h2 : s.slotsUsed + y.toNatClampNeg ≤ e.platform.maxSlots) {Q : Addr → Pre} (hq : ∀ acts', Q s.heap.size d acts' (s.pushCell (mnI q y.toNatClampNeg))) : wp (Jvm.Op.multianewarray.make q [y]) Q E e d acts s := by
  rw [Jvm.Op.multianewarray.make]
  simp only [wp_bind', W.ite, hy, if_false, wp_pure', W.theClass, hkq, hkind, Option.some.injEq, exists_eq_left']
  refine W.newArray_of hkq hkind hl hh h1 h2 rfl (fun acts' => ?_)
  have z := hq acts'
  unfold mnI at z
  rw [← arrV_new] at z
  exact z
theorem mn_make {cA q cc : ClassId} {kA kq : Class} {x y : Int32} (hkA : s.vm.classes[cA]? = some kA) (hkindA : kA.kind = .array q (.array .long)) (hkq : s.vm.classes[q]? = some kq) (hkind : kq.kind = .array cc .long) (hx : ¬ x < 0) (hy : ¬ y < 0)
    (hlx : ¬ x.toNatClampNeg > e.platform.arrayLengthLimit) (hhx : ¬ x.toNatClampNeg * componentBytes (.array .long) > e.platform.maxHeapBytes) (hly : ¬ y.toNatClampNeg > e.platform.arrayLengthLimit) (hhy : ¬ y.toNatClampNeg * componentBytes .long > e.platform.maxHeapBytes)
    (h1 : s.heap.size + 1 + x.toNatClampNeg ≤ e.platform.maxCells) (h2 : s.slotsUsed + x.toNatClampNeg + x.toNatClampNeg * y.toNatClampNeg ≤ e.platform.maxSlots) {Q : Addr → Pre} (hq : ∀ d' acts', Q s.heap.size d' acts' (mnF s cA q x.toNatClampNeg y.toNatClampNeg x.toNatClampNeg)) : wp (Jvm.Op.multianewarray.make cA [x, y]) Q E e d acts s := by
  generalize hN : x.toNatClampNeg = N at *
  generalize hK : y.toNatClampNeg = K at *
  have hfind : ([y].find? (· < 0)) = none := by simp [hy]
  rw [Jvm.Op.multianewarray.make]
  simp only [wp_bind', W.ite, hx, if_false, wp_pure', W.theClass, hkA, hkindA, Option.some.injEq, exists_eq_left']
  rw [hN]
  refine W.newArray_of hkA hkindA hlx hhx (by omega) (by have := Nat.zero_le (N * K); omega) rfl (fun acts' => ?_)
  rw [show ({ cls := cA, slots := Array.replicate N .null } : Cell) = mnO cA N s.heap.size 0 from mnO_0 cA N s.heap.size]
  simp only [hfind]
  rw [ite_self, wp_bind', Std.Legacy.Range.forIn_eq_forIn_range']
  have hsz : ([:N] : Std.Legacy.Range).size = N := by simp [Std.Legacy.Range.size]
  rw [hsz]
  show wp (forIn (List.range' 0 N 1) PUnit.unit _) _ E e d _ _
  refine wp_forIn_inv (fun rest s' => ∃ i, i ≤ N ∧ rest = List.range' i (N - i) ∧ s' = mnF s cA q N K i) _ _ ⟨0, Nat.zero_le _, rfl, rfl⟩ ?_ ?_
  · rintro z rest s' d' acts1 Q' ⟨i, hi, hl, rfl⟩ hnext
    have hlt : i < N := by
      rcases Nat.lt_or_ge i N with h | h
      · exact h
      · rw [show N - i = 0 from by omega] at hl; simp at hl
    obtain ⟨rfl, hrest⟩ : z = i ∧ rest = List.range' (i + 1) (N - (i + 1)) := by
      rw [show N - i = (N - (i + 1)) + 1 from by omega, List.range'_succ] at hl
      exact ⟨(List.cons.inj hl).1, (List.cons.inj hl).2⟩
    obtain ⟨f1, f2, f3, f4⟩ := mnF_facts s cA q N K z
    have hmul : z * K + K ≤ N * K := by
      have := Nat.mul_le_mul_right K (show z + 1 ≤ N from hlt)
      rw [Nat.succ_mul] at this; exact this
    simp only [wp_bind']
    refine mn_row (by rw [f3]; exact hkq) hkind hy (by rw [hK]; exact hly) (by rw [hK]; exact hhy) (by rw [f1]; omega) (by rw [f4, hK]; omega) (fun acts2 => ?_)
    rw [hK]
    simp only [wp_bind', W.writeLoc, wp_pure']
    have hlt0 : s.heap.size < (mnF s cA q N K z).heap.size := by rw [f1]; omega
    refine ⟨mnO cA N s.heap.size z, by rw [State.heap_pushCell_of_lt (h := hlt0)]; exact f2, by simp [mnO, arrV], by rw [mnO_sz]; exact hlt, ?_, hnext _ _ _ ⟨z + 1, hlt, hrest, ?_⟩⟩
    · simp [State.fitsSlot, State.slotType?, f3, mnO, arrV, hkA, hkindA]
      rfl
    · rw [f1, mnO_set]; rfl
  · rintro s' d' acts1 ⟨i, hi, hl, rfl⟩
    have hiN : i = N := by
      rcases Nat.lt_or_ge i N with h | h
      · rw [show N - i = (N - (i + 1)) + 1 from by omega, List.range'_succ] at hl; cases hl
      · omega
    subst hiN
    simp only [wp_pure']
    exact hq _ _
end XMW
theorem mn_over {args : Array Value} {s : State} (h : (Cond.arrayOver (.array .long)).before args s = true) : ∃ (q cA : ClassId) (kA : Class), s.vm.findClass (FieldType.array .long).toString = some q ∧ s.vm.classes[cA]? = some kA ∧ kA.kind = .array q (.array .long) ∧ s.vm.findClass ("[" ++ (FieldType.array .long).toString) = some cA := by
  simp only [Cond.before, Cond.holds, Cond.value, beq_iff_eq] at h
  cases hc : s.vm.findClass (FieldType.array .long).toString with
  | none => simp [hc] at h
  | some q =>
    simp only [hc, Option.bind_some, Option.bind_eq_some_iff, Option.map_eq_some_iff] at h
    obtain ⟨cA, hi, kA, hk, hb⟩ := h
    obtain ⟨hlt, hp, -⟩ := Array.findIdx?_eq_some_iff_getElem.mp hi
    have hkk : s.vm.classes[cA] = kA := (Array.getElem?_eq_some_iff.mp hk).2
    rw [hkk] at hp
    cases hkind : kA.kind with
    | array component ty =>
      rw [hkind] at hb hp
      simp at hb hp
      exact ⟨q, cA, kA, rfl, hk, by rw [hkind, hp, hb.1], hb.2⟩
    | _ => rw [hkind] at hb; simp at hb
section XMS
variable {p : Program} {l : Launch} {e : Env} {R : Room} {s : State} {m : MethodId} {args : Array Value} {below : List Frame} {meth : Method} {c : Code} {T : State} {locs : List Loc} {cells slots : Nat}
theorem mn_step (X : Stand p l e R s m args below meth c T locs cells slots) (hexec : p.tables.exec = Jvm.exec) {own : String} {index : Nat} (hown : s.vm.findClass own = some m.cls) (hclink : (Cond.classLink own index ("[" ++ (FieldType.array .long).toString)).before args s = true)
    (hover : (Cond.arrayOver (.array .long)).before args s = true) (harr : (Cond.arrayClass .long).before args s = true) {g : JFrame} (hg : g.method = m) (hdg : decode c.code g.pc = .ok (.multianewarray index 2, 4)) {x y : Int32} {rest : List Value} (hstack : g.stack = .int y :: .int x :: rest)
    (hx : ¬ x < 0) (hy : ¬ y < 0) (hb1 : x.toNatClampNeg * 4 ≤ 536870912) (hb2 : y.toNatClampNeg * 8 ≤ 536870912) (hcells : cells + (1 + x.toNatClampNeg) ≤ R.cells) (hslots : slots + (x.toNatClampNeg + x.toNatClampNeg * y.toNatClampNeg) ≤ R.slots) :
    ∃ (vm₁ : Vm) (cA q : ClassId), s.vm.findClass ("[" ++ (FieldType.array .long).toString) = some cA ∧ s.vm.findClass (FieldType.array .long).toString = some q ∧ ArrOfT s cA (.array .long) ∧ ArrOfT s q .long ∧
      Stand p l e R s m args below meth c (mnF (T.setVm vm₁) cA q x.toNatClampNeg y.toNatClampNeg x.toNatClampNeg) locs (cells + 1 + x.toNatClampNeg) (slots + x.toNatClampNeg + x.toNatClampNeg * y.toNatClampNeg) ∧
      ∀ target, Steps p.tables e below ((mnF (T.setVm vm₁) cA q x.toNatClampNeg y.toNatClampNeg x.toNatClampNeg).setTop { g with pc := g.pc + 4, stack := .ref T.heap.size :: rest }) target → Steps p.tables e below (T.setTop g) target := by
  subst hg
  have hpl : e.platform.magicAccessors = ({} : Platform).magicAccessors := by rw [X.admits.platform]
  obtain ⟨q, cA, kA, hq, hkA, hkindA, hnA⟩ := mn_over hover
  obtain ⟨q2, kq, cc, hq2, hkq, hkind⟩ := Cond.arrayClass_spec harr
  cases Option.some.inj (hq2.symm.trans hq)
  obtain ⟨c0, hfc0, hcl⟩ := Cond.classLink_spec hown hclink e.platform hpl
  cases hnA.symm.trans hfc0
  obtain ⟨hg₁, hwarm, -⟩ := State.classEntry (e := e) X.warmed hcl
  generalize T.vm.noted g.method.cls index (.cls cA) = vm₁ at hg₁ hwarm
  have hal : s.vm.Alike vm₁ := hwarm.alike
  obtain ⟨kA₁, hkA₁, heA⟩ := hal.2.2 _ _ hkA
  obtain ⟨kq₁, hkq₁, heq⟩ := hal.2.2 _ _ hkq
  have hkindA₁ : kA₁.kind = .array q (.array .long) := by rw [heA]; exact hkindA
  have hkind₁ : kq₁.kind = .array cc .long := by rw [heq]; exact hkind
  have X₁ := X.noted hwarm
  obtain ⟨hr1, hr2⟩ := X.roomAbove hcells hslots
  have XF := mnF_stand X₁ cA q x.toNatClampNeg y.toNatClampNeg x.toNatClampNeg
  refine ⟨vm₁, cA, q, hnA, hq, fun n z => ⟨fun k h => (by cases h), kA, hkA, q, hkindA⟩, fun n z => ⟨fun k h => (by cases h), kq, hkq, cc, hkind⟩, XF, fun target hrest => ?_⟩
  have hl1 : ¬ x.toNatClampNeg > e.platform.arrayLengthLimit := by rw [Launch.admits_arrayLengthLimit X.admits]; omega
  have hh1 : ¬ x.toNatClampNeg * componentBytes (.array .long) > e.platform.maxHeapBytes := by
    rw [Launch.admits_maxHeapBytes X.admits]; show ¬ x.toNatClampNeg * 4 > 536870912; omega
  have hl2 : ¬ y.toNatClampNeg > e.platform.arrayLengthLimit := by rw [Launch.admits_arrayLengthLimit X.admits]; omega
  have hh2 : ¬ y.toNatClampNeg * componentBytes .long > e.platform.maxHeapBytes := by
    rw [Launch.admits_maxHeapBytes X.admits]; show ¬ y.toNatClampNeg * 8 > 536870912; omega
  jvm_step X.here [hexec, hdg]
  simp only [Jvm.Op.multianewarray.sem, wp_bind', W.resolveClassAt_links (State.method?_setTop g X.here.top) hg₁]
  rw [W.popN, if_neg (by decide)]
  refine ⟨g, State.topJava?_setTop' (s := T.setVm vm₁) g X.here.top, [.int x, .int y], rest, rfl, hstack, ?_⟩
  simp only [List.mapM_cons, List.mapM_nil, wp_bind', wp_pure']
  refine mn_make hkA₁ hkindA₁ hkq₁ hkind₁ hx hy hl1 hh1 hl2 hh2 (by show T.heap.size + 1 + _ ≤ _; omega) (by show T.slotsUsed + _ + _ ≤ _; omega) (fun d' acts' => ?_)
  have eS : ((T.setTop g).setVm vm₁).setTop { g with stack := rest } = (T.setVm vm₁).setTop { g with stack := rest } := by
    show ((T.setVm vm₁).setTop g).setTop _ = _
    rw [State.setTop_setTop]
  rw [eS, mnF_top]
  simp only [wp_bind', W.mark, W.pushRef, State.topJava?_setTop' _ XF.here.top, Option.some.injEq, exists_eq_left', State.setTop_setTop, State.heap_setTop]
  intro acts
  simp [jvm, XF.here.top]
  exact hrest
end XMS
