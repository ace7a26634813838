abbrev cs_coder : ByteArray := prog_17_method_152_code
def ys_coder : MethodName := ⟨"java/lang/String", "coder", "()B"⟩
def ws_coder : List Cond := Cond.code ys_coder cs_coder 1 (some .byte) :: xGw
set_option maxRecDepth 100000 in
theorem ws_coder_c : Cond.code ys_coder cs_coder 1 (some .byte) ∈ xGw := xGw_of (List.mem_of_getElem? (i := 684) rfl) rfl
theorem ds_coder_0 : decode cs_coder 0 = .ok (.getstatic 38, 3) := by decide +kernel
theorem ds_coder_3 : decode cs_coder 3 = .ok (.ifCond .eq 10, 3) := by decide +kernel
theorem ds_coder_6 : decode cs_coder 6 = .ok (.aload_n 0, 1) := by decide +kernel
theorem ds_coder_7 : decode cs_coder 7 = .ok (.getfield 15, 3) := by decide +kernel
theorem ds_coder_10 : decode cs_coder 10 = .ok (.goto 4, 3) := by decide +kernel
theorem ds_coder_13 : decode cs_coder 13 = .ok (.iconst 1, 1) := by decide +kernel
theorem ds_coder_14 : decode cs_coder 14 = .ok (.ireturn, 1) := by decide +kernel
abbrev cs_length : ByteArray := prog_17_method_54_code
def ys_length : MethodName := ⟨"java/lang/String", "length", "()I"⟩
def ws_length : List Cond := Cond.code ys_length cs_length 1 (some .int) :: xGw
set_option maxRecDepth 100000 in
theorem ws_length_c : Cond.code ys_length cs_length 1 (some .int) ∈ xGw := xGw_of (List.mem_of_getElem? (i := 680) rfl) rfl
theorem ds_length_0 : decode cs_length 0 = .ok (.aload_n 0, 1) := by decide +kernel
theorem ds_length_1 : decode cs_length 1 = .ok (.getfield 9, 3) := by decide +kernel
theorem ds_length_4 : decode cs_length 4 = .ok (.arraylength, 1) := by decide +kernel
theorem ds_length_5 : decode cs_length 5 = .ok (.aload_n 0, 1) := by decide +kernel
theorem ds_length_6 : decode cs_length 6 = .ok (.invokevirtual 335, 3) := by decide +kernel
theorem ds_length_9 : decode cs_length 9 = .ok (.ishr, 1) := by decide +kernel
theorem ds_length_10 : decode cs_length 10 = .ok (.ireturn, 1) := by decide +kernel
abbrev cs_isL : ByteArray := prog_17_method_154_code
def ys_isL : MethodName := ⟨"java/lang/String", "isLatin1", "()Z"⟩
def ws_isL : List Cond := Cond.code ys_isL cs_isL 1 (some .boolean) :: xGw
set_option maxRecDepth 100000 in
theorem ws_isL_c : Cond.code ys_isL cs_isL 1 (some .boolean) ∈ xGw := xGw_of (List.mem_of_getElem? (i := 694) rfl) rfl
theorem ds_isL_0 : decode cs_isL 0 = .ok (.getstatic 38, 3) := by decide +kernel
theorem ds_isL_3 : decode cs_isL 3 = .ok (.ifCond .eq 14, 3) := by decide +kernel
theorem ds_isL_6 : decode cs_isL 6 = .ok (.aload_n 0, 1) := by decide +kernel
theorem ds_isL_7 : decode cs_isL 7 = .ok (.getfield 15, 3) := by decide +kernel
theorem ds_isL_10 : decode cs_isL 10 = .ok (.ifCond .ne 7, 3) := by decide +kernel
theorem ds_isL_13 : decode cs_isL 13 = .ok (.iconst 1, 1) := by decide +kernel
theorem ds_isL_14 : decode cs_isL 14 = .ok (.goto 4, 3) := by decide +kernel
theorem ds_isL_17 : decode cs_isL 17 = .ok (.iconst 0, 1) := by decide +kernel
theorem ds_isL_18 : decode cs_isL 18 = .ok (.ireturn, 1) := by decide +kernel
abbrev cs_pchk : ByteArray := prog_22_method_11_code
def ys_pchk : MethodName := ⟨"jdk/internal/util/Preconditions", "checkIndex", "(IILjava/util/function/BiFunction;)I"⟩
def ws_pchk : List Cond := Cond.code ys_pchk cs_pchk 3 (some .int) :: xGw
set_option maxRecDepth 100000 in
theorem ws_pchk_c : Cond.code ys_pchk cs_pchk 3 (some .int) ∈ xGw := xGw_of (List.mem_of_getElem? (i := 705) rfl) rfl
theorem ds_pchk_0 : decode cs_pchk 0 = .ok (.iload_n 0, 1) := by decide +kernel
theorem ds_pchk_1 : decode cs_pchk 1 = .ok (.ifCond .lt 8, 3) := by decide +kernel
theorem ds_pchk_4 : decode cs_pchk 4 = .ok (.iload_n 0, 1) := by decide +kernel
theorem ds_pchk_5 : decode cs_pchk 5 = .ok (.iload_n 1, 1) := by decide +kernel
theorem ds_pchk_6 : decode cs_pchk 6 = .ok (.if_icmp .lt 10, 3) := by decide +kernel
theorem ds_pchk_9 : decode cs_pchk 9 = .ok (.aload_n 2, 1) := by decide +kernel
theorem ds_pchk_10 : decode cs_pchk 10 = .ok (.iload_n 0, 1) := by decide +kernel
theorem ds_pchk_11 : decode cs_pchk 11 = .ok (.iload_n 1, 1) := by decide +kernel
theorem ds_pchk_12 : decode cs_pchk 12 = .ok (.invokestatic 95, 3) := by decide +kernel
theorem ds_pchk_16 : decode cs_pchk 16 = .ok (.iload_n 0, 1) := by decide +kernel
theorem ds_pchk_17 : decode cs_pchk 17 = .ok (.ireturn, 1) := by decide +kernel
abbrev cs_schk : ByteArray := prog_17_method_155_code
def ys_schk : MethodName := ⟨"java/lang/String", "checkIndex", "(II)V"⟩
def ws_schk : List Cond := Cond.code ys_schk cs_schk 2 (none) :: xGw
set_option maxRecDepth 100000 in
theorem ws_schk_c : Cond.code ys_schk cs_schk 2 (none) ∈ xGw := xGw_of (List.mem_of_getElem? (i := 700) rfl) rfl
theorem ds_schk_0 : decode cs_schk 0 = .ok (.iload_n 0, 1) := by decide +kernel
theorem ds_schk_1 : decode cs_schk 1 = .ok (.iload_n 1, 1) := by decide +kernel
theorem ds_schk_2 : decode cs_schk 2 = .ok (.getstatic 1053, 3) := by decide +kernel
theorem ds_schk_5 : decode cs_schk 5 = .ok (.invokestatic 1059, 3) := by decide +kernel
theorem ds_schk_8 : decode cs_schk 8 = .ok (.pop, 1) := by decide +kernel
theorem ds_schk_9 : decode cs_schk 9 = .ok (.return_, 1) := by decide +kernel
abbrev cs_lchr : ByteArray := prog_18_method_2_code
def ys_lchr : MethodName := ⟨"java/lang/StringLatin1", "charAt", "([BI)C"⟩
def ws_lchr : List Cond := Cond.code ys_lchr cs_lchr 2 (some .char) :: xGw
set_option maxRecDepth 100000 in
theorem ws_lchr_c : Cond.code ys_lchr cs_lchr 2 (some .char) ∈ xGw := xGw_of (List.mem_of_getElem? (i := 697) rfl) rfl
theorem ds_lchr_0 : decode cs_lchr 0 = .ok (.iload_n 1, 1) := by decide +kernel
theorem ds_lchr_1 : decode cs_lchr 1 = .ok (.aload_n 0, 1) := by decide +kernel
theorem ds_lchr_2 : decode cs_lchr 2 = .ok (.arraylength, 1) := by decide +kernel
theorem ds_lchr_3 : decode cs_lchr 3 = .ok (.invokestatic 9, 3) := by decide +kernel
theorem ds_lchr_6 : decode cs_lchr 6 = .ok (.aload_n 0, 1) := by decide +kernel
theorem ds_lchr_7 : decode cs_lchr 7 = .ok (.iload_n 1, 1) := by decide +kernel
theorem ds_lchr_8 : decode cs_lchr 8 = .ok (.baload, 1) := by decide +kernel
theorem ds_lchr_9 : decode cs_lchr 9 = .ok (.sipush 255, 3) := by decide +kernel
theorem ds_lchr_12 : decode cs_lchr 12 = .ok (.iand, 1) := by decide +kernel
theorem ds_lchr_13 : decode cs_lchr 13 = .ok (.i2c, 1) := by decide +kernel
theorem ds_lchr_14 : decode cs_lchr 14 = .ok (.ireturn, 1) := by decide +kernel
abbrev cs_chr : ByteArray := prog_17_method_56_code
def ys_chr : MethodName := ⟨"java/lang/String", "charAt", "(I)C"⟩
def ws_chr : List Cond := Cond.code ys_chr cs_chr 2 (some .char) :: xGw
set_option maxRecDepth 100000 in
theorem ws_chr_c : Cond.code ys_chr cs_chr 2 (some .char) ∈ xGw := xGw_of (List.mem_of_getElem? (i := 690) rfl) rfl
theorem ds_chr_0 : decode cs_chr 0 = .ok (.aload_n 0, 1) := by decide +kernel
theorem ds_chr_1 : decode cs_chr 1 = .ok (.invokevirtual 492, 3) := by decide +kernel
theorem ds_chr_4 : decode cs_chr 4 = .ok (.ifCond .eq 12, 3) := by decide +kernel
theorem ds_chr_7 : decode cs_chr 7 = .ok (.aload_n 0, 1) := by decide +kernel
theorem ds_chr_8 : decode cs_chr 8 = .ok (.getfield 9, 3) := by decide +kernel
theorem ds_chr_11 : decode cs_chr 11 = .ok (.iload_n 1, 1) := by decide +kernel
theorem ds_chr_12 : decode cs_chr 12 = .ok (.invokestatic 495, 3) := by decide +kernel
theorem ds_chr_15 : decode cs_chr 15 = .ok (.ireturn, 1) := by decide +kernel
theorem wl_cs : Cond.fieldLink "java/lang/String" 38 "java/lang/String" "COMPACT_STRINGS" "Z" ∈ xGw := xGw_of (List.mem_of_getElem? (i := 685) (by decide +kernel)) rfl
theorem wl_cod : Cond.fieldLink "java/lang/String" 15 "java/lang/String" "coder" "B" ∈ xGw := xGw_of (List.mem_of_getElem? (i := 2289) (by decide +kernel)) rfl
theorem wl_val : Cond.fieldLink "java/lang/String" 9 "java/lang/String" "value" "[B" ∈ xGw := xGw_of (List.mem_of_getElem? (i := 2288) (by decide +kernel)) rfl
theorem wl_sio : Cond.fieldLink "java/lang/String" 1053 "jdk/internal/util/Preconditions" "SIOOBE_FORMATTER" "Ljava/util/function/BiFunction;" ∈ xGw := xGw_of (List.mem_of_getElem? (i := 701) (by decide +kernel)) rfl
theorem wm_coder : Cond.methodLink "java/lang/String" 335 ys_coder ∈ xGw := xGw_of (List.mem_of_getElem? (i := 681) (by decide +kernel)) rfl
theorem wm_isL : Cond.methodLink "java/lang/String" 492 ys_isL ∈ xGw := xGw_of (List.mem_of_getElem? (i := 691) (by decide +kernel)) rfl
theorem wm_lchr : Cond.methodLink "java/lang/String" 495 ys_lchr ∈ xGw := xGw_of (List.mem_of_getElem? (i := 695) (by decide +kernel)) rfl
theorem wm_schk : Cond.methodLink "java/lang/StringLatin1" 9 ys_schk ∈ xGw := xGw_of (List.mem_of_getElem? (i := 698) (by decide +kernel)) rfl
theorem wm_pchk : Cond.methodLink "java/lang/String" 1059 ys_pchk ∈ xGw := xGw_of (List.mem_of_getElem? (i := 703) (by decide +kernel)) rfl
theorem wi_coder : Cond.instanceMethod ys_coder ∈ xGw := xGw_of (List.mem_of_getElem? (i := 682) (by decide +kernel)) rfl
theorem wx_coder : Cond.selects "java/lang/String" ys_coder ys_coder ∈ xGw := xGw_of (List.mem_of_getElem? (i := 683) (by decide +kernel)) rfl
theorem wi_isL : Cond.instanceMethod ys_isL ∈ xGw := xGw_of (List.mem_of_getElem? (i := 692) (by decide +kernel)) rfl
theorem wx_isL : Cond.selects "java/lang/String" ys_isL ys_isL ∈ xGw := xGw_of (List.mem_of_getElem? (i := 693) (by decide +kernel)) rfl
theorem wi_length : Cond.instanceMethod ys_length ∈ xGw := xGw_of (List.mem_of_getElem? (i := 678) (by decide +kernel)) rfl
theorem wx_length : Cond.selects "java/lang/String" ys_length ys_length ∈ xGw := xGw_of (List.mem_of_getElem? (i := 679) (by decide +kernel)) rfl
theorem wi_chr : Cond.instanceMethod ys_chr ∈ xGw := xGw_of (List.mem_of_getElem? (i := 688) (by decide +kernel)) rfl
theorem wx_chr : Cond.selects "java/lang/String" ys_chr ys_chr ∈ xGw := xGw_of (List.mem_of_getElem? (i := 689) (by decide +kernel)) rfl
theorem wt_lchr : Cond.static ys_lchr ∈ xGw := xGw_of (List.mem_of_getElem? (i := 696) (by decide +kernel)) rfl
theorem wt_schk : Cond.static ys_schk ∈ xGw := xGw_of (List.mem_of_getElem? (i := 699) (by decide +kernel)) rfl
theorem wt_pchk : Cond.static ys_pchk ∈ xGw := xGw_of (List.mem_of_getElem? (i := 704) (by decide +kernel)) rfl
theorem wn_st : Cond.initialized "java/lang/String" ∈ xGw := xGw_of (List.mem_of_getElem? (i := 15) (by decide +kernel)) rfl
theorem wn_l1 : Cond.initialized "java/lang/StringLatin1" ∈ xGw := xGw_of (List.mem_of_getElem? (i := 16) (by decide +kernel)) rfl
theorem wn_pc : Cond.initialized "jdk/internal/util/Preconditions" ∈ xGw := xGw_of (List.mem_of_getElem? (i := 17) (by decide +kernel)) rfl
theorem xTx_len : ∀ j, j < 27 → (xTx.getD j []).length = xSlen.getD j 0 := by decide +kernel
theorem xIn32_ok {v : Int} (h : xIn32 v = true) : xIn 0 v := by
  simp only [xIn32, Bool.and_eq_true, decide_eq_true_eq] at h
  exact h
def xRm (d nc ns : Nat) : Room := { frames := d, cells := nc, slots := ns, locals := 41 * d }
theorem xRoom8 {nL : Nat} {M : xH} {L r : List xV} {m : MethodId} {pcv : Nat} {ls : Array Slot} {st0 : List Value} {G : xG} (hF : xFr nL G M L r ls) (hr8 : xCat r ≤ 8) : 2 * (F0 m pcv ls st0).monitorRoom + ((r.map (xc G.1)).map fun v => v.category).sum ≤ 8 := by
  have hs : ((r.map (xc G.1)).map fun v => v.category).sum = xCat r := xSum_cat (fun v hv => (hF.2.2.2 v hv).1)
  exact lv_room (by rw [hs]; exact hr8)
theorem xSgood {y : MethodName} {b : ByteArray} {n : Nat} {r : Option FieldType} (h : Cond.code y b n r ∈ xGw) : GoodIn xGw (Cond.code y b n r :: xGw) := by
  intro w hw
  have hx : w ∈ xGw := by
    rcases List.mem_cons.mp hw with rfl | h2
    · exact h
    · exact h2
  exact ⟨hx, good_of_word (List.mem_filter.mp hx).2⟩
theorem xSCB {R : Room} {s : State} {args : Array Value} {own : String} {index : Nat} {y : MethodName} {b : ByteArray} {n : Nat} {r : Option FieldType} {k np : Nat} (hts : ∀ w ∈ xGw, w.before args s = true) (h : Cond.code y b n r ∈ xGw) (hi : Cond.initialized y.cls ∈ xGw) (hm : Cond.methodLink own index y ∈ xGw) (hc : y.cls ≠ "java/lang/invoke/MethodHandle" ∧ y.cls ≠ "java/lang/invoke/VarHandle") (hp : (parseMethodDescriptor y.desc).map (fun d => d.parameters.length) = some np) (hf : k + 1 ≤ R.frames) (hl : 8 + (n + 11) + 41 * k ≤ R.locals) : CallB R s args own index y b n r (Cond.code y b n r :: xGw) (xRm k 0 0) 0 0 np := by
  refine ⟨rfl, rfl, hf, hl, pay_in hts (xSgood h), List.mem_cons_self, hts _ h, hts _ hi, hc, fun sig hs => ?_, hts _ hm⟩
  rw [hs] at hp
  exact (Option.some.inj hp).symm
theorem xSblind {as : List Value} {sk sv : Nat → Nat} : FrameBlind (va_Pc as (fun U => xSs sk sv (fun _ => False) U U.heap)) := fun a U g mk q => ⟨q.1, xSs_moved (u := U) (U := U.calling g mk a) (Vm.Alike.refl U.vm) q.2⟩
theorem xSblind0 {as : List Value} : FrameBlind (va_Pc as (fun _ => True)) := fun a U g mk q => ⟨q.1, trivial⟩
theorem ok_coder (l : Launch) (sk sv : Nat → Nat) (j : Nat) (hj : j < 27) : Met l ys_coder ws_coder (xRm 0 0 0) (va_Pc [.ref (sk j)] (fun U => xSs sk sv (fun _ => False) U U.heap)) (va_Qi (fun r (_ : Unit) => r = 0) (fun _ _ => True) (fun _ => False)) 0 0 (fun _ => False) := by
  refine Met.ofW (cc := cs_coder) (maxL := 1) (ret := (some .byte)) (by decide) rfl ?_
  intro p e s m args below meth c s₁ B hml hv
  obtain ⟨rfl, hSt⟩ := hv
  have hx := B.exec
  have hb := B.bytes
  have hr := B.returns
  have hts : ∀ w ∈ xGw, w.before ([.ref (sk j)] : List Value).toArray s = true := fun w hw => atoms_spec (ws := ws_coder) B.pre w (List.mem_cons_of_mem _ hw)
  have hown : s.vm.findClass "java/lang/String" = some m.cls := findClass_of_methodNamed B.named
  have hlocks := B.notSynchronized
  have hS : va_S (fun _ : Nat => False) s.heap s.heap [] := va_S.rf
  have hl := lv_entry ([.ref (sk j)]) (n := 1) (Nat.le_of_ble_eq_true rfl)
  rw [lg_entry_eq]
  generalize (lg_sl ([.ref (sk j)]) ++ List.replicate (1 - (lg_sl ([.ref (sk j)])).length) Slot.unset).toArray = ls at hl ⊢
  have hl : lv_has ls 1 [(0, .ref (sk j))] := hl
  obtain ⟨hO, hCo, hVa, hBy⟩ := hSt.1 j hj
  refine va_gets hx hb hSt.2.1 hS hown (hts _ wl_cs) (fun _ h => h) ds_coder_0 ?_
  refine lv_if_eq (tgt := 13) hx hb ds_coder_3 (by decide) (fun q => absurd q (by decide)) (fun _ => ?_)
  refine lv_aload_n hx hb ds_coder_6 rfl (lv_at hl 0 rfl) ?_
  refine vk_getf hx hb hCo hS hown (hts _ wl_cod) (fun _ h => h) ds_coder_7 ?_
  refine lv_goto (tgt := 14) hx hb ds_coder_10 (by decide) ?_
  exact W.zret (v := 0) (ty := .byte) hx hb hr rfl (fun t ht hW => ⟨⟨0, (), rfl, rfl, trivial⟩, hS.F ht⟩) (fun _ h => absurd h List.not_mem_nil) ds_coder_14
theorem ok_isL (l : Launch) (sk sv : Nat → Nat) (j : Nat) (hj : j < 27) : Met l ys_isL ws_isL (xRm 0 0 0) (va_Pc [.ref (sk j)] (fun U => xSs sk sv (fun _ => False) U U.heap)) (va_Qi (fun r (_ : Unit) => r = 1) (fun _ _ => True) (fun _ => False)) 0 0 (fun _ => False) := by
  refine Met.ofW (cc := cs_isL) (maxL := 1) (ret := (some .boolean)) (by decide) rfl ?_
  intro p e s m args below meth c s₁ B hml hv
  obtain ⟨rfl, hSt⟩ := hv
  have hx := B.exec
  have hb := B.bytes
  have hr := B.returns
  have hts : ∀ w ∈ xGw, w.before ([.ref (sk j)] : List Value).toArray s = true := fun w hw => atoms_spec (ws := ws_isL) B.pre w (List.mem_cons_of_mem _ hw)
  have hown : s.vm.findClass "java/lang/String" = some m.cls := findClass_of_methodNamed B.named
  have hlocks := B.notSynchronized
  have hS : va_S (fun _ : Nat => False) s.heap s.heap [] := va_S.rf
  have hl := lv_entry ([.ref (sk j)]) (n := 1) (Nat.le_of_ble_eq_true rfl)
  rw [lg_entry_eq]
  generalize (lg_sl ([.ref (sk j)]) ++ List.replicate (1 - (lg_sl ([.ref (sk j)])).length) Slot.unset).toArray = ls at hl ⊢
  have hl : lv_has ls 1 [(0, .ref (sk j))] := hl
  obtain ⟨hO, hCo, hVa, hBy⟩ := hSt.1 j hj
  refine va_gets hx hb hSt.2.1 hS hown (hts _ wl_cs) (fun _ h => h) ds_isL_0 ?_
  refine lv_if_eq (tgt := 17) hx hb ds_isL_3 (by decide) (fun q => absurd q (by decide)) (fun _ => ?_)
  refine lv_aload_n hx hb ds_isL_6 rfl (lv_at hl 0 rfl) ?_
  refine vk_getf hx hb hCo hS hown (hts _ wl_cod) (fun _ h => h) ds_isL_7 ?_
  refine lv_if_ne (tgt := 17) hx hb ds_isL_10 (by decide) (fun q => absurd rfl q) (fun _ => ?_)
  refine lv_iconst (v := 1) hx hb ds_isL_13 (by decide) ?_
  refine lv_goto (tgt := 18) hx hb ds_isL_14 (by decide) ?_
  exact W.zret (v := 1) (ty := .boolean) hx hb hr rfl (fun t ht hW => ⟨⟨1, (), rfl, rfl, trivial⟩, hS.F ht⟩) (fun _ h => absurd h List.not_mem_nil) ds_isL_18
theorem ok_length (l : Launch) (sk sv : Nat → Nat) (j : Nat) (hj : j < 27) : Met l ys_length ws_length (xRm 1 0 0) (va_Pc [.ref (sk j)] (fun U => xSs sk sv (fun _ => False) U U.heap)) (va_Qi (fun r (_ : Unit) => r = Int32.ofNat (xSlen.getD j 0)) (fun _ _ => True) (fun _ => False)) 0 0 (fun _ => False) := by
  refine Met.ofW (cc := cs_length) (maxL := 1) (ret := (some .int)) (by decide) rfl ?_
  intro p e s m args below meth c s₁ B hml hv
  obtain ⟨rfl, hSt⟩ := hv
  have hx := B.exec
  have hb := B.bytes
  have hr := B.returns
  have hts : ∀ w ∈ xGw, w.before ([.ref (sk j)] : List Value).toArray s = true := fun w hw => atoms_spec (ws := ws_length) B.pre w (List.mem_cons_of_mem _ hw)
  have hown : s.vm.findClass "java/lang/String" = some m.cls := findClass_of_methodNamed B.named
  have hlocks := B.notSynchronized
  have hS : va_S (fun _ : Nat => False) s.heap s.heap [] := va_S.rf
  have hl := lv_entry ([.ref (sk j)]) (n := 1) (Nat.le_of_ble_eq_true rfl)
  rw [lg_entry_eq]
  generalize (lg_sl ([.ref (sk j)]) ++ List.replicate (1 - (lg_sl ([.ref (sk j)])).length) Slot.unset).toArray = ls at hl ⊢
  have hl : lv_has ls 1 [(0, .ref (sk j))] := hl
  obtain ⟨hO, hCo, hVa, hBy⟩ := hSt.1 j hj
  refine lv_aload_n hx hb ds_length_0 rfl (lv_at hl 0 rfl) ?_
  refine vk_getf hx hb hVa hS hown (hts _ wl_val) (fun _ h => h) ds_length_1 ?_
  refine va_tlen hx hb hBy hS rfl ds_length_4 ?_
  refine lv_aload_n hx hb ds_length_5 rfl (lv_at hl 0 rfl) ?_
  refine va_calli (va_runV (C := "java/lang/String") (n := 0) (As := []) (rest := [.int (Int32.ofNat (xSlen.getD j 0))]) ⟨hx, hb, hml, hown, hts⟩ (ok_coder l sk sv j hj) ⟨xSCB hts ws_coder_c wn_st wm_coder (by decide) (by decide +kernel) (Nat.le_of_ble_eq_true rfl) (Nat.le_of_ble_eq_true rfl), hts _ wi_coder, hts _ wx_coder⟩ ⟨xSblind, (by obtain ⟨cell, z1, z2, z3, -⟩ := hO; exact ⟨cell, z1, z2, z3⟩), fun U hU hW => ⟨rfl, by show xSs _ _ _ U U.heap; rw [hU]; exact xSs_moved hW.alike hSt⟩⟩ rfl rfl hl.1 rfl (lv_room (Nat.le_of_ble_eq_true rfl)) ds_length_6 ⟨Nat.le_refl _, Nat.le_refl _⟩) hS (fun q _ h => h) (fun q h => h) (fun r u t H1 locs ht hvm hw hB hz1 hk1 hS => ?_)
  subst hw
  refine lv_ishr hx hb ds_length_9 ?_
  rw [sb_shr0]
  exact W.iret (v := Int32.ofNat (xSlen.getD j 0)) hx hb hr (fun t ht hW => ⟨⟨_, (), rfl, rfl, trivial⟩, hS.F ht⟩) (fun q h => hS.2.2 q h) ds_length_10
theorem ok_pchk (l : Launch) {i n : Int32} (h0 : ¬ i < 0) (h1 : i < n) (q : Option Nat) : Met l ys_pchk ws_pchk (xRm 0 0 0) (va_Pc [.int i, .int n, va_rf q] (fun _ => True)) (va_Qi (fun r (_ : Unit) => r = i) (fun _ _ => True) (fun _ => False)) 0 0 (fun _ => False) := by
  have hq : (lg_sl ([.int i, .int n, va_rf q] : List Value)).length = 3 := by cases q <;> rfl
  refine Met.ofW (cc := cs_pchk) (maxL := 3) (ret := (some .int)) (by decide) rfl ?_
  intro p e s m args below meth c s₁ B hml hv
  obtain ⟨rfl, hSt⟩ := hv
  have hx := B.exec
  have hb := B.bytes
  have hr := B.returns
  have hts : ∀ w ∈ xGw, w.before ([.int i, .int n, va_rf q] : List Value).toArray s = true := fun w hw => atoms_spec (ws := ws_pchk) B.pre w (List.mem_cons_of_mem _ hw)
  have hown : s.vm.findClass "jdk/internal/util/Preconditions" = some m.cls := findClass_of_methodNamed B.named
  have hlocks := B.notSynchronized
  have hS : va_S (fun _ : Nat => False) s.heap s.heap [] := va_S.rf
  have hl := lv_entry ([.int i, .int n, va_rf q]) (n := 3) (by rw [hq]; decide)
  rw [lg_entry_eq]
  generalize (lg_sl ([.int i, .int n, va_rf q]) ++ List.replicate (3 - (lg_sl ([.int i, .int n, va_rf q])).length) Slot.unset).toArray = ls at hl ⊢
  have hl : lv_has ls 3 [(0, .int i), (1, .int n), (2, va_rf q)] := hl
  refine lv_iload_n hx hb ds_pchk_0 rfl (lv_at hl 0 rfl) ?_
  refine lv_if_lt (tgt := 9) hx hb ds_pchk_1 (by decide) (fun z => absurd z h0) (fun _ => ?_)
  refine lv_iload_n hx hb ds_pchk_4 rfl (lv_at hl 0 rfl) ?_
  refine lv_iload_n hx hb ds_pchk_5 rfl (lv_at hl 1 rfl) ?_
  refine lv_icmp_lt (tgt := 16) hx hb ds_pchk_6 (by decide) (fun _ => ?_) (fun z => absurd h1 z)
  refine lv_iload_n hx hb ds_pchk_16 rfl (lv_at hl 0 rfl) ?_
  exact W.iret (v := i) hx hb hr (fun t ht hW => ⟨⟨i, (), rfl, rfl, trivial⟩, hS.F ht⟩) (fun _ h => absurd h List.not_mem_nil) ds_pchk_17
theorem ok_schk (l : Launch) (sk sv : Nat → Nat) {i n : Int32} (h0 : ¬ i < 0) (h1 : i < n) : Met l ys_schk ws_schk (xRm 1 0 0) (va_Pc [.int i, .int n] (fun U => xSs sk sv (fun _ => False) U U.heap)) (va_Qv (fun (_ : Unit) => True) (fun _ _ => True) (fun _ => False)) 0 0 (fun _ => False) := by
  refine Met.ofW (cc := cs_schk) (maxL := 2) (ret := none) (by decide) rfl ?_
  intro p e s m args below meth c s₁ B hml hv
  obtain ⟨rfl, hSt⟩ := hv
  have hx := B.exec
  have hb := B.bytes
  have hr := B.returns
  have hts : ∀ w ∈ xGw, w.before ([.int i, .int n] : List Value).toArray s = true := fun w hw => atoms_spec (ws := ws_schk) B.pre w (List.mem_cons_of_mem _ hw)
  have hown : s.vm.findClass "java/lang/String" = some m.cls := findClass_of_methodNamed B.named
  have hlocks := B.notSynchronized
  have hS : va_S (fun _ : Nat => False) s.heap s.heap [] := va_S.rf
  have hl := lv_entry ([.int i, .int n]) (n := 2) (Nat.le_of_ble_eq_true rfl)
  rw [lg_entry_eq]
  generalize (lg_sl ([.int i, .int n]) ++ List.replicate (2 - (lg_sl ([.int i, .int n])).length) Slot.unset).toArray = ls at hl ⊢
  have hl : lv_has ls 2 [(0, .int i), (1, .int n)] := hl
  obtain ⟨q, hq⟩ := hSt.2.2
  refine lv_iload_n hx hb ds_schk_0 rfl (lv_at hl 0 rfl) ?_
  refine lv_iload_n hx hb ds_schk_1 rfl (lv_at hl 1 rfl) ?_
  refine va_gets hx hb hq hS hown (hts _ wl_sio) (fun _ h => h) ds_schk_2 ?_
  refine va_calli (va_runS (n := 3) (As := [.int i, .int n, va_rf q]) (rest := []) ⟨hx, hb, hml, hown, hts⟩ (ok_pchk l h0 h1 q) ⟨xSCB hts ws_pchk_c wn_pc wm_pchk (by decide) (by decide +kernel) (Nat.le_of_ble_eq_true rfl) (Nat.le_of_ble_eq_true rfl), hts _ wt_pchk⟩ ⟨xSblind0, fun U hU hW => ⟨rfl, trivial⟩⟩ rfl rfl hl.1 rfl (lv_room (Nat.le_of_ble_eq_true rfl)) ds_schk_5 ⟨Nat.le_refl _, Nat.le_refl _⟩) hS (fun q _ h => h) (fun q h => h) (fun r u t H1 locs ht hvm hw hB hz1 hk1 hS => ?_)
  refine lv_pop hx hb ds_schk_8 rfl ?_
  exact W.vret hx hb hr (fun t ht hW => ⟨⟨(), rfl, trivial, trivial⟩, hS.F ht⟩) (fun q h => hS.2.2 q h) ds_schk_9
theorem xSlen_b : ∀ j, j < 27 → (xSlen.getD j 0 < 100 ∧ ∀ k, k < xSlen.getD j 0 → narrow .char (.int ((((xSbyt.getD j []).getD k 0 &&& 255).toUInt32 % 65536).toInt32)) = .int ((((xSbyt.getD j []).getD k 0 &&& 255).toUInt32 % 65536).toInt32) ∧ ((((xSbyt.getD j []).getD k 0 &&& 255).toUInt32 % 65536).toInt32) = Int32.ofInt ((xTx.getD j []).getD k 0) ∧ xIn32 ((xTx.getD j []).getD k 0) = true ∧ (xTx.getD j []).length = xSlen.getD j 0) := by decide +kernel
theorem ok_lchr (l : Launch) (sk sv : Nat → Nat) (j : Nat) (hj : j < 27) {k : Nat} (hk : k < xSlen.getD j 0) : Met l ys_lchr ws_lchr (xRm 2 0 0) (va_Pc [.ref (sv j), .int (Int32.ofNat k)] (fun U => xSs sk sv (fun _ => False) U U.heap)) (va_Qi (fun r (_ : Unit) => r = ((((xSbyt.getD j []).getD k 0 &&& 255).toUInt32 % 65536).toInt32)) (fun _ _ => True) (fun _ => False)) 0 0 (fun _ => False) := by
  refine Met.ofW (cc := cs_lchr) (maxL := 2) (ret := (some .char)) (by decide) rfl ?_
  intro p e s m args below meth c s₁ B hml hv
  obtain ⟨rfl, hSt⟩ := hv
  have hx := B.exec
  have hb := B.bytes
  have hr := B.returns
  have hts : ∀ w ∈ xGw, w.before ([.ref (sv j), .int (Int32.ofNat k)] : List Value).toArray s = true := fun w hw => atoms_spec (ws := ws_lchr) B.pre w (List.mem_cons_of_mem _ hw)
  have hown : s.vm.findClass "java/lang/StringLatin1" = some m.cls := findClass_of_methodNamed B.named
  have hlocks := B.notSynchronized
  have hS : va_S (fun _ : Nat => False) s.heap s.heap [] := va_S.rf
  have hl := lv_entry ([.ref (sv j), .int (Int32.ofNat k)]) (n := 2) (Nat.le_of_ble_eq_true rfl)
  rw [lg_entry_eq]
  generalize (lg_sl ([.ref (sv j), .int (Int32.ofNat k)]) ++ List.replicate (2 - (lg_sl ([.ref (sv j), .int (Int32.ofNat k)])).length) Slot.unset).toArray = ls at hl ⊢
  have hl : lv_has ls 2 [(0, .ref (sv j)), (1, .int (Int32.ofNat k))] := hl
  obtain ⟨hO, hCo, hVa, hBy⟩ := hSt.1 j hj
  have hb100 := (xSlen_b j hj).1
  have hkk := (xSlen_b j hj).2 k hk
  refine lv_iload_n hx hb ds_lchr_0 rfl (lv_at hl 1 rfl) ?_
  refine lv_aload_n hx hb ds_lchr_1 rfl (lv_at hl 0 rfl) ?_
  refine va_tlen hx hb hBy hS rfl ds_lchr_2 ?_
  refine va_callv (va_runS (n := 2) (As := [.int (Int32.ofNat k), .int (Int32.ofNat (xSlen.getD j 0))]) (rest := []) ⟨hx, hb, hml, hown, hts⟩ (ok_schk l sk sv (nI_pos (by omega)) (nI_lt hk (by omega))) ⟨xSCB hts ws_schk_c wn_st wm_schk (by decide) (by decide +kernel) (Nat.le_of_ble_eq_true rfl) (Nat.le_of_ble_eq_true rfl), hts _ wt_schk⟩ ⟨xSblind, fun U hU hW => ⟨rfl, by show xSs _ _ _ U U.heap; rw [hU]; exact xSs_moved hW.alike hSt⟩⟩ rfl rfl hl.1 rfl (lv_room (Nat.le_of_ble_eq_true rfl)) ds_lchr_3 ⟨Nat.le_refl _, Nat.le_refl _⟩) hS (fun q _ h => h) (fun q h => h) (fun u t H1 locs ht hvm hw hB hz1 hk1 hS => ?_)
  refine lv_aload_n hx hb ds_lchr_6 rfl (lv_at hl 0 rfl) ?_
  refine lv_iload_n hx hb ds_lchr_7 rfl (lv_at hl 1 rfl) ?_
  refine va_tb (v := .int ((xSbyt.getD j []).getD k 0)) hx hb hBy hS (vp_in_nI hk (by omega)) (by show Value.int ((xSbyt.getD j []).getD (nI k).toNatClampNeg 0) = _; rw [nI_clamp (by omega)]) ds_lchr_8 ?_
  refine lv_sipush (v := 255) hx hb ds_lchr_9 (by decide) ?_
  refine lv_iand hx hb ds_lchr_12 ?_
  refine lv_i2c hx hb ds_lchr_13 rfl ?_
  exact W.zret (ty := .char) hx hb hr hkk.1 (fun t ht hW => ⟨⟨_, (), rfl, rfl, trivial⟩, hS.F ht⟩) (fun q h => hS.2.2 q h) ds_lchr_14
theorem ok_chr (l : Launch) (sk sv : Nat → Nat) (j : Nat) (hj : j < 27) {k : Nat} (hk : k < xSlen.getD j 0) : Met l ys_chr ws_chr (xRm 3 0 0) (va_Pc [.ref (sk j), .int (Int32.ofNat k)] (fun U => xSs sk sv (fun _ => False) U U.heap)) (va_Qi (fun r (_ : Unit) => r = ((((xSbyt.getD j []).getD k 0 &&& 255).toUInt32 % 65536).toInt32)) (fun _ _ => True) (fun _ => False)) 0 0 (fun _ => False) := by
  refine Met.ofW (cc := cs_chr) (maxL := 2) (ret := (some .char)) (by decide) rfl ?_
  intro p e s m args below meth c s₁ B hml hv
  obtain ⟨rfl, hSt⟩ := hv
  have hx := B.exec
  have hb := B.bytes
  have hr := B.returns
  have hts : ∀ w ∈ xGw, w.before ([.ref (sk j), .int (Int32.ofNat k)] : List Value).toArray s = true := fun w hw => atoms_spec (ws := ws_chr) B.pre w (List.mem_cons_of_mem _ hw)
  have hown : s.vm.findClass "java/lang/String" = some m.cls := findClass_of_methodNamed B.named
  have hlocks := B.notSynchronized
  have hS : va_S (fun _ : Nat => False) s.heap s.heap [] := va_S.rf
  have hl := lv_entry ([.ref (sk j), .int (Int32.ofNat k)]) (n := 2) (Nat.le_of_ble_eq_true rfl)
  rw [lg_entry_eq]
  generalize (lg_sl ([.ref (sk j), .int (Int32.ofNat k)]) ++ List.replicate (2 - (lg_sl ([.ref (sk j), .int (Int32.ofNat k)])).length) Slot.unset).toArray = ls at hl ⊢
  have hl : lv_has ls 2 [(0, .ref (sk j)), (1, .int (Int32.ofNat k))] := hl
  obtain ⟨hO, hCo, hVa, hBy⟩ := hSt.1 j hj
  have hkk := (xSlen_b j hj).2 k hk
  refine lv_aload_n hx hb ds_chr_0 rfl (lv_at hl 0 rfl) ?_
  refine va_calli (va_runV (C := "java/lang/String") (n := 0) (As := []) (rest := []) ⟨hx, hb, hml, hown, hts⟩ (ok_isL l sk sv j hj) ⟨xSCB hts ws_isL_c wn_st wm_isL (by decide) (by decide +kernel) (Nat.le_of_ble_eq_true rfl) (Nat.le_of_ble_eq_true rfl), hts _ wi_isL, hts _ wx_isL⟩ ⟨xSblind, (by obtain ⟨cell, z1, z2, z3, -⟩ := hO; exact ⟨cell, z1, z2, z3⟩), fun U hU hW => ⟨rfl, by show xSs _ _ _ U U.heap; rw [hU]; exact xSs_moved hW.alike hSt⟩⟩ rfl rfl hl.1 rfl (lv_room (Nat.le_of_ble_eq_true rfl)) ds_chr_1 ⟨Nat.le_refl _, Nat.le_refl _⟩) hS (fun q _ h => h) (fun q h => h) (fun r u t H1 locs ht hvm hw hB hz1 hk1 hS => ?_)
  subst hw
  refine lv_if_eq (tgt := 16) hx hb ds_chr_4 (by decide) (fun q => absurd q (by decide)) (fun _ => ?_)
  refine lv_aload_n hx hb ds_chr_7 rfl (lv_at hl 0 rfl) ?_
  refine vk_getf hx hb hVa hS hown (hts _ wl_val) (fun _ h => h) ds_chr_8 ?_
  refine lv_iload_n hx hb ds_chr_11 rfl (lv_at hl 1 rfl) ?_
  refine va_calli (va_runS (n := 2) (As := [.ref (sv j), .int (Int32.ofNat k)]) (rest := []) ⟨hx, hb, hml, hown, hts⟩ (ok_lchr l sk sv j hj hk) ⟨xSCB hts ws_lchr_c wn_l1 wm_lchr (by decide) (by decide +kernel) (Nat.le_of_ble_eq_true rfl) (Nat.le_of_ble_eq_true rfl), hts _ wt_lchr⟩ ⟨xSblind, fun U hU hW => ⟨rfl, by show xSs _ _ _ U U.heap; rw [hU]; exact xSs_moved hW.alike (xSs_kept hSt (fun a ha _ => hk1 a ha (fun z => z)))⟩⟩ rfl rfl hl.1 rfl (lv_room (Nat.le_of_ble_eq_true rfl)) ds_chr_12 ⟨Nat.le_refl _, Nat.le_refl _⟩) hS (fun q _ h => h) (fun q h => h) (fun r u t H2 locs ht hvm hw hB hz2 hk2 hS => ?_)
  subst hw
  exact W.zret (ty := .char) hx hb hr hkk.1 (fun t ht hW => ⟨⟨_, (), rfl, rfl, trivial⟩, hS.F ht⟩) (fun q h => hS.2.2 q h) ds_chr_15
section XSTR
variable {p : Program} {l : Launch} {e : Env} {R : Room} {s : State} {m : MethodId} {args : Array Value} {below : List Frame} {meth : Method} {c : Code}
variable {J : xJT} {A : Nat → Prop} {Z : State → Prop} {nL c0 s0 own d pc : Nat} {cc : ByteArray} {ps : List Nat} {L r : List xV} {M : xH}
theorem xRel_kept {G : xG} {H H1 : Heap} {locs locs1 : List Loc} (hR : xRel J s A s.heap G M H locs) (hk : ∀ q : Nat, q < H.size → H1[q]? = H[q]?) (hS : va_S A s.heap H1 locs1) : xRel J s A s.heap G M H1 locs1 :=
  ⟨hR.1, hR.2.1.kept (fun k q hq => hk q.1 ((hR.2.1 k q hq).lt)), hR.2.2.1, hS, hR.2.2.2.2.1, hR.2.2.2.2.2⟩
theorem o_len (C : xCtx p R s m args c own cc nL d J A) {i : Nat} (hw : (own, i, 4) ∈ xBl) (hd : decode cc (ps.getD pc 0) = .ok (.invokevirtual i, 3)) (hn : ps.getD (pc + 1) 0 = ps.getD pc 0 + 3) {x : Int} (hd0 : 4 < d) (hr8 : xCat r ≤ 8) (hx1 : x ≤ -2) (hx2 : -29 < x) (hcl : M.2.2.2.1 ≤ c0 + R.cells) (hsl : M.2.2.2.2 ≤ s0 + R.slots) (h : xRd (p, l, e, R, s, m, args, below, meth, c) J A Z nL c0 s0 ps (pc + 1, L, (0, xLg x) :: r, M)) : xRd (p, l, e, R, s, m, args, below, meth, c) J A Z nL c0 s0 ps (pc, L, (2, x) :: r, M) := by
  intro G H locs ls hR hF h1 h2
  replace hR : xRel J s A s.heap G M H locs := hR
  replace h1 : c0 ≤ M.2.2.2.1 := h1
  replace h2 : s0 ≤ M.2.2.2.2 := h2
  have hF2 : xFr nL G M L r ls := xFr_tail hF
  obtain ⟨j, hj⟩ : ∃ j : Nat, x = -2 - (j : Int) := ⟨(-2 - x).toNat, by omega⟩
  have hj27 : j < 27 := by omega
  have hjx : (-2 - x).toNat = j := by omega
  have hT := C.2.2.2.2.2.1
  obtain ⟨-, -, -, hSt⟩ := C.2.2.2.2.2.2.1
  have hS := hR.2.2.2.1
  have hSt1 := xSs_kept hSt (fun a ha hna => hS.2.1 a ha hna)
  have hSt2 : xSs J.2.1 J.2.2.1 (fun _ => False) s H := xSs_narrow hSt1 (fun _ h => h.elim)
  obtain ⟨hO, -, -, -⟩ := hSt2.1 j hj27
  have hG : G.1 x = J.2.1 j := by rw [hj]; exact hR.2.2.2.2.2.2.1.1 j hj27
  have hdf := C.2.2.2.2.2.2.2.2.1
  have hdl := C.2.2.2.2.2.2.2.2.2
  have hsl := (xSlen_b j hj27).1
  show W p l e R s m args below meth c H locs (M.2.2.2.1 - c0) (M.2.2.2.2 - s0) Z (F0 m (ps.getD pc 0) ls (xc G.1 (2, x) :: r.map (xc G.1)))
  rw [xc_ref (show x ≠ 0 by omega), hG]
  have hsub : 0 ≤ R.cells - (M.2.2.2.1 - c0) := Nat.zero_le _
  refine va_calli (va_runV (C := "java/lang/String") (n := 0) (As := []) (rest := r.map (xc G.1)) ⟨C.1, C.2.1, C.2.2.1, C.2.2.2.1, C.2.2.2.2.1⟩ (ok_length l J.2.1 J.2.2.1 j hj27) ⟨xSCB C.2.2.2.2.1 ws_length_c wn_st (xGw_of (xBl_ok _ hw) rfl) (by decide) (by decide +kernel) (by omega) (by omega), C.2.2.2.2.1 _ wi_length, C.2.2.2.2.1 _ wx_length⟩ ⟨xSblind, (by obtain ⟨cell, z1, z2, z3, -⟩ := hO; exact ⟨cell, z1, z2, z3⟩), fun U hU hW => ⟨rfl, by show xSs _ _ _ U U.heap; rw [hU]; exact xSs_moved hW.alike hSt2⟩⟩ rfl rfl hF.1.1 rfl (xRoom8 hF2 hr8) hd ⟨by omega, by omega⟩) hS (fun q _ h => h.elim) (fun q h => h.elim) (fun r9 u t H1 locs1 ht hvm hw9 hB hz1 hk1 hS1 => ?_)
  subst hw9
  have k := h G H1 locs1 ls (xRel_kept hR (fun q hq => hk1 q hq (fun z => z)) hS1) ⟨hF.1, hF.2.1, hF.2.2.1, fun v hv => ?_⟩ h1 h2
  · have k : W p l e R s m args below meth c H1 locs1 (M.2.2.2.1 - c0) (M.2.2.2.2 - s0) Z (F0 m (ps.getD (pc + 1) 0) ls (.int (Int32.ofInt (xLg x)) :: r.map (xc G.1))) := k
    rw [hn] at k
    have ev : Int32.ofNat (xSlen.getD j 0) = Int32.ofInt (xLg x) := by unfold xLg xTxt; rw [hjx, xTx_len j hj27, xi_nat]
    rw [ev]
    exact k
  · have hv : v ∈ ((0, xLg x) :: r : List xV) := hv
    rcases List.mem_cons.mp hv with rfl | hv
    · refine ⟨Nat.le_of_ble_eq_true rfl, ?_⟩
      show xIn 0 (xLg x)
      unfold xLg xTxt
      rw [hjx, xTx_len j hj27]
      show (-2147483648 : Int) ≤ ((xSlen.getD j 0 : Nat) : Int) ∧ ((xSlen.getD j 0 : Nat) : Int) < 2147483648
      omega
    · exact hF2.2.2.2 v hv
theorem o_chr (C : xCtx p R s m args c own cc nL d J A) {i : Nat} (hw : (own, i, 5) ∈ xBl) (hd : decode cc (ps.getD pc 0) = .ok (.invokevirtual i, 3)) (hn : ps.getD (pc + 1) 0 = ps.getD pc 0 + 3) {x y : Int} (hd0 : 4 < d) (hr8 : xCat r ≤ 8) (hx1 : x ≤ -2) (hx2 : -29 < x) (hy0 : 0 ≤ y) (hy1 : y < xLg x) (hcl : M.2.2.2.1 ≤ c0 + R.cells) (hsl : M.2.2.2.2 ≤ s0 + R.slots) (h : xRd (p, l, e, R, s, m, args, below, meth, c) J A Z nL c0 s0 ps (pc + 1, L, (0, xCh x y) :: r, M)) : xRd (p, l, e, R, s, m, args, below, meth, c) J A Z nL c0 s0 ps (pc, L, (0, y) :: (2, x) :: r, M) := by
  intro G H locs ls hR hF h1 h2
  replace hR : xRel J s A s.heap G M H locs := hR
  replace h1 : c0 ≤ M.2.2.2.1 := h1
  replace h2 : s0 ≤ M.2.2.2.2 := h2
  have hF2 : xFr nL G M L r ls := xFr_tail (xFr_tail hF)
  obtain ⟨j, hj⟩ : ∃ j : Nat, x = -2 - (j : Int) := ⟨(-2 - x).toNat, by omega⟩
  have hj27 : j < 27 := by omega
  have hjx : (-2 - x).toNat = j := by omega
  have hT := C.2.2.2.2.2.1
  obtain ⟨-, -, -, hSt⟩ := C.2.2.2.2.2.2.1
  have hS := hR.2.2.2.1
  have hSt1 := xSs_kept hSt (fun a ha hna => hS.2.1 a ha hna)
  have hSt2 : xSs J.2.1 J.2.2.1 (fun _ => False) s H := xSs_narrow hSt1 (fun _ h => h.elim)
  obtain ⟨hO, -, -, -⟩ := hSt2.1 j hj27
  have hG : G.1 x = J.2.1 j := by rw [hj]; exact hR.2.2.2.2.2.2.1.1 j hj27
  have hdf := C.2.2.2.2.2.2.2.2.1
  have hdl := C.2.2.2.2.2.2.2.2.2
  have hsl := (xSlen_b j hj27).1
  have iy : xIn 0 y := (hF.2.2.2 (0, y) (by simp)).2
  have hyl : y.toNat < xSlen.getD j 0 := by
    unfold xLg xTxt at hy1
    rw [hjx] at hy1
    by_cases q : 0 < xSlen.getD j 0
    · rw [((xSlen_b j hj27).2 0 q).2.2.2] at hy1
      omega
    · exact absurd hy1 (by rw [xTx_len j hj27]; omega)
  have hkk := (xSlen_b j hj27).2 y.toNat hyl
  have hyn : Int32.ofInt y = Int32.ofNat y.toNat := by rw [← xi_nat, Int.toNat_of_nonneg hy0]
  show W p l e R s m args below meth c H locs (M.2.2.2.1 - c0) (M.2.2.2.2 - s0) Z (F0 m (ps.getD pc 0) ls (.int (Int32.ofInt y) :: xc G.1 (2, x) :: r.map (xc G.1)))
  rw [xc_ref (show x ≠ 0 by omega), hG, hyn]
  have hsub : 0 ≤ R.cells - (M.2.2.2.1 - c0) := Nat.zero_le _
  refine va_calli (va_runV (C := "java/lang/String") (n := 1) (As := [.int (Int32.ofNat y.toNat)]) (rest := r.map (xc G.1)) ⟨C.1, C.2.1, C.2.2.1, C.2.2.2.1, C.2.2.2.2.1⟩ (ok_chr l J.2.1 J.2.2.1 j hj27 hyl) ⟨xSCB C.2.2.2.2.1 ws_chr_c wn_st (xGw_of (xBl_ok _ hw) rfl) (by decide) (by decide +kernel) (by omega) (by omega), C.2.2.2.2.1 _ wi_chr, C.2.2.2.2.1 _ wx_chr⟩ ⟨xSblind, (by obtain ⟨cell, z1, z2, z3, -⟩ := hO; exact ⟨cell, z1, z2, z3⟩), fun U hU hW => ⟨rfl, by show xSs _ _ _ U U.heap; rw [hU]; exact xSs_moved hW.alike hSt2⟩⟩ rfl rfl hF.1.1 rfl (xRoom8 hF2 hr8) hd ⟨by omega, by omega⟩) hS (fun q _ h => h.elim) (fun q h => h.elim) (fun r9 u t H1 locs1 ht hvm hw9 hB hz1 hk1 hS1 => ?_)
  subst hw9
  have k := h G H1 locs1 ls (xRel_kept hR (fun q hq => hk1 q hq (fun z => z)) hS1) ⟨hF.1, hF.2.1, hF.2.2.1, fun v hv => ?_⟩ h1 h2
  · have k : W p l e R s m args below meth c H1 locs1 (M.2.2.2.1 - c0) (M.2.2.2.2 - s0) Z (F0 m (ps.getD (pc + 1) 0) ls (.int (Int32.ofInt (xCh x y)) :: r.map (xc G.1))) := k
    rw [hn] at k
    have ev : ((((xSbyt.getD j []).getD y.toNat 0 &&& 255).toUInt32 % 65536).toInt32) = Int32.ofInt (xCh x y) := by unfold xCh xTxt; rw [hjx]; exact hkk.2.1
    rw [ev]
    exact k
  · have hv : v ∈ ((0, xCh x y) :: r : List xV) := hv
    rcases List.mem_cons.mp hv with rfl | hv
    · refine ⟨Nat.le_of_ble_eq_true rfl, ?_⟩
      show xIn 0 (xCh x y)
      unfold xCh xTxt
      rw [hjx]
      exact xIn32_ok hkk.2.2.1
    · exact hF2.2.2.2 v hv
end XSTR
