/-! the law's start: what the Statement gives there of the texts, the classes, the tables -/
def ztK : List Nat := [135, 137, 139, 141, 143, 145, 147, 149, 150, 152, 154, 204, 209, 217, 221, 223, 117, 228, 230, 255, 257, 259, 278, 287, 292, 297, 298]
def ztm (i : Nat) : Term := .string "LastCloud$Reader" (ztK.getD i 0)
def ztV (i : Nat) : Term := .field (ztm i) "java/lang/String" "value" "[B"
def ztC (i : Nat) : List Cond := [.exactly (ztm i) "java/lang/String", .eq (.field (ztm i) "java/lang/String" "coder" "B") (.int 0), .arrayOf (ztV i) .byte, .eq (.length (ztV i)) (.int (Int32.ofNat (xSlen.getD i 0)))] ++ (List.range (xSlen.getD i 0)).map (fun j => .eq (.elem (ztV i) (.int (Int32.ofNat j))) (.int ((xSbyt.getD i []).getD j 0)))
def ztP : List Cond := (xKs.filter (fun e => e.1 == 12)).map (fun e => Cond.eq (ztm e.2.2) (.string (xo e.1) e.2.1))
theorem ztC_in : ∀ w ∈ (List.range 27).flatMap ztC, w ∈ flatC (Jvm.Cond.and given_1 narrow_1) := x_mem2 [61, 0, 0, 0, 0, 0, 0, 0, 0, 0, 0, 0, 0, 0, 0, 0, 0, 0, 0, 0, 0, 0, 0, 0, 0, 0, 0, 0, 0, 0, 0, 0, 0, 0, 0, 0, 0, 0, 0, 0, 0, 0, 0, 0, 0, 0, 0, 0, 0, 0, 0, 0, 0, 0, 0, 0, 0, 0, 0, 0, 0, 0, 0, 0, 0, 0, 0, 0, 0, 0, 0, 0, 0, 0, 0, 0, 0, 0, 0, 0, 0, 0, 0, 0, 0, 0, 0, 0, 0, 0, 0, 0, 0, 0, 0, 0, 0, 0, 0, 0, 0, 0, 0, 0, 0, 0, 0, 0, 0, 0, 0, 0, 0, 0, 0, 0, 0, 0, 0, 0, 0, 0, 0, 0, 0, 0, 0, 0, 0, 0, 0, 0, 0, 0, 0, 0, 0, 0, 0, 0, 0, 0, 0, 0, 0, 0, 0, 0, 0, 0, 0, 0, 0, 0, 0, 0, 0, 0, 0, 0, 0, 0, 0, 0, 0, 0, 0, 0, 0, 0, 0, 0, 0, 0, 0, 0, 0, 0, 0, 0, 0, 0, 0, 0, 0, 0, 0, 0, 0, 0, 0, 0, 0, 0, 0, 0, 0, 0, 0, 0, 0, 0, 0, 0, 0, 0, 0, 0, 0, 0, 0, 0, 0, 0, 0, 0, 0, 0, 0, 0, 0, 0, 0, 0, 0] [0, 1, 2, 3, 4, 5, 6, 7, 8, 9, 10, 11, 12, 13, 14, 15, 16, 17, 18, 19, 20, 21, 22, 23, 24, 25, 26, 27, 28, 29, 30, 31, 32, 33, 34, 35, 36, 37, 38, 39, 40, 41, 42, 43, 44, 45, 46, 47, 48, 49, 50, 51, 52, 53, 54, 55, 56, 57, 58, 59, 60, 61, 62, 63, 64, 65, 66, 67, 68, 69, 70, 71, 72, 73, 74, 75, 76, 77, 78, 79, 80, 81, 82, 83, 84, 85, 86, 87, 88, 89, 90, 91, 92, 93, 94, 95, 96, 97, 98, 99, 100, 101, 102, 103, 104, 105, 106, 107, 108, 109, 110, 111, 112, 113, 114, 115, 116, 117, 118, 119, 120, 121, 122, 123, 124, 125, 126, 127, 128, 129, 130, 131, 132, 133, 134, 135, 136, 137, 138, 139, 140, 141, 142, 143, 144, 145, 146, 147, 148, 149, 150, 151, 152, 153, 154, 155, 156, 157, 158, 159, 160, 161, 162, 163, 164, 165, 166, 167, 168, 169, 170, 171, 172, 173, 174, 175, 176, 177, 178, 179, 180, 181, 182, 183, 184, 185, 186, 187, 188, 189, 190, 191, 192, 193, 194, 195, 196, 197, 198, 199, 200, 201, 202, 203, 204, 205, 206, 207, 208, 209, 210, 211, 212, 213, 214, 215, 216, 217, 218, 219, 220, 221, 222, 223, 224] (by decide +kernel)
theorem ztP_in : ∀ w ∈ ztP, w ∈ flatC (Jvm.Cond.and given_1 narrow_1) := x_mem2 [294, 9, 11, 8, 9, 9, 9, 7, 8, 9, 9, 8, 10, 7, 6, 7, 10, 9, 9, 7, 8, 8, 8, 10, 6, 8, 8] [20, 16, 17, 11, 18, 19, 21, 22, 23, 24, 25, 14, 15, 0, 1, 2, 3, 4, 5, 12, 13, 6, 7, 8, 9, 10, 26] (by decide +kernel)
theorem ztK_ok : xKs.all (fun e => Nat.blt e.2.2 27 && ((e.1 == 7 && e.2.1 == ztK.getD e.2.2 0) || e.1 == 12)) = true := by decide +kernel
theorem zt_len : ∀ i : Nat, i < 27 → xSlen.getD i 0 < 2 ^ 31 := by decide +kernel
theorem zt_rd : xo 7 = "LastCloud$Reader" := by decide +kernel
theorem zt_z1 : Cond.eq (.static "java/lang/String" "COMPACT_STRINGS" "Z") (.int 1) ∈ flatC (Jvm.Cond.and given_1 narrow_1) := List.mem_of_getElem? (i := 4) (by decide +kernel)
theorem zt_z2 : Cond.isRef (.static "jdk/internal/util/Preconditions" "SIOOBE_FORMATTER" "Ljava/util/function/BiFunction;") ∈ flatC (Jvm.Cond.and given_1 narrow_1) := List.mem_of_getElem? (i := 5) (by decide +kernel)
theorem zt_l1 : Cond.laysStatic "java/lang/String" "COMPACT_STRINGS" "Z" ∈ tables_1 := List.mem_of_getElem? (i := 686) (by decide +kernel)
theorem zt_l2 : Cond.laysStatic "jdk/internal/util/Preconditions" "SIOOBE_FORMATTER" "Ljava/util/function/BiFunction;" ∈ tables_1 := List.mem_of_getElem? (i := 702) (by decide +kernel)
theorem zt_i1 : Cond.initialized "java/lang/String" ∈ tables_1 := List.mem_of_getElem? (i := 15) (by decide +kernel)
theorem zt_i2 : Cond.initialized "jdk/internal/util/Preconditions" ∈ tables_1 := List.mem_of_getElem? (i := 17) (by decide +kernel)
theorem zt_ao : Cond.arrayOver (.array .long) ∈ tables_1 := List.mem_of_getElem? (i := 519) (by decide +kernel)
theorem zt_ao2 : Cond.arrayOver (.object (xCl 2).1) ∈ tables_1 := List.mem_of_getElem? (i := 79) (by decide +kernel)
theorem zt_ao4 : Cond.arrayOver (.object (xCl 4).1) ∈ tables_1 := List.mem_of_getElem? (i := 77) (by decide +kernel)
theorem zt_ao5 : Cond.arrayOver (.object (xCl 5).1) ∈ tables_1 := List.mem_of_getElem? (i := 390) (by decide +kernel)
theorem zt_ao10 : Cond.arrayOver (.object (xCl 10).1) ∈ tables_1 := List.mem_of_getElem? (i := 339) (by decide +kernel)
theorem zt_S {args : Array Value} {s : State} {A : Nat → Prop} (hg : (Jvm.Cond.and given_1 narrow_1).before args s = true) (hts : ∀ w ∈ lw_tbl, w.before args s = true) (hA : ∀ a : Nat, a < s.heap.size → ¬ A a) : ∃ adK adV : Nat → Nat, xSs adK adV A s s.heap ∧ ∀ e ∈ xKs, (Term.string (xo e.1) e.2.1).eval args s none [] s = some (.ref (adK e.2.2)) := by
  have hs := flat_of_before _ hg
  have h0 : ∀ i : Nat, ∃ q : Nat × Nat, i < 27 → (ztm i).eval args s none [] s = some (.ref q.1) ∧ va_O "java/lang/String" q.1 A s s.heap ∧ va_OF "java/lang/String" "coder" "B" (.int 0) q.1 A s s.heap ∧ va_OF "java/lang/String" "value" "[B" (.ref q.2) q.1 A s s.heap ∧ va_T .byte q.2 (xSlen.getD i 0) (fun j => .int ((xSbyt.getD i []).getD j 0)) A s s.heap := by
    intro i
    by_cases hi : i < 27
    · have hc : ∀ w ∈ ztC i, w.before args s = true := fun w hw => hs w (ztC_in w (List.mem_flatMap.mpr ⟨i, List.mem_range.mpr hi, hw⟩))
      have hex := hc _ (List.mem_append_left _ List.mem_cons_self)
      have hco := hc _ (List.mem_append_left _ (List.mem_cons_of_mem _ List.mem_cons_self))
      have har := hc _ (List.mem_append_left _ (List.mem_cons_of_mem _ (List.mem_cons_of_mem _ List.mem_cons_self)))
      have hle := hc _ (List.mem_append_left _ (List.mem_cons_of_mem _ (List.mem_cons_of_mem _ (List.mem_cons_of_mem _ List.mem_cons_self))))
      have hel : ∀ j : Nat, j < xSlen.getD i 0 → (Cond.eq (.elem (ztV i) (.int (Int32.ofNat j))) (.int ((xSbyt.getD i []).getD j 0))).before args s = true := fun j hj => hc _ (List.mem_append_right _ (List.mem_map.mpr ⟨j, List.mem_range.mpr hj, rfl⟩))
      obtain ⟨a, c, cA, kA, q1, -⟩ := Cond.exactly_spec (args := args) (first := s) (o := none) (s := s) (idx := []) (t := ztm i) (cls := "java/lang/String") hex
      obtain ⟨t, ht, hT⟩ := va_Tof (f := fun j => .int ((xSbyt.getD i []).getD j 0)) (A := A) (zt_len i hi) har (va_eqt hle) (fun j hj => va_eqt (hel j hj)) hA
      exact ⟨(a, t), fun _ => ⟨q1, va_Oof hex q1 hA, vk_OFof q1 (va_eqt hco) hA, vk_OFof q1 ht hA, hT⟩⟩
    · exact ⟨(0, 0), fun h => absurd h hi⟩
  obtain ⟨ad, had⟩ := Classical.axiomOfChoice h0
  refine ⟨fun i => (ad i).1, fun i => (ad i).2, ⟨fun i hi => (had i hi).2, va_Zof (hts _ (x_in zt_l1)) (hts _ (x_in zt_i1)) (va_eqi (hs _ zt_z1)) hA, ?_⟩, fun e he => ?_⟩
  · rcases va_Zqof (hts _ (x_in zt_l2)) (hts _ (x_in zt_i2)) (hs _ zt_z2) hA with h | ⟨t, h⟩
    · exact ⟨none, h⟩
    · exact ⟨some t, h⟩
  · have hk := List.all_eq_true.mp ztK_ok e he
    simp only [Bool.and_eq_true, Bool.or_eq_true, Nat.blt_eq, beq_iff_eq] at hk
    obtain ⟨h27, hk⟩ := hk
    have h1 := (had e.2.2 h27).1
    rcases hk with ⟨e1, e2⟩ | e1
    · rw [e1, e2, zt_rd]; exact h1
    · exact va_eqR (hs _ (ztP_in _ (List.mem_map.mpr ⟨e, List.mem_filter.mpr ⟨he, by rw [e1]; rfl⟩, rfl⟩))) h1
theorem zt_nf : ∀ e ∈ xFn, (xFnC e).onTables = true := fun _ _ => rfl
theorem zt_nm : ∀ e ∈ xMn, (xMnC e).onTables = true := fun _ _ => rfl
set_option maxHeartbeats 4000000 in
theorem zt_K {args : Array Value} {s : State} (hts : ∀ w ∈ lw_tbl, w.before args s = true) : ∃ D : va_G, va_K D vwCl [] s := by
  have h : ∀ k : Nat, ∃ q : ClassId × (Nat → Nat), ∀ r, vwCl[k]? = some r → u_Kn s r.1 r.2.1 r.2.2 q.1 q.2 := by
    intro k
    match k with
    | 0 =>
      obtain ⟨c, i, h⟩ := u_known (C := RX0) (T := TX0) (N := 18) (n := 18) (ws := tables_1) (fun w hw => hts w (x_in hw)) inX0 (hts _ (x_in xIns_0))
      exact ⟨(c, i), fun r hr => by cases hr; exact h⟩
    | 1 =>
      obtain ⟨c, i, h⟩ := u_known (C := RX1) (T := TX1) (N := 10) (n := 10) (ws := tables_1) (fun w hw => hts w (x_in hw)) inX1 (hts _ (x_in xIns_1))
      exact ⟨(c, i), fun r hr => by cases hr; exact h⟩
    | 2 =>
      obtain ⟨c, i, h⟩ := u_known (C := RX2) (T := TX2) (N := 6) (n := 6) (ws := tables_1) (fun w hw => hts w (x_in hw)) inX2 (hts _ (x_in xIns_2))
      exact ⟨(c, i), fun r hr => by cases hr; exact h⟩
    | 3 =>
      obtain ⟨c, i, h⟩ := u_known (C := RX3) (T := TX3) (N := 5) (n := 5) (ws := tables_1) (fun w hw => hts w (x_in hw)) inX3 (hts _ (x_in xIns_3))
      exact ⟨(c, i), fun r hr => by cases hr; exact h⟩
    | 4 =>
      obtain ⟨c, i, h⟩ := u_known (C := RX4) (T := TX4) (N := 7) (n := 7) (ws := tables_1) (fun w hw => hts w (x_in hw)) inX4 (hts _ (x_in xIns_4))
      exact ⟨(c, i), fun r hr => by cases hr; exact h⟩
    | 5 =>
      obtain ⟨c, i, h⟩ := u_known (C := RX5) (T := TX5) (N := 15) (n := 15) (ws := tables_1) (fun w hw => hts w (x_in hw)) inX5 (hts _ (x_in xIns_5))
      exact ⟨(c, i), fun r hr => by cases hr; exact h⟩
    | 6 =>
      obtain ⟨c, i, h⟩ := u_known (C := RX6) (T := TX6) (N := 3) (n := 3) (ws := tables_1) (fun w hw => hts w (x_in hw)) inX6 (hts _ (x_in xIns_6))
      exact ⟨(c, i), fun r hr => by cases hr; exact h⟩
    | 7 =>
      obtain ⟨c, i, h⟩ := u_known (C := RX7) (T := TX7) (N := 10) (n := 10) (ws := tables_1) (fun w hw => hts w (x_in hw)) inX7 (hts _ (x_in xIns_7))
      exact ⟨(c, i), fun r hr => by cases hr; exact h⟩
    | 8 =>
      obtain ⟨c, i, h⟩ := u_known (C := RX8) (T := TX8) (N := 9) (n := 9) (ws := tables_1) (fun w hw => hts w (x_in hw)) inX8 (hts _ (x_in xIns_8))
      exact ⟨(c, i), fun r hr => by cases hr; exact h⟩
    | 9 =>
      obtain ⟨c, i, h⟩ := u_known (C := RX9) (T := TX9) (N := 3) (n := 3) (ws := tables_1) (fun w hw => hts w (x_in hw)) inX9 (hts _ (x_in xIns_9))
      exact ⟨(c, i), fun r hr => by cases hr; exact h⟩
    | 10 =>
      obtain ⟨c, i, h⟩ := u_known (C := RX10) (T := TX10) (N := 19) (n := 19) (ws := tables_1) (fun w hw => hts w (x_in hw)) inX10 (hts _ (x_in xIns_10))
      exact ⟨(c, i), fun r hr => by cases hr; exact h⟩
    | 11 =>
      obtain ⟨c, i, h⟩ := u_known (C := RX11) (T := TX11) (N := 18) (n := 18) (ws := tables_1) (fun w hw => hts w (x_in hw)) inX11 (hts _ (x_in xIns_11))
      exact ⟨(c, i), fun r hr => by cases hr; exact h⟩
    | 12 =>
      obtain ⟨c, i, h⟩ := u_known (C := RX12) (T := TX12) (N := 53) (n := 53) (ws := tables_1) (fun w hw => hts w (x_in hw)) inX12 (hts _ (x_in xIns_12))
      exact ⟨(c, i), fun r hr => by cases hr; exact h⟩
    | k + 13 => exact ⟨(0, fun _ => 0), fun r hr => by simp [vwCl] at hr⟩
  obtain ⟨f, hf⟩ := Classical.axiomOfChoice h
  exact ⟨(fun k => (f k).1, fun k => (f k).2), fun k r hr => hf k r hr, fun k q hq => by simp at hq⟩
theorem zt_T {args : Array Value} {s : State} {J : xJT} (hts : ∀ w ∈ lw_tbl, w.before args s = true) (hK : va_K J.1 vwCl [] s) (hE : ∀ e ∈ xKs, (Term.string (xo e.1) e.2.1).eval args s none [] s = some (.ref (J.2.1 e.2.2))) : xTab J s := by
  refine ⟨hK, fun e he => va_Nw.of (zt_nf e he) (hts _ (x_in (xFn_ok e he))), fun e he => va_Nw.of (zt_nm e he) (hts _ (x_in (xMn_ok e he))), fun e he => vk_R.of (hts _ (x_in (xKs_ok e he))) (hE e he), fun c hc => ?_, hts _ (x_in zt_ao)⟩
  rcases hc with rfl | rfl | rfl | rfl
  · exact va_AO.of (hts _ (x_in zt_ao2))
  · exact va_AO.of (hts _ (x_in zt_ao4))
  · exact va_AO.of (hts _ (x_in zt_ao5))
  · exact va_AO.of (hts _ (x_in zt_ao10))
