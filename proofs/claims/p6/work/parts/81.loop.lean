/-! the law: the loop -/
theorem lp_21 : cdLaw.getD 21 .nop = .tableswitch 1615 0 50 #[22, 79, 96, 103, 120, 183, 246, 281, 298, 325, 342, 377, 432, 477, 512, 529, 546, 553, 636, 719, 802, 819, 836, 881, 926, 953, 990, 1025, 1070, 1077, 1094, 1111, 1128, 1135, 1142, 1169, 1196, 1213, 1240, 1277, 1314, 1361, 1368, 1385, 1402, 1409, 1426, 1443, 1460, 1497, 1558] := lw_0 21 (by decide)
theorem lw_op {Q : Int → xH → Prop} {H : xH} (hT : ttTI H) (hX : ttXX YY H) (hS : lwS H) {i x : Int} (i0 : 0 ≤ i) (i7 : i + 7 ≤ H.2.2.1 (-1)) (hR : lwRR H) (hq : ∀ K, ttTI K → ttXX YY K → lwS K → K.2.2.1 (-1) = H.2.2.1 (-1) → lwRR K → xW 15 cdLaw Q (1615, lwL i, [], K)) : xW 15 cdLaw Q (21, lwL i, [(0, x)], H) := by
  refine q_ts lp_21 (xSw_of (fun n u hu _ => ?_)) (fun _ => hq H hT hX hS rfl hR)
  match n, hu with
  | 0, hu =>
    have hu : some (22 : Int) = some u := hu
    cases hu
    exact lo_0 hT hX hS i0 i7 hR hq
  | 1, hu =>
    have hu : some (79 : Int) = some u := hu
    cases hu
    exact lo_1 hT hX hS i0 i7 hR hq
  | 2, hu =>
    have hu : some (96 : Int) = some u := hu
    cases hu
    exact lo_2 hT hX hS i0 i7 hR hq
  | 3, hu =>
    have hu : some (103 : Int) = some u := hu
    cases hu
    exact lo_3 hT hX hS i0 i7 hR hq
  | 4, hu =>
    have hu : some (120 : Int) = some u := hu
    cases hu
    exact lo_4 hT hX hS i0 i7 hR hq
  | 5, hu =>
    have hu : some (183 : Int) = some u := hu
    cases hu
    exact lo_5 hT hX hS i0 i7 hR hq
  | 6, hu =>
    have hu : some (246 : Int) = some u := hu
    cases hu
    exact lo_6 hT hX hS i0 i7 hR hq
  | 7, hu =>
    have hu : some (281 : Int) = some u := hu
    cases hu
    exact lo_7 hT hX hS i0 i7 hR hq
  | 8, hu =>
    have hu : some (298 : Int) = some u := hu
    cases hu
    exact lo_8 hT hX hS i0 i7 hR hq
  | 9, hu =>
    have hu : some (325 : Int) = some u := hu
    cases hu
    exact lo_9 hT hX hS i0 i7 hR hq
  | 10, hu =>
    have hu : some (342 : Int) = some u := hu
    cases hu
    exact lo_10 hT hX hS i0 i7 hR hq
  | 11, hu =>
    have hu : some (377 : Int) = some u := hu
    cases hu
    exact lo_11 hT hX hS i0 i7 hR hq
  | 12, hu =>
    have hu : some (432 : Int) = some u := hu
    cases hu
    exact lo_12 hT hX hS i0 i7 hR hq
  | 13, hu =>
    have hu : some (477 : Int) = some u := hu
    cases hu
    exact lo_13 hT hX hS i0 i7 hR hq
  | 14, hu =>
    have hu : some (512 : Int) = some u := hu
    cases hu
    exact lo_14 hT hX hS i0 i7 hR hq
  | 15, hu =>
    have hu : some (529 : Int) = some u := hu
    cases hu
    exact lo_15 hT hX hS i0 i7 hR hq
  | 16, hu =>
    have hu : some (546 : Int) = some u := hu
    cases hu
    exact lo_16 hT hX hS i0 i7 hR hq
  | 17, hu =>
    have hu : some (553 : Int) = some u := hu
    cases hu
    exact lo_17 hT hX hS i0 i7 hR hq
  | 18, hu =>
    have hu : some (636 : Int) = some u := hu
    cases hu
    exact lo_18 hT hX hS i0 i7 hR hq
  | 19, hu =>
    have hu : some (719 : Int) = some u := hu
    cases hu
    exact lo_19 hT hX hS i0 i7 hR hq
  | 20, hu =>
    have hu : some (802 : Int) = some u := hu
    cases hu
    exact lo_20 hT hX hS i0 i7 hR hq
  | 21, hu =>
    have hu : some (819 : Int) = some u := hu
    cases hu
    exact lo_21 hT hX hS i0 i7 hR hq
  | 22, hu =>
    have hu : some (836 : Int) = some u := hu
    cases hu
    exact lo_22 hT hX hS i0 i7 hR hq
  | 23, hu =>
    have hu : some (881 : Int) = some u := hu
    cases hu
    exact lo_23 hT hX hS i0 i7 hR hq
  | 24, hu =>
    have hu : some (926 : Int) = some u := hu
    cases hu
    exact lo_24 hT hX hS i0 i7 hR hq
  | 25, hu =>
    have hu : some (953 : Int) = some u := hu
    cases hu
    exact lo_25 hT hX hS i0 i7 hR hq
  | 26, hu =>
    have hu : some (990 : Int) = some u := hu
    cases hu
    exact lo_26 hT hX hS i0 i7 hR hq
  | 27, hu =>
    have hu : some (1025 : Int) = some u := hu
    cases hu
    exact lo_27 hT hX hS i0 i7 hR hq
  | 28, hu =>
    have hu : some (1070 : Int) = some u := hu
    cases hu
    exact lo_28 hT hX hS i0 i7 hR hq
  | 29, hu =>
    have hu : some (1077 : Int) = some u := hu
    cases hu
    exact lo_29 hT hX hS i0 i7 hR hq
  | 30, hu =>
    have hu : some (1094 : Int) = some u := hu
    cases hu
    exact lo_30 hT hX hS i0 i7 hR hq
  | 31, hu =>
    have hu : some (1111 : Int) = some u := hu
    cases hu
    exact lo_31 hT hX hS i0 i7 hR hq
  | 32, hu =>
    have hu : some (1128 : Int) = some u := hu
    cases hu
    exact lo_32 hT hX hS i0 i7 hR hq
  | 33, hu =>
    have hu : some (1135 : Int) = some u := hu
    cases hu
    exact lo_33 hT hX hS i0 i7 hR hq
  | 34, hu =>
    have hu : some (1142 : Int) = some u := hu
    cases hu
    exact lo_34 hT hX hS i0 i7 hR hq
  | 35, hu =>
    have hu : some (1169 : Int) = some u := hu
    cases hu
    exact lo_35 hT hX hS i0 i7 hR hq
  | 36, hu =>
    have hu : some (1196 : Int) = some u := hu
    cases hu
    exact lo_36 hT hX hS i0 i7 hR hq
  | 37, hu =>
    have hu : some (1213 : Int) = some u := hu
    cases hu
    exact lo_37 hT hX hS i0 i7 hR hq
  | 38, hu =>
    have hu : some (1240 : Int) = some u := hu
    cases hu
    exact lo_38 hT hX hS i0 i7 hR hq
  | 39, hu =>
    have hu : some (1277 : Int) = some u := hu
    cases hu
    exact lo_39 hT hX hS i0 i7 hR hq
  | 40, hu =>
    have hu : some (1314 : Int) = some u := hu
    cases hu
    exact lo_40 hT hX hS i0 i7 hR hq
  | 41, hu =>
    have hu : some (1361 : Int) = some u := hu
    cases hu
    exact lo_41 hT hX hS i0 i7 hR hq
  | 42, hu =>
    have hu : some (1368 : Int) = some u := hu
    cases hu
    exact lo_42 hT hX hS i0 i7 hR hq
  | 43, hu =>
    have hu : some (1385 : Int) = some u := hu
    cases hu
    exact lo_43 hT hX hS i0 i7 hR hq
  | 44, hu =>
    have hu : some (1402 : Int) = some u := hu
    cases hu
    exact lo_44 hT hX hS i0 i7 hR hq
  | 45, hu =>
    have hu : some (1409 : Int) = some u := hu
    cases hu
    exact lo_45 hT hX hS i0 i7 hR hq
  | 46, hu =>
    have hu : some (1426 : Int) = some u := hu
    cases hu
    exact lo_46 hT hX hS i0 i7 hR hq
  | 47, hu =>
    have hu : some (1443 : Int) = some u := hu
    cases hu
    exact lo_47 hT hX hS i0 i7 hR hq
  | 48, hu =>
    have hu : some (1460 : Int) = some u := hu
    cases hu
    exact lo_48 hT hX hS i0 i7 hR hq
  | 49, hu =>
    have hu : some (1497 : Int) = some u := hu
    cases hu
    exact lo_49 hT hX hS i0 i7 hR hq
  | 50, hu =>
    have hu : some (1558 : Int) = some u := hu
    cases hu
    exact lo_50 hT hX hS i0 i7 hR hq
  | n + 51, hu =>
    exact absurd (List.getElem?_eq_some_iff.mp hu).1 (by show ¬ (n + 51 < 51); omega)
theorem lw_loop : ∀ n : Nat, ∀ (K : xH) (i : Int), ttTI K → ttXX YY K → lwS K → lwRR K → 0 ≤ i → i ≤ 4000 → K.2.2.1 (-1) - i ≤ (n : Int) → xW 15 cdLaw zQ (10, lwL i, [], K) := by
  intro n
  induction n with
  | zero =>
    intro K i kT kX kS kR i0 i4 hn
    have s2 := kS.2.1
    refine q_il (i := 3) (x := i) lp_10 rfl ?_
    refine q_al (i := 0) (x := -1) lp_11 rfl ?_
    refine q_ln lp_12 (by rw [kS.1]; decide) ?_
    refine q_ic lp_13 ?_
    refine q_ib lp_14 (by omega) (by omega) ?_
    refine q_i2 lp_15 (fun h15 => ?_) (fun h15 => ?_)
    · replace h15 : K.2.2.1 (-1) - 7 < i := h15
      refine q_ic lp_1617 ?_
      refine q_ri lp_1618 ?_
      obtain ⟨⟨r1, r2⟩, -⟩ := kX
      have r3 : ttNs5 K.1 ≤ 5 := by
        unfold ttNs5 ttNl
        have q : ∀ x : Int, (if x = 0 then 0 else 1 : Nat) ≤ 1 := fun x => by split <;> decide
        have q0 := q (K.1 73 0)
        have q1 := q (K.1 73 1)
        have q2 := q (K.1 73 2)
        have q3 := q (K.1 73 3)
        have q4 := q (K.1 73 4)
        omega
      exact ⟨rfl, by omega, by omega⟩
    · replace h15 : i ≤ K.2.2.1 (-1) - 7 := h15
      omega
  | succ n ih =>
    intro K i kT kX kS kR i0 i4 hn
    have s2 := kS.2.1
    refine q_il (i := 3) (x := i) lp_10 rfl ?_
    refine q_al (i := 0) (x := -1) lp_11 rfl ?_
    refine q_ln lp_12 (by rw [kS.1]; decide) ?_
    refine q_ic lp_13 ?_
    refine q_ib lp_14 (by omega) (by omega) ?_
    refine q_i2 lp_15 (fun h15 => ?_) (fun h15 => ?_)
    · replace h15 : K.2.2.1 (-1) - 7 < i := h15
      refine q_ic lp_1617 ?_
      refine q_ri lp_1618 ?_
      obtain ⟨⟨r1, r2⟩, -⟩ := kX
      have r3 : ttNs5 K.1 ≤ 5 := by
        unfold ttNs5 ttNl
        have q : ∀ x : Int, (if x = 0 then 0 else 1 : Nat) ≤ 1 := fun x => by split <;> decide
        have q0 := q (K.1 73 0)
        have q1 := q (K.1 73 1)
        have q2 := q (K.1 73 2)
        have q3 := q (K.1 73 3)
        have q4 := q (K.1 73 4)
        omega
      exact ⟨rfl, by omega, by omega⟩
    · replace h15 : i ≤ K.2.2.1 (-1) - 7 := h15
      refine q_al (i := 0) (x := -1) lp_16 rfl ?_
      refine q_il (i := 3) (x := i) lp_17 rfl ?_
      refine q_ai lp_18 kS.1 (by omega) (by omega) ?_
      refine q_ic lp_19 ?_
      refine q_an lp_20 ?_
      refine lw_op kT kX kS i0 (by omega) kR (fun M mT mX mS m7 mR => ?_)
      refine q_ii (i := 3) (c := 7) (x := i) (L' := lwL (i + 7)) lp_1615 rfl rfl (by omega) (by omega) rfl ?_
      refine q_go lp_1616 ?_
      exact ih M (i + 7) mT mX mS mR (by omega) (by omega) (by omega)
noncomputable def yyE : List zzV → List zzV → zzMm → Bool := fun L st m => match L, st with
  | [(2, a), (2, b), (2, c), (0, d)], [(0, _)] => (((zzEq a.1 (-1) && zzEq a.2 (-1)) && (zzEq b.1 1 && zzEq b.2 1)) && ((zzEq c.1 183 && zzEq c.2 183) && (zzEq d.1 0 && zzEq d.2 0))) && yyMe m
  | _, _ => false
theorem yyHo : zzHo (List.replicate 7 zzTp, 3584) yyE 15 cdLaw zQ := fun L st m pc L2 st2 H h ht hL hs hW => by
  obtain ⟨t, lo, hi, ts, r, ht⟩ := ht
  have ep := zl_ts_at ht
  subst ep
  unfold yyE at h
  split at h
  · rename_i a b c d x
    obtain ⟨h1, h2⟩ := zz_and h
    obtain ⟨h1, h3⟩ := zz_and h1
    obtain ⟨h1, h4⟩ := zz_and h1
    obtain ⟨h3, h5⟩ := zz_and h3
    obtain ⟨a1, a2⟩ := zz_and h1
    obtain ⟨b1, b2⟩ := zz_and h4
    obtain ⟨c1, c2⟩ := zz_and h3
    obtain ⟨d1, d2⟩ := zz_and h5
    match L2, hL, st2, hs with
    | [(_, w1), (_, w2), (_, w3), (_, w4)], hL, [(_, y)], hs =>
      obtain ⟨⟨e1, m1⟩, ⟨e2, m2⟩, ⟨e3, m3⟩, ⟨e4, m4⟩, -⟩ := hL
      obtain ⟨⟨e5, m5⟩, -⟩ := hs
      cases e1
      cases e2
      cases e3
      cases e4
      cases e5
      have g : ∀ {v : zzI} {k w : Int}, zzEq v.1 k = true → zzEq v.2 k = true → zzM v w → w = k := fun {v k w} g1 g2 g3 => by
        have g1 := zzEq_ok g1
        have g2 := zzEq_ok g2
        have g4 : v.1 ≤ w := g3.1
        have g5 : w ≤ v.2 := g3.2
        omega
      have q1 := g a1 a2 m1
      have q2 := g b1 b2 m2
      have q3 := g c1 c2 m3
      have q4 := g d1 d2 m4
      subst q1
      subst q2
      subst q3
      subst q4
      obtain ⟨hT, hn, hx⟩ := yyMe_ok hW h2
      have hX := yyMe_X hT hn hx
      have w8 : (7 : Int) ≤ H.2.2.1 (-1) ∧ H.2.2.1 (-1) ≤ 3584 := hW.2.2.2.2.2.1
      have hS : lwS H := ⟨hW.2.2.2.2.1, ⟨by omega, w8.2⟩, fun j _ _ => hW.1.2.2.2.2 j⟩
      refine lw_op (i := 0) hT hX hS (by decide) (by omega) (lwRR_0 hx) (fun M mT mX mS m7 mR => ?_)
      refine q_ii (i := 3) (c := 7) (x := 0) (L' := lwL (0 + 7)) lp_1615 rfl rfl (by decide) (by decide) rfl ?_
      refine q_go lp_1616 ?_
      exact lw_loop (M.2.2.1 (-1)).toNat M 7 mT mX mS mR (by decide) (by decide) (by have := mS.2.1; omega)
  · cases h
set_option maxRecDepth 1000000 in
theorem zr_long : zzRun (List.replicate 7 zzTp, 3584) zzLim yyE 200000 15 cdLaw cdLaw zzL0 [] zzm0 [] = true := by decide +kernel
theorem zl_wp (L : Nat) (hL : L ≤ 3584) (xs : Nat → Int32) : xW 15 cdLaw zQ (0, [(2, -1), (9, 0), (9, 0), (9, 0)], [], zM0 L xs) := by
  have hr : zzSr cdLaw (cdLaw, zzL0, []) 0 [(2, -1), (9, 0), (9, 0), (9, 0)] [] := ⟨rfl, ⟨⟨rfl, zzM_1 _⟩, ⟨rfl, zzM_1 _⟩, ⟨rfl, zzM_1 _⟩, ⟨rfl, zzM_1 _⟩, trivial⟩, trivial⟩
  by_cases h : 7 ≤ L
  · exact zzRun_ok 200000 15 cdLaw cdLaw zzL0 [] zzm0 [] zr_long 0 _ _ _ zQ hr (zW0 (S := (List.replicate 7 zzTp, 3584)) (by show (7 : Int) ≤ (L : Int); omega) (by show (L : Int) ≤ 3584; omega) (fun j hj => by
      have hj : j < 7 := hj
      rw [List.getD_eq_getElem?_getD, List.getElem?_replicate, if_pos hj]; rfl)) zzKs0 (fun _ => yyHo)
  · exact zzRun_ok 200000 15 cdLaw cdLaw zzL0 [] zzm0 [] zr_short 0 _ _ _ zQ hr (zW0 (S := ([], 6)) (by show (0 : Int) ≤ (L : Int); omega) (by show (L : Int) ≤ 6; omega) (fun j hj => absurd hj (Nat.not_lt_zero _))) zzKs0 (fun _ => zHo0)
