/-! the reference glides -/
def yyS (D : xD) : Int := D 192 0 + D 192 1 + D 192 2 + D 192 3 + D 192 4 + D 192 5 + D 192 6 + D 192 7
theorem yyS_up {D : xD} {j v : Int} (j0 : 0 ≤ j) (j1 : j ≤ 7) : yyS (xUp D 192 j v) = yyS D - D 192 j + v := by
  have h : ∀ k : Int, xUp D 192 j v 192 k = if k = j then v else D 192 k := fun k => by
    by_cases z : k = j
    · subst z
      rw [if_pos rfl]
      exact up_eq
    · rw [if_neg z]
      exact up_ne (by omega)
  unfold yyS
  rw [h 0, h 1, h 2, h 3, h 4, h 5, h 6, h 7]
  have hj : j = 0 ∨ j = 1 ∨ j = 2 ∨ j = 3 ∨ j = 4 ∨ j = 5 ∨ j = 6 ∨ j = 7 := by omega
  rcases hj with rfl | rfl | rfl | rfl | rfl | rfl | rfl | rfl <;> simp <;> omega
theorem yyS_le {H : xH} (hT : ttTI H) : yyS H.1 ≤ 480 := by
  have k := ttRw hT (a := 192) (κ := 20) (len := 8) (sz := 8) (lo := -1) (hi := 60) (by decide) (by decide) rfl
  have k0 := k 0 (by decide) (by decide)
  have k1 := k 1 (by decide) (by decide)
  have k2 := k 2 (by decide) (by decide)
  have k3 := k 3 (by decide) (by decide)
  have k4 := k 4 (by decide) (by decide)
  have k5 := k 5 (by decide) (by decide)
  have k6 := k 6 (by decide) (by decide)
  have k7 := k 7 (by decide) (by decide)
  unfold yyS
  omega
theorem yyGp {H K : xH} (kT : ttTI K) (kX : ttXX YY K) (kF : ttFr (true, [(192, 0, 7)]) H K) {j v : Int} (j0 : 0 ≤ j) (j1 : j ≤ 7) (h0 : -1 ≤ v) (h1 : v ≤ 60) : ttTI (xUp K.1 192 j v, K.2) ∧ ttXX YY (xUp K.1 192 j v, K.2) ∧ ttFr (true, [(192, 0, 7)]) H (xUp K.1 192 j v, K.2) :=
  ttPut (ttXX_out yyStab (fun _ _ => trivial)) kT kX kF (by decide) (fun _ _ => ttTyr rfl h0 h1) ⟨(192, 0, 7), List.mem_cons_self .., ⟨⟨by decide, rfl⟩, by show (0 : Int) ≤ j; omega, by show j ≤ 7; omega⟩⟩ (ttMay_no (r := 192) rfl (by decide))
theorem lf_glides {dd : Nat} {v1 v2 v3 : Int} (hd : 5 ≤ dd) {H : xH} (hT : ttTI H) (hX : ttXX YY H) (p1 : 0 ≤ v1 ∧ v1 ≤ 7) (p2 : 0 ≤ v2 ∧ v2 ≤ 60) (p3 : 0 ≤ v3 ∧ v3 ≤ 1) {Q : Int → xH → Prop} (hQ : ∀ G K, ttFr (true, [(190, 0, 15), (191, 0, 4799), (183, 22, 22)]) H G → G.1 183 22 = 1 → (H.1 183 22 ≠ 0 → G = H) → ttTI K → ttXX YY K → ttFr (true, [(192, 0, 7)]) G K → Q 0 K) : xCall dd 253 [(2, 183), (0, v1), (0, v2), (0, v3)] H Q := by
  obtain ⟨e, rfl, he⟩ := ttRun0 (n := 4) hd
  have he : 4 ≤ e := he
  refine xC_of (L := [(2, 183), (0, v1), (0, v2), (0, v3), (9, 0), (9, 0), (9, 0), (9, 0), (9, 0), (9, 0)]) (cd := cd_253) rfl rfl rfl ?_
  refine q_al (pc := 0) (i := 0) (x := 183) rfl rfl ?_
  refine q_iv (pc := 1) (q := 2000967) rfl rfl rfl (ttKc hT (a := 183) (κ := 12) (len := 0) ⟨rfl, rfl⟩ (by decide) (by decide)).1 ?_
  refine lf_laysWays (by omega) hT hX (fun G gT gX gF gf gH => ?_)
  have hq : ∀ K, ttTI K → ttXX YY K → ttFr (true, [(192, 0, 7)]) G K → Q 0 K := fun K => hQ G K gF gf gH
  have hi : ∀ (S p r : Int) (K0 : xH), 0 ≤ p → p ≤ 7 → 0 ≤ r → r ≤ 15 → (∀ (K : xH) (q : Int) (ujx7 ujx8 ujx9 : xV), (q = 0 ∨ q = 1) → (q = 1 → S < yyS K.1) → S ≤ yyS K.1 → ttTI K → ttXX YY K → ttFr (true, [(192, 0, 7)]) G K → xW e cd_253 Q (99, [(2, 183), (0, v1), (0, v2), (0, v3), (0, q), (0, p), (0, r), ujx7, ujx8, ujx9], [], K)) → ∀ n : Nat, ∀ (K : xH) (i q : Int) (ujx8 ujx9 : xV), (q = 0 ∨ q = 1) → (q = 1 → S < yyS K.1) → S ≤ yyS K.1 → 0 ≤ i → i ≤ 60 → 60 - i ≤ (n : Int) → ttTI K → ttXX YY K → ttFr (true, [(192, 0, 7)]) G K → xW e cd_253 Q (45, [(2, 183), (0, v1), (0, v2), (0, v3), (0, q), (0, p), (0, r), (0, i), ujx8, ujx9], [], K) := by
    intro S p r K0 p0 p1 r0 r1 hk n
    induction n with
    | zero =>
      intro K i q ujx8 ujx9 ujq0 ujq1 ujq2 i0 i1 hn2 kT kX kF
      have tw := ttRw kT (a := 190) (κ := 20) (len := 16) (sz := 16) (lo := 0) (hi := 60) (by decide) (by decide) rfl r (by omega) (by omega)
      have th := ttRw kT (a := 192) (κ := 20) (len := 8) (sz := 8) (lo := -1) (hi := 60) (by decide) (by decide) rfl
      have tc : 0 ≤ K.1 184 7 ∧ K.1 184 7 ≤ 60 := ttMc kT (a := 184) (j := 7) (by decide) (by decide) (by decide) (by decide)
      refine q_il (pc := 45) (i := 7) (x := i) rfl rfl ?_
      refine q_al (pc := 46) (i := 0) (x := 183) rfl rfl ?_
      refine q_gf (pc := 47) (m := 12202) (t := 2) (c := 20) rfl (ttKc kT (a := 183) (κ := 12) (len := 0) ⟨rfl, rfl⟩ (by decide) (by decide)).1 rfl rfl ?_
      rw [show K.1 183 20 = 190 from ttFx kT (by decide) (by decide) rfl rfl rfl]
      refine q_il (pc := 48) (i := 6) (x := r) rfl rfl ?_
      refine q_ai (pc := 49) rfl (ttKc kT (a := 190) (κ := 20) (len := 16) ⟨rfl, rfl⟩ (by decide) (by decide)).1 (by omega) (by rw [(ttKc kT (a := 190) (κ := 20) (len := 16) ⟨rfl, rfl⟩ (by decide) (by decide)).2]; omega) ?_
      refine q_i2 (pc := 50) rfl (fun h50 => ?_) (fun h50 => ?_)
      · replace h50 : (K.1 190 r) ≤ i := h50
        exact hk K q _ _ _ ujq0 ujq1 ujq2 kT kX kF
      · replace h50 : i < (K.1 190 r) := h50
        omega
    | succ n ih =>
      intro K i q ujx8 ujx9 ujq0 ujq1 ujq2 i0 i1 hn2 kT kX kF
      have tw := ttRw kT (a := 190) (κ := 20) (len := 16) (sz := 16) (lo := 0) (hi := 60) (by decide) (by decide) rfl r (by omega) (by omega)
      have th := ttRw kT (a := 192) (κ := 20) (len := 8) (sz := 8) (lo := -1) (hi := 60) (by decide) (by decide) rfl
      have tc : 0 ≤ K.1 184 7 ∧ K.1 184 7 ≤ 60 := ttMc kT (a := 184) (j := 7) (by decide) (by decide) (by decide) (by decide)
      refine q_il (pc := 45) (i := 7) (x := i) rfl rfl ?_
      refine q_al (pc := 46) (i := 0) (x := 183) rfl rfl ?_
      refine q_gf (pc := 47) (m := 12202) (t := 2) (c := 20) rfl (ttKc kT (a := 183) (κ := 12) (len := 0) ⟨rfl, rfl⟩ (by decide) (by decide)).1 rfl rfl ?_
      rw [show K.1 183 20 = 190 from ttFx kT (by decide) (by decide) rfl rfl rfl]
      refine q_il (pc := 48) (i := 6) (x := r) rfl rfl ?_
      refine q_ai (pc := 49) rfl (ttKc kT (a := 190) (κ := 20) (len := 16) ⟨rfl, rfl⟩ (by decide) (by decide)).1 (by omega) (by rw [(ttKc kT (a := 190) (κ := 20) (len := 16) ⟨rfl, rfl⟩ (by decide) (by decide)).2]; omega) ?_
      refine q_i2 (pc := 50) rfl (fun h50 => ?_) (fun h50 => ?_)
      · replace h50 : (K.1 190 r) ≤ i := h50
        exact hk K q _ _ _ ujq0 ujq1 ujq2 kT kX kF
      · replace h50 : i < (K.1 190 r) := h50
        refine q_al (pc := 51) (i := 0) (x := 183) rfl rfl ?_
        refine q_gf (pc := 52) (m := 12232) (t := 2) (c := 23) rfl (ttKc kT (a := 183) (κ := 12) (len := 0) ⟨rfl, rfl⟩ (by decide) (by decide)).1 rfl rfl ?_
        rw [show K.1 183 23 = 192 from ttFx kT (by decide) (by decide) rfl rfl rfl]
        refine q_il (pc := 53) (i := 5) (x := p) rfl rfl ?_
        refine q_ai (pc := 54) rfl (ttKc kT (a := 192) (κ := 20) (len := 8) ⟨rfl, rfl⟩ (by decide) (by decide)).1 (by omega) (by rw [(ttKc kT (a := 192) (κ := 20) (len := 8) ⟨rfl, rfl⟩ (by decide) (by decide)).2]; omega) ?_
        refine q_ic (pc := 55) (v := (-1)) rfl ?_
        refine q_i2 (pc := 56) rfl (fun h56 => ?_) (fun h56 => ?_)
        · replace h56 : (K.1 192 p) = (-1) := h56
          exact hk K q _ _ _ ujq0 ujq1 ujq2 kT kX kF
        · replace h56 : (K.1 192 p) ≠ (-1) := h56
          obtain ⟨k, hk5⟩ : ∃ k, k = 300 * r + 5 * i := ⟨_, rfl⟩
          obtain ⟨-, -, ujt, -, -⟩ := wy_ty kT (k := k) (by omega) (by omega) (by omega)
          have ujy := th (K.1 191 (k + 2)) (by omega) (by omega)
          refine q_ic (pc := 57) (v := 300) rfl ?_
          refine q_il (pc := 58) (i := 6) (x := r) rfl rfl ?_
          refine q_im (pc := 59) rfl (by omega) (by omega) ?_
          refine q_ic (pc := 60) (v := 5) rfl ?_
          refine q_il (pc := 61) (i := 7) (x := i) rfl rfl ?_
          refine q_im (pc := 62) rfl (by omega) (by omega) ?_
          refine q_ia (pc := 63) rfl (by omega) (by omega) ?_
          rw [← hk5]
          refine q_is (pc := 64) (i := 8) (L' := [(2, 183), (0, v1), (0, v2), (0, v3), (0, q), (0, p), (0, r), (0, i), (0, k), ujx9]) rfl rfl rfl ?_
          refine q_al (pc := 65) (i := 0) (x := 183) rfl rfl ?_
          refine q_il (pc := 66) (i := 8) (x := k) rfl rfl ?_
          refine q_al (pc := 67) (i := 0) (x := 183) rfl rfl ?_
          refine q_gf (pc := 68) (m := 12232) (t := 2) (c := 23) rfl (ttKc kT (a := 183) (κ := 12) (len := 0) ⟨rfl, rfl⟩ (by decide) (by decide)).1 rfl rfl ?_
          rw [show K.1 183 23 = 192 from ttFx kT (by decide) (by decide) rfl rfl rfl]
          refine q_il (pc := 69) (i := 5) (x := p) rfl rfl ?_
          refine q_ai (pc := 70) rfl (ttKc kT (a := 192) (κ := 20) (len := 8) ⟨rfl, rfl⟩ (by decide) (by decide)).1 (by omega) (by rw [(ttKc kT (a := 192) (κ := 20) (len := 8) ⟨rfl, rfl⟩ (by decide) (by decide)).2]; omega) ?_
          refine q_iv (pc := 71) (q := 2016972) rfl rfl rfl (ttKc kT (a := 183) (κ := 12) (len := 0) ⟨rfl, rfl⟩ (by decide) (by decide)).1 ?_
          refine lf_comesAt (by omega) kT (by omega) (by omega) (by omega) (fun hy => ?_) (fun hy => ?_)
          · obtain ⟨a, ha⟩ : ∃ a, a = yyA K.1 k (K.1 192 p) := ⟨_, rfl⟩
            have ha1 : a ≤ 60 := by rw [ha]; exact Int.le_trans (Int.min_le_left ..) tc.2
            rw [← ha]
            refine q_is (pc := 72) (i := 9) (L' := [(2, 183), (0, v1), (0, v2), (0, v3), (0, q), (0, p), (0, r), (0, i), (0, k), (0, a)]) rfl rfl rfl ?_
            refine q_il (pc := 73) (i := 9) (x := a) rfl rfl ?_
            refine q_al (pc := 74) (i := 0) (x := 183) rfl rfl ?_
            refine q_gf (pc := 75) (m := 12232) (t := 2) (c := 23) rfl (ttKc kT (a := 183) (κ := 12) (len := 0) ⟨rfl, rfl⟩ (by decide) (by decide)).1 rfl rfl ?_
            rw [show K.1 183 23 = 192 from ttFx kT (by decide) (by decide) rfl rfl rfl]
            refine q_al (pc := 76) (i := 0) (x := 183) rfl rfl ?_
            refine q_gf (pc := 77) (m := 12212) (t := 2) (c := 21) rfl (ttKc kT (a := 183) (κ := 12) (len := 0) ⟨rfl, rfl⟩ (by decide) (by decide)).1 rfl rfl ?_
            rw [show K.1 183 21 = 191 from ttFx kT (by decide) (by decide) rfl rfl rfl]
            refine q_il (pc := 78) (i := 8) (x := k) rfl rfl ?_
            refine q_ic (pc := 79) (v := 2) rfl ?_
            refine q_ia (pc := 80) rfl (by omega) (by omega) ?_
            refine q_ai (pc := 81) rfl (ttKc kT (a := 191) (κ := 20) (len := 4800) ⟨rfl, rfl⟩ (by decide) (by decide)).1 (by omega) (by rw [(ttKc kT (a := 191) (κ := 20) (len := 4800) ⟨rfl, rfl⟩ (by decide) (by decide)).2]; omega) ?_
            refine q_ai (pc := 82) rfl (ttKc kT (a := 192) (κ := 20) (len := 8) ⟨rfl, rfl⟩ (by decide) (by decide)).1 (by omega) (by rw [(ttKc kT (a := 192) (κ := 20) (len := 8) ⟨rfl, rfl⟩ (by decide) (by decide)).2]; omega) ?_
            refine q_i2 (pc := 83) rfl (fun h83 => ?_) (fun h83 => ?_)
            · replace h83 : (K.1 192 (K.1 191 (k + 2))) < a := h83
              refine q_al (pc := 85) (i := 0) (x := 183) rfl rfl ?_
              refine q_gf (pc := 86) (m := 12232) (t := 2) (c := 23) rfl (ttKc kT (a := 183) (κ := 12) (len := 0) ⟨rfl, rfl⟩ (by decide) (by decide)).1 rfl rfl ?_
              rw [show K.1 183 23 = 192 from ttFx kT (by decide) (by decide) rfl rfl rfl]
              refine q_al (pc := 87) (i := 0) (x := 183) rfl rfl ?_
              refine q_gf (pc := 88) (m := 12212) (t := 2) (c := 21) rfl (ttKc kT (a := 183) (κ := 12) (len := 0) ⟨rfl, rfl⟩ (by decide) (by decide)).1 rfl rfl ?_
              rw [show K.1 183 21 = 191 from ttFx kT (by decide) (by decide) rfl rfl rfl]
              refine q_il (pc := 89) (i := 8) (x := k) rfl rfl ?_
              refine q_ic (pc := 90) (v := 2) rfl ?_
              refine q_ia (pc := 91) rfl (by omega) (by omega) ?_
              refine q_ai (pc := 92) rfl (ttKc kT (a := 191) (κ := 20) (len := 4800) ⟨rfl, rfl⟩ (by decide) (by decide)).1 (by omega) (by rw [(ttKc kT (a := 191) (κ := 20) (len := 4800) ⟨rfl, rfl⟩ (by decide) (by decide)).2]; omega) ?_
              refine q_il (pc := 93) (i := 9) (x := a) rfl rfl ?_
              refine q_si (pc := 94) rfl (by decide) (ttKc kT (a := 192) (κ := 20) (len := 8) ⟨rfl, rfl⟩ (by decide) (by decide)).1 (by omega) (by rw [(ttKc kT (a := 192) (κ := 20) (len := 8) ⟨rfl, rfl⟩ (by decide) (by decide)).2]; omega) ?_
              refine q_ic (pc := 95) (v := 1) rfl ?_
              refine q_is (pc := 96) (i := 4) (L' := [(2, 183), (0, v1), (0, v2), (0, v3), (0, 1), (0, p), (0, r), (0, i), (0, k), (0, a)]) rfl rfl rfl ?_
              refine q_ii (pc := 97) (i := 7) (c := 1) (x := i) (L' := [(2, 183), (0, v1), (0, v2), (0, v3), (0, 1), (0, p), (0, r), (0, (i + 1)), (0, k), (0, a)]) rfl rfl rfl (by omega) (by omega) rfl ?_
              refine q_go (pc := 98) rfl ?_
              have ujc := yyGp kT kX kF (j := K.1 191 (k + 2)) (v := a) (by omega) (by omega) (by omega) (by omega)
              have ujs : yyS (xUp K.1 192 (K.1 191 (k + 2)) a) = _ := yyS_up (by omega) (by omega)
              have ujl : S < yyS (xUp K.1 192 (K.1 191 (k + 2)) a) := by omega
              exact ih (xUp K.1 192 (K.1 191 (k + 2)) a, K.2) (i + 1) 1 _ _ (Or.inr rfl) (fun _ => ujl) (Int.le_of_lt ujl) (by omega) (by omega) (by omega) ujc.1 ujc.2.1 ujc.2.2
            · replace h83 : a ≤ (K.1 192 (K.1 191 (k + 2))) := h83
              refine q_go (pc := 84) rfl ?_
              refine q_ii (pc := 97) (i := 7) (c := 1) (x := i) (L' := [(2, 183), (0, v1), (0, v2), (0, v3), (0, q), (0, p), (0, r), (0, (i + 1)), (0, k), (0, a)]) rfl rfl rfl (by omega) (by omega) rfl ?_
              refine q_go (pc := 98) rfl ?_
              exact ih K (i + 1) q _ _ ujq0 ujq1 ujq2 (by omega) (by omega) (by omega) kT kX kF
          · obtain ⟨a, ha⟩ : ∃ a : Int, a = -1 := ⟨_, rfl⟩
            have ha1 : a ≤ 60 := by omega
            rw [← ha]
            refine q_is (pc := 72) (i := 9) (L' := [(2, 183), (0, v1), (0, v2), (0, v3), (0, q), (0, p), (0, r), (0, i), (0, k), (0, a)]) rfl rfl rfl ?_
            refine q_il (pc := 73) (i := 9) (x := a) rfl rfl ?_
            refine q_al (pc := 74) (i := 0) (x := 183) rfl rfl ?_
            refine q_gf (pc := 75) (m := 12232) (t := 2) (c := 23) rfl (ttKc kT (a := 183) (κ := 12) (len := 0) ⟨rfl, rfl⟩ (by decide) (by decide)).1 rfl rfl ?_
            rw [show K.1 183 23 = 192 from ttFx kT (by decide) (by decide) rfl rfl rfl]
            refine q_al (pc := 76) (i := 0) (x := 183) rfl rfl ?_
            refine q_gf (pc := 77) (m := 12212) (t := 2) (c := 21) rfl (ttKc kT (a := 183) (κ := 12) (len := 0) ⟨rfl, rfl⟩ (by decide) (by decide)).1 rfl rfl ?_
            rw [show K.1 183 21 = 191 from ttFx kT (by decide) (by decide) rfl rfl rfl]
            refine q_il (pc := 78) (i := 8) (x := k) rfl rfl ?_
            refine q_ic (pc := 79) (v := 2) rfl ?_
            refine q_ia (pc := 80) rfl (by omega) (by omega) ?_
            refine q_ai (pc := 81) rfl (ttKc kT (a := 191) (κ := 20) (len := 4800) ⟨rfl, rfl⟩ (by decide) (by decide)).1 (by omega) (by rw [(ttKc kT (a := 191) (κ := 20) (len := 4800) ⟨rfl, rfl⟩ (by decide) (by decide)).2]; omega) ?_
            refine q_ai (pc := 82) rfl (ttKc kT (a := 192) (κ := 20) (len := 8) ⟨rfl, rfl⟩ (by decide) (by decide)).1 (by omega) (by rw [(ttKc kT (a := 192) (κ := 20) (len := 8) ⟨rfl, rfl⟩ (by decide) (by decide)).2]; omega) ?_
            refine q_i2 (pc := 83) rfl (fun h83 => ?_) (fun h83 => ?_)
            · replace h83 : (K.1 192 (K.1 191 (k + 2))) < a := h83
              refine q_al (pc := 85) (i := 0) (x := 183) rfl rfl ?_
              refine q_gf (pc := 86) (m := 12232) (t := 2) (c := 23) rfl (ttKc kT (a := 183) (κ := 12) (len := 0) ⟨rfl, rfl⟩ (by decide) (by decide)).1 rfl rfl ?_
              rw [show K.1 183 23 = 192 from ttFx kT (by decide) (by decide) rfl rfl rfl]
              refine q_al (pc := 87) (i := 0) (x := 183) rfl rfl ?_
              refine q_gf (pc := 88) (m := 12212) (t := 2) (c := 21) rfl (ttKc kT (a := 183) (κ := 12) (len := 0) ⟨rfl, rfl⟩ (by decide) (by decide)).1 rfl rfl ?_
              rw [show K.1 183 21 = 191 from ttFx kT (by decide) (by decide) rfl rfl rfl]
              refine q_il (pc := 89) (i := 8) (x := k) rfl rfl ?_
              refine q_ic (pc := 90) (v := 2) rfl ?_
              refine q_ia (pc := 91) rfl (by omega) (by omega) ?_
              refine q_ai (pc := 92) rfl (ttKc kT (a := 191) (κ := 20) (len := 4800) ⟨rfl, rfl⟩ (by decide) (by decide)).1 (by omega) (by rw [(ttKc kT (a := 191) (κ := 20) (len := 4800) ⟨rfl, rfl⟩ (by decide) (by decide)).2]; omega) ?_
              refine q_il (pc := 93) (i := 9) (x := a) rfl rfl ?_
              refine q_si (pc := 94) rfl (by decide) (ttKc kT (a := 192) (κ := 20) (len := 8) ⟨rfl, rfl⟩ (by decide) (by decide)).1 (by omega) (by rw [(ttKc kT (a := 192) (κ := 20) (len := 8) ⟨rfl, rfl⟩ (by decide) (by decide)).2]; omega) ?_
              refine q_ic (pc := 95) (v := 1) rfl ?_
              refine q_is (pc := 96) (i := 4) (L' := [(2, 183), (0, v1), (0, v2), (0, v3), (0, 1), (0, p), (0, r), (0, i), (0, k), (0, a)]) rfl rfl rfl ?_
              refine q_ii (pc := 97) (i := 7) (c := 1) (x := i) (L' := [(2, 183), (0, v1), (0, v2), (0, v3), (0, 1), (0, p), (0, r), (0, (i + 1)), (0, k), (0, a)]) rfl rfl rfl (by omega) (by omega) rfl ?_
              refine q_go (pc := 98) rfl ?_
              have ujc := yyGp kT kX kF (j := K.1 191 (k + 2)) (v := a) (by omega) (by omega) (by omega) (by omega)
              have ujs : yyS (xUp K.1 192 (K.1 191 (k + 2)) a) = _ := yyS_up (by omega) (by omega)
              have ujl : S < yyS (xUp K.1 192 (K.1 191 (k + 2)) a) := by omega
              exact ih (xUp K.1 192 (K.1 191 (k + 2)) a, K.2) (i + 1) 1 _ _ (Or.inr rfl) (fun _ => ujl) (Int.le_of_lt ujl) (by omega) (by omega) (by omega) ujc.1 ujc.2.1 ujc.2.2
            · replace h83 : a ≤ (K.1 192 (K.1 191 (k + 2))) := h83
              refine q_go (pc := 84) rfl ?_
              refine q_ii (pc := 97) (i := 7) (c := 1) (x := i) (L' := [(2, 183), (0, v1), (0, v2), (0, v3), (0, q), (0, p), (0, r), (0, (i + 1)), (0, k), (0, a)]) rfl rfl rfl (by omega) (by omega) rfl ?_
              refine q_go (pc := 98) rfl ?_
              exact ih K (i + 1) q _ _ ujq0 ujq1 ujq2 (by omega) (by omega) (by omega) kT kX kF
  have hp : ∀ (S : Int), (∀ (K : xH) (q : Int) (ujx5 ujx6 ujx7 ujx8 ujx9 : xV), (q = 0 ∨ q = 1) → (q = 1 → S < yyS K.1) → S ≤ yyS K.1 → ttTI K → ttXX YY K → ttFr (true, [(192, 0, 7)]) G K → xW e cd_253 Q (21, [(2, 183), (0, v1), (0, v2), (0, v3), (0, q), ujx5, ujx6, ujx7, ujx8, ujx9], [], K)) → ∀ n : Nat, ∀ (K : xH) (p q : Int) (ujx6 ujx7 ujx8 ujx9 : xV), (q = 0 ∨ q = 1) → (q = 1 → S < yyS K.1) → S ≤ yyS K.1 → 0 ≤ p → p ≤ 8 → 8 - p ≤ (n : Int) → ttTI K → ttXX YY K → ttFr (true, [(192, 0, 7)]) G K → xW e cd_253 Q (27, [(2, 183), (0, v1), (0, v2), (0, v3), (0, q), (0, p), ujx6, ujx7, ujx8, ujx9], [], K) := by
    intro S hk n
    induction n with
    | zero =>
      intro K p q ujx6 ujx7 ujx8 ujx9 ujq0 ujq1 ujq2 p0 p1 hn2 kT kX kF
      have tn : 0 ≤ K.1 184 1 ∧ K.1 184 1 ≤ 8 := ttMc kT (a := 184) (j := 1) (by decide) (by decide) (by decide) (by decide)
      refine q_il (pc := 27) (i := 5) (x := p) rfl rfl ?_
      refine q_al (pc := 28) (i := 0) (x := 183) rfl rfl ?_
      refine q_gf (pc := 29) (m := 12012) (t := 2) (c := 1) rfl (ttKc kT (a := 183) (κ := 12) (len := 0) ⟨rfl, rfl⟩ (by decide) (by decide)).1 rfl rfl ?_
      rw [show K.1 183 1 = 184 from ttFx kT (by decide) (by decide) rfl rfl rfl]
      refine q_ic (pc := 30) (v := 1) rfl ?_
      refine q_ai (pc := 31) rfl (ttKc kT (a := 184) (κ := 20) (len := 196) ⟨rfl, rfl⟩ (by decide) (by decide)).1 (by omega) (by rw [(ttKc kT (a := 184) (κ := 20) (len := 196) ⟨rfl, rfl⟩ (by decide) (by decide)).2]; omega) ?_
      refine q_i2 (pc := 32) rfl (fun h32 => ?_) (fun h32 => ?_)
      · replace h32 : (K.1 184 1) ≤ p := h32
        refine q_go (pc := 101) rfl ?_
        exact hk K q _ _ _ _ _ ujq0 ujq1 ujq2 kT kX kF
      · replace h32 : p < (K.1 184 1) := h32
        omega
    | succ n ih =>
      intro K p q ujx6 ujx7 ujx8 ujx9 ujq0 ujq1 ujq2 p0 p1 hn2 kT kX kF
      have tn : 0 ≤ K.1 184 1 ∧ K.1 184 1 ≤ 8 := ttMc kT (a := 184) (j := 1) (by decide) (by decide) (by decide) (by decide)
      refine q_il (pc := 27) (i := 5) (x := p) rfl rfl ?_
      refine q_al (pc := 28) (i := 0) (x := 183) rfl rfl ?_
      refine q_gf (pc := 29) (m := 12012) (t := 2) (c := 1) rfl (ttKc kT (a := 183) (κ := 12) (len := 0) ⟨rfl, rfl⟩ (by decide) (by decide)).1 rfl rfl ?_
      rw [show K.1 183 1 = 184 from ttFx kT (by decide) (by decide) rfl rfl rfl]
      refine q_ic (pc := 30) (v := 1) rfl ?_
      refine q_ai (pc := 31) rfl (ttKc kT (a := 184) (κ := 20) (len := 196) ⟨rfl, rfl⟩ (by decide) (by decide)).1 (by omega) (by rw [(ttKc kT (a := 184) (κ := 20) (len := 196) ⟨rfl, rfl⟩ (by decide) (by decide)).2]; omega) ?_
      refine q_i2 (pc := 32) rfl (fun h32 => ?_) (fun h32 => ?_)
      · replace h32 : (K.1 184 1) ≤ p := h32
        refine q_go (pc := 101) rfl ?_
        exact hk K q _ _ _ _ _ ujq0 ujq1 ujq2 kT kX kF
      · replace h32 : p < (K.1 184 1) := h32
        refine q_ic (pc := 33) (v := 2) rfl ?_
        refine q_il (pc := 34) (i := 5) (x := p) rfl rfl ?_
        refine q_im (pc := 35) rfl (by omega) (by omega) ?_
        refine q_il (pc := 36) (i := 3) (x := v3) rfl rfl ?_
        refine q_if (pc := 37) rfl (fun h37 => ?_) (fun h37 => ?_)
        · replace h37 : v3 = 0 := h37
          refine q_ic (pc := 40) (v := 0) rfl ?_
          refine q_ia (pc := 41) rfl (by omega) (by omega) ?_
          refine q_is (pc := 42) (i := 6) (L' := [(2, 183), (0, v1), (0, v2), (0, v3), (0, q), (0, p), (0, ((2 * p) + 0)), ujx7, ujx8, ujx9]) rfl rfl rfl ?_
          refine q_ic (pc := 43) (v := 0) rfl ?_
          refine q_is (pc := 44) (i := 7) (L' := [(2, 183), (0, v1), (0, v2), (0, v3), (0, q), (0, p), (0, ((2 * p) + 0)), (0, 0), ujx8, ujx9]) rfl rfl rfl ?_
          refine hi S p _ K (by omega) (by omega) (by omega) (by omega) (fun K q ujx7 ujx8 ujx9 ujq0 ujq1 ujq2 kT kX kF => ?_) 60 K 0 q _ _ ujq0 ujq1 ujq2 (by decide) (by decide) (by decide) kT kX kF
          refine q_ii (pc := 99) (i := 5) (c := 1) (x := p) (L' := [(2, 183), (0, v1), (0, v2), (0, v3), (0, q), (0, (p + 1)), (0, ((2 * p) + 0)), ujx7, ujx8, ujx9]) rfl rfl rfl (by omega) (by omega) rfl ?_
          refine q_go (pc := 100) rfl ?_
          exact ih K (p + 1) q _ _ _ _ ujq0 ujq1 ujq2 (by omega) (by omega) (by omega) kT kX kF
        · replace h37 : v3 ≠ 0 := h37
          refine q_ic (pc := 38) (v := 1) rfl ?_
          refine q_go (pc := 39) rfl ?_
          refine q_ia (pc := 41) rfl (by omega) (by omega) ?_
          refine q_is (pc := 42) (i := 6) (L' := [(2, 183), (0, v1), (0, v2), (0, v3), (0, q), (0, p), (0, ((2 * p) + 1)), ujx7, ujx8, ujx9]) rfl rfl rfl ?_
          refine q_ic (pc := 43) (v := 0) rfl ?_
          refine q_is (pc := 44) (i := 7) (L' := [(2, 183), (0, v1), (0, v2), (0, v3), (0, q), (0, p), (0, ((2 * p) + 1)), (0, 0), ujx8, ujx9]) rfl rfl rfl ?_
          refine hi S p _ K (by omega) (by omega) (by omega) (by omega) (fun K q ujx7 ujx8 ujx9 ujq0 ujq1 ujq2 kT kX kF => ?_) 60 K 0 q _ _ ujq0 ujq1 ujq2 (by decide) (by decide) (by decide) kT kX kF
          refine q_ii (pc := 99) (i := 5) (c := 1) (x := p) (L' := [(2, 183), (0, v1), (0, v2), (0, v3), (0, q), (0, (p + 1)), (0, ((2 * p) + 1)), ujx7, ujx8, ujx9]) rfl rfl rfl (by omega) (by omega) rfl ?_
          refine q_go (pc := 100) rfl ?_
          exact ih K (p + 1) q _ _ _ _ ujq0 ujq1 ujq2 (by omega) (by omega) (by omega) kT kX kF
  have hr : ∀ n : Nat, ∀ (K : xH) (q : Int) (ujx5 ujx6 ujx7 ujx8 ujx9 : xV), (q = 0 ∨ q = 1) → (q = 1 → 480 - yyS K.1 < (n : Int)) → ttTI K → ttXX YY K → ttFr (true, [(192, 0, 7)]) G K → xW e cd_253 Q (21, [(2, 183), (0, v1), (0, v2), (0, v3), (0, q), ujx5, ujx6, ujx7, ujx8, ujx9], [], K) := by
    intro n
    induction n with
    | zero =>
      intro K q ujx5 ujx6 ujx7 ujx8 ujx9 ujq0 hn2 kT kX kF
      have ts := yyS_le kT
      refine q_il (pc := 21) (i := 4) (x := q) rfl rfl ?_
      refine q_if (pc := 22) rfl (fun h22 => ?_) (fun h22 => ?_)
      · replace h22 : q = 0 := h22
        refine q_rv (pc := 102) rfl ?_
        exact hq K kT kX kF
      · replace h22 : q ≠ 0 := h22
        omega
    | succ n ih =>
      intro K q ujx5 ujx6 ujx7 ujx8 ujx9 ujq0 hn2 kT kX kF
      have ts := yyS_le kT
      refine q_il (pc := 21) (i := 4) (x := q) rfl rfl ?_
      refine q_if (pc := 22) rfl (fun h22 => ?_) (fun h22 => ?_)
      · replace h22 : q = 0 := h22
        refine q_rv (pc := 102) rfl ?_
        exact hq K kT kX kF
      · replace h22 : q ≠ 0 := h22
        refine q_ic (pc := 23) (v := 0) rfl ?_
        refine q_is (pc := 24) (i := 4) (L' := [(2, 183), (0, v1), (0, v2), (0, v3), (0, 0), ujx5, ujx6, ujx7, ujx8, ujx9]) rfl rfl rfl ?_
        refine q_ic (pc := 25) (v := 0) rfl ?_
        refine q_is (pc := 26) (i := 5) (L' := [(2, 183), (0, v1), (0, v2), (0, v3), (0, 0), (0, 0), ujx6, ujx7, ujx8, ujx9]) rfl rfl rfl ?_
        refine hp (yyS K.1) (fun K2 ujq2 ujy5 ujy6 ujy7 ujy8 ujy9 a1 a2 a3 a4 a5 a6 => ih K2 ujq2 ujy5 ujy6 ujy7 ujy8 ujy9 a1 (fun z => by have := a2 z; omega) a4 a5 a6) 8 K 0 0 _ _ _ _ (Or.inl rfl) (fun z => absurd z (by decide)) (Int.le_refl _) (by decide) (by decide) (by decide) kT kX kF
  have h0 : ∀ n : Nat, ∀ (K : xH) (j : Int), 0 ≤ j → j ≤ 8 → 8 - j ≤ (n : Int) → ttTI K → ttXX YY K → ttFr (true, [(192, 0, 7)]) G K → xW e cd_253 Q (4, [(2, 183), (0, v1), (0, v2), (0, v3), (0, j), (9, 0), (9, 0), (9, 0), (9, 0), (9, 0)], [], K) := by
    intro n
    induction n with
    | zero =>
      intro K j j0 j1 hn2 kT kX kF
      refine q_il (pc := 4) (i := 4) (x := j) rfl rfl ?_
      refine q_ic (pc := 5) (v := 8) rfl ?_
      refine q_i2 (pc := 6) rfl (fun h6 => ?_) (fun h6 => ?_)
      · replace h6 : 8 ≤ j := h6
        refine q_al (pc := 14) (i := 0) (x := 183) rfl rfl ?_
        refine q_gf (pc := 15) (m := 12232) (t := 2) (c := 23) rfl (ttKc kT (a := 183) (κ := 12) (len := 0) ⟨rfl, rfl⟩ (by decide) (by decide)).1 rfl rfl ?_
        rw [show K.1 183 23 = 192 from ttFx kT (by decide) (by decide) rfl rfl rfl]
        refine q_il (pc := 16) (i := 1) (x := v1) rfl rfl ?_
        refine q_il (pc := 17) (i := 2) (x := v2) rfl rfl ?_
        refine q_si (pc := 18) rfl (by decide) (ttKc kT (a := 192) (κ := 20) (len := 8) ⟨rfl, rfl⟩ (by decide) (by decide)).1 (by omega) (by rw [(ttKc kT (a := 192) (κ := 20) (len := 8) ⟨rfl, rfl⟩ (by decide) (by decide)).2]; omega) ?_
        refine q_ic (pc := 19) (v := 1) rfl ?_
        refine q_is (pc := 20) (i := 4) (L' := [(2, 183), (0, v1), (0, v2), (0, v3), (0, 1), (9, 0), (9, 0), (9, 0), (9, 0), (9, 0)]) rfl rfl rfl ?_
        have ujc := yyGp kT kX kF (j := v1) (v := v2) (by omega) (by omega) (by omega) (by omega)
        refine hr (481 + 8) _ 1 _ _ _ _ _ (Or.inr rfl) (fun _ => ?_) ujc.1 ujc.2.1 ujc.2.2
        have ujt := ttRw ujc.1 (a := 192) (κ := 20) (len := 8) (sz := 8) (lo := -1) (hi := 60) (by decide) (by decide) rfl
        have ujt0 := (ujt 0 (by decide) (by decide)).1
        have ujt1 := (ujt 1 (by decide) (by decide)).1
        have ujt2 := (ujt 2 (by decide) (by decide)).1
        have ujt3 := (ujt 3 (by decide) (by decide)).1
        have ujt4 := (ujt 4 (by decide) (by decide)).1
        have ujt5 := (ujt 5 (by decide) (by decide)).1
        have ujt6 := (ujt 6 (by decide) (by decide)).1
        have ujt7 := (ujt 7 (by decide) (by decide)).1
        unfold yyS
        omega
      · replace h6 : j < 8 := h6
        omega
    | succ n ih =>
      intro K j j0 j1 hn2 kT kX kF
      refine q_il (pc := 4) (i := 4) (x := j) rfl rfl ?_
      refine q_ic (pc := 5) (v := 8) rfl ?_
      refine q_i2 (pc := 6) rfl (fun h6 => ?_) (fun h6 => ?_)
      · replace h6 : 8 ≤ j := h6
        refine q_al (pc := 14) (i := 0) (x := 183) rfl rfl ?_
        refine q_gf (pc := 15) (m := 12232) (t := 2) (c := 23) rfl (ttKc kT (a := 183) (κ := 12) (len := 0) ⟨rfl, rfl⟩ (by decide) (by decide)).1 rfl rfl ?_
        rw [show K.1 183 23 = 192 from ttFx kT (by decide) (by decide) rfl rfl rfl]
        refine q_il (pc := 16) (i := 1) (x := v1) rfl rfl ?_
        refine q_il (pc := 17) (i := 2) (x := v2) rfl rfl ?_
        refine q_si (pc := 18) rfl (by decide) (ttKc kT (a := 192) (κ := 20) (len := 8) ⟨rfl, rfl⟩ (by decide) (by decide)).1 (by omega) (by rw [(ttKc kT (a := 192) (κ := 20) (len := 8) ⟨rfl, rfl⟩ (by decide) (by decide)).2]; omega) ?_
        refine q_ic (pc := 19) (v := 1) rfl ?_
        refine q_is (pc := 20) (i := 4) (L' := [(2, 183), (0, v1), (0, v2), (0, v3), (0, 1), (9, 0), (9, 0), (9, 0), (9, 0), (9, 0)]) rfl rfl rfl ?_
        have ujc := yyGp kT kX kF (j := v1) (v := v2) (by omega) (by omega) (by omega) (by omega)
        refine hr (481 + 8) _ 1 _ _ _ _ _ (Or.inr rfl) (fun _ => ?_) ujc.1 ujc.2.1 ujc.2.2
        have ujt := ttRw ujc.1 (a := 192) (κ := 20) (len := 8) (sz := 8) (lo := -1) (hi := 60) (by decide) (by decide) rfl
        have ujt0 := (ujt 0 (by decide) (by decide)).1
        have ujt1 := (ujt 1 (by decide) (by decide)).1
        have ujt2 := (ujt 2 (by decide) (by decide)).1
        have ujt3 := (ujt 3 (by decide) (by decide)).1
        have ujt4 := (ujt 4 (by decide) (by decide)).1
        have ujt5 := (ujt 5 (by decide) (by decide)).1
        have ujt6 := (ujt 6 (by decide) (by decide)).1
        have ujt7 := (ujt 7 (by decide) (by decide)).1
        unfold yyS
        omega
      · replace h6 : j < 8 := h6
        refine q_al (pc := 7) (i := 0) (x := 183) rfl rfl ?_
        refine q_gf (pc := 8) (m := 12232) (t := 2) (c := 23) rfl (ttKc kT (a := 183) (κ := 12) (len := 0) ⟨rfl, rfl⟩ (by decide) (by decide)).1 rfl rfl ?_
        rw [show K.1 183 23 = 192 from ttFx kT (by decide) (by decide) rfl rfl rfl]
        refine q_il (pc := 9) (i := 4) (x := j) rfl rfl ?_
        refine q_ic (pc := 10) (v := (-1)) rfl ?_
        refine q_si (pc := 11) rfl (by decide) (ttKc kT (a := 192) (κ := 20) (len := 8) ⟨rfl, rfl⟩ (by decide) (by decide)).1 (by omega) (by rw [(ttKc kT (a := 192) (κ := 20) (len := 8) ⟨rfl, rfl⟩ (by decide) (by decide)).2]; omega) ?_
        refine q_ii (pc := 12) (i := 4) (c := 1) (x := j) (L' := [(2, 183), (0, v1), (0, v2), (0, v3), (0, (j + 1)), (9, 0), (9, 0), (9, 0), (9, 0), (9, 0)]) rfl rfl rfl (by omega) (by omega) rfl ?_
        refine q_go (pc := 13) rfl ?_
        have ujc := yyGp kT kX kF (j := j) (v := -1) (by omega) (by omega) (by decide) (by decide)
        exact ih _ (j + 1) (by omega) (by omega) (by omega) ujc.1 ujc.2.1 ujc.2.2
  refine q_ic (pc := 2) (v := 0) rfl ?_
  refine q_is (pc := 3) (i := 4) (L' := [(2, 183), (0, v1), (0, v2), (0, v3), (0, 0), (9, 0), (9, 0), (9, 0), (9, 0), (9, 0)]) rfl rfl rfl ?_
  exact h0 8 G 0 (by decide) (by decide) (by decide) gT gX (ttFr_rf _ _)
theorem hm_glides : ttHas (ttXX YY) m_glides := by
  intro dd hdd vs H hT hX hargs hcells Q hQ
  obtain ⟨v0, vs, rfl, p0, hargs⟩ := ttV1 hargs
  obtain ⟨v1, vs, rfl, p1, hargs⟩ := ttV1 hargs
  obtain ⟨v2, vs, rfl, p2, hargs⟩ := ttV1 hargs
  obtain ⟨v3, vs, rfl, p3, hargs⟩ := ttV1 hargs
  cases ttV0 hargs
  cases ttPk p0
  have p1 := ttPi p1
  have p2 := ttPi p2
  have p3 := ttPi p3
  have hd : 8 ≤ dd := hdd
  refine lf_glides (by omega) hT hX p1 p2 p3 (fun G K gF _ _ kT kX kF => hQ 0 K kT kX ?_ ⟨_, List.mem_singleton.mpr rfl, ttPk_of rfl⟩ (fun q hq => absurd hq List.not_mem_nil))
  exact ttFr_tr (ttFr_tr (ef := (true, [(190, 0, 15), (191, 0, 4799), (192, 0, 7), (183, 22, 22)])) (ttFr_rf _ _) gF (fun _ => rfl) (by decide)) kF (fun _ => rfl) (by decide)
