/-! fields in reach -/
theorem lf_fieldsOf {dd : Nat} {v1 v2 v3 : Int} (hd : 6 ≤ dd) {H : xH} (hT : ttTI H) (hX : ttXX YY H) (p1 : 0 ≤ v1 ∧ v1 ≤ 7) (p2 : 0 ≤ v2 ∧ v2 ≤ 60) (p3 : 0 ≤ v3 ∧ v3 ≤ 1) (hf : H.1 183 22 = 1) {Q : Int → xH → Prop} (hQ : ∀ r K, ttTI K → ttXX YY K → ttFr (true, [(192, 0, 7), (193, 0, 975)]) H K → Q r K) : xCall dd 256 [(2, 183), (0, v1), (0, v2), (0, v3)] H Q := by
  obtain ⟨e, rfl, he⟩ := ttRun0 (n := 5) hd
  have he : 5 ≤ e := he
  have hl : ∀ k : Int, 0 ≤ k → k ≤ 975 → ∀ n : Nat, ∀ (K : xH) (s p : Int), xIn 0 s → 0 ≤ p → p ≤ 8 → 8 - p ≤ (n : Int) → ttTI K → ttXX YY K → ttFr (true, [(192, 0, 7), (193, 0, 975)]) H K → xW e cd_256 Q (34, [(2, 183), (0, v1), (0, v2), (0, v3), (0, k), (0, s), (0, p)], [], K) := by
    intro k k0 k1 n
    induction n with
    | zero =>
      intro K s p s0 p0 p9 hn2 kT kX kF
      have tn : 0 ≤ K.1 184 1 ∧ K.1 184 1 ≤ 8 := ttMc kT (a := 184) (j := 1) (by decide) (by decide) (by decide) (by decide)
      refine q_il (pc := 34) (i := 6) (x := p) rfl rfl ?_
      refine q_al (pc := 35) (i := 0) (x := 183) rfl rfl ?_
      refine q_gf (pc := 36) (m := 12012) (t := 2) (c := 1) rfl (ttKc kT (a := 183) (κ := 12) (len := 0) ⟨rfl, rfl⟩ (by decide) (by decide)).1 rfl rfl ?_
      rw [show K.1 183 1 = 184 from ttFx kT (by decide) (by decide) rfl rfl rfl]
      refine q_ic (pc := 37) (v := 1) rfl ?_
      refine q_ai (pc := 38) rfl (ttKc kT (a := 184) (κ := 20) (len := 196) ⟨rfl, rfl⟩ (by decide) (by decide)).1 (by omega) (by rw [(ttKc kT (a := 184) (κ := 20) (len := 196) ⟨rfl, rfl⟩ (by decide) (by decide)).2]; omega) ?_
      refine q_i2 (pc := 39) rfl (fun h39 => ?_) (fun h39 => ?_)
      · replace h39 : (K.1 184 1) ≤ p := h39
        refine q_al (pc := 61) (i := 0) (x := 183) rfl rfl ?_
        refine q_gf (pc := 62) (m := 12242) (t := 2) (c := 24) rfl (ttKc kT (a := 183) (κ := 12) (len := 0) ⟨rfl, rfl⟩ (by decide) (by decide)).1 rfl rfl ?_
        rw [show K.1 183 24 = 193 from ttFx kT (by decide) (by decide) rfl rfl rfl]
        refine q_il (pc := 63) (i := 4) (x := k) rfl rfl ?_
        refine q_il (pc := 64) (i := 5) (x := s) rfl rfl ?_
        refine q_si (pc := 65) rfl (by decide) (ttKc kT (a := 193) (κ := 20) (len := 976) ⟨rfl, rfl⟩ (by decide) (by decide)).1 (by omega) (by rw [(ttKc kT (a := 193) (κ := 20) (len := 976) ⟨rfl, rfl⟩ (by decide) (by decide)).2]; omega) ?_
        refine q_il (pc := 66) (i := 5) (x := s) rfl rfl ?_
        refine q_ri (pc := 67) rfl ?_
        have c := ttPut (ttXX_out yyStab (fun _ _ => trivial)) kT kX kF (a := 193) (j := k) (x := s) (by decide) (fun _ _ => ttTyr rfl s0.1 (Int.le_of_lt_add_one s0.2)) ⟨(193, 0, 975), List.mem_cons_of_mem _ (List.mem_cons_self ..), ⟨⟨by decide, rfl⟩, by show (0 : Int) ≤ k; omega, by show k ≤ 975; omega⟩⟩ (ttMay_no (r := 193) rfl (by decide))
        exact hQ _ _ c.1 c.2.1 c.2.2
      · replace h39 : p < (K.1 184 1) := h39
        omega
    | succ n ih =>
      intro K s p s0 p0 p9 hn2 kT kX kF
      have tn : 0 ≤ K.1 184 1 ∧ K.1 184 1 ≤ 8 := ttMc kT (a := 184) (j := 1) (by decide) (by decide) (by decide) (by decide)
      refine q_il (pc := 34) (i := 6) (x := p) rfl rfl ?_
      refine q_al (pc := 35) (i := 0) (x := 183) rfl rfl ?_
      refine q_gf (pc := 36) (m := 12012) (t := 2) (c := 1) rfl (ttKc kT (a := 183) (κ := 12) (len := 0) ⟨rfl, rfl⟩ (by decide) (by decide)).1 rfl rfl ?_
      rw [show K.1 183 1 = 184 from ttFx kT (by decide) (by decide) rfl rfl rfl]
      refine q_ic (pc := 37) (v := 1) rfl ?_
      refine q_ai (pc := 38) rfl (ttKc kT (a := 184) (κ := 20) (len := 196) ⟨rfl, rfl⟩ (by decide) (by decide)).1 (by omega) (by rw [(ttKc kT (a := 184) (κ := 20) (len := 196) ⟨rfl, rfl⟩ (by decide) (by decide)).2]; omega) ?_
      refine q_i2 (pc := 39) rfl (fun h39 => ?_) (fun h39 => ?_)
      · replace h39 : (K.1 184 1) ≤ p := h39
        refine q_al (pc := 61) (i := 0) (x := 183) rfl rfl ?_
        refine q_gf (pc := 62) (m := 12242) (t := 2) (c := 24) rfl (ttKc kT (a := 183) (κ := 12) (len := 0) ⟨rfl, rfl⟩ (by decide) (by decide)).1 rfl rfl ?_
        rw [show K.1 183 24 = 193 from ttFx kT (by decide) (by decide) rfl rfl rfl]
        refine q_il (pc := 63) (i := 4) (x := k) rfl rfl ?_
        refine q_il (pc := 64) (i := 5) (x := s) rfl rfl ?_
        refine q_si (pc := 65) rfl (by decide) (ttKc kT (a := 193) (κ := 20) (len := 976) ⟨rfl, rfl⟩ (by decide) (by decide)).1 (by omega) (by rw [(ttKc kT (a := 193) (κ := 20) (len := 976) ⟨rfl, rfl⟩ (by decide) (by decide)).2]; omega) ?_
        refine q_il (pc := 66) (i := 5) (x := s) rfl rfl ?_
        refine q_ri (pc := 67) rfl ?_
        have c := ttPut (ttXX_out yyStab (fun _ _ => trivial)) kT kX kF (a := 193) (j := k) (x := s) (by decide) (fun _ _ => ttTyr rfl s0.1 (Int.le_of_lt_add_one s0.2)) ⟨(193, 0, 975), List.mem_cons_of_mem _ (List.mem_cons_self ..), ⟨⟨by decide, rfl⟩, by show (0 : Int) ≤ k; omega, by show k ≤ 975; omega⟩⟩ (ttMay_no (r := 193) rfl (by decide))
        exact hQ _ _ c.1 c.2.1 c.2.2
      · replace h39 : p < (K.1 184 1) := h39
        refine q_il (pc := 40) (i := 5) (x := s) rfl rfl ?_
        refine q_al (pc := 41) (i := 0) (x := 183) rfl rfl ?_
        refine q_gf (pc := 42) (m := 12232) (t := 2) (c := 23) rfl (ttKc kT (a := 183) (κ := 12) (len := 0) ⟨rfl, rfl⟩ (by decide) (by decide)).1 rfl rfl ?_
        rw [show K.1 183 23 = 192 from ttFx kT (by decide) (by decide) rfl rfl rfl]
        refine q_il (pc := 43) (i := 6) (x := p) rfl rfl ?_
        refine q_ai (pc := 44) rfl (ttKc kT (a := 192) (κ := 20) (len := 8) ⟨rfl, rfl⟩ (by decide) (by decide)).1 (by omega) (by rw [(ttKc kT (a := 192) (κ := 20) (len := 8) ⟨rfl, rfl⟩ (by decide) (by decide)).2]; omega) ?_
        refine q_ic (pc := 45) (v := (-1)) rfl ?_
        refine q_i2 (pc := 46) rfl (fun h46 => ?_) (fun h46 => ?_)
        · replace h46 : (K.1 192 p) = (-1) := h46
          refine q_ic (pc := 56) (v := 0) rfl ?_
          refine q_or (pc := 57) rfl ?_
          refine q_is (pc := 58) (i := 5) (L' := [(2, 183), (0, v1), (0, v2), (0, v3), (0, k), (0, (xOr s 0)), (0, p)]) rfl rfl rfl ?_
          refine q_ii (pc := 59) (i := 6) (c := 1) (x := p) (L' := [(2, 183), (0, v1), (0, v2), (0, v3), (0, k), (0, (xOr s 0)), (0, (p + 1))]) rfl rfl rfl (by omega) (by omega) rfl ?_
          refine q_go (pc := 60) rfl ?_
          exact ih K _ (p + 1) (xi_in _) (by omega) (by omega) (by omega) kT kX kF
        · replace h46 : (K.1 192 p) ≠ (-1) := h46
          refine q_al (pc := 47) (i := 0) (x := 183) rfl rfl ?_
          refine q_il (pc := 48) (i := 6) (x := p) rfl rfl ?_
          refine q_ic (pc := 49) (v := 1) rfl ?_
          refine q_iv (pc := 50) (q := 1664972) rfl rfl rfl (ttKc kT (a := 183) (κ := 12) (len := 0) ⟨rfl, rfl⟩ (by decide) (by decide)).1 ?_
          refine lf_ofPlace (j := (21 + 8 * p)) (by omega) (by omega) kT (by omega) (by omega) (by omega) (by omega) ?_
          refine q_if (pc := 51) rfl (fun h51 => ?_) (fun h51 => ?_)
          · replace h51 : (K.1 184 (21 + 8 * p)) ≤ 0 := h51
            refine q_ic (pc := 56) (v := 0) rfl ?_
            refine q_or (pc := 57) rfl ?_
            refine q_is (pc := 58) (i := 5) (L' := [(2, 183), (0, v1), (0, v2), (0, v3), (0, k), (0, (xOr s 0)), (0, p)]) rfl rfl rfl ?_
            refine q_ii (pc := 59) (i := 6) (c := 1) (x := p) (L' := [(2, 183), (0, v1), (0, v2), (0, v3), (0, k), (0, (xOr s 0)), (0, (p + 1))]) rfl rfl rfl (by omega) (by omega) rfl ?_
            refine q_go (pc := 60) rfl ?_
            exact ih K _ (p + 1) (xi_in _) (by omega) (by omega) (by omega) kT kX kF
          · replace h51 : 0 < (K.1 184 (21 + 8 * p)) := h51
            refine q_ic (pc := 52) (v := 1) rfl ?_
            refine q_il (pc := 53) (i := 6) (x := p) rfl rfl ?_
            refine q_sl (pc := 54) rfl ?_
            refine q_go (pc := 55) rfl ?_
            refine q_or (pc := 57) rfl ?_
            refine q_is (pc := 58) (i := 5) (L' := [(2, 183), (0, v1), (0, v2), (0, v3), (0, k), (0, (xOr s (xShl 1 p))), (0, p)]) rfl rfl rfl ?_
            refine q_ii (pc := 59) (i := 6) (c := 1) (x := p) (L' := [(2, 183), (0, v1), (0, v2), (0, v3), (0, k), (0, (xOr s (xShl 1 p))), (0, (p + 1))]) rfl rfl rfl (by omega) (by omega) rfl ?_
            refine q_go (pc := 60) rfl ?_
            exact ih K _ (p + 1) (xi_in _) (by omega) (by omega) (by omega) kT kX kF
  refine xC_of (L := [(2, 183), (0, v1), (0, v2), (0, v3), (9, 0), (9, 0), (9, 0)]) (cd := cd_256) rfl rfl rfl ?_
  refine q_ic (pc := 0) (v := 61) rfl ?_
  refine q_il (pc := 1) (i := 1) (x := v1) rfl rfl ?_
  refine q_im (pc := 2) rfl (by omega) (by omega) ?_
  refine q_il (pc := 3) (i := 2) (x := v2) rfl rfl ?_
  refine q_ia (pc := 4) rfl (by omega) (by omega) ?_
  refine q_ic (pc := 5) (v := 2) rfl ?_
  refine q_im (pc := 6) rfl (by omega) (by omega) ?_
  refine q_il (pc := 7) (i := 3) (x := v3) rfl rfl ?_
  refine q_if (pc := 8) rfl (fun h8 => ?_) (fun h8 => ?_)
  · replace h8 : v3 = 0 := h8
    refine q_ic (pc := 11) (v := 0) rfl ?_
    refine q_ia (pc := 12) rfl (by omega) (by omega) ?_
    obtain ⟨k, hk⟩ : ∃ k, k = ((((61 * v1) + v2) * 2) + 0) := ⟨_, rfl⟩
    rw [← hk]
    refine q_is (pc := 13) (i := 4) (L' := [(2, 183), (0, v1), (0, v2), (0, v3), (0, k), (9, 0), (9, 0)]) rfl rfl rfl ?_
    refine q_al (pc := 14) (i := 0) (x := 183) rfl rfl ?_
    refine q_gf (pc := 15) (m := 12242) (t := 2) (c := 24) rfl (ttKc hT (a := 183) (κ := 12) (len := 0) ⟨rfl, rfl⟩ (by decide) (by decide)).1 rfl rfl ?_
    rw [show H.1 183 24 = 193 from ttFx hT (by decide) (by decide) rfl rfl rfl]
    refine q_il (pc := 16) (i := 4) (x := k) rfl rfl ?_
    refine q_ai (pc := 17) rfl (ttKc hT (a := 193) (κ := 20) (len := 976) ⟨rfl, rfl⟩ (by decide) (by decide)).1 (by omega) (by rw [(ttKc hT (a := 193) (κ := 20) (len := 976) ⟨rfl, rfl⟩ (by decide) (by decide)).2]; omega) ?_
    refine q_ic (pc := 18) (v := (-1)) rfl ?_
    refine q_i2 (pc := 19) rfl (fun h19 => ?_) (fun h19 => ?_)
    · replace h19 : (H.1 193 k) = (-1) := h19
      refine q_al (pc := 25) (i := 0) (x := 183) rfl rfl ?_
      refine q_il (pc := 26) (i := 1) (x := v1) rfl rfl ?_
      refine q_il (pc := 27) (i := 2) (x := v2) rfl rfl ?_
      refine q_il (pc := 28) (i := 3) (x := v3) rfl rfl ?_
      refine q_iv (pc := 29) (q := 2024979) rfl rfl rfl (ttKc hT (a := 183) (κ := 12) (len := 0) ⟨rfl, rfl⟩ (by decide) (by decide)).1 ?_
      refine lf_glides (by omega) hT hX p1 p2 p3 (fun G K _ _ gH kT kX kF => ?_)
      rw [gH (by omega)] at kF
      have kF : ttFr (true, [(192, 0, 7), (193, 0, 975)]) H K := ttFr_tr (ttFr_rf _ _) kF (fun _ => rfl) (by decide)
      refine q_ic (pc := 30) (v := 0) rfl ?_
      refine q_is (pc := 31) (i := 5) (L' := [(2, 183), (0, v1), (0, v2), (0, v3), (0, k), (0, 0), (9, 0)]) rfl rfl rfl ?_
      refine q_ic (pc := 32) (v := 0) rfl ?_
      refine q_is (pc := 33) (i := 6) (L' := [(2, 183), (0, v1), (0, v2), (0, v3), (0, k), (0, 0), (0, 0)]) rfl rfl rfl ?_
      exact hl k (by omega) (by omega) 8 K 0 0 (show -2147483648 ≤ (0 : Int) ∧ (0 : Int) < 2147483648 from ⟨by decide, by decide⟩) (by decide) (by decide) (by decide) kT kX kF
    · replace h19 : (H.1 193 k) ≠ (-1) := h19
      refine q_al (pc := 20) (i := 0) (x := 183) rfl rfl ?_
      refine q_gf (pc := 21) (m := 12242) (t := 2) (c := 24) rfl (ttKc hT (a := 183) (κ := 12) (len := 0) ⟨rfl, rfl⟩ (by decide) (by decide)).1 rfl rfl ?_
      rw [show H.1 183 24 = 193 from ttFx hT (by decide) (by decide) rfl rfl rfl]
      refine q_il (pc := 22) (i := 4) (x := k) rfl rfl ?_
      refine q_ai (pc := 23) rfl (ttKc hT (a := 193) (κ := 20) (len := 976) ⟨rfl, rfl⟩ (by decide) (by decide)).1 (by omega) (by rw [(ttKc hT (a := 193) (κ := 20) (len := 976) ⟨rfl, rfl⟩ (by decide) (by decide)).2]; omega) ?_
      refine q_ri (pc := 24) rfl ?_
      exact hQ _ H hT hX (ttFr_rf _ _)
  · replace h8 : v3 ≠ 0 := h8
    refine q_ic (pc := 9) (v := 1) rfl ?_
    refine q_go (pc := 10) rfl ?_
    refine q_ia (pc := 12) rfl (by omega) (by omega) ?_
    obtain ⟨k, hk⟩ : ∃ k, k = ((((61 * v1) + v2) * 2) + 1) := ⟨_, rfl⟩
    rw [← hk]
    refine q_is (pc := 13) (i := 4) (L' := [(2, 183), (0, v1), (0, v2), (0, v3), (0, k), (9, 0), (9, 0)]) rfl rfl rfl ?_
    refine q_al (pc := 14) (i := 0) (x := 183) rfl rfl ?_
    refine q_gf (pc := 15) (m := 12242) (t := 2) (c := 24) rfl (ttKc hT (a := 183) (κ := 12) (len := 0) ⟨rfl, rfl⟩ (by decide) (by decide)).1 rfl rfl ?_
    rw [show H.1 183 24 = 193 from ttFx hT (by decide) (by decide) rfl rfl rfl]
    refine q_il (pc := 16) (i := 4) (x := k) rfl rfl ?_
    refine q_ai (pc := 17) rfl (ttKc hT (a := 193) (κ := 20) (len := 976) ⟨rfl, rfl⟩ (by decide) (by decide)).1 (by omega) (by rw [(ttKc hT (a := 193) (κ := 20) (len := 976) ⟨rfl, rfl⟩ (by decide) (by decide)).2]; omega) ?_
    refine q_ic (pc := 18) (v := (-1)) rfl ?_
    refine q_i2 (pc := 19) rfl (fun h19 => ?_) (fun h19 => ?_)
    · replace h19 : (H.1 193 k) = (-1) := h19
      refine q_al (pc := 25) (i := 0) (x := 183) rfl rfl ?_
      refine q_il (pc := 26) (i := 1) (x := v1) rfl rfl ?_
      refine q_il (pc := 27) (i := 2) (x := v2) rfl rfl ?_
      refine q_il (pc := 28) (i := 3) (x := v3) rfl rfl ?_
      refine q_iv (pc := 29) (q := 2024979) rfl rfl rfl (ttKc hT (a := 183) (κ := 12) (len := 0) ⟨rfl, rfl⟩ (by decide) (by decide)).1 ?_
      refine lf_glides (by omega) hT hX p1 p2 p3 (fun G K _ _ gH kT kX kF => ?_)
      rw [gH (by omega)] at kF
      have kF : ttFr (true, [(192, 0, 7), (193, 0, 975)]) H K := ttFr_tr (ttFr_rf _ _) kF (fun _ => rfl) (by decide)
      refine q_ic (pc := 30) (v := 0) rfl ?_
      refine q_is (pc := 31) (i := 5) (L' := [(2, 183), (0, v1), (0, v2), (0, v3), (0, k), (0, 0), (9, 0)]) rfl rfl rfl ?_
      refine q_ic (pc := 32) (v := 0) rfl ?_
      refine q_is (pc := 33) (i := 6) (L' := [(2, 183), (0, v1), (0, v2), (0, v3), (0, k), (0, 0), (0, 0)]) rfl rfl rfl ?_
      exact hl k (by omega) (by omega) 8 K 0 0 (show -2147483648 ≤ (0 : Int) ∧ (0 : Int) < 2147483648 from ⟨by decide, by decide⟩) (by decide) (by decide) (by decide) kT kX kF
    · replace h19 : (H.1 193 k) ≠ (-1) := h19
      refine q_al (pc := 20) (i := 0) (x := 183) rfl rfl ?_
      refine q_gf (pc := 21) (m := 12242) (t := 2) (c := 24) rfl (ttKc hT (a := 183) (κ := 12) (len := 0) ⟨rfl, rfl⟩ (by decide) (by decide)).1 rfl rfl ?_
      rw [show H.1 183 24 = 193 from ttFx hT (by decide) (by decide) rfl rfl rfl]
      refine q_il (pc := 22) (i := 4) (x := k) rfl rfl ?_
      refine q_ai (pc := 23) rfl (ttKc hT (a := 193) (κ := 20) (len := 976) ⟨rfl, rfl⟩ (by decide) (by decide)).1 (by omega) (by rw [(ttKc hT (a := 193) (κ := 20) (len := 976) ⟨rfl, rfl⟩ (by decide) (by decide)).2]; omega) ?_
      refine q_ri (pc := 24) rfl ?_
      exact hQ _ H hT hX (ttFr_rf _ _)
