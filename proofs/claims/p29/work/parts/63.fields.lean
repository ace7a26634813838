/-! fields in reach, exactly -/
theorem or_00 : ∀ n : Nat, n < 256 → xOr (n : Int) 0 = (n : Int) := by decide +kernel
theorem or_01 {s : Int} (s0 : 0 ≤ s) (s1 : s ≤ 255) : xOr s 0 = s := by
  have z := or_00 s.toNat (by omega)
  rw [Int.toNat_of_nonneg s0] at z
  exact z
theorem or_08 {s p : Int} (s0 : 0 ≤ s) (s1 : s ≤ 255) (p0 : 0 ≤ p) (p1 : p ≤ 7) : 0 ≤ xOr s (xShl 1 p) ∧ xOr s (xShl 1 p) ≤ 255 := by
  have zs : 0 ≤ xShl 1 p ∧ xShl 1 p ≤ 255 := by
    have k : ∀ m : Nat, m < 8 → 0 ≤ xShl 1 (m : Int) ∧ xShl 1 (m : Int) ≤ 255 := by decide
    have z := k p.toNat (by omega)
    rw [Int.toNat_of_nonneg p0] at z
    exact z
  have zo := tt_or (k := 8) (by decide) s0 (show s < 2 ^ 8 from by omega) zs.1 (show xShl 1 p < 2 ^ 8 from by omega)
  have z1 : xOr s (xShl 1 p) < 256 := zo.2
  exact ⟨zo.1, by omega⟩
theorem yyLm {K : xH} {k x : Int} (kX : ttXX YY K) (h : lmE (xUp K.1 193 k x)) : ttXX YY (xUp K.1 193 k x, K.2) := by
  obtain ⟨rm, hn, w, im, wy, lg, -⟩ := kX
  have g : ∀ a j : Int, a ≠ 193 → xUp K.1 193 k x a j = K.1 a j := fun a j h => up_na h
  have f : ttFr (true, [(193, k, k)]) K (xUp K.1 193 k x, K.2) := ⟨fun _ => rfl, Nat.le_refl _, fun _ _ => ⟨rfl, rfl⟩, fun a j _ hq => by
    by_cases c : a = 193 ∧ j = k
    · exact absurd ⟨⟨by rw [c.1]; decide, by rw [c.1]; rfl⟩, by rw [c.2]; exact Int.le_refl _, by rw [c.2]; exact Int.le_refl _⟩ (hq (193, k, k) (List.mem_cons_self ..))
    · exact up_ne c⟩
  refine ⟨rm_fr f rfl hn rfl rm, hn, yyR_eq (fun j _ _ _ => by rw [Int.zero_add]; exact g 184 j (by decide)) w, fun i i0 i1 i2 => ?_, fun z => ?_, fun z => ?_, h⟩
  · have i2 : xUp K.1 193 k x 186 i ≠ 0 := i2
    rw [g 186 i (by decide)] at i2
    exact yyR_eq (fun j _ _ _ => g 185 _ (by decide)) (im i i0 i1 i2)
  · have z : xUp K.1 193 k x 183 22 = 1 := z
    rw [g 183 22 (by decide)] at z
    exact ⟨yyW_eq (fun j _ _ _ => g 184 j (by decide)) (fun j _ _ => g 190 j (by decide)) (fun j _ _ => g 191 j (by decide)) (wy z).1, wsE_eq (fun j _ _ _ => g 184 j (by decide)) (fun j _ _ => g 190 j (by decide)) (fun j _ _ => g 191 j (by decide)) (wy z).2⟩
  · have z : xUp K.1 193 k x 183 29 ≠ -1 := z
    rw [g 183 29 (by decide)] at z
    exact ⟨(g 183 22 (by decide)).trans (lg z).1, yyL_eq (fun j _ _ _ => g 184 j (by decide)) (fun j _ _ => g 190 j (by decide)) (fun j _ _ => g 191 j (by decide)) (fun j _ _ => g 196 j (by decide)) (lg z).2⟩
theorem lmE_up {D : xD} {k x p a w : Int} (hk : k = 2 * (61 * p + a) + w) (p0 : 0 ≤ p ∧ p ≤ 7) (a0 : 0 ≤ a ∧ a ≤ 60) (w0 : 0 ≤ w ∧ w ≤ 1) (y : lmE D) (n : wsR (D 184) → gsVd (D 184) p a → ∃ f : Int → Int, gsG (gsT (D 184) w) p a f ∧ x = gsS (D 184) f (D 184 1).toNat) : lmE (xUp D 193 k x) := fun r p2 a2 w2 v ujb0 ujb1 m => by
  have e : ∀ j : Int, xUp D 193 k x 184 j = D 184 j := fun j => up_na (by decide)
  have uje4 : xUp D 193 k x 184 = D 184 := funext e
  rw [uje4] at r v ⊢
  have z := gsVd_in r v
  by_cases c : 2 * (61 * p2 + a2) + w2 = k
  · have ep : p2 = p := by omega
    have ea : a2 = a := by omega
    have ew : w2 = w := by omega
    rw [ep, ea] at v
    rw [c, ep, ea, ew]
    obtain ⟨f, f1, f2⟩ := n r v
    exact ⟨f, f1, up_eq.trans f2⟩
  · have ec : xUp D 193 k x 193 (2 * (61 * p2 + a2) + w2) = D 193 (2 * (61 * p2 + a2) + w2) := up_ne (fun q => c q.2)
    rw [ec] at m ⊢
    exact y r p2 a2 w2 v ujb0 ujb1 m
theorem lg_fieldsOf {dd : Nat} {v1 v2 v3 : Int} (hd : 6 ≤ dd) {H : xH} (hT : ttTI H) (hX : ttXX YY H) (p1 : 0 ≤ v1 ∧ v1 ≤ 7) (p2 : 0 ≤ v2 ∧ v2 ≤ 60) (p3 : 0 ≤ v3 ∧ v3 ≤ 1) {Q : Int → xH → Prop} (hQ : ∀ r K, (-2147483648 ≤ r ∧ r ≤ 2147483647) → ttTI K → ttXX YY K → ttFr (true, [(190, 0, 15), (191, 0, 4799), (192, 0, 7), (193, 0, 975), (183, 22, 22)]) H K → (H.1 183 22 ≠ 0 → ttFr (true, [(192, 0, 7), (193, 0, 975)]) H K) → (wsR (H.1 184) → gsVd (H.1 184) v1 v2 → ∃ f : Int → Int, gsG (gsT (H.1 184) v3) v1 v2 f ∧ r = gsS (H.1 184) f (H.1 184 1).toNat) → Q r K) : xCall dd 256 [(2, 183), (0, v1), (0, v2), (0, v3)] H Q := by
  obtain ⟨e, rfl, he⟩ := ttRun0 (n := 5) hd
  have he : 5 ≤ e := he
  have hn : 210 ≤ (H.2.2.2.1 : Int) := by have := hT.1; omega
  have hl : ∀ k : Int, k = 2 * (61 * v1 + v2) + v3 → ∀ K : xH, ttTI K → ttXX YY K → ttFr (true, [(190, 0, 15), (191, 0, 4799), (192, 0, 7), (193, 0, 975), (183, 22, 22)]) H K → (H.1 183 22 ≠ 0 → ttFr (true, [(192, 0, 7), (193, 0, 975)]) H K) → (wsR (H.1 184) → gsVd (H.1 184) v1 v2 → gsG (gsT (H.1 184) v3) v1 v2 (K.1 192)) → ∀ n : Nat, ∀ (m : Nat) (s p : Int), p = (m : Int) → p ≤ 8 → 8 - p ≤ (n : Int) → 0 ≤ s → s ≤ 255 → s = gsS (H.1 184) (K.1 192) m → p ≤ H.1 184 1 → xW e cd_256 Q (34, [(2, 183), (0, v1), (0, v2), (0, v3), (0, k), (0, s), (0, p)], [], K) := by
    intro k hk K kT kX kF kF2 kG n
    have tn : 0 ≤ K.1 184 1 ∧ K.1 184 1 ≤ 8 := ttMc kT (a := 184) (j := 1) (by decide) (by decide) (by decide) (by decide)
    have kw : ∀ j : Int, K.1 184 j = H.1 184 j := fun j => fr_no kF 184 (by omega) rfl (by decide)
    have kw1 := kw 1
    induction n with
    | zero =>
      intro m s p hm p9 hn2 s0 s1 hs pN
      refine q_il (pc := 34) (i := 6) (x := p) rfl rfl ?_
      refine q_al (pc := 35) (i := 0) (x := 183) rfl rfl ?_
      refine q_gf (pc := 36) (m := 12012) (t := 2) (c := 1) rfl (ttKc kT (a := 183) (κ := 12) (len := 0) ⟨rfl, rfl⟩ (by decide) (by decide)).1 rfl rfl ?_
      rw [show K.1 183 1 = 184 from ttFx kT (by decide) (by decide) rfl rfl rfl]
      refine q_ic (pc := 37) (v := 1) rfl ?_
      refine q_ai (pc := 38) rfl (ttKc kT (a := 184) (κ := 20) (len := 196) ⟨rfl, rfl⟩ (by decide) (by decide)).1 (by omega) (by rw [(ttKc kT (a := 184) (κ := 20) (len := 196) ⟨rfl, rfl⟩ (by decide) (by decide)).2]; omega) ?_
      refine q_i2 (pc := 39) rfl (fun h39 => ?_) (fun h39 => ?_)
      · replace h39 : (K.1 184 1) ≤ p := h39
        refine q_al (pc := 61) (i := 0) (x := 183) rfl rfl ?_
        refine q_gf (pc := 62) (m := 12242) (t := 2) (c := 24) rfl (ttKc kT (a := 183) (κ := 12) (len := 0) ⟨rfl, rfl⟩ (by decide) (by decide)).1 rfl rfl ?_
        rw [show K.1 183 24 = 193 from ttFx kT (by decide) (by decide) rfl rfl rfl]
        refine q_il (pc := 63) (i := 4) (x := k) rfl rfl ?_
        refine q_il (pc := 64) (i := 5) (x := s) rfl rfl ?_
        refine q_si (pc := 65) rfl (by decide) (ttKc kT (a := 193) (κ := 20) (len := 976) ⟨rfl, rfl⟩ (by decide) (by decide)).1 (by omega) (by rw [(ttKc kT (a := 193) (κ := 20) (len := 976) ⟨rfl, rfl⟩ (by decide) (by decide)).2]; omega) ?_
        refine q_il (pc := 66) (i := 5) (x := s) rfl rfl ?_
        refine q_ri (pc := 67) rfl ?_
        have em : (H.1 184 1).toNat = m := by omega
        have c := ttPuT kT (ttFr_rf (true, [(193, 0, 975)]) K) (a := 193) (j := k) (x := s) (by decide) (fun _ _ => ttTyr rfl (by omega) (by omega)) ⟨(193, 0, 975), List.mem_cons_self .., ⟨⟨by decide, rfl⟩, by show (0 : Int) ≤ k; omega, by show k ≤ 975; omega⟩⟩
        have ex : (wsR (H.1 184) → gsVd (H.1 184) v1 v2 → ∃ f : Int → Int, gsG (gsT (H.1 184) v3) v1 v2 f ∧ s = gsS (H.1 184) f (H.1 184 1).toNat) := fun hw v => ⟨K.1 192, kG hw v, by rw [em]; exact hs⟩
        have uje4 : K.1 184 = H.1 184 := funext kw
        exact hQ s _ (by omega) c.1 (yyLm kX (lmE_up hk p1 p2 p3 kX.2.2.2.2.2.2 (by rw [uje4]; exact ex))) (ttFr_tr kF c.2 (fun _ => rfl) (by decide)) (fun z => ttFr_tr (kF2 z) c.2 (fun _ => rfl) (by decide)) ex
      · replace h39 : p < (K.1 184 1) := h39
        omega
    | succ n ih =>
      intro m s p hm p9 hn2 s0 s1 hs pN
      refine q_il (pc := 34) (i := 6) (x := p) rfl rfl ?_
      refine q_al (pc := 35) (i := 0) (x := 183) rfl rfl ?_
      refine q_gf (pc := 36) (m := 12012) (t := 2) (c := 1) rfl (ttKc kT (a := 183) (κ := 12) (len := 0) ⟨rfl, rfl⟩ (by decide) (by decide)).1 rfl rfl ?_
      rw [show K.1 183 1 = 184 from ttFx kT (by decide) (by decide) rfl rfl rfl]
      refine q_ic (pc := 37) (v := 1) rfl ?_
      refine q_ai (pc := 38) rfl (ttKc kT (a := 184) (κ := 20) (len := 196) ⟨rfl, rfl⟩ (by decide) (by decide)).1 (by omega) (by rw [(ttKc kT (a := 184) (κ := 20) (len := 196) ⟨rfl, rfl⟩ (by decide) (by decide)).2]; omega) ?_
      refine q_i2 (pc := 39) rfl (fun h39 => ?_) (fun h39 => ?_)
      · replace h39 : (K.1 184 1) ≤ p := h39
        refine q_al (pc := 61) (i := 0) (x := 183) rfl rfl ?_
        refine q_gf (pc := 62) (m := 12242) (t := 2) (c := 24) rfl (ttKc kT (a := 183) (κ := 12) (len := 0) ⟨rfl, rfl⟩ (by decide) (by decide)).1 rfl rfl ?_
        rw [show K.1 183 24 = 193 from ttFx kT (by decide) (by decide) rfl rfl rfl]
        refine q_il (pc := 63) (i := 4) (x := k) rfl rfl ?_
        refine q_il (pc := 64) (i := 5) (x := s) rfl rfl ?_
        refine q_si (pc := 65) rfl (by decide) (ttKc kT (a := 193) (κ := 20) (len := 976) ⟨rfl, rfl⟩ (by decide) (by decide)).1 (by omega) (by rw [(ttKc kT (a := 193) (κ := 20) (len := 976) ⟨rfl, rfl⟩ (by decide) (by decide)).2]; omega) ?_
        refine q_il (pc := 66) (i := 5) (x := s) rfl rfl ?_
        refine q_ri (pc := 67) rfl ?_
        have em : (H.1 184 1).toNat = m := by omega
        have c := ttPuT kT (ttFr_rf (true, [(193, 0, 975)]) K) (a := 193) (j := k) (x := s) (by decide) (fun _ _ => ttTyr rfl (by omega) (by omega)) ⟨(193, 0, 975), List.mem_cons_self .., ⟨⟨by decide, rfl⟩, by show (0 : Int) ≤ k; omega, by show k ≤ 975; omega⟩⟩
        have ex : (wsR (H.1 184) → gsVd (H.1 184) v1 v2 → ∃ f : Int → Int, gsG (gsT (H.1 184) v3) v1 v2 f ∧ s = gsS (H.1 184) f (H.1 184 1).toNat) := fun hw v => ⟨K.1 192, kG hw v, by rw [em]; exact hs⟩
        have uje4 : K.1 184 = H.1 184 := funext kw
        exact hQ s _ (by omega) c.1 (yyLm kX (lmE_up hk p1 p2 p3 kX.2.2.2.2.2.2 (by rw [uje4]; exact ex))) (ttFr_tr kF c.2 (fun _ => rfl) (by decide)) (fun z => ttFr_tr (kF2 z) c.2 (fun _ => rfl) (by decide)) ex
      · replace h39 : p < (K.1 184 1) := h39
        refine q_il (pc := 40) (i := 5) (x := s) rfl rfl ?_
        refine q_al (pc := 41) (i := 0) (x := 183) rfl rfl ?_
        refine q_gf (pc := 42) (m := 12232) (t := 2) (c := 23) rfl (ttKc kT (a := 183) (κ := 12) (len := 0) ⟨rfl, rfl⟩ (by decide) (by decide)).1 rfl rfl ?_
        rw [show K.1 183 23 = 192 from ttFx kT (by decide) (by decide) rfl rfl rfl]
        refine q_il (pc := 43) (i := 6) (x := p) rfl rfl ?_
        refine q_ai (pc := 44) rfl (ttKc kT (a := 192) (κ := 20) (len := 8) ⟨rfl, rfl⟩ (by decide) (by decide)).1 (by omega) (by rw [(ttKc kT (a := 192) (κ := 20) (len := 8) ⟨rfl, rfl⟩ (by decide) (by decide)).2]; omega) ?_
        refine q_ic (pc := 45) (v := (-1)) rfl ?_
        refine q_i2 (pc := 46) rfl (fun h46 => ?_) (fun h46 => ?_)
        · replace h46 : (K.1 192 p) = (-1) := h46
          refine q_ic (pc := 56) (v := 0) rfl ?_
          refine q_or (pc := 57) rfl ?_
          refine q_is (pc := 58) (i := 5) (L' := [(2, 183), (0, v1), (0, v2), (0, v3), (0, k), (0, (xOr s 0)), (0, p)]) rfl rfl rfl ?_
          rw [or_01 s0 s1]
          refine q_ii (pc := 59) (i := 6) (c := 1) (x := p) (L' := [(2, 183), (0, v1), (0, v2), (0, v3), (0, k), (0, s), (0, (p + 1))]) rfl rfl rfl (by omega) (by omega) rfl ?_
          refine q_go (pc := 60) rfl ?_
          have zl := pl_ty kT (p := p) (by omega) (by omega)
          exact ih (m + 1) s (p + 1) (by omega) (by omega) (by omega) s0 s1 (by
            show _ = (if K.1 192 (m : Int) ≠ -1 ∧ H.1 184 (20 + 8 * (m : Int) + 1) ≠ 0 then xOr (gsS (H.1 184) (K.1 192) m) (xShl 1 (m : Int)) else gsS (H.1 184) (K.1 192) m)
            rw [← hm, ← hs, ← kw]
            exact (if_neg (fun y => y.1 h46)).symm) (by omega)
        · replace h46 : (K.1 192 p) ≠ (-1) := h46
          refine q_al (pc := 47) (i := 0) (x := 183) rfl rfl ?_
          refine q_il (pc := 48) (i := 6) (x := p) rfl rfl ?_
          refine q_ic (pc := 49) (v := 1) rfl ?_
          refine q_iv (pc := 50) (q := 1664972) rfl rfl rfl (ttKc kT (a := 183) (κ := 12) (len := 0) ⟨rfl, rfl⟩ (by decide) (by decide)).1 ?_
          refine lf_ofPlace (j := (21 + 8 * p)) (by omega) (by omega) kT (by omega) (by omega) (by omega) (by omega) ?_
          refine q_if (pc := 51) rfl (fun h51 => ?_) (fun h51 => ?_)
          · replace h51 : (K.1 184 (21 + 8 * p)) ≤ 0 := h51
            refine q_ic (pc := 56) (v := 0) rfl ?_
            refine q_or (pc := 57) rfl ?_
            refine q_is (pc := 58) (i := 5) (L' := [(2, 183), (0, v1), (0, v2), (0, v3), (0, k), (0, (xOr s 0)), (0, p)]) rfl rfl rfl ?_
            rw [or_01 s0 s1]
            refine q_ii (pc := 59) (i := 6) (c := 1) (x := p) (L' := [(2, 183), (0, v1), (0, v2), (0, v3), (0, k), (0, s), (0, (p + 1))]) rfl rfl rfl (by omega) (by omega) rfl ?_
            refine q_go (pc := 60) rfl ?_
            have zl := pl_ty kT (p := p) (by omega) (by omega)
            exact ih (m + 1) s (p + 1) (by omega) (by omega) (by omega) s0 s1 (by
              show _ = (if K.1 192 (m : Int) ≠ -1 ∧ H.1 184 (20 + 8 * (m : Int) + 1) ≠ 0 then xOr (gsS (H.1 184) (K.1 192) m) (xShl 1 (m : Int)) else gsS (H.1 184) (K.1 192) m)
              rw [← hm, ← hs, ← kw]
              exact (if_neg (fun y => y.2 (by rw [show (20 : Int) + 8 * p + 1 = 21 + 8 * p from by omega]; omega))).symm) (by omega)
          · replace h51 : 0 < (K.1 184 (21 + 8 * p)) := h51
            refine q_ic (pc := 52) (v := 1) rfl ?_
            refine q_il (pc := 53) (i := 6) (x := p) rfl rfl ?_
            refine q_sl (pc := 54) rfl ?_
            refine q_go (pc := 55) rfl ?_
            refine q_or (pc := 57) rfl ?_
            refine q_is (pc := 58) (i := 5) (L' := [(2, 183), (0, v1), (0, v2), (0, v3), (0, k), (0, (xOr s (xShl 1 p))), (0, p)]) rfl rfl rfl ?_
            refine q_ii (pc := 59) (i := 6) (c := 1) (x := p) (L' := [(2, 183), (0, v1), (0, v2), (0, v3), (0, k), (0, (xOr s (xShl 1 p))), (0, (p + 1))]) rfl rfl rfl (by omega) (by omega) rfl ?_
            refine q_go (pc := 60) rfl ?_
            have ujb8 := or_08 s0 s1 (p := p) (by omega) (by omega)
            have zl := pl_ty kT (p := p) (by omega) (by omega)
            have zg : K.1 184 (20 + 8 * p + 1) ≠ 0 := by rw [show (20 : Int) + 8 * p + 1 = 21 + 8 * p from by omega]; omega
            exact ih (m + 1) (xOr s (xShl 1 p)) (p + 1) (by omega) (by omega) (by omega) ujb8.1 ujb8.2 (by
              show _ = (if K.1 192 (m : Int) ≠ -1 ∧ H.1 184 (20 + 8 * (m : Int) + 1) ≠ 0 then xOr (gsS (H.1 184) (K.1 192) m) (xShl 1 (m : Int)) else gsS (H.1 184) (K.1 192) m)
              rw [← hm, ← hs, ← kw]
              exact (if_pos ⟨h46, zg⟩).symm) (by omega)
  refine xC_of (L := [(2, 183), (0, v1), (0, v2), (0, v3), (9, 0), (9, 0), (9, 0)]) (cd := cd_256) rfl rfl rfl ?_
  refine q_ic (pc := 0) (v := 61) rfl ?_
  refine q_il (pc := 1) (i := 1) (x := v1) rfl rfl ?_
  refine q_im (pc := 2) rfl (by omega) (by omega) ?_
  refine q_il (pc := 3) (i := 2) (x := v2) rfl rfl ?_
  refine q_ia (pc := 4) rfl (by omega) (by omega) ?_
  refine q_ic (pc := 5) (v := 2) rfl ?_
  refine q_im (pc := 6) rfl (by omega) (by omega) ?_
  refine q_il (pc := 7) (i := 3) (x := v3) rfl rfl ?_
  refine q_if (pc := 8) rfl (fun h8 => ?_) (fun h8 => ?_)
  · replace h8 : v3 = 0 := h8
    refine q_ic (pc := 11) (v := 0) rfl ?_
    refine q_ia (pc := 12) rfl (by omega) (by omega) ?_
    obtain ⟨k, jk⟩ : ∃ k, k = ((((61 * v1) + v2) * 2) + 0) := ⟨_, rfl⟩
    rw [← jk]
    have hk : k = 2 * (61 * v1 + v2) + v3 := by omega
    refine q_is (pc := 13) (i := 4) (L' := [(2, 183), (0, v1), (0, v2), (0, v3), (0, k), (9, 0), (9, 0)]) rfl rfl rfl ?_
    refine q_al (pc := 14) (i := 0) (x := 183) rfl rfl ?_
    refine q_gf (pc := 15) (m := 12242) (t := 2) (c := 24) rfl (ttKc hT (a := 183) (κ := 12) (len := 0) ⟨rfl, rfl⟩ (by decide) (by decide)).1 rfl rfl ?_
    rw [show H.1 183 24 = 193 from ttFx hT (by decide) (by decide) rfl rfl rfl]
    refine q_il (pc := 16) (i := 4) (x := k) rfl rfl ?_
    refine q_ai (pc := 17) rfl (ttKc hT (a := 193) (κ := 20) (len := 976) ⟨rfl, rfl⟩ (by decide) (by decide)).1 (by omega) (by rw [(ttKc hT (a := 193) (κ := 20) (len := 976) ⟨rfl, rfl⟩ (by decide) (by decide)).2]; omega) ?_
    refine q_ic (pc := 18) (v := (-1)) rfl ?_
    refine q_i2 (pc := 19) rfl (fun h19 => ?_) (fun h19 => ?_)
    · replace h19 : (H.1 193 k) = (-1) := h19
      refine q_al (pc := 25) (i := 0) (x := 183) rfl rfl ?_
      refine q_il (pc := 26) (i := 1) (x := v1) rfl rfl ?_
      refine q_il (pc := 27) (i := 2) (x := v2) rfl rfl ?_
      refine q_il (pc := 28) (i := 3) (x := v3) rfl rfl ?_
      refine q_iv (pc := 29) (q := 2024979) rfl rfl rfl (ttKc hT (a := 183) (κ := 12) (len := 0) ⟨rfl, rfl⟩ (by decide) (by decide)).1 ?_
      refine lf_glides (by omega) hT hX p1 p2 p3 (fun G K gF _ gH kT kX kF kG => ?_)
      have kF2 : H.1 183 22 ≠ 0 → ttFr (true, [(192, 0, 7), (193, 0, 975)]) H K := fun z => by
        rw [gH z] at kF
        exact ttFr_tr (ttFr_rf _ _) kF (fun _ => rfl) (by decide)
      have kF : ttFr (true, [(190, 0, 15), (191, 0, 4799), (192, 0, 7), (193, 0, 975), (183, 22, 22)]) H K := ttFr_tr (ttFr_tr (ttFr_rf _ _) gF (fun _ => rfl) (by decide)) kF (fun _ => rfl) (by decide)
      refine q_ic (pc := 30) (v := 0) rfl ?_
      refine q_is (pc := 31) (i := 5) (L' := [(2, 183), (0, v1), (0, v2), (0, v3), (0, k), (0, 0), (9, 0)]) rfl rfl rfl ?_
      refine q_ic (pc := 32) (v := 0) rfl ?_
      refine q_is (pc := 33) (i := 6) (L' := [(2, 183), (0, v1), (0, v2), (0, v3), (0, k), (0, 0), (0, 0)]) rfl rfl rfl ?_
      have tn : 0 ≤ H.1 184 1 ∧ H.1 184 1 ≤ 8 := ttMc hT (a := 184) (j := 1) (by decide) (by decide) (by decide) (by decide)
      exact hl k hk K kT kX kF kF2 kG 8 0 0 0 rfl (by decide) (by decide) (by decide) (by decide) rfl tn.1
    · replace h19 : (H.1 193 k) ≠ (-1) := h19
      refine q_al (pc := 20) (i := 0) (x := 183) rfl rfl ?_
      refine q_gf (pc := 21) (m := 12242) (t := 2) (c := 24) rfl (ttKc hT (a := 183) (κ := 12) (len := 0) ⟨rfl, rfl⟩ (by decide) (by decide)).1 rfl rfl ?_
      rw [show H.1 183 24 = 193 from ttFx hT (by decide) (by decide) rfl rfl rfl]
      refine q_il (pc := 22) (i := 4) (x := k) rfl rfl ?_
      refine q_ai (pc := 23) rfl (ttKc hT (a := 193) (κ := 20) (len := 976) ⟨rfl, rfl⟩ (by decide) (by decide)).1 (by omega) (by rw [(ttKc hT (a := 193) (κ := 20) (len := 976) ⟨rfl, rfl⟩ (by decide) (by decide)).2]; omega) ?_
      refine q_ri (pc := 24) rfl ?_
      refine hQ _ H (ttRw hT (a := 193) (κ := 20) (len := 976) (sz := 976) (lo := -2147483648) (hi := 2147483647) (by decide) (by decide) rfl k (by omega) (by omega)) hT hX (ttFr_rf _ _) (fun _ => ttFr_rf _ _) (fun hw v => ?_)
      rw [hk] at h19 ⊢
      exact hX.2.2.2.2.2.2 hw v1 v2 v3 v p3.1 p3.2 h19
  · replace h8 : v3 ≠ 0 := h8
    refine q_ic (pc := 9) (v := 1) rfl ?_
    refine q_go (pc := 10) rfl ?_
    refine q_ia (pc := 12) rfl (by omega) (by omega) ?_
    obtain ⟨k, jk⟩ : ∃ k, k = ((((61 * v1) + v2) * 2) + 1) := ⟨_, rfl⟩
    rw [← jk]
    have hk : k = 2 * (61 * v1 + v2) + v3 := by omega
    refine q_is (pc := 13) (i := 4) (L' := [(2, 183), (0, v1), (0, v2), (0, v3), (0, k), (9, 0), (9, 0)]) rfl rfl rfl ?_
    refine q_al (pc := 14) (i := 0) (x := 183) rfl rfl ?_
    refine q_gf (pc := 15) (m := 12242) (t := 2) (c := 24) rfl (ttKc hT (a := 183) (κ := 12) (len := 0) ⟨rfl, rfl⟩ (by decide) (by decide)).1 rfl rfl ?_
    rw [show H.1 183 24 = 193 from ttFx hT (by decide) (by decide) rfl rfl rfl]
    refine q_il (pc := 16) (i := 4) (x := k) rfl rfl ?_
    refine q_ai (pc := 17) rfl (ttKc hT (a := 193) (κ := 20) (len := 976) ⟨rfl, rfl⟩ (by decide) (by decide)).1 (by omega) (by rw [(ttKc hT (a := 193) (κ := 20) (len := 976) ⟨rfl, rfl⟩ (by decide) (by decide)).2]; omega) ?_
    refine q_ic (pc := 18) (v := (-1)) rfl ?_
    refine q_i2 (pc := 19) rfl (fun h19 => ?_) (fun h19 => ?_)
    · replace h19 : (H.1 193 k) = (-1) := h19
      refine q_al (pc := 25) (i := 0) (x := 183) rfl rfl ?_
      refine q_il (pc := 26) (i := 1) (x := v1) rfl rfl ?_
      refine q_il (pc := 27) (i := 2) (x := v2) rfl rfl ?_
      refine q_il (pc := 28) (i := 3) (x := v3) rfl rfl ?_
      refine q_iv (pc := 29) (q := 2024979) rfl rfl rfl (ttKc hT (a := 183) (κ := 12) (len := 0) ⟨rfl, rfl⟩ (by decide) (by decide)).1 ?_
      refine lf_glides (by omega) hT hX p1 p2 p3 (fun G K gF _ gH kT kX kF kG => ?_)
      have kF2 : H.1 183 22 ≠ 0 → ttFr (true, [(192, 0, 7), (193, 0, 975)]) H K := fun z => by
        rw [gH z] at kF
        exact ttFr_tr (ttFr_rf _ _) kF (fun _ => rfl) (by decide)
      have kF : ttFr (true, [(190, 0, 15), (191, 0, 4799), (192, 0, 7), (193, 0, 975), (183, 22, 22)]) H K := ttFr_tr (ttFr_tr (ttFr_rf _ _) gF (fun _ => rfl) (by decide)) kF (fun _ => rfl) (by decide)
      refine q_ic (pc := 30) (v := 0) rfl ?_
      refine q_is (pc := 31) (i := 5) (L' := [(2, 183), (0, v1), (0, v2), (0, v3), (0, k), (0, 0), (9, 0)]) rfl rfl rfl ?_
      refine q_ic (pc := 32) (v := 0) rfl ?_
      refine q_is (pc := 33) (i := 6) (L' := [(2, 183), (0, v1), (0, v2), (0, v3), (0, k), (0, 0), (0, 0)]) rfl rfl rfl ?_
      have tn : 0 ≤ H.1 184 1 ∧ H.1 184 1 ≤ 8 := ttMc hT (a := 184) (j := 1) (by decide) (by decide) (by decide) (by decide)
      exact hl k hk K kT kX kF kF2 kG 8 0 0 0 rfl (by decide) (by decide) (by decide) (by decide) rfl tn.1
    · replace h19 : (H.1 193 k) ≠ (-1) := h19
      refine q_al (pc := 20) (i := 0) (x := 183) rfl rfl ?_
      refine q_gf (pc := 21) (m := 12242) (t := 2) (c := 24) rfl (ttKc hT (a := 183) (κ := 12) (len := 0) ⟨rfl, rfl⟩ (by decide) (by decide)).1 rfl rfl ?_
      rw [show H.1 183 24 = 193 from ttFx hT (by decide) (by decide) rfl rfl rfl]
      refine q_il (pc := 22) (i := 4) (x := k) rfl rfl ?_
      refine q_ai (pc := 23) rfl (ttKc hT (a := 193) (κ := 20) (len := 976) ⟨rfl, rfl⟩ (by decide) (by decide)).1 (by omega) (by rw [(ttKc hT (a := 193) (κ := 20) (len := 976) ⟨rfl, rfl⟩ (by decide) (by decide)).2]; omega) ?_
      refine q_ri (pc := 24) rfl ?_
      refine hQ _ H (ttRw hT (a := 193) (κ := 20) (len := 976) (sz := 976) (lo := -2147483648) (hi := 2147483647) (by decide) (by decide) rfl k (by omega) (by omega)) hT hX (ttFr_rf _ _) (fun _ => ttFr_rf _ _) (fun hw v => ?_)
      rw [hk] at h19 ⊢
      exact hX.2.2.2.2.2.2 hw v1 v2 v3 v p3.1 p3.2 h19
theorem lf_fieldsOf {dd : Nat} {v1 v2 v3 : Int} (hd : 6 ≤ dd) {H : xH} (hT : ttTI H) (hX : ttXX YY H) (p1 : 0 ≤ v1 ∧ v1 ≤ 7) (p2 : 0 ≤ v2 ∧ v2 ≤ 60) (p3 : 0 ≤ v3 ∧ v3 ≤ 1) (hf : H.1 183 22 = 1) {Q : Int → xH → Prop} (hQ : ∀ r K, ttTI K → ttXX YY K → ttFr (true, [(192, 0, 7), (193, 0, 975)]) H K → Q r K) : xCall dd 256 [(2, 183), (0, v1), (0, v2), (0, v3)] H Q :=
  lg_fieldsOf hd hT hX p1 p2 p3 (fun r K _ kT kX _ kF _ => hQ r K kT kX (kF (by omega)))
theorem hm_fieldsOf : ttHas (ttXX YY) m_fieldsOf := by
  intro dd hdd vs H hT hX hargs hcells Q hQ
  obtain ⟨v0, vs, rfl, p0, hargs⟩ := ttV1 hargs
  obtain ⟨v1, vs, rfl, p1, hargs⟩ := ttV1 hargs
  obtain ⟨v2, vs, rfl, p2, hargs⟩ := ttV1 hargs
  obtain ⟨v3, vs, rfl, p3, hargs⟩ := ttV1 hargs
  cases ttV0 hargs
  cases ttPk p0
  have p1 := ttPi p1
  have p2 := ttPi p2
  have p3 := ttPi p3
  have hd : 9 ≤ dd := hdd
  exact lg_fieldsOf (by omega) hT hX p1 p2 p3 (fun r K rb kT kX kF _ _ => hQ r K kT kX kF ⟨_, List.mem_singleton.mpr rfl, ttPi_of rb.1 rb.2⟩ (fun q hq => absurd hq List.not_mem_nil))
