/-! the way round the points -/
theorem yyLs_eq {D D' : xD} (h4 : ∀ j : Int, D' 184 j = D 184 j) : ∀ n : Nat, yyLs D' n = yyLs D n
  | 0 => rfl
  | n + 1 => by
    show xOr (yyLs D' n) _ = xOr (yyLs D n) _
    rw [yyLs_eq h4 n, h4]
theorem fr_22 {G K : xH} (kF : ttFr (true, [(204, 0, 3903), (205, 0, 7), (183, 48, 48)]) G K) (hn : 210 ≤ (G.2.2.2.1 : Int)) : K.1 183 22 = G.1 183 22 :=
  kF.2.2.2 183 22 (by omega) (fun q hq hh => by
    obtain ⟨⟨-, c1⟩, c2, c3⟩ := hh
    simp only [List.mem_cons, List.not_mem_nil, or_false] at hq
    rcases hq with rfl | rfl | rfl
    · exact absurd c1 (by decide)
    · exact absurd c1 (by decide)
    · exact absurd c2 (by decide))
theorem lf_soonBy {dd : Nat} {ls : Int} (hd : 8 ≤ dd) {H : xH} (hT : ttTI H) (hX : ttXX YY H) (hs : H.1 184 12 ≠ -1) {Q : Int → xH → Prop} (hQ : ∀ v K, ttTI K → ttXX YY K → ttFr (true, [(204, 0, 3903), (205, 0, 7), (183, 22, 22), (183, 48, 48), (190, 0, 15), (191, 0, 4799)]) H K → (∀ j : Int, K.1 184 j = H.1 184 j) → K.1 183 22 = 1 → yyJ K.1 ls → (v = -1 ∨ (v ≠ 1000 ∧ 0 ≤ v ∧ K.1 204 (yySq (K.1 205 (K.1 184 12)) (K.1 184 12) (K.1 184 13)) = v)) → Q v K) : xCall dd 321 [(2, 183), (0, ls)] H Q := by
  obtain ⟨e, rfl, he⟩ := ttRun0 (n := 7) hd
  have he : 7 ≤ e := he
  have hn : 210 ≤ (H.2.2.2.1 : Int) := by have := hT.1; omega
  refine xC_of (L := [(2, 183), (0, ls), (9, 0)]) (cd := cd_321) rfl rfl rfl ?_
  refine q_al (pc := 0) (i := 0) (x := 183) rfl rfl ?_
  refine q_il (pc := 1) (i := 1) (x := ls) rfl rfl ?_
  refine q_iv (pc := 2) (q := 2528971) rfl rfl rfl (ttKc hT (a := 183) (κ := 12) (len := 0) ⟨rfl, rfl⟩ (by decide) (by decide)).1 ?_
  refine lf_reckons (by omega) hT hX (fun G K gF gf kT kX kF kJ => ?_)
  have gn : 210 ≤ (G.2.2.2.1 : Int) := by have := gF.2.1; omega
  have kw : ∀ j : Int, K.1 184 j = H.1 184 j := fun j => (fr_no kF 184 (by omega) rfl rfl).trans (fr_no gF 184 (by omega) rfl rfl)
  have kf : K.1 183 22 = 1 := (fr_22 kF gn).trans gf
  have kA : ttFr (true, [(204, 0, 3903), (205, 0, 7), (183, 22, 22), (183, 48, 48), (190, 0, 15), (191, 0, 4799)]) H K := ttFr_tr (ttFr_tr (ttFr_rf _ _) gF (fun _ => rfl) (by decide)) kF (fun _ => rfl) (by decide)
  have z12 : -1 ≤ K.1 184 12 ∧ K.1 184 12 ≤ 7 := ttMc kT (a := 184) (j := 12) (by decide) (by decide) (by decide) (by decide)
  have z13 : 0 ≤ K.1 184 13 ∧ K.1 184 13 ≤ 60 := ttMc kT (a := 184) (j := 13) (by decide) (by decide) (by decide) (by decide)
  have h12w : K.1 184 12 ≠ -1 := by rw [kw]; exact hs
  have zb := ty_bit kT (p := K.1 184 12) (by omega) (by omega)
  refine q_al (pc := 3) (i := 0) (x := 183) rfl rfl ?_
  refine q_gf (pc := 4) (m := 12462) (t := 2) (c := 46) rfl (ttKc kT (a := 183) (κ := 12) (len := 0) ⟨rfl, rfl⟩ (by decide) (by decide)).1 rfl rfl ?_
  rw [show K.1 183 46 = 204 from ttFx kT (by decide) (by decide) rfl rfl rfl]
  refine q_al (pc := 5) (i := 0) (x := 183) rfl rfl ?_
  refine q_gf (pc := 6) (m := 12472) (t := 2) (c := 47) rfl (ttKc kT (a := 183) (κ := 12) (len := 0) ⟨rfl, rfl⟩ (by decide) (by decide)).1 rfl rfl ?_
  rw [show K.1 183 47 = 205 from ttFx kT (by decide) (by decide) rfl rfl rfl]
  refine q_al (pc := 7) (i := 0) (x := 183) rfl rfl ?_
  refine q_gf (pc := 8) (m := 12012) (t := 2) (c := 1) rfl (ttKc kT (a := 183) (κ := 12) (len := 0) ⟨rfl, rfl⟩ (by decide) (by decide)).1 rfl rfl ?_
  rw [show K.1 183 1 = 184 from ttFx kT (by decide) (by decide) rfl rfl rfl]
  refine q_ic (pc := 9) (v := 12) rfl ?_
  refine q_ai (pc := 10) rfl (ttKc kT (a := 184) (κ := 20) (len := 196) ⟨rfl, rfl⟩ (by decide) (by decide)).1 (by omega) (by rw [(ttKc kT (a := 184) (κ := 20) (len := 196) ⟨rfl, rfl⟩ (by decide) (by decide)).2]; omega) ?_
  refine q_ai (pc := 11) rfl (ttKc kT (a := 205) (κ := 20) (len := 8) ⟨rfl, rfl⟩ (by decide) (by decide)).1 (by omega) (by rw [(ttKc kT (a := 205) (κ := 20) (len := 8) ⟨rfl, rfl⟩ (by decide) (by decide)).2]; omega) ?_
  refine q_al (pc := 12) (i := 0) (x := 183) rfl rfl ?_
  refine q_gf (pc := 13) (m := 12012) (t := 2) (c := 1) rfl (ttKc kT (a := 183) (κ := 12) (len := 0) ⟨rfl, rfl⟩ (by decide) (by decide)).1 rfl rfl ?_
  rw [show K.1 183 1 = 184 from ttFx kT (by decide) (by decide) rfl rfl rfl]
  refine q_ic (pc := 14) (v := 12) rfl ?_
  refine q_ai (pc := 15) rfl (ttKc kT (a := 184) (κ := 20) (len := 196) ⟨rfl, rfl⟩ (by decide) (by decide)).1 (by omega) (by rw [(ttKc kT (a := 184) (κ := 20) (len := 196) ⟨rfl, rfl⟩ (by decide) (by decide)).2]; omega) ?_
  refine q_al (pc := 16) (i := 0) (x := 183) rfl rfl ?_
  refine q_gf (pc := 17) (m := 12012) (t := 2) (c := 1) rfl (ttKc kT (a := 183) (κ := 12) (len := 0) ⟨rfl, rfl⟩ (by decide) (by decide)).1 rfl rfl ?_
  rw [show K.1 183 1 = 184 from ttFx kT (by decide) (by decide) rfl rfl rfl]
  refine q_ic (pc := 18) (v := 13) rfl ?_
  refine q_ai (pc := 19) rfl (ttKc kT (a := 184) (κ := 20) (len := 196) ⟨rfl, rfl⟩ (by decide) (by decide)).1 (by omega) (by rw [(ttKc kT (a := 184) (κ := 20) (len := 196) ⟨rfl, rfl⟩ (by decide) (by decide)).2]; omega) ?_
  refine q_ij (pc := 20) (q := 2527932) rfl rfl rfl trivial ?_
  refine lf_spot (by omega) (by omega) (by omega) (by omega) (by omega) (by omega) (by omega) (fun jk => ?_)
  refine q_ai (pc := 21) rfl (ttKc kT (a := 204) (κ := 20) (len := 3904) ⟨rfl, rfl⟩ (by decide) (by decide)).1 (by omega) (by rw [(ttKc kT (a := 204) (κ := 20) (len := 3904) ⟨rfl, rfl⟩ (by decide) (by decide)).2]; omega) ?_
  obtain ⟨v, jv⟩ : ∃ v, v = (K.1 204 (yySq (K.1 205 (K.1 184 12)) (K.1 184 12) (K.1 184 13))) := ⟨_, rfl⟩
  have zv := ttRw kT (a := 204) (κ := 20) (len := 3904) (sz := 3904) (lo := 0) (hi := 1000) (by decide) (by decide) rfl _ jk.1 (by omega)
  rw [← jv] at zv ⊢
  refine q_is (pc := 22) (i := 2) (L' := [(2, 183), (0, ls), (0, v)]) rfl rfl rfl ?_
  refine q_il (pc := 23) (i := 2) (x := v) rfl rfl ?_
  refine q_ic (pc := 24) (v := 1000) rfl ?_
  refine q_i2 (pc := 25) rfl (fun h25 => ?_) (fun h25 => ?_)
  · replace h25 : v ≠ 1000 := h25
    refine q_il (pc := 28) (i := 2) (x := v) rfl rfl ?_
    refine q_ri (pc := 29) rfl ?_
    exact hQ _ K kT kX kA kw kf kJ (Or.inr ⟨h25, zv.1, jv.symm⟩)
  · replace h25 : v = 1000 := h25
    refine q_ic (pc := 26) (v := (-1)) rfl ?_
    refine q_go (pc := 27) rfl ?_
    refine q_ri (pc := 29) rfl ?_
    exact hQ _ K kT kX kA kw kf kJ (Or.inl rfl)
def m_way : ttCon := (323, 12, [(2, (0, 183, (9, 0, 0))), (0, (1, 0, (0, (-2147483648), 2147483647)))], [], [(1, 0, (0, (-2), 7))], [], true, [(204, 0, 3903), (205, 0, 7), (183, 22, 22), (183, 48, 48), (190, 0, 15), (191, 0, 4799)])
theorem hm_way : ttHas (ttXX YY) m_way := by
  intro dd hdd vs H hT hX hargs hcells Q hQ
  obtain ⟨v0, vs, rfl, p0, hargs⟩ := ttV1 hargs
  obtain ⟨v1, vs, rfl, p1, hargs⟩ := ttV1 hargs
  cases ttV0 hargs
  cases ttPk p0
  have p1 := ttPi p1
  obtain ⟨e, rfl, he⟩ := ttRun0 (n := 11) hdd
  have he : 11 ≤ e := he
  have hq : ∀ r K, (-2 ≤ r ∧ r ≤ 7) → ttTI K → ttXX YY K → ttFr (true, [(204, 0, 3903), (205, 0, 7), (183, 22, 22), (183, 48, 48), (190, 0, 15), (191, 0, 4799)]) H K → Q r K := fun r K hr a b c => hQ r K a b c ⟨_, List.mem_singleton.mpr rfl, ttPi_of hr.1 hr.2⟩ (fun q hq => absurd hq List.not_mem_nil)
  have hG : ∀ K : xH, ttTI K → ttXX YY K → ttFr (true, [(204, 0, 3903), (205, 0, 7), (183, 22, 22), (183, 48, 48), (190, 0, 15), (191, 0, 4799)]) H K → K.1 183 22 = 1 → yyJ K.1 (yyLs K.1 (K.1 184 1).toNat) → ∀ f : Nat, ∀ (v p h s n : Int) (x7 : xV), 0 ≤ v → v ≤ (f : Int) → v ≠ 1000 → 0 ≤ p → p ≤ 7 → 0 ≤ h → h ≤ 60 → 0 ≤ s → s ≤ 7 → 0 ≤ n → n ≤ v1 → K.1 204 (yySq s p h) = v → xW e cd_323 Q (34, [(2, 183), (0, v1), (0, v), (0, p), (0, h), (0, s), (0, n), x7], [], K) := by
    intro K kT kX kF kf kJ
    obtain ⟨ls, jls⟩ : ∃ z, z = yyLs K.1 (K.1 184 1).toNat := ⟨_, rfl⟩
    rw [← jls] at kJ
    have kW : yyW K.1 := kX.2.2.2.2.1 kf
    have z7 : 0 ≤ K.1 184 7 ∧ K.1 184 7 ≤ 60 := ttMc kT (a := 184) (j := 7) (by decide) (by decide) (by decide) (by decide)
    intro f
    induction f with
    | zero =>
      intro v p h s n x7 v0 vf v9 p0 p1 h0 h1 s0 s1 n0 n1 jv
      have yj := kJ s p h s0 s1 p0 p1 h0 h1
      rw [jv] at yj
      have v47 : v ≤ 47 := by
        rcases yj with yj | yj | yj <;> omega
      refine q_il (pc := 34) (i := 2) (x := v) rfl rfl ?_
      refine q_if (pc := 35) rfl (fun h35 => ?_) (fun h35 => ?_)
      · replace h35 : v ≤ 0 := h35
        refine q_il (pc := 105) (i := 6) (x := n) rfl rfl ?_
        refine q_il (pc := 106) (i := 1) (x := v1) rfl rfl ?_
        refine q_i2 (pc := 107) rfl (fun h107 => ?_) (fun h107 => ?_)
        · replace h107 : n ≠ v1 := h107
          refine q_ic (pc := 110) (v := (-1)) rfl ?_
          refine q_ri (pc := 111) rfl ?_
          exact hq _ K (by omega) kT kX kF
        · replace h107 : n = v1 := h107
          refine q_il (pc := 108) (i := 3) (x := p) rfl rfl ?_
          refine q_go (pc := 109) rfl ?_
          refine q_ri (pc := 111) rfl ?_
          exact hq _ K (by omega) kT kX kF
      · replace h35 : 0 < v := h35
        omega
    | succ f ih =>
      intro v p h s n x7 v0 vf v9 p0 p1 h0 h1 s0 s1 n0 n1 jv
      have yj := kJ s p h s0 s1 p0 p1 h0 h1
      rw [jv] at yj
      have v47 : v ≤ 47 := by
        rcases yj with yj | yj | yj <;> omega
      refine q_il (pc := 34) (i := 2) (x := v) rfl rfl ?_
      refine q_if (pc := 35) rfl (fun h35 => ?_) (fun h35 => ?_)
      · replace h35 : v ≤ 0 := h35
        refine q_il (pc := 105) (i := 6) (x := n) rfl rfl ?_
        refine q_il (pc := 106) (i := 1) (x := v1) rfl rfl ?_
        refine q_i2 (pc := 107) rfl (fun h107 => ?_) (fun h107 => ?_)
        · replace h107 : n ≠ v1 := h107
          refine q_ic (pc := 110) (v := (-1)) rfl ?_
          refine q_ri (pc := 111) rfl ?_
          exact hq _ K (by omega) kT kX kF
        · replace h107 : n = v1 := h107
          refine q_il (pc := 108) (i := 3) (x := p) rfl rfl ?_
          refine q_go (pc := 109) rfl ?_
          refine q_ri (pc := 111) rfl ?_
          exact hq _ K (by omega) kT kX kF
      · replace h35 : 0 < v := h35
        refine q_il (pc := 36) (i := 6) (x := n) rfl rfl ?_
        refine q_il (pc := 37) (i := 1) (x := v1) rfl rfl ?_
        refine q_i2 (pc := 38) rfl (fun h38 => ?_) (fun h38 => ?_)
        · replace h38 : v1 ≤ n := h38
          refine q_il (pc := 105) (i := 6) (x := n) rfl rfl ?_
          refine q_il (pc := 106) (i := 1) (x := v1) rfl rfl ?_
          refine q_i2 (pc := 107) rfl (fun h107 => ?_) (fun h107 => ?_)
          · replace h107 : n ≠ v1 := h107
            refine q_ic (pc := 110) (v := (-1)) rfl ?_
            refine q_ri (pc := 111) rfl ?_
            exact hq _ K (by omega) kT kX kF
          · replace h107 : n = v1 := h107
            refine q_il (pc := 108) (i := 3) (x := p) rfl rfl ?_
            refine q_go (pc := 109) rfl ?_
            refine q_ri (pc := 111) rfl ?_
            exact hq _ K (by omega) kT kX kF
        · replace h38 : n < v1 := h38
          refine q_al (pc := 39) (i := 0) (x := 183) rfl rfl ?_
          refine q_il (pc := 40) (i := 5) (x := s) rfl rfl ?_
          refine q_il (pc := 41) (i := 3) (x := p) rfl rfl ?_
          refine q_il (pc := 42) (i := 4) (x := h) rfl rfl ?_
          refine q_il (pc := 43) (i := 2) (x := v) rfl rfl ?_
          refine q_al (pc := 44) (i := 0) (x := 183) rfl rfl ?_
          refine q_iv (pc := 45) (q := 2560964) rfl rfl rfl (ttKc kT (a := 183) (κ := 12) (len := 0) ⟨rfl, rfl⟩ (by decide) (by decide)).1 ?_
          refine lf_liftSet (by omega) kT ?_
          rw [← jls]
          refine q_iv (pc := 46) (q := 2544984) rfl rfl rfl (ttKc kT (a := 183) (κ := 12) (len := 0) ⟨rfl, rfl⟩ (by decide) (by decide)).1 ?_
          refine lf_climbsIn (by omega) kT s0 s1 p0 p1 h0 h1 (by omega) (by omega) (fun yc => ?_) (fun yc => ?_)
          · skip
            refine q_if (pc := 47) rfl (fun h47 => ?_) (fun h47 => ?_)
            · replace h47 : (1 : Int) = 0 := h47
              omega
            · replace h47 : (1 : Int) ≠ 0 := h47
              refine q_al (pc := 48) (i := 0) (x := 183) rfl rfl ?_
              refine q_il (pc := 49) (i := 3) (x := p) rfl rfl ?_
              refine q_il (pc := 50) (i := 4) (x := h) rfl rfl ?_
              refine q_al (pc := 51) (i := 0) (x := 183) rfl rfl ?_
              refine q_iv (pc := 52) (q := 2256964) rfl rfl rfl (ttKc kT (a := 183) (κ := 12) (len := 0) ⟨rfl, rfl⟩ (by decide) (by decide)).1 ?_
              refine lf_startWet2 (by omega) kT ?_
              obtain ⟨x, jx⟩ : ∃ x, x = yySw K.1 := ⟨_, rfl⟩
              have zx := yySw_in K.1
              rw [← jx] at zx ⊢
              obtain ⟨yc1, yc2, yc3⟩ := yc
              rw [← jx] at yc2 yc3
              refine q_iv (pc := 53) (q := 2152976) rfl rfl rfl (ttKc kT (a := 183) (κ := 12) (len := 0) ⟨rfl, rfl⟩ (by decide) (by decide)).1 ?_
              refine lf_higher2 (by omega) kT p0 p1 h0 h1 zx.1 zx.2 (fun hu => ?_)
              obtain ⟨u, ju⟩ : ∃ u, u = yyHi K.1 p h x := ⟨_, rfl⟩
              rw [← ju] at hu yc2 yc3 ⊢
              refine q_is (pc := 54) (i := 4) (L' := [(2, 183), (0, v1), (0, v), (0, p), (0, u), (0, s), (0, n), x7]) rfl rfl rfl ?_
              refine q_ii (pc := 55) (i := 2) (c := (-1)) (x := v) (L' := [(2, 183), (0, v1), (0, (v + (-1))), (0, p), (0, u), (0, s), (0, n), x7]) rfl rfl rfl (by omega) (by omega) rfl ?_
              refine q_go (pc := 56) rfl ?_
              exact ih (v + (-1)) p u s n _ (by omega) (by omega) (by omega) p0 p1 (by omega) (by omega) s0 s1 n0 n1 (by rw [yc3]; omega)
          · skip
            refine q_if (pc := 47) rfl (fun h47 => ?_) (fun h47 => ?_)
            · replace h47 : (0 : Int) = 0 := h47
              refine q_ic (pc := 57) (v := 300) rfl ?_
              refine q_ic (pc := 58) (v := 2) rfl ?_
              refine q_il (pc := 59) (i := 3) (x := p) rfl rfl ?_
              refine q_im (pc := 60) rfl (by omega) (by omega) ?_
              refine q_al (pc := 61) (i := 0) (x := 183) rfl rfl ?_
              refine q_iv (pc := 62) (q := 2256964) rfl rfl rfl (ttKc kT (a := 183) (κ := 12) (len := 0) ⟨rfl, rfl⟩ (by decide) (by decide)).1 ?_
              refine lf_startWet2 (by omega) kT ?_
              obtain ⟨x, jx⟩ : ∃ x, x = yySw K.1 := ⟨_, rfl⟩
              have zx := yySw_in K.1
              rw [← jx] at zx ⊢
              refine q_ia (pc := 63) rfl (by omega) (by omega) ?_
              refine q_im (pc := 64) rfl (by omega) (by omega) ?_
              obtain ⟨r, jr⟩ : ∃ r, r = 2 * p + x := ⟨_, rfl⟩
              obtain ⟨w, w0, w1, w2, yg⟩ : ∃ w : Int, 0 ≤ w ∧ w < 60 ∧ w < K.1 190 r ∧ yyGw K.1 s (300 * r + 5 * w) h v := by
                rcases yj with z | z | ⟨-, -, z⟩
                · exact absurd z v9
                · omega
                · rcases z with z | z
                  · exact absurd z yc
                  · rw [← jx, ← jr] at z
                    exact z
              obtain ⟨k, jk⟩ : ∃ k, k = 300 * r + 5 * 0 := ⟨_, rfl⟩
              rw [show (300 * ((2 * p) + x)) = k from by omega]
              refine q_is (pc := 65) (i := 7) (L' := [(2, 183), (0, v1), (0, v), (0, p), (0, h), (0, s), (0, n), (0, k)]) rfl rfl rfl ?_
              have hx : ∀ j k : Int, 0 ≤ j → j ≤ w → k = 300 * r + 5 * j → yyGw K.1 s k h v → xW e cd_323 Q (75, [(2, 183), (0, v1), (0, v), (0, p), (0, h), (0, s), (0, n), (0, k)], [], K) := by
                intro j k ujj0 ujj1 jk yh
                have k0 : 0 ≤ k ∧ k ≤ 4795 ∧ k % 5 = 0 := by omega
                obtain ⟨wa, wb, wc, wt, -⟩ := wy_ty kT k0.1 k0.2.1 k0.2.2
                obtain ⟨-, wp, -⟩ := kW r (by omega) (by omega) j ujj0 (by omega) (by omega)
                rw [← jk] at wp
                obtain ⟨y1, y2, y3⟩ := yh
                have zq := ty_bit kT wc.1 wc.2
                refine q_al (pc := 75) (i := 0) (x := 183) rfl rfl ?_
                refine q_il (pc := 76) (i := 7) (x := k) rfl rfl ?_
                refine q_il (pc := 77) (i := 4) (x := h) rfl rfl ?_
                refine q_iv (pc := 78) (q := 2016972) rfl rfl rfl (ttKc kT (a := 183) (κ := 12) (len := 0) ⟨rfl, rfl⟩ (by decide) (by decide)).1 ?_
                refine lf_comesAt (by omega) kT k0.1 k0.2.1 k0.2.2 (fun yc => ?_) (fun yn => absurd y2 yn)
                obtain ⟨a, ja⟩ : ∃ v, v = yyA K.1 k h := ⟨_, rfl⟩
                have a0 : 0 ≤ a ∧ a ≤ 60 := by
                  have z1 := pl_ty kT yc.2.1.1 yc.2.1.2
                  have z2 := yc.2.2.2
                  unfold yyA at ja
                  omega
                rw [← ja] at y3 ⊢
                refine q_is (pc := 79) (i := 4) (L' := [(2, 183), (0, v1), (0, v), (0, p), (0, a), (0, s), (0, n), (0, k)]) rfl rfl rfl ?_
                refine q_il (pc := 80) (i := 2) (x := v) rfl rfl ?_
                refine q_al (pc := 81) (i := 0) (x := 183) rfl rfl ?_
                refine q_gf (pc := 82) (m := 12212) (t := 2) (c := 21) rfl (ttKc kT (a := 183) (κ := 12) (len := 0) ⟨rfl, rfl⟩ (by decide) (by decide)).1 rfl rfl ?_
                rw [show K.1 183 21 = 191 from ttFx kT (by decide) (by decide) rfl rfl rfl]
                refine q_il (pc := 83) (i := 7) (x := k) rfl rfl ?_
                refine q_ic (pc := 84) (v := 3) rfl ?_
                refine q_ia (pc := 85) rfl (by omega) (by omega) ?_
                refine q_ai (pc := 86) rfl (ttKc kT (a := 191) (κ := 20) (len := 4800) ⟨rfl, rfl⟩ (by decide) (by decide)).1 (by omega) (by rw [(ttKc kT (a := 191) (κ := 20) (len := 4800) ⟨rfl, rfl⟩ (by decide) (by decide)).2]; omega) ?_
                refine q_ib (pc := 87) rfl (by omega) (by omega) ?_
                refine q_is (pc := 88) (i := 2) (L' := [(2, 183), (0, v1), (0, (v - (K.1 191 (k + 3)))), (0, p), (0, a), (0, s), (0, n), (0, k)]) rfl rfl rfl ?_
                refine q_al (pc := 89) (i := 0) (x := 183) rfl rfl ?_
                refine q_gf (pc := 90) (m := 12212) (t := 2) (c := 21) rfl (ttKc kT (a := 183) (κ := 12) (len := 0) ⟨rfl, rfl⟩ (by decide) (by decide)).1 rfl rfl ?_
                rw [show K.1 183 21 = 191 from ttFx kT (by decide) (by decide) rfl rfl rfl]
                refine q_il (pc := 91) (i := 7) (x := k) rfl rfl ?_
                refine q_ic (pc := 92) (v := 2) rfl ?_
                refine q_ia (pc := 93) rfl (by omega) (by omega) ?_
                refine q_ai (pc := 94) rfl (ttKc kT (a := 191) (κ := 20) (len := 4800) ⟨rfl, rfl⟩ (by decide) (by decide)).1 (by omega) (by rw [(ttKc kT (a := 191) (κ := 20) (len := 4800) ⟨rfl, rfl⟩ (by decide) (by decide)).2]; omega) ?_
                refine q_is (pc := 95) (i := 3) (L' := [(2, 183), (0, v1), (0, (v - (K.1 191 (k + 3)))), (0, (K.1 191 (k + 2))), (0, a), (0, s), (0, n), (0, k)]) rfl rfl rfl ?_
                refine q_il (pc := 96) (i := 5) (x := s) rfl rfl ?_
                refine q_al (pc := 97) (i := 0) (x := 183) rfl rfl ?_
                refine q_gf (pc := 98) (m := 12472) (t := 2) (c := 47) rfl (ttKc kT (a := 183) (κ := 12) (len := 0) ⟨rfl, rfl⟩ (by decide) (by decide)).1 rfl rfl ?_
                rw [show K.1 183 47 = 205 from ttFx kT (by decide) (by decide) rfl rfl rfl]
                refine q_il (pc := 99) (i := 3) (x := (K.1 191 (k + 2))) rfl rfl ?_
                refine q_ai (pc := 100) rfl (ttKc kT (a := 205) (κ := 20) (len := 8) ⟨rfl, rfl⟩ (by decide) (by decide)).1 (by omega) (by rw [(ttKc kT (a := 205) (κ := 20) (len := 8) ⟨rfl, rfl⟩ (by decide) (by decide)).2]; omega) ?_
                refine q_or (pc := 101) rfl ?_
                refine q_is (pc := 102) (i := 5) (L' := [(2, 183), (0, v1), (0, (v - (K.1 191 (k + 3)))), (0, (K.1 191 (k + 2))), (0, a), (0, (xOr s (K.1 205 (K.1 191 (k + 2))))), (0, n), (0, k)]) rfl rfl rfl ?_
                have zo := or7 s0 s1 zq.1 (by omega)
                refine q_ii (pc := 103) (i := 6) (c := 1) (x := n) (L' := [(2, 183), (0, v1), (0, (v - (K.1 191 (k + 3)))), (0, (K.1 191 (k + 2))), (0, a), (0, (xOr s (K.1 205 (K.1 191 (k + 2))))), (0, (n + 1)), (0, k)]) rfl rfl rfl (by omega) (by omega) rfl ?_
                refine q_go (pc := 104) rfl ?_
                exact ih _ _ a _ (n + 1) _ (by omega) (by omega) (by omega) wc.1 wc.2 a0.1 a0.2 zo.1 zo.2 (by omega) (by omega) y3
              have hi : ∀ m : Nat, ∀ j : Int, 0 ≤ j → j ≤ w → w - j ≤ (m : Int) → xW e cd_323 Q (66, [(2, 183), (0, v1), (0, v), (0, p), (0, h), (0, s), (0, n), (0, (300 * r + 5 * j))], [], K) := by
                intro m
                induction m with
                | zero =>
                  intro j ujj0 ujj1 ujj2
                  obtain ⟨k, jk⟩ : ∃ k, k = 300 * r + 5 * j := ⟨_, rfl⟩
                  rw [← jk]
                  have k0 : 0 ≤ k ∧ k ≤ 4795 ∧ k % 5 = 0 := by omega
                  refine q_al (pc := 66) (i := 0) (x := 183) rfl rfl ?_
                  refine q_il (pc := 67) (i := 5) (x := s) rfl rfl ?_
                  refine q_il (pc := 68) (i := 7) (x := k) rfl rfl ?_
                  refine q_il (pc := 69) (i := 4) (x := h) rfl rfl ?_
                  refine q_il (pc := 70) (i := 2) (x := v) rfl rfl ?_
                  refine q_iv (pc := 71) (q := 2552980) rfl rfl rfl (ttKc kT (a := 183) (κ := 12) (len := 0) ⟨rfl, rfl⟩ (by decide) (by decide)).1 ?_
                  refine lf_goesIn (by omega) kT s0 s1 k0.1 k0.2.1 k0.2.2 v0 (by omega) (fun yh => ?_) (fun yh => ?_)
                  · skip
                    refine q_if (pc := 72) rfl (fun h72 => ?_) (fun h72 => ?_)
                    · replace h72 : (1 : Int) ≠ 0 := h72
                      exact hx j k ujj0 ujj1 jk yh
                    · replace h72 : (1 : Int) = 0 := h72
                      omega
                  · skip
                    refine q_if (pc := 72) rfl (fun h72 => ?_) (fun h72 => ?_)
                    · replace h72 : (0 : Int) ≠ 0 := h72
                      omega
                    · replace h72 : (0 : Int) = 0 := h72
                      exact absurd (by rw [jk, show j = w from by omega]; exact yg) yh
                | succ m ih2 =>
                  intro j ujj0 ujj1 ujj2
                  obtain ⟨k, jk⟩ : ∃ k, k = 300 * r + 5 * j := ⟨_, rfl⟩
                  rw [← jk]
                  have k0 : 0 ≤ k ∧ k ≤ 4795 ∧ k % 5 = 0 := by omega
                  refine q_al (pc := 66) (i := 0) (x := 183) rfl rfl ?_
                  refine q_il (pc := 67) (i := 5) (x := s) rfl rfl ?_
                  refine q_il (pc := 68) (i := 7) (x := k) rfl rfl ?_
                  refine q_il (pc := 69) (i := 4) (x := h) rfl rfl ?_
                  refine q_il (pc := 70) (i := 2) (x := v) rfl rfl ?_
                  refine q_iv (pc := 71) (q := 2552980) rfl rfl rfl (ttKc kT (a := 183) (κ := 12) (len := 0) ⟨rfl, rfl⟩ (by decide) (by decide)).1 ?_
                  refine lf_goesIn (by omega) kT s0 s1 k0.1 k0.2.1 k0.2.2 v0 (by omega) (fun yh => ?_) (fun yh => ?_)
                  · skip
                    refine q_if (pc := 72) rfl (fun h72 => ?_) (fun h72 => ?_)
                    · replace h72 : (1 : Int) ≠ 0 := h72
                      exact hx j k ujj0 ujj1 jk yh
                    · replace h72 : (1 : Int) = 0 := h72
                      omega
                  · skip
                    refine q_if (pc := 72) rfl (fun h72 => ?_) (fun h72 => ?_)
                    · replace h72 : (0 : Int) ≠ 0 := h72
                      omega
                    · replace h72 : (0 : Int) = 0 := h72
                      have jw : j ≠ w := fun z => yh (by rw [jk, z]; exact yg)
                      refine q_ii (pc := 73) (i := 7) (c := 5) (x := k) (L' := [(2, 183), (0, v1), (0, v), (0, p), (0, h), (0, s), (0, n), (0, (k + 5))]) rfl rfl rfl (by omega) (by omega) rfl ?_
                      refine q_go (pc := 74) rfl ?_
                      rw [show k + 5 = 300 * r + 5 * (j + 1) from by omega]
                      exact ih2 (j + 1) (by omega) (by omega) (by omega)
              rw [jk]
              exact hi w.toNat 0 (by decide) w0 (by omega)
            · replace h47 : (0 : Int) ≠ 0 := h47
              omega
  refine xC_of (L := [(2, 183), (0, v1), (9, 0), (9, 0), (9, 0), (9, 0), (9, 0), (9, 0)]) (cd := cd_323) rfl rfl rfl ?_
  refine q_al (pc := 0) (i := 0) (x := 183) rfl rfl ?_
  refine q_iv (pc := 1) (q := 2248964) rfl rfl rfl (ttKc hT (a := 183) (κ := 12) (len := 0) ⟨rfl, rfl⟩ (by decide) (by decide)).1 ?_
  refine lf_hasStart (by omega) hT (fun hs => ?_) (fun hs => ?_)
  · skip
    refine q_if (pc := 2) rfl (fun h2 => ?_) (fun h2 => ?_)
    · replace h2 : (1 : Int) ≠ 0 := h2
      refine q_al (pc := 5) (i := 0) (x := 183) rfl rfl ?_
      refine q_al (pc := 6) (i := 0) (x := 183) rfl rfl ?_
      refine q_iv (pc := 7) (q := 2560964) rfl rfl rfl (ttKc hT (a := 183) (κ := 12) (len := 0) ⟨rfl, rfl⟩ (by decide) (by decide)).1 ?_
      refine lf_liftSet (by omega) hT ?_
      obtain ⟨ls, jls⟩ : ∃ z, z = yyLs H.1 (H.1 184 1).toNat := ⟨_, rfl⟩
      rw [← jls]
      refine q_iv (pc := 8) (q := 2568968) rfl rfl rfl (ttKc hT (a := 183) (κ := 12) (len := 0) ⟨rfl, rfl⟩ (by decide) (by decide)).1 ?_
      refine lf_soonBy (by omega) hT hX hs (fun v K kT kX kF kw kf kJ jv => ?_)
      rw [show ls = yyLs K.1 (K.1 184 1).toNat from by rw [jls, kw 1, yyLs_eq kw]] at kJ
      have z12 : -1 ≤ K.1 184 12 ∧ K.1 184 12 ≤ 7 := ttMc kT (a := 184) (j := 12) (by decide) (by decide) (by decide) (by decide)
      have z13 : 0 ≤ K.1 184 13 ∧ K.1 184 13 ≤ 60 := ttMc kT (a := 184) (j := 13) (by decide) (by decide) (by decide) (by decide)
      have h12w : K.1 184 12 ≠ -1 := by rw [kw]; exact hs
      have zb := ty_bit kT (p := K.1 184 12) (by omega) (by omega)
      refine q_is (pc := 9) (i := 2) (L' := [(2, 183), (0, v1), (0, v), (9, 0), (9, 0), (9, 0), (9, 0), (9, 0)]) rfl rfl rfl ?_
      refine q_il (pc := 10) (i := 2) (x := v) rfl rfl ?_
      refine q_ic (pc := 11) (v := (-1)) rfl ?_
      refine q_i2 (pc := 12) rfl (fun h12 => ?_) (fun h12 => ?_)
      · replace h12 : v = (-1) := h12
        refine q_ic (pc := 15) (v := (-1)) rfl ?_
        refine q_ri (pc := 16) rfl ?_
        exact hq _ K (by decide) kT kX kF
      · replace h12 : v ≠ (-1) := h12
        refine q_il (pc := 13) (i := 1) (x := v1) rfl rfl ?_
        refine q_if (pc := 14) rfl (fun h14 => ?_) (fun h14 => ?_)
        · replace h14 : 0 ≤ v1 := h14
          refine q_al (pc := 17) (i := 0) (x := 183) rfl rfl ?_
          refine q_gf (pc := 18) (m := 12012) (t := 2) (c := 1) rfl (ttKc kT (a := 183) (κ := 12) (len := 0) ⟨rfl, rfl⟩ (by decide) (by decide)).1 rfl rfl ?_
          rw [show K.1 183 1 = 184 from ttFx kT (by decide) (by decide) rfl rfl rfl]
          refine q_ic (pc := 19) (v := 12) rfl ?_
          refine q_ai (pc := 20) rfl (ttKc kT (a := 184) (κ := 20) (len := 196) ⟨rfl, rfl⟩ (by decide) (by decide)).1 (by omega) (by rw [(ttKc kT (a := 184) (κ := 20) (len := 196) ⟨rfl, rfl⟩ (by decide) (by decide)).2]; omega) ?_
          refine q_is (pc := 21) (i := 3) (L' := [(2, 183), (0, v1), (0, v), (0, (K.1 184 12)), (9, 0), (9, 0), (9, 0), (9, 0)]) rfl rfl rfl ?_
          refine q_al (pc := 22) (i := 0) (x := 183) rfl rfl ?_
          refine q_gf (pc := 23) (m := 12012) (t := 2) (c := 1) rfl (ttKc kT (a := 183) (κ := 12) (len := 0) ⟨rfl, rfl⟩ (by decide) (by decide)).1 rfl rfl ?_
          rw [show K.1 183 1 = 184 from ttFx kT (by decide) (by decide) rfl rfl rfl]
          refine q_ic (pc := 24) (v := 13) rfl ?_
          refine q_ai (pc := 25) rfl (ttKc kT (a := 184) (κ := 20) (len := 196) ⟨rfl, rfl⟩ (by decide) (by decide)).1 (by omega) (by rw [(ttKc kT (a := 184) (κ := 20) (len := 196) ⟨rfl, rfl⟩ (by decide) (by decide)).2]; omega) ?_
          refine q_is (pc := 26) (i := 4) (L' := [(2, 183), (0, v1), (0, v), (0, (K.1 184 12)), (0, (K.1 184 13)), (9, 0), (9, 0), (9, 0)]) rfl rfl rfl ?_
          refine q_al (pc := 27) (i := 0) (x := 183) rfl rfl ?_
          refine q_gf (pc := 28) (m := 12472) (t := 2) (c := 47) rfl (ttKc kT (a := 183) (κ := 12) (len := 0) ⟨rfl, rfl⟩ (by decide) (by decide)).1 rfl rfl ?_
          rw [show K.1 183 47 = 205 from ttFx kT (by decide) (by decide) rfl rfl rfl]
          refine q_il (pc := 29) (i := 3) (x := (K.1 184 12)) rfl rfl ?_
          refine q_ai (pc := 30) rfl (ttKc kT (a := 205) (κ := 20) (len := 8) ⟨rfl, rfl⟩ (by decide) (by decide)).1 (by omega) (by rw [(ttKc kT (a := 205) (κ := 20) (len := 8) ⟨rfl, rfl⟩ (by decide) (by decide)).2]; omega) ?_
          refine q_is (pc := 31) (i := 5) (L' := [(2, 183), (0, v1), (0, v), (0, (K.1 184 12)), (0, (K.1 184 13)), (0, (K.1 205 (K.1 184 12))), (9, 0), (9, 0)]) rfl rfl rfl ?_
          refine q_ic (pc := 32) (v := 0) rfl ?_
          refine q_is (pc := 33) (i := 6) (L' := [(2, 183), (0, v1), (0, v), (0, (K.1 184 12)), (0, (K.1 184 13)), (0, (K.1 205 (K.1 184 12))), (0, 0), (9, 0)]) rfl rfl rfl ?_
          obtain ⟨va, vb, vc⟩ : v ≠ 1000 ∧ 0 ≤ v ∧ _ := jv.resolve_left h12
          exact hG K kT kX kF kf kJ v.toNat v _ _ _ 0 _ vb (by omega) va (by omega) (by omega) z13.1 z13.2 zb.1 (by omega) (by decide) (by omega) vc
        · replace h14 : v1 < 0 := h14
          refine q_ic (pc := 15) (v := (-1)) rfl ?_
          refine q_ri (pc := 16) rfl ?_
          exact hq _ K (by decide) kT kX kF
    · replace h2 : (1 : Int) = 0 := h2
      omega
  · skip
    refine q_if (pc := 2) rfl (fun h2 => ?_) (fun h2 => ?_)
    · replace h2 : (0 : Int) ≠ 0 := h2
      omega
    · replace h2 : (0 : Int) = 0 := h2
      refine q_ic (pc := 3) (v := (-2)) rfl ?_
      refine q_ri (pc := 4) rfl ?_
      exact hq _ H (by decide) hT hX (ttFr_rf _ H)
