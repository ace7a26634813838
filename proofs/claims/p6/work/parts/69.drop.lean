/-! when water is let go -/
theorem pl_hl {H : xH} (hT : ttTI H) {p : Int} (p0 : 0 ≤ p) (p1 : p ≤ 7) : 0 ≤ H.1 184 (23 + 8 * p) ∧ H.1 184 (23 + 8 * p) ≤ 1 := by
  have e : ∀ n : Nat, n < 8 → ttTy (ttTb 184) (23 + 8 * (n : Int)) = (0, 0, 1) := by decide +kernel
  have k1 := e p.toNat (by omega)
  rw [Int.toNat_of_nonneg p0] at k1
  have z1 := ttMc hT (a := 184) (j := 23 + 8 * p) (by decide) (by decide) (by omega) (by show _ < (196 : Int); omega)
  rw [show ttRo 184 = 184 from rfl, k1] at z1
  exact z1
def m_drop : ttCon := (300, 12, [(2, (0, 183, (9, 0, 0)))], [], [(1, 0, (0, (-1), 47))], [], true, [(190, 0, 15), (191, 0, 4799), (192, 0, 7), (193, 0, 975), (195, 0, 93695), (196, 0, 93695), (197, 0, 93695), (198, 0, 7), (183, 22, 22), (183, 29, 29)])
theorem hm_drop : ttHas (ttXX YY) m_drop := by
  intro dd hdd vs H hT hX hargs hcells Q hQ
  obtain ⟨v0, vs, rfl, p0, hargs⟩ := ttV1 hargs
  cases ttV0 hargs
  cases ttPk p0
  obtain ⟨e, rfl, he⟩ := ttRun0 (n := 11) hdd
  have he : 11 ≤ e := he
  have hq : ∀ r K, (-1 ≤ r ∧ r ≤ 47) → ttTI K → ttXX YY K → ttFr (true, [(190, 0, 15), (191, 0, 4799), (192, 0, 7), (193, 0, 975), (195, 0, 93695), (196, 0, 93695), (197, 0, 93695), (198, 0, 7), (183, 22, 22), (183, 29, 29)]) H K → Q r K := fun r K hr a b c => hQ r K a b c ⟨_, List.mem_singleton.mpr rfl, ttPi_of hr.1 hr.2⟩ (fun q hq => absurd hq List.not_mem_nil)
  have hG : ∀ G : xH, ttTI G → ttXX YY G → ttFr (true, [(190, 0, 15), (191, 0, 4799), (192, 0, 7), (193, 0, 975), (195, 0, 93695), (196, 0, 93695), (197, 0, 93695), (198, 0, 7), (183, 22, 22), (183, 29, 29)]) H G → G.1 183 29 ≠ -1 → 0 < G.1 184 6 → ∀ n : Nat, ∀ (p h t : Int) (x4 x5 : xV), 0 ≤ p → p ≤ 7 → p < G.1 184 1 → 0 ≤ h → h ≤ 60 → G.1 184 (20 + 8 * p) ≤ h → h ≤ G.1 184 7 → 0 ≤ t → t ≤ 47 → t ≤ G.1 184 8 → 47 - t ≤ (n : Int) → xW e cd_300 Q (23, [(2, 183), (0, p), (0, h), (0, t), x4, x5], [], G) := by
    intro G gT gX gF gs g6
    obtain ⟨gf, hl, hw⟩ := yyLv gX gs
    have z7 : 0 ≤ G.1 184 7 ∧ G.1 184 7 ≤ 60 := ttMc gT (a := 184) (j := 7) (by decide) (by decide) (by decide) (by decide)
    have z8 : 0 ≤ G.1 184 8 ∧ G.1 184 8 ≤ 47 := ttMc gT (a := 184) (j := 8) (by decide) (by decide) (by decide) (by decide)
    intro n
    induction n with
    | zero =>
      intro p h t x4 x5 p0 p1 p2 h0 h1 h2 h3 t0 t1 t2 hn2
      refine q_al (pc := 23) (i := 0) (x := 183) rfl rfl ?_
      refine q_gf (pc := 24) (m := 12272) (t := 2) (c := 27) rfl (ttKc gT (a := 183) (κ := 12) (len := 0) ⟨rfl, rfl⟩ (by decide) (by decide)).1 rfl rfl ?_
      rw [show G.1 183 27 = 196 from ttFx gT (by decide) (by decide) rfl rfl rfl]
      refine q_il (pc := 25) (i := 1) (x := p) rfl rfl ?_
      refine q_il (pc := 26) (i := 2) (x := h) rfl rfl ?_
      refine q_il (pc := 27) (i := 3) (x := t) rfl rfl ?_
      refine q_al (pc := 28) (i := 0) (x := 183) rfl rfl ?_
      refine q_il (pc := 29) (i := 1) (x := p) rfl rfl ?_
      refine q_ic (pc := 30) (v := 3) rfl ?_
      refine q_iv (pc := 31) (q := 1664972) rfl rfl rfl (ttKc gT (a := 183) (κ := 12) (len := 0) ⟨rfl, rfl⟩ (by decide) (by decide)).1 ?_
      refine lf_ofPlace (j := (23 + 8 * p)) (by omega) (by omega) gT (by omega) (by omega) (by omega) (by omega) ?_
      have zx := pl_hl gT p0 p1
      obtain ⟨x, hx⟩ : ∃ x, x = (G.1 184 (23 + 8 * p)) := ⟨_, rfl⟩
      rw [← hx] at zx ⊢
      refine q_ic (pc := 32) (v := 1) rfl ?_
      refine q_ij (pc := 33) (q := 2143940) rfl rfl rfl trivial ?_
      refine lf_state (by omega) (by omega) (by omega) (by omega) (by omega) (by omega) (by omega) (by omega) (by omega) (by omega) (by omega) ?_
      obtain ⟨ujb16, ujhb16⟩ : ∃ z, z = (yyX p h t x 1) := ⟨_, rfl⟩
      have ujhc16 : 0 ≤ ujb16 ∧ ujb16 ≤ 93695 := by rw [ujhb16]; unfold yyX; omega
      rw [← ujhb16]
      refine q_ai (pc := 34) rfl (ttKc gT (a := 196) (κ := 20) (len := 93696) ⟨rfl, rfl⟩ (by decide) (by decide)).1 (by omega) (by rw [(ttKc gT (a := 196) (κ := 20) (len := 93696) ⟨rfl, rfl⟩ (by decide) (by decide)).2]; omega) ?_
      obtain ⟨d, hdd⟩ : ∃ z, z = (G.1 196 ujb16) := ⟨_, rfl⟩
      rw [← hdd]
      have zl := hl p h t x 1 p0 p1 p2 h0 h1 h2 h3 t0 t1 t2 zx.1 zx.2 (by decide) (by decide) (fun _ => g6)
      rw [← ujhb16, ← hdd] at zl
      refine q_is (pc := 35) (i := 4) (L' := [(2, 183), (0, p), (0, h), (0, t), (0, d), x5]) rfl rfl rfl ?_
      refine q_il (pc := 36) (i := 4) (x := d) rfl rfl ?_
      refine q_ic (pc := 37) (v := (-1)) rfl ?_
      refine q_i2 (pc := 38) rfl (fun h38 => ?_) (fun h38 => ?_)
      · replace h38 : d ≠ (-1) := h38
        refine q_il (pc := 41) (i := 4) (x := d) rfl rfl ?_
        refine q_ic (pc := 42) (v := 1) rfl ?_
        refine q_i2 (pc := 43) rfl (fun h43 => ?_) (fun h43 => ?_)
        · replace h43 : d ≠ 1 := h43
          refine q_il (pc := 46) (i := 4) (x := d) rfl rfl ?_
          refine q_if (pc := 47) rfl (fun h47 => ?_) (fun h47 => ?_)
          · replace h47 : d ≠ 0 := h47
            exfalso
            rcases zl with z | z | z | ⟨i, i0, i1, i2, i3, i4, -⟩
            · exact absurd z (by omega)
            · exact absurd z.1 (by omega)
            · exact absurd z (by omega)
            · have := (hw _ (by omega) (by omega) i i0 i1 i2).2.1
              omega
          · replace h47 : d = 0 := h47
            exfalso
            rcases zl with z | z | z | ⟨i, i0, i1, i2, i3, -⟩
            · exact absurd z (by omega)
            · have := z.2; omega
            · exact absurd z (by omega)
            · have := wy_ty gT (k := 300 * (2 * p + 1) + 5 * i) (by omega) (by omega) (by omega)
              omega
        · replace h43 : d = 1 := h43
          refine q_il (pc := 44) (i := 3) (x := t) rfl rfl ?_
          refine q_ri (pc := 45) rfl ?_
          exact hq _ G (by omega) gT gX gF
      · replace h38 : d = (-1) := h38
        refine q_ic (pc := 39) (v := (-1)) rfl ?_
        refine q_ri (pc := 40) rfl ?_
        exact hq _ G (by omega) gT gX gF
    | succ n ih =>
      intro p h t x4 x5 p0 p1 p2 h0 h1 h2 h3 t0 t1 t2 hn2
      refine q_al (pc := 23) (i := 0) (x := 183) rfl rfl ?_
      refine q_gf (pc := 24) (m := 12272) (t := 2) (c := 27) rfl (ttKc gT (a := 183) (κ := 12) (len := 0) ⟨rfl, rfl⟩ (by decide) (by decide)).1 rfl rfl ?_
      rw [show G.1 183 27 = 196 from ttFx gT (by decide) (by decide) rfl rfl rfl]
      refine q_il (pc := 25) (i := 1) (x := p) rfl rfl ?_
      refine q_il (pc := 26) (i := 2) (x := h) rfl rfl ?_
      refine q_il (pc := 27) (i := 3) (x := t) rfl rfl ?_
      refine q_al (pc := 28) (i := 0) (x := 183) rfl rfl ?_
      refine q_il (pc := 29) (i := 1) (x := p) rfl rfl ?_
      refine q_ic (pc := 30) (v := 3) rfl ?_
      refine q_iv (pc := 31) (q := 1664972) rfl rfl rfl (ttKc gT (a := 183) (κ := 12) (len := 0) ⟨rfl, rfl⟩ (by decide) (by decide)).1 ?_
      refine lf_ofPlace (j := (23 + 8 * p)) (by omega) (by omega) gT (by omega) (by omega) (by omega) (by omega) ?_
      have zx := pl_hl gT p0 p1
      obtain ⟨x, hx⟩ : ∃ x, x = (G.1 184 (23 + 8 * p)) := ⟨_, rfl⟩
      rw [← hx] at zx ⊢
      refine q_ic (pc := 32) (v := 1) rfl ?_
      refine q_ij (pc := 33) (q := 2143940) rfl rfl rfl trivial ?_
      refine lf_state (by omega) (by omega) (by omega) (by omega) (by omega) (by omega) (by omega) (by omega) (by omega) (by omega) (by omega) ?_
      obtain ⟨ujb17, ujhb17⟩ : ∃ z, z = (yyX p h t x 1) := ⟨_, rfl⟩
      have ujhc17 : 0 ≤ ujb17 ∧ ujb17 ≤ 93695 := by rw [ujhb17]; unfold yyX; omega
      rw [← ujhb17]
      refine q_ai (pc := 34) rfl (ttKc gT (a := 196) (κ := 20) (len := 93696) ⟨rfl, rfl⟩ (by decide) (by decide)).1 (by omega) (by rw [(ttKc gT (a := 196) (κ := 20) (len := 93696) ⟨rfl, rfl⟩ (by decide) (by decide)).2]; omega) ?_
      obtain ⟨d, hdd⟩ : ∃ z, z = (G.1 196 ujb17) := ⟨_, rfl⟩
      rw [← hdd]
      have zl := hl p h t x 1 p0 p1 p2 h0 h1 h2 h3 t0 t1 t2 zx.1 zx.2 (by decide) (by decide) (fun _ => g6)
      rw [← ujhb17, ← hdd] at zl
      refine q_is (pc := 35) (i := 4) (L' := [(2, 183), (0, p), (0, h), (0, t), (0, d), x5]) rfl rfl rfl ?_
      refine q_il (pc := 36) (i := 4) (x := d) rfl rfl ?_
      refine q_ic (pc := 37) (v := (-1)) rfl ?_
      refine q_i2 (pc := 38) rfl (fun h38 => ?_) (fun h38 => ?_)
      · replace h38 : d ≠ (-1) := h38
        refine q_il (pc := 41) (i := 4) (x := d) rfl rfl ?_
        refine q_ic (pc := 42) (v := 1) rfl ?_
        refine q_i2 (pc := 43) rfl (fun h43 => ?_) (fun h43 => ?_)
        · replace h43 : d ≠ 1 := h43
          refine q_il (pc := 46) (i := 4) (x := d) rfl rfl ?_
          refine q_if (pc := 47) rfl (fun h47 => ?_) (fun h47 => ?_)
          · replace h47 : d ≠ 0 := h47
            refine q_al (pc := 56) (i := 0) (x := 183) rfl rfl ?_
            refine q_il (pc := 57) (i := 1) (x := p) rfl rfl ?_
            refine q_ic (pc := 58) (v := 1) rfl ?_
            refine q_il (pc := 59) (i := 4) (x := d) rfl rfl ?_
            obtain ⟨i, i0, i1, i2, i3, i4, i5⟩ : ∃ i : Int, 0 ≤ i ∧ i < 60 ∧ i < G.1 190 (2 * p + 1) ∧ d = 100 + (10 * G.1 191 (300 * (2 * p + 1) + 5 * i) + G.1 191 (300 * (2 * p + 1) + 5 * i + 1)) ∧ t + G.1 191 (300 * (2 * p + 1) + 5 * i + 3) ≤ G.1 184 8 ∧ yyC G.1 (300 * (2 * p + 1) + 5 * i) h := by
              rcases zl with z | z | z | z
              · exact absurd z (by omega)
              · exact absurd z.1 (by omega)
              · exact absurd z (by omega)
              · exact z
            obtain ⟨wn, wp, wo⟩ := hw _ (by omega) (by omega) i i0 i1 i2
            refine q_iv (pc := 60) (q := 2344976) rfl rfl rfl (ttKc gT (a := 183) (κ := 12) (len := 0) ⟨rfl, rfl⟩ (by decide) (by decide)).1 ?_
            refine lf_wayOf rfl (by omega) gT p0 p1 (by decide) (by decide) i0 i1 i2 i3 wo ?_
            obtain ⟨k, hk⟩ : ∃ k, k = 300 * (2 * p + 1) + 5 * i := ⟨_, rfl⟩
            rw [← hk] at i4 i5 wn wp
            rw [← hk]
            have k0 : 0 ≤ k ∧ k ≤ 4795 ∧ k % 5 = 0 := by omega
            obtain ⟨wa, wb, wc, wt, -⟩ := wy_ty gT k0.1 k0.2.1 k0.2.2
            refine q_is (pc := 61) (i := 5) (L' := [(2, 183), (0, p), (0, h), (0, t), (0, d), (0, k)]) rfl rfl rfl ?_
            refine q_al (pc := 62) (i := 0) (x := 183) rfl rfl ?_
            refine q_il (pc := 63) (i := 5) (x := k) rfl rfl ?_
            refine q_il (pc := 64) (i := 2) (x := h) rfl rfl ?_
            refine q_iv (pc := 65) (q := 2016972) rfl rfl rfl (ttKc gT (a := 183) (κ := 12) (len := 0) ⟨rfl, rfl⟩ (by decide) (by decide)).1 ?_
            refine lf_comesAt (by omega) gT k0.1 k0.2.1 k0.2.2 (fun yc => ?_) (fun yn => absurd i5 yn)
            obtain ⟨v, hv⟩ : ∃ v, v = yyA G.1 k h := ⟨_, rfl⟩
            have v0 : G.1 184 (20 + 8 * G.1 191 (k + 2)) ≤ v ∧ v ≤ G.1 184 7 := by
              have z2 := yc.2.2.2
              unfold yyA at hv
              omega
            have v1 := pl_ty gT yc.2.1.1 yc.2.1.2
            rw [← hv]
            refine q_is (pc := 66) (i := 2) (L' := [(2, 183), (0, p), (0, v), (0, t), (0, d), (0, k)]) rfl rfl rfl ?_
            refine q_il (pc := 67) (i := 3) (x := t) rfl rfl ?_
            refine q_al (pc := 68) (i := 0) (x := 183) rfl rfl ?_
            refine q_gf (pc := 69) (m := 12212) (t := 2) (c := 21) rfl (ttKc gT (a := 183) (κ := 12) (len := 0) ⟨rfl, rfl⟩ (by decide) (by decide)).1 rfl rfl ?_
            rw [show G.1 183 21 = 191 from ttFx gT (by decide) (by decide) rfl rfl rfl]
            refine q_il (pc := 70) (i := 5) (x := k) rfl rfl ?_
            refine q_ic (pc := 71) (v := 3) rfl ?_
            refine q_ia (pc := 72) rfl (by omega) (by omega) ?_
            refine q_ai (pc := 73) rfl (ttKc gT (a := 191) (κ := 20) (len := 4800) ⟨rfl, rfl⟩ (by decide) (by decide)).1 (by omega) (by rw [(ttKc gT (a := 191) (κ := 20) (len := 4800) ⟨rfl, rfl⟩ (by decide) (by decide)).2]; omega) ?_
            refine q_ia (pc := 74) rfl (by omega) (by omega) ?_
            refine q_is (pc := 75) (i := 3) (L' := [(2, 183), (0, p), (0, v), (0, (t + (G.1 191 (k + 3)))), (0, d), (0, k)]) rfl rfl rfl ?_
            refine q_al (pc := 76) (i := 0) (x := 183) rfl rfl ?_
            refine q_gf (pc := 77) (m := 12212) (t := 2) (c := 21) rfl (ttKc gT (a := 183) (κ := 12) (len := 0) ⟨rfl, rfl⟩ (by decide) (by decide)).1 rfl rfl ?_
            rw [show G.1 183 21 = 191 from ttFx gT (by decide) (by decide) rfl rfl rfl]
            refine q_il (pc := 78) (i := 5) (x := k) rfl rfl ?_
            refine q_ic (pc := 79) (v := 2) rfl ?_
            refine q_ia (pc := 80) rfl (by omega) (by omega) ?_
            refine q_ai (pc := 81) rfl (ttKc gT (a := 191) (κ := 20) (len := 4800) ⟨rfl, rfl⟩ (by decide) (by decide)).1 (by omega) (by rw [(ttKc gT (a := 191) (κ := 20) (len := 4800) ⟨rfl, rfl⟩ (by decide) (by decide)).2]; omega) ?_
            refine q_is (pc := 82) (i := 1) (L' := [(2, 183), (0, (G.1 191 (k + 2))), (0, v), (0, (t + (G.1 191 (k + 3)))), (0, d), (0, k)]) rfl rfl rfl ?_
            refine q_go (pc := 83) rfl ?_
            exact ih _ v _ _ _ wc.1 wc.2 wn (by omega) (by omega) v0.1 v0.2 (by omega) (by omega) (by omega) (by omega)
          · replace h47 : d = 0 := h47
            refine q_al (pc := 48) (i := 0) (x := 183) rfl rfl ?_
            refine q_il (pc := 49) (i := 1) (x := p) rfl rfl ?_
            refine q_il (pc := 50) (i := 2) (x := h) rfl rfl ?_
            refine q_ic (pc := 51) (v := 1) rfl ?_
            have zt : t < G.1 184 8 := by
              rcases zl with z | z | z | ⟨i, i0, i1, i2, i3, -⟩
              · exact absurd z (by omega)
              · exact z.2
              · exact absurd z (by omega)
              · have := wy_ty gT (k := 300 * (2 * p + 1) + 5 * i) (by omega) (by omega) (by omega)
                omega
            refine q_iv (pc := 52) (q := 2152976) rfl rfl rfl (ttKc gT (a := 183) (κ := 12) (len := 0) ⟨rfl, rfl⟩ (by decide) (by decide)).1 ?_
            refine lf_higher (by omega) gT p0 p1 h0 h1 (fun u ua ub => ?_)
            have uc := ub h3
            refine q_is (pc := 53) (i := 2) (L' := [(2, 183), (0, p), (0, u), (0, t), (0, d), x5]) rfl rfl rfl ?_
            refine q_ii (pc := 54) (i := 3) (c := 1) (x := t) (L' := [(2, 183), (0, p), (0, u), (0, (t + 1)), (0, d), x5]) rfl rfl rfl (by omega) (by omega) rfl ?_
            refine q_go (pc := 55) rfl ?_
            exact ih p u (t + 1) _ _ p0 p1 p2 (by omega) (by omega) (by omega) ua (by omega) (by omega) (by omega) (by omega)
        · replace h43 : d = 1 := h43
          refine q_il (pc := 44) (i := 3) (x := t) rfl rfl ?_
          refine q_ri (pc := 45) rfl ?_
          exact hq _ G (by omega) gT gX gF
      · replace h38 : d = (-1) := h38
        refine q_ic (pc := 39) (v := (-1)) rfl ?_
        refine q_ri (pc := 40) rfl ?_
        exact hq _ G (by omega) gT gX gF
  refine xC_of (L := [(2, 183), (9, 0), (9, 0), (9, 0), (9, 0), (9, 0)]) (cd := cd_300) rfl rfl rfl ?_
  refine q_al (pc := 0) (i := 0) (x := 183) rfl rfl ?_
  refine q_iv (pc := 1) (q := 2248964) rfl rfl rfl (ttKc hT (a := 183) (κ := 12) (len := 0) ⟨rfl, rfl⟩ (by decide) (by decide)).1 ?_
  refine lf_hasStart (by omega) hT (fun hs => ?_) (fun hs => ?_)
  · skip
    refine q_if (pc := 2) rfl (fun h2 => ?_) (fun h2 => ?_)
    · replace h2 : (1 : Int) = 0 := h2
      omega
    · replace h2 : (1 : Int) ≠ 0 := h2
      refine q_al (pc := 3) (i := 0) (x := 183) rfl rfl ?_
      refine q_iv (pc := 4) (q := 2256964) rfl rfl rfl (ttKc hT (a := 183) (κ := 12) (len := 0) ⟨rfl, rfl⟩ (by decide) (by decide)).1 ?_
      refine lf_startWet (by omega) hT (fun hw6 => ?_) ?_
      · skip
        refine q_if (pc := 5) rfl (fun h5 => ?_) (fun h5 => ?_)
        · replace h5 : (1 : Int) ≠ 0 := h5
          refine q_al (pc := 8) (i := 0) (x := 183) rfl rfl ?_
          refine q_ic (pc := 9) (v := 0) rfl ?_
          refine q_iv (pc := 10) (q := 2192971) rfl rfl rfl (ttKc hT (a := 183) (κ := 12) (len := 0) ⟨rfl, rfl⟩ (by decide) (by decide)).1 ?_
          refine lf_solves (by omega) hT hX (by decide) (by decide) (fun G gT gX gF gs => ?_)
          have gw : ∀ j : Int, G.1 184 j = H.1 184 j := fun j => fr_no gF 184 (by have := hT.1; omega) rfl rfl
          have ys := yySt gT gX (by rw [gw 12]; exact hs)
          have z8 : 0 ≤ G.1 184 8 ∧ G.1 184 8 ≤ 47 := ttMc gT (a := 184) (j := 8) (by decide) (by decide) (by decide) (by decide)
          have z13 : 0 ≤ G.1 184 13 ∧ G.1 184 13 ≤ 60 := ttMc gT (a := 184) (j := 13) (by decide) (by decide) (by decide) (by decide)
          refine q_al (pc := 11) (i := 0) (x := 183) rfl rfl ?_
          refine q_gf (pc := 12) (m := 12012) (t := 2) (c := 1) rfl (ttKc gT (a := 183) (κ := 12) (len := 0) ⟨rfl, rfl⟩ (by decide) (by decide)).1 rfl rfl ?_
          rw [show G.1 183 1 = 184 from ttFx gT (by decide) (by decide) rfl rfl rfl]
          refine q_ic (pc := 13) (v := 12) rfl ?_
          refine q_ai (pc := 14) rfl (ttKc gT (a := 184) (κ := 20) (len := 196) ⟨rfl, rfl⟩ (by decide) (by decide)).1 (by omega) (by rw [(ttKc gT (a := 184) (κ := 20) (len := 196) ⟨rfl, rfl⟩ (by decide) (by decide)).2]; omega) ?_
          refine q_is (pc := 15) (i := 1) (L' := [(2, 183), (0, (G.1 184 12)), (9, 0), (9, 0), (9, 0), (9, 0)]) rfl rfl rfl ?_
          refine q_al (pc := 16) (i := 0) (x := 183) rfl rfl ?_
          refine q_gf (pc := 17) (m := 12012) (t := 2) (c := 1) rfl (ttKc gT (a := 183) (κ := 12) (len := 0) ⟨rfl, rfl⟩ (by decide) (by decide)).1 rfl rfl ?_
          rw [show G.1 183 1 = 184 from ttFx gT (by decide) (by decide) rfl rfl rfl]
          refine q_ic (pc := 18) (v := 13) rfl ?_
          refine q_ai (pc := 19) rfl (ttKc gT (a := 184) (κ := 20) (len := 196) ⟨rfl, rfl⟩ (by decide) (by decide)).1 (by omega) (by rw [(ttKc gT (a := 184) (κ := 20) (len := 196) ⟨rfl, rfl⟩ (by decide) (by decide)).2]; omega) ?_
          refine q_is (pc := 20) (i := 2) (L' := [(2, 183), (0, (G.1 184 12)), (0, (G.1 184 13)), (9, 0), (9, 0), (9, 0)]) rfl rfl rfl ?_
          refine q_ic (pc := 21) (v := 0) rfl ?_
          refine q_is (pc := 22) (i := 3) (L' := [(2, 183), (0, (G.1 184 12)), (0, (G.1 184 13)), (0, 0), (9, 0), (9, 0)]) rfl rfl rfl ?_
          exact hG G gT gX gF (by rw [gs]; decide) (by rw [gw 6]; exact hw6) 47 _ _ 0 _ _ ys.1 ys.2.1 ys.2.2.1 z13.1 z13.2 ys.2.2.2.1 ys.2.2.2.2 (by decide) (by decide) z8.1 (by decide)
        · replace h5 : (1 : Int) = 0 := h5
          omega
      · skip
        refine q_if (pc := 5) rfl (fun h5 => ?_) (fun h5 => ?_)
        · replace h5 : (0 : Int) ≠ 0 := h5
          omega
        · replace h5 : (0 : Int) = 0 := h5
          refine q_ic (pc := 6) (v := (-1)) rfl ?_
          refine q_ri (pc := 7) rfl ?_
          exact hq _ H (by decide) hT hX (ttFr_rf _ H)
  · skip
    refine q_if (pc := 2) rfl (fun h2 => ?_) (fun h2 => ?_)
    · replace h2 : (0 : Int) = 0 := h2
      refine q_ic (pc := 6) (v := (-1)) rfl ?_
      refine q_ri (pc := 7) rfl ?_
      exact hq _ H (by decide) hT hX (ttFr_rf _ H)
    · replace h2 : (0 : Int) ≠ 0 := h2
      omega
