/-! the ends -/
theorem yyLv {K : xH} (kX : ttXX YY K) (hs : K.1 183 29 ≠ -1) : K.1 183 22 = 1 ∧ yyL K.1 ∧ yyW K.1 := by
  obtain ⟨-, -, -, -, y3, y4⟩ := kX
  exact ⟨(y4 hs).1, (y4 hs).2, y3 (y4 hs).1⟩
theorem yySt {H : xH} (hT : ttTI H) (hX : ttXX YY H) (hs : H.1 184 12 ≠ -1) : 0 ≤ H.1 184 12 ∧ H.1 184 12 ≤ 7 ∧ H.1 184 12 < H.1 184 1 ∧ H.1 184 (20 + 8 * H.1 184 12) ≤ H.1 184 13 ∧ H.1 184 13 ≤ H.1 184 7 := by
  obtain ⟨-, -, ⟨-, -, y⟩, -⟩ := hX
  have e : ∀ j : Int, (0 : Int) + j = j := fun j => Int.zero_add j
  rw [e 12, e 1, e 13, e 7, e (20 + 8 * H.1 184 12)] at y
  exact y hs
theorem lf_isRule {dd : Nat} (hd : 2 ≤ dd) {x : Int} {H : xH} {Q : Int → xH → Prop} (hy : 0 ≤ x ∧ x ≤ 3 → Q 1 H) (hn : ¬ (0 ≤ x ∧ x ≤ 3) → Q 0 H) : xCall dd 275 [(0, x)] H Q := by
  obtain ⟨e, rfl, he⟩ := ttRun0 (n := 1) hd
  refine xC_of (L := [(0, x)]) (cd := cd_275) rfl rfl rfl ?_
  refine q_il (pc := 0) (i := 0) (x := x) rfl rfl ?_
  refine q_2l (pc := 1) rfl ?_
  refine q_lc (pc := 2) (v := 0) rfl ?_
  refine q_lc (pc := 3) (v := 3) rfl ?_
  refine q_ij (pc := 4) (q := 1615932) rfl rfl rfl trivial ?_
  refine lf_in (by omega) (fun h4 => ?_) (fun h4 => ?_)
  · replace h4 : 0 ≤ x ∧ x ≤ 3 := h4
    refine q_rz (pc := 5) rfl (by omega) ?_
    first | exact hy (by omega) | exact hn (by omega)
  · replace h4 : ¬ (0 ≤ x ∧ x ≤ 3) := h4
    refine q_rz (pc := 5) rfl (by omega) ?_
    first | exact hy (by omega) | exact hn (by omega)
theorem lf_endOf {dd : Nat} {p h t x w m : Int} (hd : 6 ≤ dd) {H : xH} (hT : ttTI H) (hX : ttXX YY H) (hs : H.1 183 29 ≠ -1) (p0 : 0 ≤ p) (p1 : p ≤ 7) (p2 : p < H.1 184 1) (h0 : 0 ≤ h) (h1 : h ≤ 60) (h2 : H.1 184 (20 + 8 * p) ≤ h) (h3 : h ≤ H.1 184 7) (t0 : 0 ≤ t) (t1 : t ≤ 47) (t2 : t ≤ H.1 184 8) (x0 : 0 ≤ x) (x1 : x ≤ 1) (w0 : 0 ≤ w) (w1 : w ≤ 1) (w2 : w = 1 → 0 < H.1 184 6) (m0 : 0 ≤ m) (m1 : m ≤ 1) {Q : Int → xH → Prop} (hQ : ∀ r K, -2147483648 ≤ r ∧ r ≤ 2147483647 → ttTI K → ttXX YY K → ttFr (true, []) H K → Q r K) : xCall dd 292 [(2, 183), (0, p), (0, h), (0, t), (0, x), (0, w), (0, m)] H Q := by
  obtain ⟨e, rfl, he⟩ := ttRun0 (n := 5) hd
  have he : 5 ≤ e := he
  obtain ⟨hf, hl, hw⟩ := yyLv hX hs
  have z7 : 0 ≤ H.1 184 7 ∧ H.1 184 7 ≤ 60 := ttMc hT (a := 184) (j := 7) (by decide) (by decide) (by decide) (by decide)
  have z8 : 0 ≤ H.1 184 8 ∧ H.1 184 8 ≤ 47 := ttMc hT (a := 184) (j := 8) (by decide) (by decide) (by decide) (by decide)
  refine xC_of (L := [(2, 183), (0, p), (0, h), (0, t), (0, x), (0, w), (0, m), (9, 0), (9, 0)]) (cd := cd_292) rfl rfl rfl ?_
  refine q_al (pc := 0) (i := 0) (x := 183) rfl rfl ?_
  refine q_gf (pc := 1) (m := 12272) (t := 2) (c := 27) rfl (ttKc hT (a := 183) (κ := 12) (len := 0) ⟨rfl, rfl⟩ (by decide) (by decide)).1 rfl rfl ?_
  rw [show H.1 183 27 = 196 from ttFx hT (by decide) (by decide) rfl rfl rfl]
  refine q_il (pc := 2) (i := 1) (x := p) rfl rfl ?_
  refine q_il (pc := 3) (i := 2) (x := h) rfl rfl ?_
  refine q_il (pc := 4) (i := 3) (x := t) rfl rfl ?_
  refine q_il (pc := 5) (i := 4) (x := x) rfl rfl ?_
  refine q_il (pc := 6) (i := 5) (x := w) rfl rfl ?_
  refine q_ij (pc := 7) (q := 2143940) rfl rfl rfl trivial ?_
  refine lf_state (by omega) (by omega) (by omega) (by omega) (by omega) (by omega) (by omega) (by omega) (by omega) (by omega) (by omega) ?_
  obtain ⟨ujb1, ujhb1⟩ : ∃ z, z = (yyX p h t x w) := ⟨_, rfl⟩
  have ujhc1 : 0 ≤ ujb1 ∧ ujb1 ≤ 93695 := by rw [ujhb1]; unfold yyX; omega
  rw [← ujhb1]
  refine q_ai (pc := 8) rfl (ttKc hT (a := 196) (κ := 20) (len := 93696) ⟨rfl, rfl⟩ (by decide) (by decide)).1 (by omega) (by rw [(ttKc hT (a := 196) (κ := 20) (len := 93696) ⟨rfl, rfl⟩ (by decide) (by decide)).2]; omega) ?_
  obtain ⟨d, hdd⟩ : ∃ z, z = (H.1 196 ujb1) := ⟨_, rfl⟩
  rw [← hdd]
  have zl := hl p h t x w p0 p1 p2 h0 h1 h2 h3 t0 t1 t2 x0 x1 w0 w1 w2
  rw [← ujhb1, ← hdd] at zl
  refine q_is (pc := 9) (i := 7) (L' := [(2, 183), (0, p), (0, h), (0, t), (0, x), (0, w), (0, m), (0, d), (9, 0)]) rfl rfl rfl ?_
  refine q_il (pc := 10) (i := 7) (x := d) rfl rfl ?_
  refine q_ic (pc := 11) (v := (-1)) rfl ?_
  refine q_i2 (pc := 12) rfl (fun h12 => ?_) (fun h12 => ?_)
  · replace h12 : d ≠ (-1) := h12
    refine q_il (pc := 18) (i := 7) (x := d) rfl rfl ?_
    refine q_if (pc := 19) rfl (fun h19 => ?_) (fun h19 => ?_)
    · replace h19 : d ≠ 0 := h19
      refine q_il (pc := 36) (i := 7) (x := d) rfl rfl ?_
      refine q_ic (pc := 37) (v := 1) rfl ?_
      refine q_i2 (pc := 38) rfl (fun h38 => ?_) (fun h38 => ?_)
      · replace h38 : d ≠ 1 := h38
        refine q_al (pc := 49) (i := 0) (x := 183) rfl rfl ?_
        refine q_il (pc := 50) (i := 1) (x := p) rfl rfl ?_
        refine q_il (pc := 51) (i := 5) (x := w) rfl rfl ?_
        refine q_il (pc := 52) (i := 7) (x := d) rfl rfl ?_
        obtain ⟨i, i0, i1, i2, i3, i4, i5⟩ : ∃ i : Int, 0 ≤ i ∧ i < 60 ∧ i < H.1 190 (2 * p + w) ∧ d = 100 + (10 * H.1 191 (300 * (2 * p + w) + 5 * i) + H.1 191 (300 * (2 * p + w) + 5 * i + 1)) ∧ t + H.1 191 (300 * (2 * p + w) + 5 * i + 3) ≤ H.1 184 8 ∧ yyC H.1 (300 * (2 * p + w) + 5 * i) h := by
          rcases zl with z | z | z | z
          · exact absurd z (by omega)
          · exact absurd z.1 (by omega)
          · exact absurd z (by omega)
          · exact z
        refine q_iv (pc := 53) (q := 2344976) rfl rfl rfl (ttKc hT (a := 183) (κ := 12) (len := 0) ⟨rfl, rfl⟩ (by decide) (by decide)).1 ?_
        refine lf_wayOf rfl (by omega) hT p0 p1 w0 w1 i0 i1 i2 i3 (hw _ (by omega) (by omega) i i0 i1 i2).2.2 ?_
        obtain ⟨k, hk⟩ : ∃ k, k = 300 * (2 * p + w) + 5 * i := ⟨_, rfl⟩
        rw [← hk] at i4 i5
        rw [← hk]
        have k0 : 0 ≤ k ∧ k ≤ 4795 ∧ k % 5 = 0 := by omega
        obtain ⟨wa, wb, wc, wt, -⟩ := wy_ty hT k0.1 k0.2.1 k0.2.2
        refine q_is (pc := 54) (i := 8) (L' := [(2, 183), (0, p), (0, h), (0, t), (0, x), (0, w), (0, m), (0, d), (0, k)]) rfl rfl rfl ?_
        refine q_al (pc := 55) (i := 0) (x := 183) rfl rfl ?_
        refine q_al (pc := 56) (i := 0) (x := 183) rfl rfl ?_
        refine q_gf (pc := 57) (m := 12212) (t := 2) (c := 21) rfl (ttKc hT (a := 183) (κ := 12) (len := 0) ⟨rfl, rfl⟩ (by decide) (by decide)).1 rfl rfl ?_
        rw [show H.1 183 21 = 191 from ttFx hT (by decide) (by decide) rfl rfl rfl]
        refine q_il (pc := 58) (i := 8) (x := k) rfl rfl ?_
        refine q_ic (pc := 59) (v := 2) rfl ?_
        refine q_ia (pc := 60) rfl (by omega) (by omega) ?_
        refine q_ai (pc := 61) rfl (ttKc hT (a := 191) (κ := 20) (len := 4800) ⟨rfl, rfl⟩ (by decide) (by decide)).1 (by omega) (by rw [(ttKc hT (a := 191) (κ := 20) (len := 4800) ⟨rfl, rfl⟩ (by decide) (by decide)).2]; omega) ?_
        refine q_al (pc := 62) (i := 0) (x := 183) rfl rfl ?_
        refine q_il (pc := 63) (i := 8) (x := k) rfl rfl ?_
        refine q_il (pc := 64) (i := 2) (x := h) rfl rfl ?_
        refine q_iv (pc := 65) (q := 2016972) rfl rfl rfl (ttKc hT (a := 183) (κ := 12) (len := 0) ⟨rfl, rfl⟩ (by decide) (by decide)).1 ?_
        refine lf_comesAt (by omega) hT k0.1 k0.2.1 k0.2.2 (fun yc => ?_) (fun yn => absurd i5 yn)
        obtain ⟨v, hv⟩ : ∃ v, v = yyA H.1 k h := ⟨_, rfl⟩
        have v0 : H.1 184 (20 + 8 * H.1 191 (k + 2)) ≤ v ∧ v ≤ H.1 184 7 := by
          have z2 := yc.2.2.2
          unfold yyA at hv
          omega
        have v1 := pl_ty hT yc.2.1.1 yc.2.1.2
        rw [← hv]
        refine q_il (pc := 66) (i := 3) (x := t) rfl rfl ?_
        refine q_al (pc := 67) (i := 0) (x := 183) rfl rfl ?_
        refine q_gf (pc := 68) (m := 12212) (t := 2) (c := 21) rfl (ttKc hT (a := 183) (κ := 12) (len := 0) ⟨rfl, rfl⟩ (by decide) (by decide)).1 rfl rfl ?_
        rw [show H.1 183 21 = 191 from ttFx hT (by decide) (by decide) rfl rfl rfl]
        refine q_il (pc := 69) (i := 8) (x := k) rfl rfl ?_
        refine q_ic (pc := 70) (v := 3) rfl ?_
        refine q_ia (pc := 71) rfl (by omega) (by omega) ?_
        refine q_ai (pc := 72) rfl (ttKc hT (a := 191) (κ := 20) (len := 4800) ⟨rfl, rfl⟩ (by decide) (by decide)).1 (by omega) (by rw [(ttKc hT (a := 191) (κ := 20) (len := 4800) ⟨rfl, rfl⟩ (by decide) (by decide)).2]; omega) ?_
        refine q_ia (pc := 73) rfl (by omega) (by omega) ?_
        refine q_il (pc := 74) (i := 5) (x := w) rfl rfl ?_
        refine q_il (pc := 75) (i := 6) (x := m) rfl rfl ?_
        refine q_iv (pc := 76) (q := 2328984) rfl rfl rfl (ttKc hT (a := 183) (κ := 12) (len := 0) ⟨rfl, rfl⟩ (by decide) (by decide)).1 ?_
        refine hw_endsBehind (ttXX_out yyStab (fun _ _ => trivial)) e (by show 5 ≤ e; omega) [(2, 183), (0, (H.1 191 (k + 2))), (0, v), (0, (t + (H.1 191 (k + 3)))), (0, w), (0, m)] H hT hX ⟨⟨rfl, ttPk_of rfl⟩, ⟨rfl, ttPi_of (by omega) (by omega)⟩, ⟨rfl, ttPi_of (by omega) (by omega)⟩, ⟨rfl, ttPi_of (by omega) (by omega)⟩, ⟨rfl, ttPi_of (by omega) (by omega)⟩, ⟨rfl, ttPi_of (by omega) (by omega)⟩, trivial⟩ (fun _ hq => absurd hq List.not_mem_nil) _ (fun ujr2 ujK2 ujzT2 ujzX2 ujzF2 ujzr2 _ => ?_)
        replace ujzr2 : -2147483648 ≤ ujr2 ∧ ujr2 ≤ 2147483647 := by obtain ⟨p, hp, hr⟩ := ujzr2; rw [List.mem_singleton.mp hp] at hr; exact ttPi hr
        replace ujzF2 := ttFr_tr (ttFr_rf (true, []) H) ujzF2 (fun _ => rfl) rfl
        refine q_ri (pc := 77) rfl ?_
        exact hQ _ ujK2 (by omega) ujzT2 ujzX2 ujzF2
      · replace h38 : d = 1 := h38
        refine q_al (pc := 39) (i := 0) (x := 183) rfl rfl ?_
        refine q_gf (pc := 40) (m := 12312) (t := 2) (c := 31) rfl (ttKc hT (a := 183) (κ := 12) (len := 0) ⟨rfl, rfl⟩ (by decide) (by decide)).1 rfl rfl ?_
        rw [show H.1 183 31 = 199 from ttFx hT (by decide) (by decide) rfl rfl rfl]
        refine q_il (pc := 41) (i := 1) (x := p) rfl rfl ?_
        refine q_il (pc := 42) (i := 2) (x := h) rfl rfl ?_
        refine q_il (pc := 43) (i := 3) (x := t) rfl rfl ?_
        refine q_il (pc := 44) (i := 4) (x := x) rfl rfl ?_
        refine q_ic (pc := 45) (v := 0) rfl ?_
        refine q_ij (pc := 46) (q := 2143940) rfl rfl rfl trivial ?_
        refine lf_state (by omega) (by omega) (by omega) (by omega) (by omega) (by omega) (by omega) (by omega) (by omega) (by omega) (by omega) ?_
        obtain ⟨ujb3, ujhb3⟩ : ∃ z, z = (yyX p h t x 0) := ⟨_, rfl⟩
        have ujhc3 : 0 ≤ ujb3 ∧ ujb3 ≤ 93695 := by rw [ujhb3]; unfold yyX; omega
        rw [← ujhb3]
        refine q_ai (pc := 47) rfl (ttKc hT (a := 199) (κ := 20) (len := 93696) ⟨rfl, rfl⟩ (by decide) (by decide)).1 (by omega) (by rw [(ttKc hT (a := 199) (κ := 20) (len := 93696) ⟨rfl, rfl⟩ (by decide) (by decide)).2]; omega) ?_
        refine q_ri (pc := 48) rfl ?_
        exact hQ _ H (ttRw hT (a := 199) (κ := 20) (len := 93696) (sz := 93696) (lo := -2147483648) (hi := 2147483647) (by decide) (by decide) rfl _ (by omega) (by omega)) hT hX (ttFr_rf _ H)
    · replace h19 : d = 0 := h19
      refine q_al (pc := 20) (i := 0) (x := 183) rfl rfl ?_
      refine q_gf (pc := 21) (m := 12312) (t := 2) (c := 31) rfl (ttKc hT (a := 183) (κ := 12) (len := 0) ⟨rfl, rfl⟩ (by decide) (by decide)).1 rfl rfl ?_
      rw [show H.1 183 31 = 199 from ttFx hT (by decide) (by decide) rfl rfl rfl]
      refine q_il (pc := 22) (i := 1) (x := p) rfl rfl ?_
      refine q_al (pc := 23) (i := 0) (x := 183) rfl rfl ?_
      refine q_il (pc := 24) (i := 1) (x := p) rfl rfl ?_
      refine q_il (pc := 25) (i := 2) (x := h) rfl rfl ?_
      refine q_il (pc := 26) (i := 5) (x := w) rfl rfl ?_
      have zt : t < H.1 184 8 := by
        rcases zl with z | z | z | ⟨i, i0, i1, i2, i3, -⟩
        · exact absurd z (by omega)
        · exact z.2
        · exact absurd z (by omega)
        · have := wy_ty hT (k := 300 * (2 * p + w) + 5 * i) (by omega) (by omega) (by omega)
          omega
      refine q_iv (pc := 27) (q := 2152976) rfl rfl rfl (ttKc hT (a := 183) (κ := 12) (len := 0) ⟨rfl, rfl⟩ (by decide) (by decide)).1 ?_
      refine lf_higher (by omega) hT p0 p1 h0 h1 (fun u ua ub => ?_)
      have uc := ub h3
      refine q_il (pc := 28) (i := 3) (x := t) rfl rfl ?_
      refine q_ic (pc := 29) (v := 1) rfl ?_
      refine q_ia (pc := 30) rfl (by omega) (by omega) ?_
      refine q_ic (pc := 31) (v := 1) rfl ?_
      refine q_il (pc := 32) (i := 5) (x := w) rfl rfl ?_
      refine q_ij (pc := 33) (q := 2143940) rfl rfl rfl trivial ?_
      refine lf_state (by omega) (by omega) (by omega) (by omega) (by omega) (by omega) (by omega) (by omega) (by omega) (by omega) (by omega) ?_
      obtain ⟨ujb4, ujhb4⟩ : ∃ z, z = (yyX p u (t + 1) 1 w) := ⟨_, rfl⟩
      have ujhc4 : 0 ≤ ujb4 ∧ ujb4 ≤ 93695 := by rw [ujhb4]; unfold yyX; omega
      rw [← ujhb4]
      refine q_ai (pc := 34) rfl (ttKc hT (a := 199) (κ := 20) (len := 93696) ⟨rfl, rfl⟩ (by decide) (by decide)).1 (by omega) (by rw [(ttKc hT (a := 199) (κ := 20) (len := 93696) ⟨rfl, rfl⟩ (by decide) (by decide)).2]; omega) ?_
      refine q_ri (pc := 35) rfl ?_
      exact hQ _ H (ttRw hT (a := 199) (κ := 20) (len := 93696) (sz := 93696) (lo := -2147483648) (hi := 2147483647) (by decide) (by decide) rfl _ (by omega) (by omega)) hT hX (ttFr_rf _ H)
  · replace h12 : d = (-1) := h12
    refine q_al (pc := 13) (i := 0) (x := 183) rfl rfl ?_
    refine q_il (pc := 14) (i := 1) (x := p) rfl rfl ?_
    refine q_il (pc := 15) (i := 3) (x := t) rfl rfl ?_
    refine q_iv (pc := 16) (q := 2144972) rfl rfl rfl (ttKc hT (a := 183) (κ := 12) (len := 0) ⟨rfl, rfl⟩ (by decide) (by decide)).1 ?_
    refine hw_landingOf (ttXX_out yyStab (fun _ _ => trivial)) e (by show 2 ≤ e; omega) [(2, 183), (0, p), (0, t)] H hT hX ⟨⟨rfl, ttPk_of rfl⟩, ⟨rfl, ttPi_of (by omega) (by omega)⟩, ⟨rfl, ttPi_of (by omega) (by omega)⟩, trivial⟩ (fun _ hq => absurd hq List.not_mem_nil) _ (fun ujr5 ujK5 ujzT5 ujzX5 ujzF5 ujzr5 _ => ?_)
    replace ujzr5 : -9999 ≤ ujr5 ∧ ujr5 ≤ 9999 := by obtain ⟨p, hp, hr⟩ := ujzr5; rw [List.mem_singleton.mp hp] at hr; exact ttPi hr
    replace ujzF5 := ttFr_tr (ttFr_rf (true, []) H) ujzF5 (fun _ => rfl) rfl
    refine q_ri (pc := 17) rfl ?_
    exact hQ _ ujK5 (by omega) ujzT5 ujzX5 ujzF5
def m_ends : ttCon := (294, 12, [(2, (0, 183, (9, 0, 0))), (0, (1, 0, (0, (-2147483648), 2147483647))), (0, (1, 0, (0, 0, 1)))], [], [(1, 0, (0, (-2147483648), 2147483647))], [], true, [(190, 0, 15), (191, 0, 4799), (192, 0, 7), (193, 0, 975), (195, 0, 93695), (196, 0, 93695), (197, 0, 93695), (198, 0, 7), (199, 0, 93695), (183, 22, 22), (183, 29, 29)])
theorem hm_ends : ttHas (ttXX YY) m_ends := by
  intro dd hdd vs H hT hX hargs hcells Q hQ
  obtain ⟨v0, vs, rfl, p0, hargs⟩ := ttV1 hargs
  obtain ⟨v1, vs, rfl, p1, hargs⟩ := ttV1 hargs
  obtain ⟨v2, vs, rfl, p2, hargs⟩ := ttV1 hargs
  cases ttV0 hargs
  cases ttPk p0
  have p1 := ttPi p1
  have p2 := ttPi p2
  obtain ⟨e, rfl, he⟩ := ttRun0 (n := 11) hdd
  have he : 11 ≤ e := he
  have hq : ∀ r K, (-2147483648 ≤ r ∧ r ≤ 2147483647) → ttTI K → ttXX YY K → ttFr (true, [(190, 0, 15), (191, 0, 4799), (192, 0, 7), (193, 0, 975), (195, 0, 93695), (196, 0, 93695), (197, 0, 93695), (198, 0, 7), (199, 0, 93695), (183, 22, 22), (183, 29, 29)]) H K → Q r K := fun r K hr a b c => hQ r K a b c ⟨_, List.mem_singleton.mpr rfl, ttPi_of hr.1 hr.2⟩ (fun q hq => absurd hq List.not_mem_nil)
  have hG : ∀ G : xH, 210 ≤ (G.2.2.2.1 : Int) → ttFr (true, [(190, 0, 15), (191, 0, 4799), (192, 0, 7), (193, 0, 975), (195, 0, 93695), (196, 0, 93695), (197, 0, 93695), (198, 0, 7), (199, 0, 93695), (183, 22, 22), (183, 29, 29)]) H G → G.1 183 29 ≠ -1 → G.1 184 12 ≠ -1 → ∀ (K : xH) (t : Int) (x4 x5 x6 x7 : xV), -1 ≤ t → t ≤ 47 → t ≤ K.1 184 8 → ttTI K → ttXX YY K → ttFr (true, [(199, 0, 93695)]) G K → xW e cd_294 Q (16, [(2, 183), (0, v1), (0, v2), (0, t), x4, x5, x6, x7], [], K) := by
    intro G gn gF gs g12
    have kk : ∀ K : xH, ttFr (true, [(199, 0, 93695)]) G K → ∀ j : Int, K.1 183 j = G.1 183 j := fun K kF j => fr_no kF 183 (by omega) rfl rfl
    have kw : ∀ K : xH, ttFr (true, [(199, 0, 93695)]) G K → ∀ j : Int, K.1 184 j = G.1 184 j := fun K kF j => fr_no kF 184 (by omega) rfl rfl
    have hH : ∀ t w p : Int, 0 ≤ t → t ≤ 47 → t ≤ G.1 184 8 → 0 ≤ w → w ≤ 1 → (w = 1 → 0 < G.1 184 6) → 0 ≤ p → p ≤ 7 → p < G.1 184 1 → (∀ (K : xH) (x6 x7 : xV), ttTI K → ttXX YY K → ttFr (true, [(199, 0, 93695)]) G K → xW e cd_294 Q (32, [(2, 183), (0, v1), (0, v2), (0, t), (0, w), (0, (p + 1)), x6, x7], [], K)) → ∀ n : Nat, ∀ (K : xH) (h : Int) (x7 : xV), 0 ≤ h → h ≤ 61 → G.1 184 (20 + 8 * p) ≤ h → 61 - h ≤ (n : Int) → ttTI K → ttXX YY K → ttFr (true, [(199, 0, 93695)]) G K → xW e cd_294 Q (43, [(2, 183), (0, v1), (0, v2), (0, t), (0, w), (0, p), (0, h), x7], [], K) := by
      intro t w p t0 t1 t2 w0 w1 w2 p0 p1 pn hk n
      induction n with
      | zero =>
        intro K h x7 h0 h1 hg hn2 kT kX kF
        have z7 : 0 ≤ K.1 184 7 ∧ K.1 184 7 ≤ 60 := ttMc kT (a := 184) (j := 7) (by decide) (by decide) (by decide) (by decide)
        refine q_il (pc := 43) (i := 6) (x := h) rfl rfl ?_
        refine q_al (pc := 44) (i := 0) (x := 183) rfl rfl ?_
        refine q_gf (pc := 45) (m := 12012) (t := 2) (c := 1) rfl (ttKc kT (a := 183) (κ := 12) (len := 0) ⟨rfl, rfl⟩ (by decide) (by decide)).1 rfl rfl ?_
        rw [show K.1 183 1 = 184 from ttFx kT (by decide) (by decide) rfl rfl rfl]
        refine q_ic (pc := 46) (v := 7) rfl ?_
        refine q_ai (pc := 47) rfl (ttKc kT (a := 184) (κ := 20) (len := 196) ⟨rfl, rfl⟩ (by decide) (by decide)).1 (by omega) (by rw [(ttKc kT (a := 184) (κ := 20) (len := 196) ⟨rfl, rfl⟩ (by decide) (by decide)).2]; omega) ?_
        refine q_i2 (pc := 48) rfl (fun h48 => ?_) (fun h48 => ?_)
        · replace h48 : (K.1 184 7) < h := h48
          refine q_ii (pc := 75) (i := 5) (c := 1) (x := p) (L' := [(2, 183), (0, v1), (0, v2), (0, t), (0, w), (0, (p + 1)), (0, h), x7]) rfl rfl rfl (by omega) (by omega) rfl ?_
          refine q_go (pc := 76) rfl ?_
          exact hk K _ _ kT kX kF
        · replace h48 : h ≤ (K.1 184 7) := h48
          omega
      | succ n ih =>
        intro K h x7 h0 h1 hg hn2 kT kX kF
        have z7 : 0 ≤ K.1 184 7 ∧ K.1 184 7 ≤ 60 := ttMc kT (a := 184) (j := 7) (by decide) (by decide) (by decide) (by decide)
        refine q_il (pc := 43) (i := 6) (x := h) rfl rfl ?_
        refine q_al (pc := 44) (i := 0) (x := 183) rfl rfl ?_
        refine q_gf (pc := 45) (m := 12012) (t := 2) (c := 1) rfl (ttKc kT (a := 183) (κ := 12) (len := 0) ⟨rfl, rfl⟩ (by decide) (by decide)).1 rfl rfl ?_
        rw [show K.1 183 1 = 184 from ttFx kT (by decide) (by decide) rfl rfl rfl]
        refine q_ic (pc := 46) (v := 7) rfl ?_
        refine q_ai (pc := 47) rfl (ttKc kT (a := 184) (κ := 20) (len := 196) ⟨rfl, rfl⟩ (by decide) (by decide)).1 (by omega) (by rw [(ttKc kT (a := 184) (κ := 20) (len := 196) ⟨rfl, rfl⟩ (by decide) (by decide)).2]; omega) ?_
        refine q_i2 (pc := 48) rfl (fun h48 => ?_) (fun h48 => ?_)
        · replace h48 : (K.1 184 7) < h := h48
          refine q_ii (pc := 75) (i := 5) (c := 1) (x := p) (L' := [(2, 183), (0, v1), (0, v2), (0, t), (0, w), (0, (p + 1)), (0, h), x7]) rfl rfl rfl (by omega) (by omega) rfl ?_
          refine q_go (pc := 76) rfl ?_
          exact hk K _ _ kT kX kF
        · replace h48 : h ≤ (K.1 184 7) := h48
          refine q_ic (pc := 49) (v := 0) rfl ?_
          refine q_is (pc := 50) (i := 7) (L' := [(2, 183), (0, v1), (0, v2), (0, t), (0, w), (0, p), (0, h), (0, 0)]) rfl rfl rfl ?_
          refine q_il (pc := 51) (i := 7) (x := 0) rfl rfl ?_
          refine q_ic (pc := 52) (v := 2) rfl ?_
          refine q_i2 (pc := 53) rfl (fun h53 => ?_) (fun h53 => ?_)
          · replace h53 : 2 ≤ (0 : Int) := h53
            omega
          · replace h53 : (0 : Int) < 2 := h53
            refine q_al (pc := 54) (i := 0) (x := 183) rfl rfl ?_
            refine q_gf (pc := 55) (m := 12312) (t := 2) (c := 31) rfl (ttKc kT (a := 183) (κ := 12) (len := 0) ⟨rfl, rfl⟩ (by decide) (by decide)).1 rfl rfl ?_
            rw [show K.1 183 31 = 199 from ttFx kT (by decide) (by decide) rfl rfl rfl]
            refine q_il (pc := 56) (i := 5) (x := p) rfl rfl ?_
            refine q_il (pc := 57) (i := 6) (x := h) rfl rfl ?_
            refine q_il (pc := 58) (i := 3) (x := t) rfl rfl ?_
            refine q_il (pc := 59) (i := 7) (x := 0) rfl rfl ?_
            refine q_il (pc := 60) (i := 4) (x := w) rfl rfl ?_
            refine q_ij (pc := 61) (q := 2143940) rfl rfl rfl trivial ?_
            refine lf_state (by omega) (by omega) (by omega) (by omega) (by omega) (by omega) (by omega) (by omega) (by omega) (by omega) (by omega) ?_
            obtain ⟨ujb6, ujhb6⟩ : ∃ z, z = (yyX p h t 0 w) := ⟨_, rfl⟩
            have ujhc6 : 0 ≤ ujb6 ∧ ujb6 ≤ 93695 := by rw [ujhb6]; unfold yyX; omega
            rw [← ujhb6]
            refine q_al (pc := 62) (i := 0) (x := 183) rfl rfl ?_
            refine q_il (pc := 63) (i := 5) (x := p) rfl rfl ?_
            refine q_il (pc := 64) (i := 6) (x := h) rfl rfl ?_
            refine q_il (pc := 65) (i := 3) (x := t) rfl rfl ?_
            refine q_il (pc := 66) (i := 7) (x := 0) rfl rfl ?_
            refine q_il (pc := 67) (i := 4) (x := w) rfl rfl ?_
            refine q_il (pc := 68) (i := 2) (x := v2) rfl rfl ?_
            refine q_iv (pc := 69) (q := 2336988) rfl rfl rfl (ttKc kT (a := 183) (κ := 12) (len := 0) ⟨rfl, rfl⟩ (by decide) (by decide)).1 ?_
            have kw7 := kw K kF
            refine lf_endOf (by omega) kT kX (by rw [kk K kF 29]; exact gs) p0 p1 (by rw [kw7 1]; exact pn) h0 (by omega) (by rw [kw7 (20 + 8 * p)]; exact hg) (by rw [kw7 7]; rw [kw K kF 7] at h48; exact h48) t0 t1 (by rw [kw7 8]; exact t2) (by decide) (by decide) w0 w1 (by rw [kw7 6]; exact w2) p2.1 p2.2 (fun ujr7 ujK7 ujzr7 ujzT7 ujzX7 ujzF7 => ?_)
            replace ujzF7 := ttFr_tr kF ujzF7 (fun _ => rfl) rfl
            refine q_si (pc := 70) rfl (by decide) (ttKc ujzT7 (a := 199) (κ := 20) (len := 93696) ⟨rfl, rfl⟩ (by decide) (by decide)).1 (by omega) (by rw [(ttKc ujzT7 (a := 199) (κ := 20) (len := 93696) ⟨rfl, rfl⟩ (by decide) (by decide)).2]; omega) ?_
            have ujzc8 := ttPut (ttXX_out yyStab (fun _ _ => trivial)) ujzT7 ujzX7 ujzF7 (a := 199) (j := ujb6) (x := ujr7) (by decide) (fun _ _ => ttTyr rfl (by omega) (by omega)) ⟨(199, 0, 93695), by simp, ⟨⟨by decide, rfl⟩, by show (0 : Int) ≤ ujb6; omega, by show ujb6 ≤ (93695 : Int); omega⟩⟩ (ttMay_no (r := 199) rfl (by decide))
            obtain ⟨ujZ8, ujzk8⟩ : ∃ X : xH, X = (xUp ujK7.1 199 ujb6 ujr7, ujK7.2) := ⟨_, rfl⟩
            rw [← ujzk8] at ujzc8 ⊢
            refine q_ii (pc := 71) (i := 7) (c := 1) (x := 0) (L' := [(2, 183), (0, v1), (0, v2), (0, t), (0, w), (0, p), (0, h), (0, (0 + 1))]) rfl rfl rfl (by omega) (by omega) rfl ?_
            refine q_go (pc := 72) rfl ?_
            show xW e cd_294 Q (51, [(2, 183), (0, v1), (0, v2), (0, t), (0, w), (0, p), (0, h), (0, 1)], [], ujZ8)
            refine q_il (pc := 51) (i := 7) (x := 1) rfl rfl ?_
            refine q_ic (pc := 52) (v := 2) rfl ?_
            refine q_i2 (pc := 53) rfl (fun h53 => ?_) (fun h53 => ?_)
            · replace h53 : 2 ≤ (1 : Int) := h53
              omega
            · replace h53 : (1 : Int) < 2 := h53
              refine q_al (pc := 54) (i := 0) (x := 183) rfl rfl ?_
              refine q_gf (pc := 55) (m := 12312) (t := 2) (c := 31) rfl (ttKc ujzc8.1 (a := 183) (κ := 12) (len := 0) ⟨rfl, rfl⟩ (by decide) (by decide)).1 rfl rfl ?_
              rw [show ujZ8.1 183 31 = 199 from ttFx ujzc8.1 (by decide) (by decide) rfl rfl rfl]
              refine q_il (pc := 56) (i := 5) (x := p) rfl rfl ?_
              refine q_il (pc := 57) (i := 6) (x := h) rfl rfl ?_
              refine q_il (pc := 58) (i := 3) (x := t) rfl rfl ?_
              refine q_il (pc := 59) (i := 7) (x := 1) rfl rfl ?_
              refine q_il (pc := 60) (i := 4) (x := w) rfl rfl ?_
              refine q_ij (pc := 61) (q := 2143940) rfl rfl rfl trivial ?_
              refine lf_state (by omega) (by omega) (by omega) (by omega) (by omega) (by omega) (by omega) (by omega) (by omega) (by omega) (by omega) ?_
              obtain ⟨ujb9, ujhb9⟩ : ∃ z, z = (yyX p h t 1 w) := ⟨_, rfl⟩
              have ujhc9 : 0 ≤ ujb9 ∧ ujb9 ≤ 93695 := by rw [ujhb9]; unfold yyX; omega
              rw [← ujhb9]
              refine q_al (pc := 62) (i := 0) (x := 183) rfl rfl ?_
              refine q_il (pc := 63) (i := 5) (x := p) rfl rfl ?_
              refine q_il (pc := 64) (i := 6) (x := h) rfl rfl ?_
              refine q_il (pc := 65) (i := 3) (x := t) rfl rfl ?_
              refine q_il (pc := 66) (i := 7) (x := 1) rfl rfl ?_
              refine q_il (pc := 67) (i := 4) (x := w) rfl rfl ?_
              refine q_il (pc := 68) (i := 2) (x := v2) rfl rfl ?_
              refine q_iv (pc := 69) (q := 2336988) rfl rfl rfl (ttKc ujzc8.1 (a := 183) (κ := 12) (len := 0) ⟨rfl, rfl⟩ (by decide) (by decide)).1 ?_
              have kw10 := kw ujZ8 ujzc8.2.2
              refine lf_endOf (by omega) ujzc8.1 ujzc8.2.1 (by rw [kk ujZ8 ujzc8.2.2 29]; exact gs) p0 p1 (by rw [kw10 1]; exact pn) h0 (by omega) (by rw [kw10 (20 + 8 * p)]; exact hg) (by rw [kw10 7]; rw [kw K kF 7] at h48; exact h48) t0 t1 (by rw [kw10 8]; exact t2) (by decide) (by decide) w0 w1 (by rw [kw10 6]; exact w2) p2.1 p2.2 (fun ujr10 ujK10 ujzr10 ujzT10 ujzX10 ujzF10 => ?_)
              replace ujzF10 := ttFr_tr ujzc8.2.2 ujzF10 (fun _ => rfl) rfl
              refine q_si (pc := 70) rfl (by decide) (ttKc ujzT10 (a := 199) (κ := 20) (len := 93696) ⟨rfl, rfl⟩ (by decide) (by decide)).1 (by omega) (by rw [(ttKc ujzT10 (a := 199) (κ := 20) (len := 93696) ⟨rfl, rfl⟩ (by decide) (by decide)).2]; omega) ?_
              have ujzc11 := ttPut (ttXX_out yyStab (fun _ _ => trivial)) ujzT10 ujzX10 ujzF10 (a := 199) (j := ujb9) (x := ujr10) (by decide) (fun _ _ => ttTyr rfl (by omega) (by omega)) ⟨(199, 0, 93695), by simp, ⟨⟨by decide, rfl⟩, by show (0 : Int) ≤ ujb9; omega, by show ujb9 ≤ (93695 : Int); omega⟩⟩ (ttMay_no (r := 199) rfl (by decide))
              obtain ⟨ujZ11, ujzk11⟩ : ∃ X : xH, X = (xUp ujK10.1 199 ujb9 ujr10, ujK10.2) := ⟨_, rfl⟩
              rw [← ujzk11] at ujzc11 ⊢
              refine q_ii (pc := 71) (i := 7) (c := 1) (x := 1) (L' := [(2, 183), (0, v1), (0, v2), (0, t), (0, w), (0, p), (0, h), (0, (1 + 1))]) rfl rfl rfl (by omega) (by omega) rfl ?_
              refine q_go (pc := 72) rfl ?_
              show xW e cd_294 Q (51, [(2, 183), (0, v1), (0, v2), (0, t), (0, w), (0, p), (0, h), (0, 2)], [], ujZ11)
              refine q_il (pc := 51) (i := 7) (x := 2) rfl rfl ?_
              refine q_ic (pc := 52) (v := 2) rfl ?_
              refine q_i2 (pc := 53) rfl (fun h53 => ?_) (fun h53 => ?_)
              · replace h53 : 2 ≤ (2 : Int) := h53
                refine q_ii (pc := 73) (i := 6) (c := 1) (x := h) (L' := [(2, 183), (0, v1), (0, v2), (0, t), (0, w), (0, p), (0, (h + 1)), (0, 2)]) rfl rfl rfl (by omega) (by omega) rfl ?_
                refine q_go (pc := 74) rfl ?_
                exact ih ujZ11 (h + 1) _ (by omega) (by omega) (by omega) (by omega) ujzc11.1 ujzc11.2.1 ujzc11.2.2
              · replace h53 : (2 : Int) < 2 := h53
                omega
    have hP : ∀ t w : Int, 0 ≤ t → t ≤ 47 → t ≤ G.1 184 8 → 0 ≤ w → w ≤ 1 → (w = 1 → 0 < G.1 184 6) → (∀ (K : xH) (x5 x6 x7 : xV), ttTI K → ttXX YY K → ttFr (true, [(199, 0, 93695)]) G K → xW e cd_294 Q (20, [(2, 183), (0, v1), (0, v2), (0, t), (0, (w + 1)), x5, x6, x7], [], K)) → ∀ n : Nat, ∀ (K : xH) (p : Int) (x6 x7 : xV), 0 ≤ p → p ≤ 8 → 8 - p ≤ (n : Int) → ttTI K → ttXX YY K → ttFr (true, [(199, 0, 93695)]) G K → xW e cd_294 Q (32, [(2, 183), (0, v1), (0, v2), (0, t), (0, w), (0, p), x6, x7], [], K) := by
      intro t w t0 t1 t2 w0 w1 w2 hk n
      induction n with
      | zero =>
        intro K p x6 x7 p0 p1 hn2 kT kX kF
        have z1 : 0 ≤ K.1 184 1 ∧ K.1 184 1 ≤ 8 := ttMc kT (a := 184) (j := 1) (by decide) (by decide) (by decide) (by decide)
        refine q_il (pc := 32) (i := 5) (x := p) rfl rfl ?_
        refine q_al (pc := 33) (i := 0) (x := 183) rfl rfl ?_
        refine q_gf (pc := 34) (m := 12012) (t := 2) (c := 1) rfl (ttKc kT (a := 183) (κ := 12) (len := 0) ⟨rfl, rfl⟩ (by decide) (by decide)).1 rfl rfl ?_
        rw [show K.1 183 1 = 184 from ttFx kT (by decide) (by decide) rfl rfl rfl]
        refine q_ic (pc := 35) (v := 1) rfl ?_
        refine q_ai (pc := 36) rfl (ttKc kT (a := 184) (κ := 20) (len := 196) ⟨rfl, rfl⟩ (by decide) (by decide)).1 (by omega) (by rw [(ttKc kT (a := 184) (κ := 20) (len := 196) ⟨rfl, rfl⟩ (by decide) (by decide)).2]; omega) ?_
        refine q_i2 (pc := 37) rfl (fun h37 => ?_) (fun h37 => ?_)
        · replace h37 : (K.1 184 1) ≤ p := h37
          refine q_ii (pc := 77) (i := 4) (c := 1) (x := w) (L' := [(2, 183), (0, v1), (0, v2), (0, t), (0, (w + 1)), (0, p), x6, x7]) rfl rfl rfl (by omega) (by omega) rfl ?_
          refine q_go (pc := 78) rfl ?_
          exact hk K _ _ _ kT kX kF
        · replace h37 : p < (K.1 184 1) := h37
          omega
      | succ n ih =>
        intro K p x6 x7 p0 p1 hn2 kT kX kF
        have z1 : 0 ≤ K.1 184 1 ∧ K.1 184 1 ≤ 8 := ttMc kT (a := 184) (j := 1) (by decide) (by decide) (by decide) (by decide)
        refine q_il (pc := 32) (i := 5) (x := p) rfl rfl ?_
        refine q_al (pc := 33) (i := 0) (x := 183) rfl rfl ?_
        refine q_gf (pc := 34) (m := 12012) (t := 2) (c := 1) rfl (ttKc kT (a := 183) (κ := 12) (len := 0) ⟨rfl, rfl⟩ (by decide) (by decide)).1 rfl rfl ?_
        rw [show K.1 183 1 = 184 from ttFx kT (by decide) (by decide) rfl rfl rfl]
        refine q_ic (pc := 35) (v := 1) rfl ?_
        refine q_ai (pc := 36) rfl (ttKc kT (a := 184) (κ := 20) (len := 196) ⟨rfl, rfl⟩ (by decide) (by decide)).1 (by omega) (by rw [(ttKc kT (a := 184) (κ := 20) (len := 196) ⟨rfl, rfl⟩ (by decide) (by decide)).2]; omega) ?_
        refine q_i2 (pc := 37) rfl (fun h37 => ?_) (fun h37 => ?_)
        · replace h37 : (K.1 184 1) ≤ p := h37
          refine q_ii (pc := 77) (i := 4) (c := 1) (x := w) (L' := [(2, 183), (0, v1), (0, v2), (0, t), (0, (w + 1)), (0, p), x6, x7]) rfl rfl rfl (by omega) (by omega) rfl ?_
          refine q_go (pc := 78) rfl ?_
          exact hk K _ _ _ kT kX kF
        · replace h37 : p < (K.1 184 1) := h37
          refine q_al (pc := 38) (i := 0) (x := 183) rfl rfl ?_
          refine q_il (pc := 39) (i := 5) (x := p) rfl rfl ?_
          refine q_ic (pc := 40) (v := 0) rfl ?_
          refine q_iv (pc := 41) (q := 1664972) rfl rfl rfl (ttKc kT (a := 183) (κ := 12) (len := 0) ⟨rfl, rfl⟩ (by decide) (by decide)).1 ?_
          refine lf_ofPlace (j := (20 + 8 * p)) (by omega) (by omega) kT (by omega) (by omega) (by omega) (by omega) ?_
          refine q_is (pc := 42) (i := 6) (L' := [(2, 183), (0, v1), (0, v2), (0, t), (0, w), (0, p), (0, (K.1 184 (20 + 8 * p))), x7]) rfl rfl rfl ?_
          have zg := pl_ty kT p0 (by omega : p ≤ 7)
          exact hH t w p t0 t1 t2 w0 w1 w2 p0 (by omega) (by rw [← kw K kF 1]; exact h37) (fun K x6 x7 a b c => ih K (p + 1) x6 x7 (by omega) (by omega) (by omega) a b c) 61 K _ _ (by omega) (by omega) (by rw [← kw K kF (20 + 8 * p)]; exact Int.le_refl _) (by omega) kT kX kF
    have hW : ∀ t : Int, 0 ≤ t → t ≤ 47 → t ≤ G.1 184 8 → (∀ (K : xH) (x4 x5 x6 x7 : xV), ttTI K → ttXX YY K → ttFr (true, [(199, 0, 93695)]) G K → xW e cd_294 Q (16, [(2, 183), (0, v1), (0, v2), (0, (t - 1)), x4, x5, x6, x7], [], K)) → ∀ n : Nat, ∀ (K : xH) (w : Int) (x5 x6 x7 : xV), 0 ≤ w → w ≤ 2 → 2 - w ≤ (n : Int) → ttTI K → ttXX YY K → ttFr (true, [(199, 0, 93695)]) G K → xW e cd_294 Q (20, [(2, 183), (0, v1), (0, v2), (0, t), (0, w), x5, x6, x7], [], K) := by
      intro t t0 t1 t2 hk n
      induction n with
      | zero =>
        intro K w x5 x6 x7 w0 w1 hn2 kT kX kF
        have z6 : 0 ≤ K.1 184 6 ∧ K.1 184 6 ≤ 50 := ttMc kT (a := 184) (j := 6) (by decide) (by decide) (by decide) (by decide)
        refine q_il (pc := 20) (i := 4) (x := w) rfl rfl ?_
        refine q_al (pc := 21) (i := 0) (x := 183) rfl rfl ?_
        refine q_gf (pc := 22) (m := 12012) (t := 2) (c := 1) rfl (ttKc kT (a := 183) (κ := 12) (len := 0) ⟨rfl, rfl⟩ (by decide) (by decide)).1 rfl rfl ?_
        rw [show K.1 183 1 = 184 from ttFx kT (by decide) (by decide) rfl rfl rfl]
        refine q_ic (pc := 23) (v := 6) rfl ?_
        refine q_ai (pc := 24) rfl (ttKc kT (a := 184) (κ := 20) (len := 196) ⟨rfl, rfl⟩ (by decide) (by decide)).1 (by omega) (by rw [(ttKc kT (a := 184) (κ := 20) (len := 196) ⟨rfl, rfl⟩ (by decide) (by decide)).2]; omega) ?_
        refine q_if (pc := 25) rfl (fun h25 => ?_) (fun h25 => ?_)
        · replace h25 : (K.1 184 6) ≤ 0 := h25
          refine q_ic (pc := 28) (v := 0) rfl ?_
          refine q_i2 (pc := 29) rfl (fun h29 => ?_) (fun h29 => ?_)
          · replace h29 : 0 < w := h29
            refine q_ii (pc := 79) (i := 3) (c := (-1)) (x := t) (L' := [(2, 183), (0, v1), (0, v2), (0, (t + (-1))), (0, w), x5, x6, x7]) rfl rfl rfl (by omega) (by omega) rfl ?_
            refine q_go (pc := 80) rfl ?_
            exact hk K _ _ _ _ kT kX kF
          · replace h29 : w ≤ 0 := h29
            omega
        · replace h25 : 0 < (K.1 184 6) := h25
          refine q_ic (pc := 26) (v := 1) rfl ?_
          refine q_go (pc := 27) rfl ?_
          refine q_i2 (pc := 29) rfl (fun h29 => ?_) (fun h29 => ?_)
          · replace h29 : 1 < w := h29
            refine q_ii (pc := 79) (i := 3) (c := (-1)) (x := t) (L' := [(2, 183), (0, v1), (0, v2), (0, (t + (-1))), (0, w), x5, x6, x7]) rfl rfl rfl (by omega) (by omega) rfl ?_
            refine q_go (pc := 80) rfl ?_
            exact hk K _ _ _ _ kT kX kF
          · replace h29 : w ≤ 1 := h29
            omega
      | succ n ih =>
        intro K w x5 x6 x7 w0 w1 hn2 kT kX kF
        have z6 : 0 ≤ K.1 184 6 ∧ K.1 184 6 ≤ 50 := ttMc kT (a := 184) (j := 6) (by decide) (by decide) (by decide) (by decide)
        refine q_il (pc := 20) (i := 4) (x := w) rfl rfl ?_
        refine q_al (pc := 21) (i := 0) (x := 183) rfl rfl ?_
        refine q_gf (pc := 22) (m := 12012) (t := 2) (c := 1) rfl (ttKc kT (a := 183) (κ := 12) (len := 0) ⟨rfl, rfl⟩ (by decide) (by decide)).1 rfl rfl ?_
        rw [show K.1 183 1 = 184 from ttFx kT (by decide) (by decide) rfl rfl rfl]
        refine q_ic (pc := 23) (v := 6) rfl ?_
        refine q_ai (pc := 24) rfl (ttKc kT (a := 184) (κ := 20) (len := 196) ⟨rfl, rfl⟩ (by decide) (by decide)).1 (by omega) (by rw [(ttKc kT (a := 184) (κ := 20) (len := 196) ⟨rfl, rfl⟩ (by decide) (by decide)).2]; omega) ?_
        refine q_if (pc := 25) rfl (fun h25 => ?_) (fun h25 => ?_)
        · replace h25 : (K.1 184 6) ≤ 0 := h25
          refine q_ic (pc := 28) (v := 0) rfl ?_
          refine q_i2 (pc := 29) rfl (fun h29 => ?_) (fun h29 => ?_)
          · replace h29 : 0 < w := h29
            refine q_ii (pc := 79) (i := 3) (c := (-1)) (x := t) (L' := [(2, 183), (0, v1), (0, v2), (0, (t + (-1))), (0, w), x5, x6, x7]) rfl rfl rfl (by omega) (by omega) rfl ?_
            refine q_go (pc := 80) rfl ?_
            exact hk K _ _ _ _ kT kX kF
          · replace h29 : w ≤ 0 := h29
            refine q_ic (pc := 30) (v := 0) rfl ?_
            refine q_is (pc := 31) (i := 5) (L' := [(2, 183), (0, v1), (0, v2), (0, t), (0, w), (0, 0), x6, x7]) rfl rfl rfl ?_
            exact hP t w t0 t1 t2 w0 (by omega) (by rw [← kw K kF 6]; omega) (fun K x5 x6 x7 a b c => ih K (w + 1) x5 x6 x7 (by omega) (by omega) (by omega) a b c) 8 K 0 _ _ (by decide) (by decide) (by decide) kT kX kF
        · replace h25 : 0 < (K.1 184 6) := h25
          refine q_ic (pc := 26) (v := 1) rfl ?_
          refine q_go (pc := 27) rfl ?_
          refine q_i2 (pc := 29) rfl (fun h29 => ?_) (fun h29 => ?_)
          · replace h29 : 1 < w := h29
            refine q_ii (pc := 79) (i := 3) (c := (-1)) (x := t) (L' := [(2, 183), (0, v1), (0, v2), (0, (t + (-1))), (0, w), x5, x6, x7]) rfl rfl rfl (by omega) (by omega) rfl ?_
            refine q_go (pc := 80) rfl ?_
            exact hk K _ _ _ _ kT kX kF
          · replace h29 : w ≤ 1 := h29
            refine q_ic (pc := 30) (v := 0) rfl ?_
            refine q_is (pc := 31) (i := 5) (L' := [(2, 183), (0, v1), (0, v2), (0, t), (0, w), (0, 0), x6, x7]) rfl rfl rfl ?_
            exact hP t w t0 t1 t2 w0 (by omega) (by rw [← kw K kF 6]; omega) (fun K x5 x6 x7 a b c => ih K (w + 1) x5 x6 x7 (by omega) (by omega) (by omega) a b c) 8 K 0 _ _ (by decide) (by decide) (by decide) kT kX kF
    have hU : ∀ n : Nat, ∀ (K : xH) (t : Int) (x4 x5 x6 x7 : xV), -1 ≤ t → t ≤ 47 → t ≤ G.1 184 8 → t + 1 ≤ (n : Int) → ttTI K → ttXX YY K → ttFr (true, [(199, 0, 93695)]) G K → xW e cd_294 Q (16, [(2, 183), (0, v1), (0, v2), (0, t), x4, x5, x6, x7], [], K) := by
      intro n
      induction n with
      | zero =>
        intro K t x4 x5 x6 x7 t0 t1 t2 hn2 kT kX kF
        have ksx : K.1 184 12 ≠ -1 := by rw [kw K kF 12]; exact g12
        have z12 : -1 ≤ K.1 184 12 ∧ K.1 184 12 ≤ 7 := ttMc kT (a := 184) (j := 12) (by decide) (by decide) (by decide) (by decide)
        have z13 : 0 ≤ K.1 184 13 ∧ K.1 184 13 ≤ 60 := ttMc kT (a := 184) (j := 13) (by decide) (by decide) (by decide) (by decide)
        refine q_il (pc := 16) (i := 3) (x := t) rfl rfl ?_
        refine q_if (pc := 17) rfl (fun h17 => ?_) (fun h17 => ?_)
        · replace h17 : t < 0 := h17
          refine q_al (pc := 81) (i := 0) (x := 183) rfl rfl ?_
          refine q_al (pc := 82) (i := 0) (x := 183) rfl rfl ?_
          refine q_gf (pc := 83) (m := 12012) (t := 2) (c := 1) rfl (ttKc kT (a := 183) (κ := 12) (len := 0) ⟨rfl, rfl⟩ (by decide) (by decide)).1 rfl rfl ?_
          rw [show K.1 183 1 = 184 from ttFx kT (by decide) (by decide) rfl rfl rfl]
          refine q_ic (pc := 84) (v := 12) rfl ?_
          refine q_ai (pc := 85) rfl (ttKc kT (a := 184) (κ := 20) (len := 196) ⟨rfl, rfl⟩ (by decide) (by decide)).1 (by omega) (by rw [(ttKc kT (a := 184) (κ := 20) (len := 196) ⟨rfl, rfl⟩ (by decide) (by decide)).2]; omega) ?_
          refine q_al (pc := 86) (i := 0) (x := 183) rfl rfl ?_
          refine q_gf (pc := 87) (m := 12012) (t := 2) (c := 1) rfl (ttKc kT (a := 183) (κ := 12) (len := 0) ⟨rfl, rfl⟩ (by decide) (by decide)).1 rfl rfl ?_
          rw [show K.1 183 1 = 184 from ttFx kT (by decide) (by decide) rfl rfl rfl]
          refine q_ic (pc := 88) (v := 13) rfl ?_
          refine q_ai (pc := 89) rfl (ttKc kT (a := 184) (κ := 20) (len := 196) ⟨rfl, rfl⟩ (by decide) (by decide)).1 (by omega) (by rw [(ttKc kT (a := 184) (κ := 20) (len := 196) ⟨rfl, rfl⟩ (by decide) (by decide)).2]; omega) ?_
          refine q_ic (pc := 90) (v := 0) rfl ?_
          refine q_al (pc := 91) (i := 0) (x := 183) rfl rfl ?_
          refine q_iv (pc := 92) (q := 2256964) rfl rfl rfl (ttKc kT (a := 183) (κ := 12) (len := 0) ⟨rfl, rfl⟩ (by decide) (by decide)).1 ?_
          refine lf_startWet (by omega) kT (fun _ => ?_) ?_
          · skip
            refine q_il (pc := 93) (i := 2) (x := v2) rfl rfl ?_
            refine q_iv (pc := 94) (q := 2328984) rfl rfl rfl (ttKc kT (a := 183) (κ := 12) (len := 0) ⟨rfl, rfl⟩ (by decide) (by decide)).1 ?_
            refine hw_endsBehind (ttXX_out yyStab (fun _ _ => trivial)) e (by show 5 ≤ e; omega) [(2, 183), (0, (K.1 184 12)), (0, (K.1 184 13)), (0, 0), (0, 1), (0, v2)] K kT kX ⟨⟨rfl, ttPk_of rfl⟩, ⟨rfl, ttPi_of (by omega) (by omega)⟩, ⟨rfl, ttPi_of (by omega) (by omega)⟩, ⟨rfl, ttPi_of (by decide) (by decide)⟩, ⟨rfl, ttPi_of (by decide) (by decide)⟩, ⟨rfl, ttPi_of p2.1 p2.2⟩, trivial⟩ (fun _ hq => absurd hq List.not_mem_nil) _ (fun ujr12 ujK12 ujzT12 ujzX12 ujzF12 ujzr12 _ => ?_)
            replace ujzr12 : -2147483648 ≤ ujr12 ∧ ujr12 ≤ 2147483647 := by obtain ⟨p, hp, hr⟩ := ujzr12; rw [List.mem_singleton.mp hp] at hr; exact ttPi hr
            replace ujzF12 := ttFr_tr kF ujzF12 (fun _ => rfl) rfl
            refine q_ri (pc := 95) rfl ?_
            exact hq _ ujK12 (by omega) ujzT12 ujzX12 (ttFr_tr gF ujzF12 (fun _ => rfl) (by decide))
          · skip
            refine q_il (pc := 93) (i := 2) (x := v2) rfl rfl ?_
            refine q_iv (pc := 94) (q := 2328984) rfl rfl rfl (ttKc kT (a := 183) (κ := 12) (len := 0) ⟨rfl, rfl⟩ (by decide) (by decide)).1 ?_
            refine hw_endsBehind (ttXX_out yyStab (fun _ _ => trivial)) e (by show 5 ≤ e; omega) [(2, 183), (0, (K.1 184 12)), (0, (K.1 184 13)), (0, 0), (0, 0), (0, v2)] K kT kX ⟨⟨rfl, ttPk_of rfl⟩, ⟨rfl, ttPi_of (by omega) (by omega)⟩, ⟨rfl, ttPi_of (by omega) (by omega)⟩, ⟨rfl, ttPi_of (by decide) (by decide)⟩, ⟨rfl, ttPi_of (by decide) (by decide)⟩, ⟨rfl, ttPi_of p2.1 p2.2⟩, trivial⟩ (fun _ hq => absurd hq List.not_mem_nil) _ (fun ujr13 ujK13 ujzT13 ujzX13 ujzF13 ujzr13 _ => ?_)
            replace ujzr13 : -2147483648 ≤ ujr13 ∧ ujr13 ≤ 2147483647 := by obtain ⟨p, hp, hr⟩ := ujzr13; rw [List.mem_singleton.mp hp] at hr; exact ttPi hr
            replace ujzF13 := ttFr_tr kF ujzF13 (fun _ => rfl) rfl
            refine q_ri (pc := 95) rfl ?_
            exact hq _ ujK13 (by omega) ujzT13 ujzX13 (ttFr_tr gF ujzF13 (fun _ => rfl) (by decide))
        · replace h17 : 0 ≤ t := h17
          omega
      | succ n ih =>
        intro K t x4 x5 x6 x7 t0 t1 t2 hn2 kT kX kF
        have ksx : K.1 184 12 ≠ -1 := by rw [kw K kF 12]; exact g12
        have z12 : -1 ≤ K.1 184 12 ∧ K.1 184 12 ≤ 7 := ttMc kT (a := 184) (j := 12) (by decide) (by decide) (by decide) (by decide)
        have z13 : 0 ≤ K.1 184 13 ∧ K.1 184 13 ≤ 60 := ttMc kT (a := 184) (j := 13) (by decide) (by decide) (by decide) (by decide)
        refine q_il (pc := 16) (i := 3) (x := t) rfl rfl ?_
        refine q_if (pc := 17) rfl (fun h17 => ?_) (fun h17 => ?_)
        · replace h17 : t < 0 := h17
          refine q_al (pc := 81) (i := 0) (x := 183) rfl rfl ?_
          refine q_al (pc := 82) (i := 0) (x := 183) rfl rfl ?_
          refine q_gf (pc := 83) (m := 12012) (t := 2) (c := 1) rfl (ttKc kT (a := 183) (κ := 12) (len := 0) ⟨rfl, rfl⟩ (by decide) (by decide)).1 rfl rfl ?_
          rw [show K.1 183 1 = 184 from ttFx kT (by decide) (by decide) rfl rfl rfl]
          refine q_ic (pc := 84) (v := 12) rfl ?_
          refine q_ai (pc := 85) rfl (ttKc kT (a := 184) (κ := 20) (len := 196) ⟨rfl, rfl⟩ (by decide) (by decide)).1 (by omega) (by rw [(ttKc kT (a := 184) (κ := 20) (len := 196) ⟨rfl, rfl⟩ (by decide) (by decide)).2]; omega) ?_
          refine q_al (pc := 86) (i := 0) (x := 183) rfl rfl ?_
          refine q_gf (pc := 87) (m := 12012) (t := 2) (c := 1) rfl (ttKc kT (a := 183) (κ := 12) (len := 0) ⟨rfl, rfl⟩ (by decide) (by decide)).1 rfl rfl ?_
          rw [show K.1 183 1 = 184 from ttFx kT (by decide) (by decide) rfl rfl rfl]
          refine q_ic (pc := 88) (v := 13) rfl ?_
          refine q_ai (pc := 89) rfl (ttKc kT (a := 184) (κ := 20) (len := 196) ⟨rfl, rfl⟩ (by decide) (by decide)).1 (by omega) (by rw [(ttKc kT (a := 184) (κ := 20) (len := 196) ⟨rfl, rfl⟩ (by decide) (by decide)).2]; omega) ?_
          refine q_ic (pc := 90) (v := 0) rfl ?_
          refine q_al (pc := 91) (i := 0) (x := 183) rfl rfl ?_
          refine q_iv (pc := 92) (q := 2256964) rfl rfl rfl (ttKc kT (a := 183) (κ := 12) (len := 0) ⟨rfl, rfl⟩ (by decide) (by decide)).1 ?_
          refine lf_startWet (by omega) kT (fun _ => ?_) ?_
          · skip
            refine q_il (pc := 93) (i := 2) (x := v2) rfl rfl ?_
            refine q_iv (pc := 94) (q := 2328984) rfl rfl rfl (ttKc kT (a := 183) (κ := 12) (len := 0) ⟨rfl, rfl⟩ (by decide) (by decide)).1 ?_
            refine hw_endsBehind (ttXX_out yyStab (fun _ _ => trivial)) e (by show 5 ≤ e; omega) [(2, 183), (0, (K.1 184 12)), (0, (K.1 184 13)), (0, 0), (0, 1), (0, v2)] K kT kX ⟨⟨rfl, ttPk_of rfl⟩, ⟨rfl, ttPi_of (by omega) (by omega)⟩, ⟨rfl, ttPi_of (by omega) (by omega)⟩, ⟨rfl, ttPi_of (by decide) (by decide)⟩, ⟨rfl, ttPi_of (by decide) (by decide)⟩, ⟨rfl, ttPi_of p2.1 p2.2⟩, trivial⟩ (fun _ hq => absurd hq List.not_mem_nil) _ (fun ujr14 ujK14 ujzT14 ujzX14 ujzF14 ujzr14 _ => ?_)
            replace ujzr14 : -2147483648 ≤ ujr14 ∧ ujr14 ≤ 2147483647 := by obtain ⟨p, hp, hr⟩ := ujzr14; rw [List.mem_singleton.mp hp] at hr; exact ttPi hr
            replace ujzF14 := ttFr_tr kF ujzF14 (fun _ => rfl) rfl
            refine q_ri (pc := 95) rfl ?_
            exact hq _ ujK14 (by omega) ujzT14 ujzX14 (ttFr_tr gF ujzF14 (fun _ => rfl) (by decide))
          · skip
            refine q_il (pc := 93) (i := 2) (x := v2) rfl rfl ?_
            refine q_iv (pc := 94) (q := 2328984) rfl rfl rfl (ttKc kT (a := 183) (κ := 12) (len := 0) ⟨rfl, rfl⟩ (by decide) (by decide)).1 ?_
            refine hw_endsBehind (ttXX_out yyStab (fun _ _ => trivial)) e (by show 5 ≤ e; omega) [(2, 183), (0, (K.1 184 12)), (0, (K.1 184 13)), (0, 0), (0, 0), (0, v2)] K kT kX ⟨⟨rfl, ttPk_of rfl⟩, ⟨rfl, ttPi_of (by omega) (by omega)⟩, ⟨rfl, ttPi_of (by omega) (by omega)⟩, ⟨rfl, ttPi_of (by decide) (by decide)⟩, ⟨rfl, ttPi_of (by decide) (by decide)⟩, ⟨rfl, ttPi_of p2.1 p2.2⟩, trivial⟩ (fun _ hq => absurd hq List.not_mem_nil) _ (fun ujr15 ujK15 ujzT15 ujzX15 ujzF15 ujzr15 _ => ?_)
            replace ujzr15 : -2147483648 ≤ ujr15 ∧ ujr15 ≤ 2147483647 := by obtain ⟨p, hp, hr⟩ := ujzr15; rw [List.mem_singleton.mp hp] at hr; exact ttPi hr
            replace ujzF15 := ttFr_tr kF ujzF15 (fun _ => rfl) rfl
            refine q_ri (pc := 95) rfl ?_
            exact hq _ ujK15 (by omega) ujzT15 ujzX15 (ttFr_tr gF ujzF15 (fun _ => rfl) (by decide))
        · replace h17 : 0 ≤ t := h17
          refine q_ic (pc := 18) (v := 0) rfl ?_
          refine q_is (pc := 19) (i := 4) (L' := [(2, 183), (0, v1), (0, v2), (0, t), (0, 0), x5, x6, x7]) rfl rfl rfl ?_
          exact hW t (by omega) (by omega) (by omega) (fun K x4 x5 x6 x7 a b c => ih K (t - 1) x4 x5 x6 x7 (by omega) (by omega) (by omega) (by omega) a b c) 2 K 0 _ _ _ (by decide) (by decide) (by decide) kT kX kF
    intro K t x4 x5 x6 x7 t0 t1 t2 kT kX kF
    exact hU 48 K t _ _ _ _ t0 t1 (by rw [← kw K kF 8]; exact t2) (by omega) kT kX kF
  refine xC_of (L := [(2, 183), (0, v1), (0, v2), (9, 0), (9, 0), (9, 0), (9, 0), (9, 0)]) (cd := cd_294) rfl rfl rfl ?_
  refine q_il (pc := 0) (i := 1) (x := v1) rfl rfl ?_
  refine q_ij (pc := 1) (q := 2207924) rfl rfl rfl trivial ?_
  refine lf_isRule (by omega) (fun h1 => ?_) (fun h1 => ?_)
  · replace h1 : 0 ≤ v1 ∧ v1 ≤ 3 := h1
    refine q_if (pc := 2) rfl (fun h2 => ?_) (fun h2 => ?_)
    · replace h2 : (1 : Int) = 0 := h2
      omega
    · replace h2 : (1 : Int) ≠ 0 := h2
      refine q_al (pc := 3) (i := 0) (x := 183) rfl rfl ?_
      refine q_iv (pc := 4) (q := 2248964) rfl rfl rfl (ttKc hT (a := 183) (κ := 12) (len := 0) ⟨rfl, rfl⟩ (by decide) (by decide)).1 ?_
      refine lf_hasStart (by omega) hT (fun hs => ?_) (fun hs => ?_)
      · skip
        refine q_if (pc := 5) rfl (fun h5 => ?_) (fun h5 => ?_)
        · replace h5 : (1 : Int) ≠ 0 := h5
          refine q_al (pc := 8) (i := 0) (x := 183) rfl rfl ?_
          refine q_il (pc := 9) (i := 1) (x := v1) rfl rfl ?_
          refine q_iv (pc := 10) (q := 2192971) rfl rfl rfl (ttKc hT (a := 183) (κ := 12) (len := 0) ⟨rfl, rfl⟩ (by decide) (by decide)).1 ?_
          refine lf_solves (by omega) hT hX p1.1 p1.2 (fun G gT gX gF gs => ?_)
          replace gF : ttFr (true, [(190, 0, 15), (191, 0, 4799), (192, 0, 7), (193, 0, 975), (195, 0, 93695), (196, 0, 93695), (197, 0, 93695), (198, 0, 7), (199, 0, 93695), (183, 22, 22), (183, 29, 29)]) H G := ttFr_tr (ttFr_rf _ H) gF (fun _ => rfl) (by decide)
          have z8 : 0 ≤ G.1 184 8 ∧ G.1 184 8 ≤ 47 := ttMc gT (a := 184) (j := 8) (by decide) (by decide) (by decide) (by decide)
          refine q_al (pc := 11) (i := 0) (x := 183) rfl rfl ?_
          refine q_gf (pc := 12) (m := 12012) (t := 2) (c := 1) rfl (ttKc gT (a := 183) (κ := 12) (len := 0) ⟨rfl, rfl⟩ (by decide) (by decide)).1 rfl rfl ?_
          rw [show G.1 183 1 = 184 from ttFx gT (by decide) (by decide) rfl rfl rfl]
          refine q_ic (pc := 13) (v := 8) rfl ?_
          refine q_ai (pc := 14) rfl (ttKc gT (a := 184) (κ := 20) (len := 196) ⟨rfl, rfl⟩ (by decide) (by decide)).1 (by omega) (by rw [(ttKc gT (a := 184) (κ := 20) (len := 196) ⟨rfl, rfl⟩ (by decide) (by decide)).2]; omega) ?_
          refine q_is (pc := 15) (i := 3) (L' := [(2, 183), (0, v1), (0, v2), (0, (G.1 184 8)), (9, 0), (9, 0), (9, 0), (9, 0)]) rfl rfl rfl ?_
          exact hG G (by have := gT.1; omega) gF (by rw [gs]; omega) (by rw [fr_no gF 184 (by have := hT.1; omega) rfl rfl]; exact hs) G _ _ _ _ _ (by omega) (by omega) (Int.le_refl _) gT gX (ttFr_rf _ G)
        · replace h5 : (1 : Int) = 0 := h5
          omega
      · skip
        refine q_if (pc := 5) rfl (fun h5 => ?_) (fun h5 => ?_)
        · replace h5 : (0 : Int) ≠ 0 := h5
          omega
        · replace h5 : (0 : Int) = 0 := h5
          refine q_ic (pc := 6) (v := (-2000000000)) rfl ?_
          refine q_ri (pc := 7) rfl ?_
          exact hq _ H (by decide) hT hX (ttFr_rf _ H)
  · replace h1 : ¬ (0 ≤ v1 ∧ v1 ≤ 3) := h1
    refine q_if (pc := 2) rfl (fun h2 => ?_) (fun h2 => ?_)
    · replace h2 : (0 : Int) = 0 := h2
      refine q_ic (pc := 6) (v := (-2000000000)) rfl ?_
      refine q_ri (pc := 7) rfl ?_
      exact hq _ H (by decide) hT hX (ttFr_rf _ H)
    · replace h2 : (0 : Int) ≠ 0 := h2
      omega
