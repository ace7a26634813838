/-! how soon -/
/-- points yet to count, m places before the end -/
def yyRs (x : Int) : Nat → Int
  | 0 => 0
  | m + 1 => yyHb x (7 - (m : Int)) + yyRs x m
theorem yyRs_P (x : Int) : yyRs x 8 = yyP x := by
  show yyHb x (7 - 7) + (yyHb x (7 - 6) + (yyHb x (7 - 5) + (yyHb x (7 - 4) + (yyHb x (7 - 3) + (yyHb x (7 - 2) + (yyHb x (7 - 1) + (yyHb x (7 - 0) + 0))))))) = _
  unfold yyP yyHb
  simp only [show (7 - 7 : Int) = 0 from rfl, show (7 - 6 : Int) = 1 from rfl, show (7 - 5 : Int) = 2 from rfl, show (7 - 4 : Int) = 3 from rfl, show (7 - 3 : Int) = 4 from rfl, show (7 - 2 : Int) = 5 from rfl, show (7 - 1 : Int) = 6 from rfl, show (7 - 0 : Int) = 7 from rfl]
  omega
theorem yyRs_0 (x : Int) : ∀ m : Nat, 0 ≤ yyRs x m
  | 0 => by show (0 : Int) ≤ 0; decide
  | m + 1 => by
    show 0 ≤ yyHb x (7 - (m : Int)) + yyRs x m
    have := yyRs_0 x m
    have := yyHb_in x (7 - (m : Int))
    omega
theorem shl_n {n : Int} (n0 : 0 ≤ n) (n1 : n ≤ 3) : 1 ≤ xShl 1 n ∧ xShl 1 n ≤ 8 ∧ (n ≤ 2 → xShl 1 n ≤ 4) := by
  obtain rfl | rfl | rfl | rfl : n = 0 ∨ n = 1 ∨ n = 2 ∨ n = 3 := by omega
  all_goals decide
/-- how it may come to be there so soon -/
def yyWn (D : xD) (ls s p h t : Int) : Prop := yyCw D ls s p h t ∨ ∃ i : Int, 0 ≤ i ∧ i < 60 ∧ i < D 190 (2 * p + yySw D) ∧ yyGw D s (300 * (2 * p + yySw D) + 5 * i) h t
def yyJ (D : xD) (ls : Int) : Prop := ∀ s p h : Int, 0 ≤ s → s ≤ 7 → 0 ≤ p → p ≤ 7 → 0 ≤ h → h ≤ 60 → D 204 (yySq s p h) = 1000 ∨ D 204 (yySq s p h) = 0 ∨ (1 ≤ D 204 (yySq s p h) ∧ D 204 (yySq s p h) ≤ 47 ∧ yyWn D ls s p h (D 204 (yySq s p h)))
theorem yySq_in {s p h s' p' h' : Int} (p0 : 0 ≤ p) (p1 : p ≤ 7) (h0 : 0 ≤ h) (h1 : h ≤ 60) (p0' : 0 ≤ p') (p1' : p' ≤ 7) (h0' : 0 ≤ h') (h1' : h' ≤ 60) (e : yySq s p h = yySq s' p' h') : s = s' ∧ p = p' ∧ h = h' := by
  unfold yySq at e
  omega
theorem yyHi_eq {D D' : xD} (h3 : ∀ j : Int, D' 183 j = D 183 j) (h4 : ∀ j : Int, D' 184 j = D 184 j) (p h w : Int) : yyHi D' p h w = yyHi D p h w := by
  have e1 : yyUp D' p = yyUp D p := by unfold yyUp; rw [h3, h3, h4]
  have e2 : ∀ u w, yyTk D' u w = yyTk D u w := fun u w => by unfold yyTk; rw [h4]
  have e3 : yyCl D' p w = yyCl D p w := by unfold yyCl; rw [h4, h4, e1, e2]
  unfold yyHi
  rw [h4, e3]
theorem yySw_eq {D D' : xD} (h4 : ∀ j : Int, D' 184 j = D 184 j) : yySw D' = yySw D := by unfold yySw; rw [h4, h4]
/-- a witness stays, when a spot is filled that was empty -/
theorem yyWn_s {H : xH} (hT : ttTI H) {D' : xD} {ls s p h t q : Int} (t0 : t ≤ 47) (g : ∀ a j : Int, a ≠ 204 → D' a j = H.1 a j) (g4 : ∀ j : Int, j ≠ q → D' 204 j = H.1 204 j) (e : H.1 204 q = 1000) (p0 : 0 ≤ p) (p1 : p ≤ 7) (y : yyWn H.1 ls s p h t) : yyWn D' ls s p h t := by
  have k3 : ∀ j : Int, D' 183 j = H.1 183 j := fun j => g 183 j (by decide)
  have k4 : ∀ j : Int, D' 184 j = H.1 184 j := fun j => g 184 j (by decide)
  have kw := yySw_in H.1
  rcases y with ⟨y1, y2, y3⟩ | ⟨i, i0, i1, i2, y1, y2, y3⟩
  · refine Or.inl ⟨y1, ?_, ?_⟩
    · rw [yySw_eq k4, yyHi_eq k3 k4]; exact y2
    · rw [yySw_eq k4, yyHi_eq k3 k4, g4 _ (fun z => by rw [z] at y3; omega)]; exact y3
  · have km : (300 * (2 * p + yySw H.1) + 5 * i) % 5 = 0 := by omega
    obtain ⟨wa, wb, wc, wt, -⟩ := wy_ty hT (k := 300 * (2 * p + yySw H.1) + 5 * i) (by omega) (by omega) km
    refine Or.inr ⟨i, i0, i1, ?_, ?_, ?_, ?_⟩
    · rw [g 190 _ (by decide), yySw_eq k4]; exact i2
    · rw [g 191 _ (by decide), yySw_eq k4]; exact y1
    · rw [yySw_eq k4]
      exact yyC_eq (fun j _ _ _ => k4 j) (fun j _ _ => g 191 j (by decide)) (by omega) (by omega) y2
    · rw [yySw_eq k4]
      have ea : yyA D' (300 * (2 * p + yySw H.1) + 5 * i) h = yyA H.1 (300 * (2 * p + yySw H.1) + 5 * i) h := by unfold yyA; rw [k4, g 191 _ (by decide)]
      rw [g 191 _ (by decide), g 191 _ (by decide), g 205 _ (by decide), ea, g4 _ (fun z => by rw [z] at y3; omega)]
      exact y3
theorem yyJ_s {H : xH} (hT : ttTI H) {D' : xD} {ls s p h t q : Int} (t0 : 0 ≤ t) (t1 : t ≤ 47) (g : ∀ a j : Int, a ≠ 204 → D' a j = H.1 a j) (g4 : ∀ j : Int, j ≠ q → D' 204 j = H.1 204 j) (gq : D' 204 q = t) (e : H.1 204 q = 1000) (hq : q = yySq s p h) (p0 : 0 ≤ p) (p1 : p ≤ 7) (h0 : 0 ≤ h) (h1 : h ≤ 60) (y : 1 ≤ t → yyWn H.1 ls s p h t) (j : yyJ H.1 ls) : yyJ D' ls := by
  intro s' p' h' a0 a1 ujb0 ujb1 c0 c1
  by_cases z : yySq s' p' h' = q
  · obtain ⟨rfl, rfl, rfl⟩ := yySq_in ujb0 ujb1 c0 c1 p0 p1 h0 h1 (z.trans hq)
    rw [z, gq]
    by_cases z1 : t = 0
    · exact Or.inr (Or.inl z1)
    · exact Or.inr (Or.inr ⟨by omega, t1, yyWn_s hT t1 g g4 e p0 p1 (y (by omega))⟩)
  · rw [g4 _ z]
    rcases j s' p' h' a0 a1 ujb0 ujb1 c0 c1 with k | k | ⟨k1, k2, k3⟩
    · exact Or.inl k
    · exact Or.inr (Or.inl k)
    · exact Or.inr (Or.inr ⟨k1, k2, yyWn_s hT k2 g g4 e ujb0 ujb1 k3⟩)
theorem ty_bit {H : xH} (hT : ttTI H) {p : Int} (p0 : 0 ≤ p) (p1 : p ≤ 7) : 0 ≤ H.1 205 p ∧ H.1 205 p ≤ 4 := ttRw hT (a := 205) (κ := 20) (len := 8) (sz := 8) (lo := 0) (hi := 4) (by decide) (by decide) rfl p p0 (by omega)
theorem lf_isIn {dd : Nat} {s p h t ls : Int} (hd : 6 ≤ dd) {H : xH} (hT : ttTI H) (s0 : 0 ≤ s) (s1 : s ≤ 7) (p0 : 0 ≤ p) (p1 : p ≤ 7) (h0 : 0 ≤ h) (h1 : h ≤ 60) (t0 : 0 ≤ t) (t1 : t ≤ 1000) {Q : Int → xH → Prop} (hy : (1 ≤ t → yyWn H.1 ls s p h t) → Q 1 H) (hn : Q 0 H) : xCall dd 317 [(2, 183), (0, s), (0, p), (0, h), (0, t), (0, ls)] H Q := by
  obtain ⟨e, rfl, he⟩ := ttRun0 (n := 5) hd
  have he : 5 ≤ e := he
  obtain ⟨x, jx⟩ : ∃ x, x = yySw H.1 := ⟨_, rfl⟩
  have zx := yySw_in H.1
  rw [← jx] at zx
  obtain ⟨r, jr⟩ : ∃ r, r = 2 * p + x := ⟨_, rfl⟩
  have m60 : 0 ≤ H.1 190 r ∧ H.1 190 r ≤ 60 := ttRw hT (a := 190) (κ := 20) (len := 16) (sz := 16) (lo := 0) (hi := 60) (by decide) (by decide) rfl r (by omega) (by omega)
  have hl : ∀ n : Nat, ∀ i : Int, 1 ≤ t → 0 ≤ i → i ≤ 60 → 60 - i ≤ (n : Int) → xW e cd_317 Q (35, [(2, 183), (0, s), (0, p), (0, h), (0, t), (0, ls), (0, r), (0, i)], [], H) := by
    intro n
    induction n with
    | zero =>
      intro i tp i0 i1 hn2
      refine q_il (pc := 35) (i := 7) (x := i) rfl rfl ?_
      refine q_al (pc := 36) (i := 0) (x := 183) rfl rfl ?_
      refine q_gf (pc := 37) (m := 12202) (t := 2) (c := 20) rfl (ttKc hT (a := 183) (κ := 12) (len := 0) ⟨rfl, rfl⟩ (by decide) (by decide)).1 rfl rfl ?_
      rw [show H.1 183 20 = 190 from ttFx hT (by decide) (by decide) rfl rfl rfl]
      refine q_il (pc := 38) (i := 6) (x := r) rfl rfl ?_
      refine q_ai (pc := 39) rfl (ttKc hT (a := 190) (κ := 20) (len := 16) ⟨rfl, rfl⟩ (by decide) (by decide)).1 (by omega) (by rw [(ttKc hT (a := 190) (κ := 20) (len := 16) ⟨rfl, rfl⟩ (by decide) (by decide)).2]; omega) ?_
      refine q_i2 (pc := 40) rfl (fun h40 => ?_) (fun h40 => ?_)
      · replace h40 : (H.1 190 r) ≤ i := h40
        refine q_ic (pc := 58) (v := 0) rfl ?_
        refine q_rz (pc := 59) rfl (by omega) ?_
        exact hn
      · replace h40 : i < (H.1 190 r) := h40
        omega
    | succ n ih =>
      intro i tp i0 i1 hn2
      refine q_il (pc := 35) (i := 7) (x := i) rfl rfl ?_
      refine q_al (pc := 36) (i := 0) (x := 183) rfl rfl ?_
      refine q_gf (pc := 37) (m := 12202) (t := 2) (c := 20) rfl (ttKc hT (a := 183) (κ := 12) (len := 0) ⟨rfl, rfl⟩ (by decide) (by decide)).1 rfl rfl ?_
      rw [show H.1 183 20 = 190 from ttFx hT (by decide) (by decide) rfl rfl rfl]
      refine q_il (pc := 38) (i := 6) (x := r) rfl rfl ?_
      refine q_ai (pc := 39) rfl (ttKc hT (a := 190) (κ := 20) (len := 16) ⟨rfl, rfl⟩ (by decide) (by decide)).1 (by omega) (by rw [(ttKc hT (a := 190) (κ := 20) (len := 16) ⟨rfl, rfl⟩ (by decide) (by decide)).2]; omega) ?_
      refine q_i2 (pc := 40) rfl (fun h40 => ?_) (fun h40 => ?_)
      · replace h40 : (H.1 190 r) ≤ i := h40
        refine q_ic (pc := 58) (v := 0) rfl ?_
        refine q_rz (pc := 59) rfl (by omega) ?_
        exact hn
      · replace h40 : i < (H.1 190 r) := h40
        refine q_al (pc := 41) (i := 0) (x := 183) rfl rfl ?_
        refine q_il (pc := 42) (i := 1) (x := s) rfl rfl ?_
        refine q_ic (pc := 43) (v := 300) rfl ?_
        refine q_il (pc := 44) (i := 6) (x := r) rfl rfl ?_
        refine q_im (pc := 45) rfl (by omega) (by omega) ?_
        refine q_ic (pc := 46) (v := 5) rfl ?_
        refine q_il (pc := 47) (i := 7) (x := i) rfl rfl ?_
        refine q_im (pc := 48) rfl (by omega) (by omega) ?_
        refine q_ia (pc := 49) rfl (by omega) (by omega) ?_
        refine q_il (pc := 50) (i := 3) (x := h) rfl rfl ?_
        refine q_il (pc := 51) (i := 4) (x := t) rfl rfl ?_
        obtain ⟨k, jk⟩ : ∃ k, k = 300 * r + 5 * i := ⟨_, rfl⟩
        rw [show ((300 * r) + (5 * i)) = k from by omega]
        have k0 : 0 ≤ k ∧ k ≤ 4795 ∧ k % 5 = 0 := by omega
        refine q_iv (pc := 52) (q := 2552980) rfl rfl rfl (ttKc hT (a := 183) (κ := 12) (len := 0) ⟨rfl, rfl⟩ (by decide) (by decide)).1 ?_
        refine lf_goesIn (by omega) hT s0 s1 k0.1 k0.2.1 k0.2.2 t0 t1 (fun yg => ?_) (fun _ => ?_)
        · skip
          refine q_if (pc := 53) rfl (fun h53 => ?_) (fun h53 => ?_)
          · replace h53 : (1 : Int) = 0 := h53
            omega
          · replace h53 : (1 : Int) ≠ 0 := h53
            refine q_ic (pc := 54) (v := 1) rfl ?_
            refine q_rz (pc := 55) rfl (by omega) ?_
            exact hy (fun _ => Or.inr ⟨i, i0, by omega, by rw [← jx, ← jr]; omega, by rw [← jx, ← jr, ← jk]; exact yg⟩)
        · skip
          refine q_if (pc := 53) rfl (fun h53 => ?_) (fun h53 => ?_)
          · replace h53 : (0 : Int) = 0 := h53
            refine q_ii (pc := 56) (i := 7) (c := 1) (x := i) (L' := [(2, 183), (0, s), (0, p), (0, h), (0, t), (0, ls), (0, r), (0, (i + 1))]) rfl rfl rfl (by omega) (by omega) rfl ?_
            refine q_go (pc := 57) rfl ?_
            exact ih (i + 1) tp (by omega) (by omega) (by omega)
          · replace h53 : (0 : Int) ≠ 0 := h53
            omega
  refine xC_of (L := [(2, 183), (0, s), (0, p), (0, h), (0, t), (0, ls), (9, 0), (9, 0)]) (cd := cd_317) rfl rfl rfl ?_
  refine q_il (pc := 0) (i := 4) (x := t) rfl rfl ?_
  refine q_if (pc := 1) rfl (fun h1 => ?_) (fun h1 => ?_)
  · replace h1 : t ≠ 0 := h1
    refine q_al (pc := 16) (i := 0) (x := 183) rfl rfl ?_
    refine q_il (pc := 17) (i := 1) (x := s) rfl rfl ?_
    refine q_il (pc := 18) (i := 2) (x := p) rfl rfl ?_
    refine q_il (pc := 19) (i := 3) (x := h) rfl rfl ?_
    refine q_il (pc := 20) (i := 4) (x := t) rfl rfl ?_
    refine q_il (pc := 21) (i := 5) (x := ls) rfl rfl ?_
    refine q_iv (pc := 22) (q := 2544984) rfl rfl rfl (ttKc hT (a := 183) (κ := 12) (len := 0) ⟨rfl, rfl⟩ (by decide) (by decide)).1 ?_
    refine lf_climbsIn (by omega) hT s0 s1 p0 p1 (by omega) (by omega) (by omega) t1 (fun yc => ?_) (fun _ => ?_)
    · skip
      refine q_if (pc := 23) rfl (fun h23 => ?_) (fun h23 => ?_)
      · replace h23 : (1 : Int) = 0 := h23
        omega
      · replace h23 : (1 : Int) ≠ 0 := h23
        refine q_ic (pc := 24) (v := 1) rfl ?_
        refine q_rz (pc := 25) rfl (by omega) ?_
        exact hy (fun _ => Or.inl yc)
    · skip
      refine q_if (pc := 23) rfl (fun h23 => ?_) (fun h23 => ?_)
      · replace h23 : (0 : Int) = 0 := h23
        refine q_ic (pc := 26) (v := 2) rfl ?_
        refine q_il (pc := 27) (i := 2) (x := p) rfl rfl ?_
        refine q_im (pc := 28) rfl (by omega) (by omega) ?_
        refine q_al (pc := 29) (i := 0) (x := 183) rfl rfl ?_
        refine q_iv (pc := 30) (q := 2256964) rfl rfl rfl (ttKc hT (a := 183) (κ := 12) (len := 0) ⟨rfl, rfl⟩ (by decide) (by decide)).1 ?_
        refine lf_startWet2 (by omega) hT ?_
        rw [← jx]
        refine q_ia (pc := 31) rfl (by omega) (by omega) ?_
        rw [← jr]
        refine q_is (pc := 32) (i := 6) (L' := [(2, 183), (0, s), (0, p), (0, h), (0, t), (0, ls), (0, r), (9, 0)]) rfl rfl rfl ?_
        refine q_ic (pc := 33) (v := 0) rfl ?_
        refine q_is (pc := 34) (i := 7) (L' := [(2, 183), (0, s), (0, p), (0, h), (0, t), (0, ls), (0, r), (0, 0)]) rfl rfl rfl ?_
        exact hl 60 0 (by omega) (by decide) (by decide) (by decide)
      · replace h23 : (0 : Int) ≠ 0 := h23
        omega
  · replace h1 : t = 0 := h1
    refine q_il (pc := 2) (i := 1) (x := s) rfl rfl ?_
    refine q_al (pc := 3) (i := 0) (x := 183) rfl rfl ?_
    refine q_gf (pc := 4) (m := 12480) (t := 0) (c := 48) rfl (ttKc hT (a := 183) (κ := 12) (len := 0) ⟨rfl, rfl⟩ (by decide) (by decide)).1 rfl rfl ?_
    refine q_i2 (pc := 5) rfl (fun h5 => ?_) (fun h5 => ?_)
    · replace h5 : s ≠ (H.1 183 48) := h5
      refine q_ic (pc := 14) (v := 0) rfl ?_
      refine q_rz (pc := 15) rfl (by omega) ?_
      exact hn
    · replace h5 : s = (H.1 183 48) := h5
      refine q_al (pc := 6) (i := 0) (x := 183) rfl rfl ?_
      refine q_il (pc := 7) (i := 2) (x := p) rfl rfl ?_
      refine q_ic (pc := 8) (v := 1) rfl ?_
      refine q_iv (pc := 9) (q := 1664972) rfl rfl rfl (ttKc hT (a := 183) (κ := 12) (len := 0) ⟨rfl, rfl⟩ (by decide) (by decide)).1 ?_
      refine lf_ofPlace (j := (21 + 8 * p)) (by omega) (by omega) hT (by omega) (by omega) (by omega) (by omega) ?_
      refine q_ic (pc := 10) (v := 2) rfl ?_
      refine q_i2 (pc := 11) rfl (fun h11 => ?_) (fun h11 => ?_)
      · replace h11 : (H.1 184 (21 + 8 * p)) ≠ 2 := h11
        refine q_ic (pc := 14) (v := 0) rfl ?_
        refine q_rz (pc := 15) rfl (by omega) ?_
        exact hn
      · replace h11 : (H.1 184 (21 + 8 * p)) = 2 := h11
        refine q_ic (pc := 12) (v := 1) rfl ?_
        refine q_go (pc := 13) rfl ?_
        refine q_rz (pc := 15) rfl (by omega) ?_
        exact hy (fun z => absurd z (by omega))
theorem lf_reckons {dd : Nat} {ls : Int} (hd : 7 ≤ dd) {H : xH} (hT : ttTI H) (hX : ttXX YY H) {Q : Int → xH → Prop} (hQ : ∀ G K, ttFr (true, [(190, 0, 15), (191, 0, 4799), (183, 22, 22)]) H G → G.1 183 22 = 1 → ttTI K → ttXX YY K → ttFr (true, [(204, 0, 3903), (205, 0, 7), (183, 48, 48)]) G K → yyJ K.1 ls → Q 0 K) : xCall dd 316 [(2, 183), (0, ls)] H Q := by
  obtain ⟨e, rfl, he⟩ := ttRun0 (n := 6) hd
  have he : 6 ≤ e := he
  have hG : ∀ G : xH, ttTI G → ttXX YY G → ttFr (true, [(190, 0, 15), (191, 0, 4799), (183, 22, 22)]) H G → G.1 183 22 = 1 → xW e cd_316 Q (6, [(2, 183), (0, ls), (0, 0), (0, 0), (9, 0), (9, 0), (9, 0), (9, 0)], [], G) := by
    intro G gT gX gF gf
    have gn : 210 ≤ (G.2.2.2.1 : Int) := by have := gT.1; omega
    have kw : ∀ K : xH, ttFr (true, [(204, 0, 3903), (205, 0, 7), (183, 48, 48)]) G K → ∀ j : Int, K.1 184 j = G.1 184 j := fun K kF j => fr_no kF 184 (by omega) rfl rfl
    have hH : ∀ n t s p : Int, 0 ≤ t → t ≤ 47 → 0 ≤ s → s ≤ 7 → 0 ≤ p → p ≤ 7 → (∀ (K : xH) (x6 x7 : xV), ttTI K → ttXX YY K → ttFr (true, [(204, 0, 3903), (205, 0, 7), (183, 48, 48)]) G K → yyJ K.1 ls → xW e cd_316 Q (75, [(2, 183), (0, ls), (0, n), (0, t), (0, s), (0, (p + 1)), x6, x7], [], K)) → ∀ f : Nat, ∀ (K : xH) (h : Int) (x7 : xV), 0 ≤ h → h ≤ 61 → 61 - h ≤ (f : Int) → ttTI K → ttXX YY K → ttFr (true, [(204, 0, 3903), (205, 0, 7), (183, 48, 48)]) G K → yyJ K.1 ls → xW e cd_316 Q (86, [(2, 183), (0, ls), (0, n), (0, t), (0, s), (0, p), (0, h), x7], [], K) := by
      intro n t s p t0 t1 s0 s1 p0 p1 hk f
      induction f with
      | zero =>
        intro K h x7 h0 h1 hn2 kT kX kF kJ
        have z7 : 0 ≤ K.1 184 7 ∧ K.1 184 7 ≤ 60 := ttMc kT (a := 184) (j := 7) (by decide) (by decide) (by decide) (by decide)
        refine q_il (pc := 86) (i := 6) (x := h) rfl rfl ?_
        refine q_al (pc := 87) (i := 0) (x := 183) rfl rfl ?_
        refine q_gf (pc := 88) (m := 12012) (t := 2) (c := 1) rfl (ttKc kT (a := 183) (κ := 12) (len := 0) ⟨rfl, rfl⟩ (by decide) (by decide)).1 rfl rfl ?_
        rw [show K.1 183 1 = 184 from ttFx kT (by decide) (by decide) rfl rfl rfl]
        refine q_ic (pc := 89) (v := 7) rfl ?_
        refine q_ai (pc := 90) rfl (ttKc kT (a := 184) (κ := 20) (len := 196) ⟨rfl, rfl⟩ (by decide) (by decide)).1 (by omega) (by rw [(ttKc kT (a := 184) (κ := 20) (len := 196) ⟨rfl, rfl⟩ (by decide) (by decide)).2]; omega) ?_
        refine q_i2 (pc := 91) rfl (fun h91 => ?_) (fun h91 => ?_)
        · replace h91 : (K.1 184 7) < h := h91
          refine q_ii (pc := 118) (i := 5) (c := 1) (x := p) (L' := [(2, 183), (0, ls), (0, n), (0, t), (0, s), (0, (p + 1)), (0, h), x7]) rfl rfl rfl (by omega) (by omega) rfl ?_
          refine q_go (pc := 119) rfl ?_
          exact hk K _ _ kT kX kF kJ
        · replace h91 : h ≤ (K.1 184 7) := h91
          omega
      | succ f ih =>
        intro K h x7 h0 h1 hn2 kT kX kF kJ
        have z7 : 0 ≤ K.1 184 7 ∧ K.1 184 7 ≤ 60 := ttMc kT (a := 184) (j := 7) (by decide) (by decide) (by decide) (by decide)
        refine q_il (pc := 86) (i := 6) (x := h) rfl rfl ?_
        refine q_al (pc := 87) (i := 0) (x := 183) rfl rfl ?_
        refine q_gf (pc := 88) (m := 12012) (t := 2) (c := 1) rfl (ttKc kT (a := 183) (κ := 12) (len := 0) ⟨rfl, rfl⟩ (by decide) (by decide)).1 rfl rfl ?_
        rw [show K.1 183 1 = 184 from ttFx kT (by decide) (by decide) rfl rfl rfl]
        refine q_ic (pc := 89) (v := 7) rfl ?_
        refine q_ai (pc := 90) rfl (ttKc kT (a := 184) (κ := 20) (len := 196) ⟨rfl, rfl⟩ (by decide) (by decide)).1 (by omega) (by rw [(ttKc kT (a := 184) (κ := 20) (len := 196) ⟨rfl, rfl⟩ (by decide) (by decide)).2]; omega) ?_
        refine q_i2 (pc := 91) rfl (fun h91 => ?_) (fun h91 => ?_)
        · replace h91 : (K.1 184 7) < h := h91
          refine q_ii (pc := 118) (i := 5) (c := 1) (x := p) (L' := [(2, 183), (0, ls), (0, n), (0, t), (0, s), (0, (p + 1)), (0, h), x7]) rfl rfl rfl (by omega) (by omega) rfl ?_
          refine q_go (pc := 119) rfl ?_
          exact hk K _ _ kT kX kF kJ
        · replace h91 : h ≤ (K.1 184 7) := h91
          refine q_il (pc := 92) (i := 4) (x := s) rfl rfl ?_
          refine q_il (pc := 93) (i := 5) (x := p) rfl rfl ?_
          refine q_il (pc := 94) (i := 6) (x := h) rfl rfl ?_
          refine q_ij (pc := 95) (q := 2527932) rfl rfl rfl trivial ?_
          refine lf_spot (by omega) (by omega) (by omega) (by omega) (by omega) (by omega) (by omega) (fun jk1 => ?_)
          obtain ⟨q, jq⟩ : ∃ q, q = (yySq s p h) := ⟨_, rfl⟩
          rw [← jq] at jk1 ⊢
          refine q_is (pc := 96) (i := 7) (L' := [(2, 183), (0, ls), (0, n), (0, t), (0, s), (0, p), (0, h), (0, q)]) rfl rfl rfl ?_
          refine q_al (pc := 97) (i := 0) (x := 183) rfl rfl ?_
          refine q_gf (pc := 98) (m := 12462) (t := 2) (c := 46) rfl (ttKc kT (a := 183) (κ := 12) (len := 0) ⟨rfl, rfl⟩ (by decide) (by decide)).1 rfl rfl ?_
          rw [show K.1 183 46 = 204 from ttFx kT (by decide) (by decide) rfl rfl rfl]
          refine q_il (pc := 99) (i := 7) (x := q) rfl rfl ?_
          refine q_ai (pc := 100) rfl (ttKc kT (a := 204) (κ := 20) (len := 3904) ⟨rfl, rfl⟩ (by decide) (by decide)).1 (by omega) (by rw [(ttKc kT (a := 204) (κ := 20) (len := 3904) ⟨rfl, rfl⟩ (by decide) (by decide)).2]; omega) ?_
          refine q_ic (pc := 101) (v := 1000) rfl ?_
          refine q_i2 (pc := 102) rfl (fun h102 => ?_) (fun h102 => ?_)
          · replace h102 : (K.1 204 q) ≠ 1000 := h102
            refine q_ii (pc := 116) (i := 6) (c := 1) (x := h) (L' := [(2, 183), (0, ls), (0, n), (0, t), (0, s), (0, p), (0, (h + 1)), (0, q)]) rfl rfl rfl (by omega) (by omega) rfl ?_
            refine q_go (pc := 117) rfl ?_
            exact ih K (h + 1) _ (by omega) (by omega) (by omega) kT kX kF kJ
          · replace h102 : (K.1 204 q) = 1000 := h102
            refine q_al (pc := 103) (i := 0) (x := 183) rfl rfl ?_
            refine q_il (pc := 104) (i := 4) (x := s) rfl rfl ?_
            refine q_il (pc := 105) (i := 5) (x := p) rfl rfl ?_
            refine q_il (pc := 106) (i := 6) (x := h) rfl rfl ?_
            refine q_il (pc := 107) (i := 3) (x := t) rfl rfl ?_
            refine q_il (pc := 108) (i := 1) (x := ls) rfl rfl ?_
            refine q_iv (pc := 109) (q := 2536984) rfl rfl rfl (ttKc kT (a := 183) (κ := 12) (len := 0) ⟨rfl, rfl⟩ (by decide) (by decide)).1 ?_
            refine lf_isIn (by omega) kT s0 s1 p0 p1 h0 (by omega) t0 (by omega) (fun yw => ?_) ?_
            · skip
              refine q_if (pc := 110) rfl (fun h110 => ?_) (fun h110 => ?_)
              · replace h110 : (1 : Int) = 0 := h110
                omega
              · replace h110 : (1 : Int) ≠ 0 := h110
                refine q_al (pc := 111) (i := 0) (x := 183) rfl rfl ?_
                refine q_gf (pc := 112) (m := 12462) (t := 2) (c := 46) rfl (ttKc kT (a := 183) (κ := 12) (len := 0) ⟨rfl, rfl⟩ (by decide) (by decide)).1 rfl rfl ?_
                rw [show K.1 183 46 = 204 from ttFx kT (by decide) (by decide) rfl rfl rfl]
                refine q_il (pc := 113) (i := 7) (x := q) rfl rfl ?_
                refine q_il (pc := 114) (i := 3) (x := t) rfl rfl ?_
                refine q_si (pc := 115) rfl (by decide) (ttKc kT (a := 204) (κ := 20) (len := 3904) ⟨rfl, rfl⟩ (by decide) (by decide)).1 (by omega) (by rw [(ttKc kT (a := 204) (κ := 20) (len := 3904) ⟨rfl, rfl⟩ (by decide) (by decide)).2]; omega) ?_
                have zc := ttPut (ttXX_out yyStab (fun _ _ => trivial)) kT kX kF (a := 204) (j := q) (x := t) (by decide) (fun _ _ => ttTyr rfl (by omega) (by omega)) ⟨(204, 0, 3903), by simp, ⟨⟨by decide, rfl⟩, by show (0 : Int) ≤ q; omega, by show q ≤ (3903 : Int); omega⟩⟩ (ttMay_no (r := 204) rfl (by decide))
                refine q_ii (pc := 116) (i := 6) (c := 1) (x := h) (L' := [(2, 183), (0, ls), (0, n), (0, t), (0, s), (0, p), (0, (h + 1)), (0, q)]) rfl rfl rfl (by omega) (by omega) rfl ?_
                refine q_go (pc := 117) rfl ?_
                exact ih _ (h + 1) _ (by omega) (by omega) (by omega) zc.1 zc.2.1 zc.2.2 (yyJ_s kT t0 t1 (fun a j ha => up_na ha) (fun j hj => up_ne (fun z => hj z.2)) up_eq h102 jq p0 p1 h0 (by omega) yw kJ)
            · skip
              refine q_if (pc := 110) rfl (fun h110 => ?_) (fun h110 => ?_)
              · replace h110 : (0 : Int) = 0 := h110
                refine q_ii (pc := 116) (i := 6) (c := 1) (x := h) (L' := [(2, 183), (0, ls), (0, n), (0, t), (0, s), (0, p), (0, (h + 1)), (0, q)]) rfl rfl rfl (by omega) (by omega) rfl ?_
                refine q_go (pc := 117) rfl ?_
                exact ih K (h + 1) _ (by omega) (by omega) (by omega) kT kX kF kJ
              · replace h110 : (0 : Int) ≠ 0 := h110
                omega
    have hP : ∀ n t s : Int, 0 ≤ t → t ≤ 47 → 0 ≤ s → s ≤ 7 → (∀ (K : xH) (x5 x6 x7 : xV), ttTI K → ttXX YY K → ttFr (true, [(204, 0, 3903), (205, 0, 7), (183, 48, 48)]) G K → yyJ K.1 ls → xW e cd_316 Q (69, [(2, 183), (0, ls), (0, n), (0, t), (0, (s + 1)), x5, x6, x7], [], K)) → ∀ f : Nat, ∀ (K : xH) (p : Int) (x6 x7 : xV), 0 ≤ p → p ≤ 8 → 8 - p ≤ (f : Int) → ttTI K → ttXX YY K → ttFr (true, [(204, 0, 3903), (205, 0, 7), (183, 48, 48)]) G K → yyJ K.1 ls → xW e cd_316 Q (75, [(2, 183), (0, ls), (0, n), (0, t), (0, s), (0, p), x6, x7], [], K) := by
      intro n t s t0 t1 s0 s1 hk f
      induction f with
      | zero =>
        intro K p x6 x7 p0 p1 hn2 kT kX kF kJ
        have z1 : 0 ≤ K.1 184 1 ∧ K.1 184 1 ≤ 8 := ttMc kT (a := 184) (j := 1) (by decide) (by decide) (by decide) (by decide)
        refine q_il (pc := 75) (i := 5) (x := p) rfl rfl ?_
        refine q_al (pc := 76) (i := 0) (x := 183) rfl rfl ?_
        refine q_gf (pc := 77) (m := 12012) (t := 2) (c := 1) rfl (ttKc kT (a := 183) (κ := 12) (len := 0) ⟨rfl, rfl⟩ (by decide) (by decide)).1 rfl rfl ?_
        rw [show K.1 183 1 = 184 from ttFx kT (by decide) (by decide) rfl rfl rfl]
        refine q_ic (pc := 78) (v := 1) rfl ?_
        refine q_ai (pc := 79) rfl (ttKc kT (a := 184) (κ := 20) (len := 196) ⟨rfl, rfl⟩ (by decide) (by decide)).1 (by omega) (by rw [(ttKc kT (a := 184) (κ := 20) (len := 196) ⟨rfl, rfl⟩ (by decide) (by decide)).2]; omega) ?_
        refine q_i2 (pc := 80) rfl (fun h80 => ?_) (fun h80 => ?_)
        · replace h80 : (K.1 184 1) ≤ p := h80
          refine q_ii (pc := 120) (i := 4) (c := 1) (x := s) (L' := [(2, 183), (0, ls), (0, n), (0, t), (0, (s + 1)), (0, p), x6, x7]) rfl rfl rfl (by omega) (by omega) rfl ?_
          refine q_go (pc := 121) rfl ?_
          exact hk K _ _ _ kT kX kF kJ
        · replace h80 : p < (K.1 184 1) := h80
          omega
      | succ f ih =>
        intro K p x6 x7 p0 p1 hn2 kT kX kF kJ
        have z1 : 0 ≤ K.1 184 1 ∧ K.1 184 1 ≤ 8 := ttMc kT (a := 184) (j := 1) (by decide) (by decide) (by decide) (by decide)
        refine q_il (pc := 75) (i := 5) (x := p) rfl rfl ?_
        refine q_al (pc := 76) (i := 0) (x := 183) rfl rfl ?_
        refine q_gf (pc := 77) (m := 12012) (t := 2) (c := 1) rfl (ttKc kT (a := 183) (κ := 12) (len := 0) ⟨rfl, rfl⟩ (by decide) (by decide)).1 rfl rfl ?_
        rw [show K.1 183 1 = 184 from ttFx kT (by decide) (by decide) rfl rfl rfl]
        refine q_ic (pc := 78) (v := 1) rfl ?_
        refine q_ai (pc := 79) rfl (ttKc kT (a := 184) (κ := 20) (len := 196) ⟨rfl, rfl⟩ (by decide) (by decide)).1 (by omega) (by rw [(ttKc kT (a := 184) (κ := 20) (len := 196) ⟨rfl, rfl⟩ (by decide) (by decide)).2]; omega) ?_
        refine q_i2 (pc := 80) rfl (fun h80 => ?_) (fun h80 => ?_)
        · replace h80 : (K.1 184 1) ≤ p := h80
          refine q_ii (pc := 120) (i := 4) (c := 1) (x := s) (L' := [(2, 183), (0, ls), (0, n), (0, t), (0, (s + 1)), (0, p), x6, x7]) rfl rfl rfl (by omega) (by omega) rfl ?_
          refine q_go (pc := 121) rfl ?_
          exact hk K _ _ _ kT kX kF kJ
        · replace h80 : p < (K.1 184 1) := h80
          refine q_al (pc := 81) (i := 0) (x := 183) rfl rfl ?_
          refine q_il (pc := 82) (i := 5) (x := p) rfl rfl ?_
          refine q_ic (pc := 83) (v := 0) rfl ?_
          refine q_iv (pc := 84) (q := 1664972) rfl rfl rfl (ttKc kT (a := 183) (κ := 12) (len := 0) ⟨rfl, rfl⟩ (by decide) (by decide)).1 ?_
          refine lf_ofPlace (j := (20 + 8 * p)) (by omega) (by omega) kT (by omega) (by omega) (by omega) (by omega) ?_
          refine q_is (pc := 85) (i := 6) (L' := [(2, 183), (0, ls), (0, n), (0, t), (0, s), (0, p), (0, (K.1 184 (20 + 8 * p))), x7]) rfl rfl rfl ?_
          have zg := pl_ty kT p0 (by omega : p ≤ 7)
          exact hH n t s p t0 t1 s0 s1 p0 (by omega) (fun K x6 x7 a b c d => ih K (p + 1) x6 x7 (by omega) (by omega) (by omega) a b c d) 61 K _ _ (by omega) (by omega) (by omega) kT kX kF kJ
    have hS : ∀ n t : Int, 0 ≤ t → t ≤ 47 → (∀ (K : xH) (x4 x5 x6 x7 : xV), ttTI K → ttXX YY K → ttFr (true, [(204, 0, 3903), (205, 0, 7), (183, 48, 48)]) G K → yyJ K.1 ls → xW e cd_316 Q (61, [(2, 183), (0, ls), (0, n), (0, (t + 1)), x4, x5, x6, x7], [], K)) → ∀ f : Nat, ∀ (K : xH) (s : Int) (x5 x6 x7 : xV), 0 ≤ s → s ≤ 8 → 8 - s ≤ (f : Int) → ttTI K → ttXX YY K → ttFr (true, [(204, 0, 3903), (205, 0, 7), (183, 48, 48)]) G K → yyJ K.1 ls → xW e cd_316 Q (69, [(2, 183), (0, ls), (0, n), (0, t), (0, s), x5, x6, x7], [], K) := by
      intro n t t0 t1 hk f
      induction f with
      | zero =>
        intro K s x5 x6 x7 s0 s1 hn2 kT kX kF kJ
        have ap : 0 ≤ K.1 183 48 ∧ K.1 183 48 ≤ 7 := ttMc kT (a := 183) (j := 48) (by decide) (by decide) (by decide) (by decide)
        refine q_il (pc := 69) (i := 4) (x := s) rfl rfl ?_
        refine q_al (pc := 70) (i := 0) (x := 183) rfl rfl ?_
        refine q_gf (pc := 71) (m := 12480) (t := 0) (c := 48) rfl (ttKc kT (a := 183) (κ := 12) (len := 0) ⟨rfl, rfl⟩ (by decide) (by decide)).1 rfl rfl ?_
        refine q_i2 (pc := 72) rfl (fun h72 => ?_) (fun h72 => ?_)
        · replace h72 : (K.1 183 48) < s := h72
          refine q_ii (pc := 122) (i := 3) (c := 1) (x := t) (L' := [(2, 183), (0, ls), (0, n), (0, (t + 1)), (0, s), x5, x6, x7]) rfl rfl rfl (by omega) (by omega) rfl ?_
          refine q_go (pc := 123) rfl ?_
          exact hk K _ _ _ _ kT kX kF kJ
        · replace h72 : s ≤ (K.1 183 48) := h72
          omega
      | succ f ih =>
        intro K s x5 x6 x7 s0 s1 hn2 kT kX kF kJ
        have ap : 0 ≤ K.1 183 48 ∧ K.1 183 48 ≤ 7 := ttMc kT (a := 183) (j := 48) (by decide) (by decide) (by decide) (by decide)
        refine q_il (pc := 69) (i := 4) (x := s) rfl rfl ?_
        refine q_al (pc := 70) (i := 0) (x := 183) rfl rfl ?_
        refine q_gf (pc := 71) (m := 12480) (t := 0) (c := 48) rfl (ttKc kT (a := 183) (κ := 12) (len := 0) ⟨rfl, rfl⟩ (by decide) (by decide)).1 rfl rfl ?_
        refine q_i2 (pc := 72) rfl (fun h72 => ?_) (fun h72 => ?_)
        · replace h72 : (K.1 183 48) < s := h72
          refine q_ii (pc := 122) (i := 3) (c := 1) (x := t) (L' := [(2, 183), (0, ls), (0, n), (0, (t + 1)), (0, s), x5, x6, x7]) rfl rfl rfl (by omega) (by omega) rfl ?_
          refine q_go (pc := 123) rfl ?_
          exact hk K _ _ _ _ kT kX kF kJ
        · replace h72 : s ≤ (K.1 183 48) := h72
          refine q_ic (pc := 73) (v := 0) rfl ?_
          refine q_is (pc := 74) (i := 5) (L' := [(2, 183), (0, ls), (0, n), (0, t), (0, s), (0, 0), x6, x7]) rfl rfl rfl ?_
          exact hP n t s t0 t1 s0 (by omega) (fun K x5 x6 x7 a b c d => ih K (s + 1) x5 x6 x7 (by omega) (by omega) (by omega) a b c d) 8 K 0 _ _ (by decide) (by decide) (by decide) kT kX kF kJ
    have hU : ∀ n : Int, ∀ f : Nat, ∀ (K : xH) (t : Int) (x4 x5 x6 x7 : xV), 0 ≤ t → t ≤ 48 → 48 - t ≤ (f : Int) → ttTI K → ttXX YY K → ttFr (true, [(204, 0, 3903), (205, 0, 7), (183, 48, 48)]) G K → yyJ K.1 ls → xW e cd_316 Q (61, [(2, 183), (0, ls), (0, n), (0, t), x4, x5, x6, x7], [], K) := by
      intro n f
      induction f with
      | zero =>
        intro K t x4 x5 x6 x7 t0 t1 hn2 kT kX kF kJ
        have z8 : 0 ≤ K.1 184 8 ∧ K.1 184 8 ≤ 47 := ttMc kT (a := 184) (j := 8) (by decide) (by decide) (by decide) (by decide)
        refine q_il (pc := 61) (i := 3) (x := t) rfl rfl ?_
        refine q_al (pc := 62) (i := 0) (x := 183) rfl rfl ?_
        refine q_gf (pc := 63) (m := 12012) (t := 2) (c := 1) rfl (ttKc kT (a := 183) (κ := 12) (len := 0) ⟨rfl, rfl⟩ (by decide) (by decide)).1 rfl rfl ?_
        rw [show K.1 183 1 = 184 from ttFx kT (by decide) (by decide) rfl rfl rfl]
        refine q_ic (pc := 64) (v := 8) rfl ?_
        refine q_ai (pc := 65) rfl (ttKc kT (a := 184) (κ := 20) (len := 196) ⟨rfl, rfl⟩ (by decide) (by decide)).1 (by omega) (by rw [(ttKc kT (a := 184) (κ := 20) (len := 196) ⟨rfl, rfl⟩ (by decide) (by decide)).2]; omega) ?_
        refine q_i2 (pc := 66) rfl (fun h66 => ?_) (fun h66 => ?_)
        · replace h66 : (K.1 184 8) < t := h66
          refine q_rv (pc := 124) rfl ?_
          exact hQ G K gF gf kT kX kF kJ
        · replace h66 : t ≤ (K.1 184 8) := h66
          omega
      | succ f ih =>
        intro K t x4 x5 x6 x7 t0 t1 hn2 kT kX kF kJ
        have z8 : 0 ≤ K.1 184 8 ∧ K.1 184 8 ≤ 47 := ttMc kT (a := 184) (j := 8) (by decide) (by decide) (by decide) (by decide)
        refine q_il (pc := 61) (i := 3) (x := t) rfl rfl ?_
        refine q_al (pc := 62) (i := 0) (x := 183) rfl rfl ?_
        refine q_gf (pc := 63) (m := 12012) (t := 2) (c := 1) rfl (ttKc kT (a := 183) (κ := 12) (len := 0) ⟨rfl, rfl⟩ (by decide) (by decide)).1 rfl rfl ?_
        rw [show K.1 183 1 = 184 from ttFx kT (by decide) (by decide) rfl rfl rfl]
        refine q_ic (pc := 64) (v := 8) rfl ?_
        refine q_ai (pc := 65) rfl (ttKc kT (a := 184) (κ := 20) (len := 196) ⟨rfl, rfl⟩ (by decide) (by decide)).1 (by omega) (by rw [(ttKc kT (a := 184) (κ := 20) (len := 196) ⟨rfl, rfl⟩ (by decide) (by decide)).2]; omega) ?_
        refine q_i2 (pc := 66) rfl (fun h66 => ?_) (fun h66 => ?_)
        · replace h66 : (K.1 184 8) < t := h66
          refine q_rv (pc := 124) rfl ?_
          exact hQ G K gF gf kT kX kF kJ
        · replace h66 : t ≤ (K.1 184 8) := h66
          refine q_ic (pc := 67) (v := 0) rfl ?_
          refine q_is (pc := 68) (i := 4) (L' := [(2, 183), (0, ls), (0, n), (0, t), (0, 0), x5, x6, x7]) rfl rfl rfl ?_
          exact hS n t t0 (by omega) (fun K x4 x5 x6 x7 a b c d => ih K (t + 1) x4 x5 x6 x7 (by omega) (by omega) (by omega) a b c d) 8 K 0 _ _ _ (by decide) (by decide) (by decide) kT kX kF kJ
    have hE : ∀ n : Int, ∀ f : Nat, ∀ (K : xH) (k : Int) (x4 x5 x6 x7 : xV), 0 ≤ k → k ≤ 3904 → 3904 - k ≤ (f : Int) → ttTI K → ttXX YY K → ttFr (true, [(204, 0, 3903), (205, 0, 7), (183, 48, 48)]) G K → (∀ j : Int, 0 ≤ j → j < k → K.1 204 j = 1000) → xW e cd_316 Q (49, [(2, 183), (0, ls), (0, n), (0, k), x4, x5, x6, x7], [], K) := by
      intro n f
      induction f with
      | zero =>
        intro K k x4 x5 x6 x7 k0 k1 hn2 kT kX kF kJ
        refine q_il (pc := 49) (i := 3) (x := k) rfl rfl ?_
        refine q_ic (pc := 50) (v := 3904) rfl ?_
        refine q_i2 (pc := 51) rfl (fun h51 => ?_) (fun h51 => ?_)
        · replace h51 : 3904 ≤ k := h51
          refine q_ic (pc := 59) (v := 0) rfl ?_
          refine q_is (pc := 60) (i := 3) (L' := [(2, 183), (0, ls), (0, n), (0, 0), x4, x5, x6, x7]) rfl rfl rfl ?_
          exact hU n 48 K 0 _ _ _ _ (by decide) (by decide) (by decide) kT kX kF (fun s p h a0 a1 ujb0 ujb1 c0 c1 => Or.inl (kJ _ (by unfold yySq; omega) (by unfold yySq; omega)))
        · replace h51 : k < 3904 := h51
          omega
      | succ f ih =>
        intro K k x4 x5 x6 x7 k0 k1 hn2 kT kX kF kJ
        refine q_il (pc := 49) (i := 3) (x := k) rfl rfl ?_
        refine q_ic (pc := 50) (v := 3904) rfl ?_
        refine q_i2 (pc := 51) rfl (fun h51 => ?_) (fun h51 => ?_)
        · replace h51 : 3904 ≤ k := h51
          refine q_ic (pc := 59) (v := 0) rfl ?_
          refine q_is (pc := 60) (i := 3) (L' := [(2, 183), (0, ls), (0, n), (0, 0), x4, x5, x6, x7]) rfl rfl rfl ?_
          exact hU n 48 K 0 _ _ _ _ (by decide) (by decide) (by decide) kT kX kF (fun s p h a0 a1 ujb0 ujb1 c0 c1 => Or.inl (kJ _ (by unfold yySq; omega) (by unfold yySq; omega)))
        · replace h51 : k < 3904 := h51
          refine q_al (pc := 52) (i := 0) (x := 183) rfl rfl ?_
          refine q_gf (pc := 53) (m := 12462) (t := 2) (c := 46) rfl (ttKc kT (a := 183) (κ := 12) (len := 0) ⟨rfl, rfl⟩ (by decide) (by decide)).1 rfl rfl ?_
          rw [show K.1 183 46 = 204 from ttFx kT (by decide) (by decide) rfl rfl rfl]
          refine q_il (pc := 54) (i := 3) (x := k) rfl rfl ?_
          refine q_ic (pc := 55) (v := 1000) rfl ?_
          refine q_si (pc := 56) rfl (by decide) (ttKc kT (a := 204) (κ := 20) (len := 3904) ⟨rfl, rfl⟩ (by decide) (by decide)).1 (by omega) (by rw [(ttKc kT (a := 204) (κ := 20) (len := 3904) ⟨rfl, rfl⟩ (by decide) (by decide)).2]; omega) ?_
          have zc := ttPut (ttXX_out yyStab (fun _ _ => trivial)) kT kX kF (a := 204) (j := k) (x := 1000) (by decide) (fun _ _ => ttTyr rfl (by decide) (by decide)) ⟨(204, 0, 3903), by simp, ⟨⟨by decide, rfl⟩, by show (0 : Int) ≤ k; omega, by show k ≤ (3903 : Int); omega⟩⟩ (ttMay_no (r := 204) rfl (by decide))
          refine q_ii (pc := 57) (i := 3) (c := 1) (x := k) (L' := [(2, 183), (0, ls), (0, n), (0, (k + 1)), x4, x5, x6, x7]) rfl rfl rfl (by omega) (by omega) rfl ?_
          refine q_go (pc := 58) rfl ?_
          exact ih _ (k + 1) _ _ _ _ (by omega) (by omega) (by omega) zc.1 zc.2.1 zc.2.2 (fun j ujj0 ujj1 => by
            by_cases z : j = k
            · subst z
              exact up_eq
            · exact (show xUp K.1 204 k 1000 204 j = _ from up_ne (fun y => z y.2)).trans (kJ j ujj0 (by omega)))
    have hB : ∀ f : Nat, ∀ (K : xH) (n p : Int) (x4 x5 x6 x7 : xV), p = 8 - (f : Int) → 0 ≤ p → 0 ≤ n → n + yyRs (G.1 184 15) f ≤ 3 → ttTI K → ttXX YY K → ttFr (true, [(204, 0, 3903), (205, 0, 7), (183, 48, 48)]) G K → xW e cd_316 Q (6, [(2, 183), (0, ls), (0, n), (0, p), x4, x5, x6, x7], [], K) := by
      intro f
      induction f with
      | zero =>
        intro K n p x4 x5 x6 x7 jp p0 n0 n3 kT kX kF
        have ujr0 := yyRs_0 (G.1 184 15) 0
        refine q_il (pc := 6) (i := 3) (x := p) rfl rfl ?_
        refine q_ic (pc := 7) (v := 8) rfl ?_
        refine q_i2 (pc := 8) rfl (fun h8 => ?_) (fun h8 => ?_)
        · replace h8 : 8 ≤ p := h8
          have sn := shl_n n0 (by omega : n ≤ 3)
          refine q_al (pc := 40) (i := 0) (x := 183) rfl rfl ?_
          refine q_ic (pc := 41) (v := 1) rfl ?_
          refine q_il (pc := 42) (i := 2) (x := n) rfl rfl ?_
          refine q_sl (pc := 43) rfl ?_
          refine q_ic (pc := 44) (v := 1) rfl ?_
          refine q_ib (pc := 45) rfl (by omega) (by omega) ?_
          have zc := ttPut (ttXX_out yyStab (fun _ _ => trivial)) kT kX kF (a := 183) (j := 48) (x := ((xShl 1 n) - 1)) (by decide) (fun _ _ => show (0 : Int) ≤ ((xShl 1 n) - 1) ∧ ((xShl 1 n) - 1) ≤ 7 from by omega) ⟨(183, 48, 48), by simp, ⟨⟨by decide, rfl⟩, by decide, by decide⟩⟩ (by intro q hq hh; obtain ⟨⟨-, c1⟩, c2, c3⟩ := hh; simp only [ttFF, List.mem_cons, List.not_mem_nil, or_false] at hq; rcases hq with rfl | rfl | rfl | rfl | rfl | rfl | rfl | rfl | rfl | rfl <;> first | exact absurd c1 (by decide) | exact absurd c2 (by decide) | exact absurd c3 (by decide))
          refine q_pf (pc := 46) (m := 12480) (c := 48) rfl (show xPt 0 0 _ _ from (ttKc kT (a := 183) (κ := 12) (len := 0) ⟨rfl, rfl⟩ (by decide) (by decide)).1) rfl ?_
          refine q_ic (pc := 47) (v := 0) rfl ?_
          refine q_is (pc := 48) (i := 3) (L' := [(2, 183), (0, ls), (0, n), (0, 0), x4, x5, x6, x7]) rfl rfl rfl ?_
          exact hE n 3904 _ 0 _ _ _ _ (by decide) (by decide) (by decide) zc.1 zc.2.1 zc.2.2 (fun j ujj0 ujj1 => by omega)
        · replace h8 : p < 8 := h8
          omega
      | succ f ih =>
        intro K n p x4 x5 x6 x7 jp p0 n0 n3 kT kX kF
        have ujr0 := yyRs_0 (G.1 184 15) f
        have n4 : n + (yyHb (G.1 184 15) (7 - (f : Int)) + yyRs (G.1 184 15) f) ≤ 3 := n3
        rw [show 7 - (f : Int) = p from by omega] at n4
        have yb := yyHb_in (G.1 184 15) p
        refine q_il (pc := 6) (i := 3) (x := p) rfl rfl ?_
        refine q_ic (pc := 7) (v := 8) rfl ?_
        refine q_i2 (pc := 8) rfl (fun h8 => ?_) (fun h8 => ?_)
        · replace h8 : 8 ≤ p := h8
          omega
        · replace h8 : p < 8 := h8
          refine q_al (pc := 9) (i := 0) (x := 183) rfl rfl ?_
          refine q_gf (pc := 10) (m := 12472) (t := 2) (c := 47) rfl (ttKc kT (a := 183) (κ := 12) (len := 0) ⟨rfl, rfl⟩ (by decide) (by decide)).1 rfl rfl ?_
          rw [show K.1 183 47 = 205 from ttFx kT (by decide) (by decide) rfl rfl rfl]
          refine q_il (pc := 11) (i := 3) (x := p) rfl rfl ?_
          refine q_al (pc := 12) (i := 0) (x := 183) rfl rfl ?_
          refine q_gf (pc := 13) (m := 12012) (t := 2) (c := 1) rfl (ttKc kT (a := 183) (κ := 12) (len := 0) ⟨rfl, rfl⟩ (by decide) (by decide)).1 rfl rfl ?_
          rw [show K.1 183 1 = 184 from ttFx kT (by decide) (by decide) rfl rfl rfl]
          refine q_ic (pc := 14) (v := 15) rfl ?_
          refine q_ai (pc := 15) rfl (ttKc kT (a := 184) (κ := 20) (len := 196) ⟨rfl, rfl⟩ (by decide) (by decide)).1 (by omega) (by rw [(ttKc kT (a := 184) (κ := 20) (len := 196) ⟨rfl, rfl⟩ (by decide) (by decide)).2]; omega) ?_
          rw [show K.1 184 15 = G.1 184 15 from kw K kF 15]
          refine q_il (pc := 16) (i := 3) (x := p) rfl rfl ?_
          refine q_ij (pc := 17) (q := 1623928) rfl rfl rfl trivial ?_
          refine lf_holds (by omega) (fun jb17 => ?_) (fun jb17 => ?_)
          · skip
            refine q_if (pc := 18) rfl (fun h18 => ?_) (fun h18 => ?_)
            · replace h18 : (1 : Int) = 0 := h18
              omega
            · replace h18 : (1 : Int) ≠ 0 := h18
              refine q_ic (pc := 19) (v := 1) rfl ?_
              refine q_il (pc := 20) (i := 2) (x := n) rfl rfl ?_
              refine q_sl (pc := 21) rfl ?_
              refine q_go (pc := 22) rfl ?_
              refine q_si (pc := 24) rfl (by decide) (ttKc kT (a := 205) (κ := 20) (len := 8) ⟨rfl, rfl⟩ (by decide) (by decide)).1 (by omega) (by rw [(ttKc kT (a := 205) (κ := 20) (len := 8) ⟨rfl, rfl⟩ (by decide) (by decide)).2]; omega) ?_
              have sn := shl_n n0 (by omega : n ≤ 3)
              have zc := ttPut (ttXX_out yyStab (fun _ _ => trivial)) kT kX kF (a := 205) (j := p) (x := (xShl 1 n)) (by decide) (fun _ _ => ttTyr rfl (by omega) (by omega)) ⟨(205, 0, 7), by simp, ⟨⟨by decide, rfl⟩, by show (0 : Int) ≤ p; omega, by show p ≤ (7 : Int); omega⟩⟩ (ttMay_no (r := 205) rfl (by decide))
              obtain ⟨ujZ1, ujzk1⟩ : ∃ X : xH, X = (xUp K.1 205 p (xShl 1 n), K.2) := ⟨_, rfl⟩
              rw [← ujzk1] at zc ⊢
              refine q_il (pc := 25) (i := 2) (x := n) rfl rfl ?_
              refine q_al (pc := 26) (i := 0) (x := 183) rfl rfl ?_
              refine q_gf (pc := 27) (m := 12012) (t := 2) (c := 1) rfl (ttKc zc.1 (a := 183) (κ := 12) (len := 0) ⟨rfl, rfl⟩ (by decide) (by decide)).1 rfl rfl ?_
              rw [show ujZ1.1 183 1 = 184 from ttFx zc.1 (by decide) (by decide) rfl rfl rfl]
              refine q_ic (pc := 28) (v := 15) rfl ?_
              refine q_ai (pc := 29) rfl (ttKc zc.1 (a := 184) (κ := 20) (len := 196) ⟨rfl, rfl⟩ (by decide) (by decide)).1 (by omega) (by rw [(ttKc zc.1 (a := 184) (κ := 20) (len := 196) ⟨rfl, rfl⟩ (by decide) (by decide)).2]; omega) ?_
              rw [show ujZ1.1 184 15 = G.1 184 15 from kw _ zc.2.2 15]
              refine q_il (pc := 30) (i := 3) (x := p) rfl rfl ?_
              refine q_ij (pc := 31) (q := 1623928) rfl rfl rfl trivial ?_
              refine lf_holds (by omega) (fun jb31 => ?_) (fun jb31 => ?_)
              · skip
                refine q_if (pc := 32) rfl (fun h32 => ?_) (fun h32 => ?_)
                · replace h32 : (1 : Int) = 0 := h32
                  omega
                · replace h32 : (1 : Int) ≠ 0 := h32
                  refine q_ic (pc := 33) (v := 1) rfl ?_
                  refine q_go (pc := 34) rfl ?_
                  refine q_ia (pc := 36) rfl (by omega) (by omega) ?_
                  refine q_is (pc := 37) (i := 2) (L' := [(2, 183), (0, ls), (0, (n + 1)), (0, p), x4, x5, x6, x7]) rfl rfl rfl ?_
                  refine q_ii (pc := 38) (i := 3) (c := 1) (x := p) (L' := [(2, 183), (0, ls), (0, (n + 1)), (0, (p + 1)), x4, x5, x6, x7]) rfl rfl rfl (by omega) (by omega) rfl ?_
                  refine q_go (pc := 39) rfl ?_
                  exact ih ujZ1 _ (p + 1) _ _ _ _ (by omega) (by omega) (by omega) (by omega) zc.1 zc.2.1 zc.2.2
              · skip
                refine q_if (pc := 32) rfl (fun h32 => ?_) (fun h32 => ?_)
                · replace h32 : (0 : Int) = 0 := h32
                  refine q_ic (pc := 35) (v := 0) rfl ?_
                  refine q_ia (pc := 36) rfl (by omega) (by omega) ?_
                  refine q_is (pc := 37) (i := 2) (L' := [(2, 183), (0, ls), (0, (n + 0)), (0, p), x4, x5, x6, x7]) rfl rfl rfl ?_
                  refine q_ii (pc := 38) (i := 3) (c := 1) (x := p) (L' := [(2, 183), (0, ls), (0, (n + 0)), (0, (p + 1)), x4, x5, x6, x7]) rfl rfl rfl (by omega) (by omega) rfl ?_
                  refine q_go (pc := 39) rfl ?_
                  exact ih ujZ1 _ (p + 1) _ _ _ _ (by omega) (by omega) (by omega) (by omega) zc.1 zc.2.1 zc.2.2
                · replace h32 : (0 : Int) ≠ 0 := h32
                  omega
          · skip
            refine q_if (pc := 18) rfl (fun h18 => ?_) (fun h18 => ?_)
            · replace h18 : (0 : Int) = 0 := h18
              refine q_ic (pc := 23) (v := 0) rfl ?_
              refine q_si (pc := 24) rfl (by decide) (ttKc kT (a := 205) (κ := 20) (len := 8) ⟨rfl, rfl⟩ (by decide) (by decide)).1 (by omega) (by rw [(ttKc kT (a := 205) (κ := 20) (len := 8) ⟨rfl, rfl⟩ (by decide) (by decide)).2]; omega) ?_
              have zc := ttPut (ttXX_out yyStab (fun _ _ => trivial)) kT kX kF (a := 205) (j := p) (x := 0) (by decide) (fun _ _ => ttTyr rfl (by omega) (by omega)) ⟨(205, 0, 7), by simp, ⟨⟨by decide, rfl⟩, by show (0 : Int) ≤ p; omega, by show p ≤ (7 : Int); omega⟩⟩ (ttMay_no (r := 205) rfl (by decide))
              obtain ⟨ujZ0, ujzk0⟩ : ∃ X : xH, X = (xUp K.1 205 p 0, K.2) := ⟨_, rfl⟩
              rw [← ujzk0] at zc ⊢
              refine q_il (pc := 25) (i := 2) (x := n) rfl rfl ?_
              refine q_al (pc := 26) (i := 0) (x := 183) rfl rfl ?_
              refine q_gf (pc := 27) (m := 12012) (t := 2) (c := 1) rfl (ttKc zc.1 (a := 183) (κ := 12) (len := 0) ⟨rfl, rfl⟩ (by decide) (by decide)).1 rfl rfl ?_
              rw [show ujZ0.1 183 1 = 184 from ttFx zc.1 (by decide) (by decide) rfl rfl rfl]
              refine q_ic (pc := 28) (v := 15) rfl ?_
              refine q_ai (pc := 29) rfl (ttKc zc.1 (a := 184) (κ := 20) (len := 196) ⟨rfl, rfl⟩ (by decide) (by decide)).1 (by omega) (by rw [(ttKc zc.1 (a := 184) (κ := 20) (len := 196) ⟨rfl, rfl⟩ (by decide) (by decide)).2]; omega) ?_
              rw [show ujZ0.1 184 15 = G.1 184 15 from kw _ zc.2.2 15]
              refine q_il (pc := 30) (i := 3) (x := p) rfl rfl ?_
              refine q_ij (pc := 31) (q := 1623928) rfl rfl rfl trivial ?_
              refine lf_holds (by omega) (fun jb31 => ?_) (fun jb31 => ?_)
              · skip
                refine q_if (pc := 32) rfl (fun h32 => ?_) (fun h32 => ?_)
                · replace h32 : (1 : Int) = 0 := h32
                  omega
                · replace h32 : (1 : Int) ≠ 0 := h32
                  refine q_ic (pc := 33) (v := 1) rfl ?_
                  refine q_go (pc := 34) rfl ?_
                  refine q_ia (pc := 36) rfl (by omega) (by omega) ?_
                  refine q_is (pc := 37) (i := 2) (L' := [(2, 183), (0, ls), (0, (n + 1)), (0, p), x4, x5, x6, x7]) rfl rfl rfl ?_
                  refine q_ii (pc := 38) (i := 3) (c := 1) (x := p) (L' := [(2, 183), (0, ls), (0, (n + 1)), (0, (p + 1)), x4, x5, x6, x7]) rfl rfl rfl (by omega) (by omega) rfl ?_
                  refine q_go (pc := 39) rfl ?_
                  exact ih ujZ0 _ (p + 1) _ _ _ _ (by omega) (by omega) (by omega) (by omega) zc.1 zc.2.1 zc.2.2
              · skip
                refine q_if (pc := 32) rfl (fun h32 => ?_) (fun h32 => ?_)
                · replace h32 : (0 : Int) = 0 := h32
                  refine q_ic (pc := 35) (v := 0) rfl ?_
                  refine q_ia (pc := 36) rfl (by omega) (by omega) ?_
                  refine q_is (pc := 37) (i := 2) (L' := [(2, 183), (0, ls), (0, (n + 0)), (0, p), x4, x5, x6, x7]) rfl rfl rfl ?_
                  refine q_ii (pc := 38) (i := 3) (c := 1) (x := p) (L' := [(2, 183), (0, ls), (0, (n + 0)), (0, (p + 1)), x4, x5, x6, x7]) rfl rfl rfl (by omega) (by omega) rfl ?_
                  refine q_go (pc := 39) rfl ?_
                  exact ih ujZ0 _ (p + 1) _ _ _ _ (by omega) (by omega) (by omega) (by omega) zc.1 zc.2.1 zc.2.2
                · replace h32 : (0 : Int) ≠ 0 := h32
                  omega
            · replace h18 : (0 : Int) ≠ 0 := h18
              omega
    have gy := gX.2.2.1.2.1
    rw [show (0 + 15 : Int) = 15 from rfl, ← yyRs_P] at gy
    exact hB 8 G 0 0 _ _ _ _ rfl (by decide) (by decide) (by omega) gT gX (ttFr_rf _ G)
  refine xC_of (L := [(2, 183), (0, ls), (9, 0), (9, 0), (9, 0), (9, 0), (9, 0), (9, 0)]) (cd := cd_316) rfl rfl rfl ?_
  refine q_al (pc := 0) (i := 0) (x := 183) rfl rfl ?_
  refine q_iv (pc := 1) (q := 2000967) rfl rfl rfl (ttKc hT (a := 183) (κ := 12) (len := 0) ⟨rfl, rfl⟩ (by decide) (by decide)).1 ?_
  refine lf_laysWays (by omega) hT hX (fun G gT gX gF gf _ => ?_)
  refine q_ic (pc := 2) (v := 0) rfl ?_
  refine q_is (pc := 3) (i := 2) (L' := [(2, 183), (0, ls), (0, 0), (9, 0), (9, 0), (9, 0), (9, 0), (9, 0)]) rfl rfl rfl ?_
  refine q_ic (pc := 4) (v := 0) rfl ?_
  refine q_is (pc := 5) (i := 3) (L' := [(2, 183), (0, ls), (0, 0), (0, 0), (9, 0), (9, 0), (9, 0), (9, 0)]) rfl rfl rfl ?_
  exact hG G gT gX gF gf
theorem hm_reckons : ttHas (ttXX YY) m_reckons := by
  intro dd hdd vs H hT hX ha _ Q hQ
  obtain ⟨x1, vs, rfl, e1, ha⟩ := ttV1 ha
  obtain ⟨x2, vs, rfl, e2, ha⟩ := ttV1 ha
  cases ttV0 ha
  cases ttPk e1
  exact lf_reckons (Nat.le_trans (by decide) hdd) hT hX (fun G K gF _ kT kX kF _ => hQ 0 K kT kX (ttFr_tr (ttFr_tr (ef := (true, [(204, 0, 3903), (205, 0, 7), (183, 22, 22), (183, 48, 48), (190, 0, 15), (191, 0, 4799)])) (ttFr_rf _ _) gF (fun _ => rfl) (by decide)) kF (fun _ => rfl) (by decide)) ⟨_, List.mem_cons_self, ttPk_of rfl⟩ (fun q hq => absurd hq List.not_mem_nil))
