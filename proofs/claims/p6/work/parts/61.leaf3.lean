/-! leaves for deeds -/
theorem lf_state {dd : Nat} {p h t x w : Int} (hd : 1 ≤ dd) {H : xH} (p0 : 0 ≤ p) (p1 : p ≤ 7) (h0 : 0 ≤ h) (h1 : h ≤ 60) (t0 : 0 ≤ t) (t1 : t ≤ 47) (x0 : 0 ≤ x) (x1 : x ≤ 1) (w0 : 0 ≤ w) (w1 : w ≤ 1) {Q : Int → xH → Prop} (hQ : Q (yyX p h t x w) H) : xCall dd 267 [(0, p), (0, h), (0, t), (0, x), (0, w)] H Q := by
  obtain ⟨e, rfl, he⟩ := ttRun0 (n := 0) hd
  refine xC_of (L := [(0, p), (0, h), (0, t), (0, x), (0, w)]) (cd := cd_267) rfl rfl rfl ?_
  refine q_ic (pc := 0) (v := 61) rfl ?_
  refine q_il (pc := 1) (i := 0) (x := p) rfl rfl ?_
  refine q_im (pc := 2) rfl (by omega) (by omega) ?_
  refine q_il (pc := 3) (i := 1) (x := h) rfl rfl ?_
  refine q_ia (pc := 4) rfl (by omega) (by omega) ?_
  refine q_ic (pc := 5) (v := 48) rfl ?_
  refine q_im (pc := 6) rfl (by omega) (by omega) ?_
  refine q_il (pc := 7) (i := 2) (x := t) rfl rfl ?_
  refine q_ia (pc := 8) rfl (by omega) (by omega) ?_
  refine q_ic (pc := 9) (v := 4) rfl ?_
  refine q_im (pc := 10) rfl (by omega) (by omega) ?_
  refine q_ic (pc := 11) (v := 2) rfl ?_
  refine q_il (pc := 12) (i := 3) (x := x) rfl rfl ?_
  refine q_im (pc := 13) rfl (by omega) (by omega) ?_
  refine q_ia (pc := 14) rfl (by omega) (by omega) ?_
  refine q_il (pc := 15) (i := 4) (x := w) rfl rfl ?_
  refine q_ia (pc := 16) rfl (by omega) (by omega) ?_
  refine q_ri (pc := 17) rfl ?_
  exact hQ
theorem lf_hasStart {dd : Nat} (hd : 1 ≤ dd) {H : xH} (hT : ttTI H) {Q : Int → xH → Prop} (hy : H.1 184 12 ≠ -1 → Q 1 H) (hn : H.1 184 12 = -1 → Q 0 H) : xCall dd 281 [(2, 183)] H Q := by
  obtain ⟨e, rfl, he⟩ := ttRun0 (n := 0) hd
  refine xC_of (L := [(2, 183)]) (cd := cd_281) rfl rfl rfl ?_
  refine q_al (pc := 0) (i := 0) (x := 183) rfl rfl ?_
  refine q_gf (pc := 1) (m := 12012) (t := 2) (c := 1) rfl (ttKc hT (a := 183) (κ := 12) (len := 0) ⟨rfl, rfl⟩ (by decide) (by decide)).1 rfl rfl ?_
  rw [show H.1 183 1 = 184 from ttFx hT (by decide) (by decide) rfl rfl rfl]
  refine q_ic (pc := 2) (v := 12) rfl ?_
  refine q_ai (pc := 3) rfl (ttKc hT (a := 184) (κ := 20) (len := 196) ⟨rfl, rfl⟩ (by decide) (by decide)).1 (by omega) (by rw [(ttKc hT (a := 184) (κ := 20) (len := 196) ⟨rfl, rfl⟩ (by decide) (by decide)).2]; omega) ?_
  refine q_ic (pc := 4) (v := (-1)) rfl ?_
  refine q_i2 (pc := 5) rfl (fun h5 => ?_) (fun h5 => ?_)
  · replace h5 : (H.1 184 12) = (-1) := h5
    refine q_ic (pc := 8) (v := 0) rfl ?_
    refine q_rz (pc := 9) rfl (by omega) ?_
    first | exact hy (by omega) | exact hn (by omega)
  · replace h5 : (H.1 184 12) ≠ (-1) := h5
    refine q_ic (pc := 6) (v := 1) rfl ?_
    refine q_go (pc := 7) rfl ?_
    refine q_rz (pc := 9) rfl (by omega) ?_
    first | exact hy (by omega) | exact hn (by omega)
theorem lf_startWet {dd : Nat} (hd : 1 ≤ dd) {H : xH} (hT : ttTI H) {Q : Int → xH → Prop} (hy : 0 < H.1 184 6 → Q 1 H) (hn : Q 0 H) : xCall dd 282 [(2, 183)] H Q := by
  obtain ⟨e, rfl, he⟩ := ttRun0 (n := 0) hd
  refine xC_of (L := [(2, 183)]) (cd := cd_282) rfl rfl rfl ?_
  refine q_al (pc := 0) (i := 0) (x := 183) rfl rfl ?_
  refine q_gf (pc := 1) (m := 12012) (t := 2) (c := 1) rfl (ttKc hT (a := 183) (κ := 12) (len := 0) ⟨rfl, rfl⟩ (by decide) (by decide)).1 rfl rfl ?_
  rw [show H.1 183 1 = 184 from ttFx hT (by decide) (by decide) rfl rfl rfl]
  refine q_ic (pc := 2) (v := 14) rfl ?_
  refine q_ai (pc := 3) rfl (ttKc hT (a := 184) (κ := 20) (len := 196) ⟨rfl, rfl⟩ (by decide) (by decide)).1 (by omega) (by rw [(ttKc hT (a := 184) (κ := 20) (len := 196) ⟨rfl, rfl⟩ (by decide) (by decide)).2]; omega) ?_
  refine q_ic (pc := 4) (v := 1) rfl ?_
  refine q_i2 (pc := 5) rfl (fun h5 => ?_) (fun h5 => ?_)
  · replace h5 : (H.1 184 14) ≠ 1 := h5
    refine q_ic (pc := 13) (v := 0) rfl ?_
    refine q_ri (pc := 14) rfl ?_
    first | exact hn | exact hy (by omega)
  · replace h5 : (H.1 184 14) = 1 := h5
    refine q_al (pc := 6) (i := 0) (x := 183) rfl rfl ?_
    refine q_gf (pc := 7) (m := 12012) (t := 2) (c := 1) rfl (ttKc hT (a := 183) (κ := 12) (len := 0) ⟨rfl, rfl⟩ (by decide) (by decide)).1 rfl rfl ?_
    rw [show H.1 183 1 = 184 from ttFx hT (by decide) (by decide) rfl rfl rfl]
    refine q_ic (pc := 8) (v := 6) rfl ?_
    refine q_ai (pc := 9) rfl (ttKc hT (a := 184) (κ := 20) (len := 196) ⟨rfl, rfl⟩ (by decide) (by decide)).1 (by omega) (by rw [(ttKc hT (a := 184) (κ := 20) (len := 196) ⟨rfl, rfl⟩ (by decide) (by decide)).2]; omega) ?_
    refine q_if (pc := 10) rfl (fun h10 => ?_) (fun h10 => ?_)
    · replace h10 : (H.1 184 6) ≤ 0 := h10
      refine q_ic (pc := 13) (v := 0) rfl ?_
      refine q_ri (pc := 14) rfl ?_
      first | exact hn | exact hy (by omega)
    · replace h10 : 0 < (H.1 184 6) := h10
      refine q_ic (pc := 11) (v := 1) rfl ?_
      refine q_go (pc := 12) rfl ?_
      refine q_ri (pc := 14) rfl ?_
      first | exact hn | exact hy (by omega)
theorem lf_wayOf {dd : Nat} {p w d i r : Int} (hr : r = 2 * p + w) (hd : 1 ≤ dd) {H : xH} (hT : ttTI H) (p0 : 0 ≤ p) (p1 : p ≤ 7) (w0 : 0 ≤ w) (w1 : w ≤ 1) (i0 : 0 ≤ i) (i1 : i < 60) (i2 : i < H.1 190 r) (hc : d = 100 + (10 * H.1 191 (300 * r + 5 * i) + H.1 191 (300 * r + 5 * i + 1))) (ho : ∀ j : Int, 0 ≤ j → j < i → 10 * H.1 191 (300 * r + 5 * j) + H.1 191 (300 * r + 5 * j + 1) < 10 * H.1 191 (300 * r + 5 * i) + H.1 191 (300 * r + 5 * i + 1)) {Q : Int → xH → Prop} (hQ : Q (300 * r + 5 * i) H) : xCall dd 293 [(2, 183), (0, p), (0, w), (0, d)] H Q := by
  obtain ⟨e, rfl, he⟩ := ttRun0 (n := 0) hd
  have hl : ∀ n : Nat, ∀ (j : Int) (x6 : xV), 0 ≤ j → j ≤ i → i - j ≤ (n : Int) → xW e cd_293 Q (8, [(2, 183), (0, p), (0, w), (0, d), (0, r), (0, j), x6], [], H) := by
    intro n
    induction n with
    | zero =>
      intro j x6 j0 j1 hn2
      obtain ⟨zt0, zt1, -, -, -⟩ := wy_ty hT (k := 300 * r + 5 * j) (by omega) (by omega) (by omega)
      refine q_il (pc := 8) (i := 5) (x := j) rfl rfl ?_
      refine q_al (pc := 9) (i := 0) (x := 183) rfl rfl ?_
      refine q_gf (pc := 10) (m := 12202) (t := 2) (c := 20) rfl (ttKc hT (a := 183) (κ := 12) (len := 0) ⟨rfl, rfl⟩ (by decide) (by decide)).1 rfl rfl ?_
      rw [show H.1 183 20 = 190 from ttFx hT (by decide) (by decide) rfl rfl rfl]
      refine q_il (pc := 11) (i := 4) (x := r) rfl rfl ?_
      refine q_ai (pc := 12) rfl (ttKc hT (a := 190) (κ := 20) (len := 16) ⟨rfl, rfl⟩ (by decide) (by decide)).1 (by omega) (by rw [(ttKc hT (a := 190) (κ := 20) (len := 16) ⟨rfl, rfl⟩ (by decide) (by decide)).2]; omega) ?_
      refine q_i2 (pc := 13) rfl (fun h13 => ?_) (fun h13 => ?_)
      · replace h13 : (H.1 190 r) ≤ j := h13
        omega
      · replace h13 : j < (H.1 190 r) := h13
        refine q_ic (pc := 14) (v := 300) rfl ?_
        refine q_il (pc := 15) (i := 4) (x := r) rfl rfl ?_
        refine q_im (pc := 16) rfl (by omega) (by omega) ?_
        refine q_ic (pc := 17) (v := 5) rfl ?_
        refine q_il (pc := 18) (i := 5) (x := j) rfl rfl ?_
        refine q_im (pc := 19) rfl (by omega) (by omega) ?_
        refine q_ia (pc := 20) rfl (by omega) (by omega) ?_
        refine q_is (pc := 21) (i := 6) (L' := [(2, 183), (0, p), (0, w), (0, d), (0, r), (0, j), (0, ((300 * r) + (5 * j)))]) rfl rfl rfl ?_
        refine q_ic (pc := 22) (v := 100) rfl ?_
        refine q_ic (pc := 23) (v := 10) rfl ?_
        refine q_al (pc := 24) (i := 0) (x := 183) rfl rfl ?_
        refine q_gf (pc := 25) (m := 12212) (t := 2) (c := 21) rfl (ttKc hT (a := 183) (κ := 12) (len := 0) ⟨rfl, rfl⟩ (by decide) (by decide)).1 rfl rfl ?_
        rw [show H.1 183 21 = 191 from ttFx hT (by decide) (by decide) rfl rfl rfl]
        refine q_il (pc := 26) (i := 6) (x := ((300 * r) + (5 * j))) rfl rfl ?_
        refine q_ai (pc := 27) rfl (ttKc hT (a := 191) (κ := 20) (len := 4800) ⟨rfl, rfl⟩ (by decide) (by decide)).1 (by omega) (by rw [(ttKc hT (a := 191) (κ := 20) (len := 4800) ⟨rfl, rfl⟩ (by decide) (by decide)).2]; omega) ?_
        refine q_im (pc := 28) rfl (by omega) (by omega) ?_
        refine q_ia (pc := 29) rfl (by omega) (by omega) ?_
        refine q_al (pc := 30) (i := 0) (x := 183) rfl rfl ?_
        refine q_gf (pc := 31) (m := 12212) (t := 2) (c := 21) rfl (ttKc hT (a := 183) (κ := 12) (len := 0) ⟨rfl, rfl⟩ (by decide) (by decide)).1 rfl rfl ?_
        rw [show H.1 183 21 = 191 from ttFx hT (by decide) (by decide) rfl rfl rfl]
        refine q_il (pc := 32) (i := 6) (x := ((300 * r) + (5 * j))) rfl rfl ?_
        refine q_ic (pc := 33) (v := 1) rfl ?_
        refine q_ia (pc := 34) rfl (by omega) (by omega) ?_
        refine q_ai (pc := 35) rfl (ttKc hT (a := 191) (κ := 20) (len := 4800) ⟨rfl, rfl⟩ (by decide) (by decide)).1 (by omega) (by rw [(ttKc hT (a := 191) (κ := 20) (len := 4800) ⟨rfl, rfl⟩ (by decide) (by decide)).2]; omega) ?_
        refine q_ia (pc := 36) rfl (by omega) (by omega) ?_
        refine q_il (pc := 37) (i := 3) (x := d) rfl rfl ?_
        refine q_i2 (pc := 38) rfl (fun h38 => ?_) (fun h38 => ?_)
        · replace h38 : ((100 + (10 * (H.1 191 ((300 * r) + (5 * j))))) + (H.1 191 (((300 * r) + (5 * j)) + 1))) ≠ d := h38
          have zj : j = i := by omega
          rw [zj] at h38
          omega
        · replace h38 : ((100 + (10 * (H.1 191 ((300 * r) + (5 * j))))) + (H.1 191 (((300 * r) + (5 * j)) + 1))) = d := h38
          refine q_il (pc := 39) (i := 6) (x := ((300 * r) + (5 * j))) rfl rfl ?_
          refine q_ri (pc := 40) rfl ?_
          have zj : j = i := by
            by_cases z : j = i
            · exact z
            · have := ho j j0 (by omega)
              omega
          rw [zj]
          exact hQ
    | succ n ih =>
      intro j x6 j0 j1 hn2
      obtain ⟨zt0, zt1, -, -, -⟩ := wy_ty hT (k := 300 * r + 5 * j) (by omega) (by omega) (by omega)
      refine q_il (pc := 8) (i := 5) (x := j) rfl rfl ?_
      refine q_al (pc := 9) (i := 0) (x := 183) rfl rfl ?_
      refine q_gf (pc := 10) (m := 12202) (t := 2) (c := 20) rfl (ttKc hT (a := 183) (κ := 12) (len := 0) ⟨rfl, rfl⟩ (by decide) (by decide)).1 rfl rfl ?_
      rw [show H.1 183 20 = 190 from ttFx hT (by decide) (by decide) rfl rfl rfl]
      refine q_il (pc := 11) (i := 4) (x := r) rfl rfl ?_
      refine q_ai (pc := 12) rfl (ttKc hT (a := 190) (κ := 20) (len := 16) ⟨rfl, rfl⟩ (by decide) (by decide)).1 (by omega) (by rw [(ttKc hT (a := 190) (κ := 20) (len := 16) ⟨rfl, rfl⟩ (by decide) (by decide)).2]; omega) ?_
      refine q_i2 (pc := 13) rfl (fun h13 => ?_) (fun h13 => ?_)
      · replace h13 : (H.1 190 r) ≤ j := h13
        omega
      · replace h13 : j < (H.1 190 r) := h13
        refine q_ic (pc := 14) (v := 300) rfl ?_
        refine q_il (pc := 15) (i := 4) (x := r) rfl rfl ?_
        refine q_im (pc := 16) rfl (by omega) (by omega) ?_
        refine q_ic (pc := 17) (v := 5) rfl ?_
        refine q_il (pc := 18) (i := 5) (x := j) rfl rfl ?_
        refine q_im (pc := 19) rfl (by omega) (by omega) ?_
        refine q_ia (pc := 20) rfl (by omega) (by omega) ?_
        refine q_is (pc := 21) (i := 6) (L' := [(2, 183), (0, p), (0, w), (0, d), (0, r), (0, j), (0, ((300 * r) + (5 * j)))]) rfl rfl rfl ?_
        refine q_ic (pc := 22) (v := 100) rfl ?_
        refine q_ic (pc := 23) (v := 10) rfl ?_
        refine q_al (pc := 24) (i := 0) (x := 183) rfl rfl ?_
        refine q_gf (pc := 25) (m := 12212) (t := 2) (c := 21) rfl (ttKc hT (a := 183) (κ := 12) (len := 0) ⟨rfl, rfl⟩ (by decide) (by decide)).1 rfl rfl ?_
        rw [show H.1 183 21 = 191 from ttFx hT (by decide) (by decide) rfl rfl rfl]
        refine q_il (pc := 26) (i := 6) (x := ((300 * r) + (5 * j))) rfl rfl ?_
        refine q_ai (pc := 27) rfl (ttKc hT (a := 191) (κ := 20) (len := 4800) ⟨rfl, rfl⟩ (by decide) (by decide)).1 (by omega) (by rw [(ttKc hT (a := 191) (κ := 20) (len := 4800) ⟨rfl, rfl⟩ (by decide) (by decide)).2]; omega) ?_
        refine q_im (pc := 28) rfl (by omega) (by omega) ?_
        refine q_ia (pc := 29) rfl (by omega) (by omega) ?_
        refine q_al (pc := 30) (i := 0) (x := 183) rfl rfl ?_
        refine q_gf (pc := 31) (m := 12212) (t := 2) (c := 21) rfl (ttKc hT (a := 183) (κ := 12) (len := 0) ⟨rfl, rfl⟩ (by decide) (by decide)).1 rfl rfl ?_
        rw [show H.1 183 21 = 191 from ttFx hT (by decide) (by decide) rfl rfl rfl]
        refine q_il (pc := 32) (i := 6) (x := ((300 * r) + (5 * j))) rfl rfl ?_
        refine q_ic (pc := 33) (v := 1) rfl ?_
        refine q_ia (pc := 34) rfl (by omega) (by omega) ?_
        refine q_ai (pc := 35) rfl (ttKc hT (a := 191) (κ := 20) (len := 4800) ⟨rfl, rfl⟩ (by decide) (by decide)).1 (by omega) (by rw [(ttKc hT (a := 191) (κ := 20) (len := 4800) ⟨rfl, rfl⟩ (by decide) (by decide)).2]; omega) ?_
        refine q_ia (pc := 36) rfl (by omega) (by omega) ?_
        refine q_il (pc := 37) (i := 3) (x := d) rfl rfl ?_
        refine q_i2 (pc := 38) rfl (fun h38 => ?_) (fun h38 => ?_)
        · replace h38 : ((100 + (10 * (H.1 191 ((300 * r) + (5 * j))))) + (H.1 191 (((300 * r) + (5 * j)) + 1))) ≠ d := h38
          by_cases zj : j = i
          · rw [zj] at h38
            omega
          · refine q_ii (pc := 41) (i := 5) (c := 1) (x := j) (L' := [(2, 183), (0, p), (0, w), (0, d), (0, r), (0, (j + 1)), (0, ((300 * r) + (5 * j)))]) rfl rfl rfl (by omega) (by omega) rfl ?_
            refine q_go (pc := 42) rfl ?_
            exact ih (j + 1) _ (by omega) (by omega) (by omega)
        · replace h38 : ((100 + (10 * (H.1 191 ((300 * r) + (5 * j))))) + (H.1 191 (((300 * r) + (5 * j)) + 1))) = d := h38
          refine q_il (pc := 39) (i := 6) (x := ((300 * r) + (5 * j))) rfl rfl ?_
          refine q_ri (pc := 40) rfl ?_
          have zj : j = i := by
            by_cases z : j = i
            · exact z
            · have := ho j j0 (by omega)
              omega
          rw [zj]
          exact hQ
  refine xC_of (L := [(2, 183), (0, p), (0, w), (0, d), (9, 0), (9, 0), (9, 0)]) (cd := cd_293) rfl rfl rfl ?_
  refine q_ic (pc := 0) (v := 2) rfl ?_
  refine q_il (pc := 1) (i := 1) (x := p) rfl rfl ?_
  refine q_im (pc := 2) rfl (by omega) (by omega) ?_
  refine q_il (pc := 3) (i := 2) (x := w) rfl rfl ?_
  refine q_ia (pc := 4) rfl (by omega) (by omega) ?_
  rw [← hr]
  refine q_is (pc := 5) (i := 4) (L' := [(2, 183), (0, p), (0, w), (0, d), (0, r), (9, 0), (9, 0)]) rfl rfl rfl ?_
  refine q_ic (pc := 6) (v := 0) rfl ?_
  refine q_is (pc := 7) (i := 5) (L' := [(2, 183), (0, p), (0, w), (0, d), (0, r), (0, 0), (9, 0)]) rfl rfl rfl ?_
  exact hl i.toNat 0 _ (by decide) i0 (by omega)
