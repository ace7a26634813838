/-! leaves, as functions -/
theorem lf_in {dd : Nat} (hd : 1 ≤ dd) {v l h : Int} {H : xH} {Q : Int → xH → Prop} (hy : l ≤ v ∧ v ≤ h → Q 1 H) (hn : ¬ (l ≤ v ∧ v ≤ h) → Q 0 H) : xCall dd 201 [(1, v), (1, l), (1, h)] H Q := by
  obtain ⟨e, rfl, he⟩ := ttRun0 (n := 0) hd
  refine xC_of (L := [(1, v), (9, 0), (1, l), (9, 0), (1, h), (9, 0)]) (cd := cd_201) rfl rfl rfl ?_
  refine q_ll (pc := 0) (i := 0) (x := v) rfl rfl ?_
  refine q_ll (pc := 1) (i := 2) (x := l) rfl rfl ?_
  refine q_lcm (pc := 2) rfl rfl (fun h2 => ?_) (fun h2 => ?_)
  · replace h2 : v < l := h2
    refine q_ic (pc := 10) (v := 0) rfl ?_
    refine q_rz (pc := 11) rfl (by omega) ?_
    first | exact hy (by omega) | exact hn (by omega)
  · replace h2 : l ≤ v := h2
    refine q_ll (pc := 4) (i := 0) (x := v) rfl rfl ?_
    refine q_ll (pc := 5) (i := 4) (x := h) rfl rfl ?_
    refine q_lcm (pc := 6) rfl rfl (fun h6 => ?_) (fun h6 => ?_)
    · replace h6 : h < v := h6
      refine q_ic (pc := 10) (v := 0) rfl ?_
      refine q_rz (pc := 11) rfl (by omega) ?_
      first | exact hy (by omega) | exact hn (by omega)
    · replace h6 : v ≤ h := h6
      refine q_ic (pc := 8) (v := 1) rfl ?_
      refine q_go (pc := 9) rfl ?_
      refine q_rz (pc := 11) rfl (by omega) ?_
      first | exact hy (by omega) | exact hn (by omega)
theorem lf_slot {dd : Nat} (hd : 1 ≤ dd) {x : Int} {H : xH} {Q : Int → xH → Prop} (hy : 0 ≤ x ∧ x ≤ 3 → Q 1 H) (hn : ¬ (0 ≤ x ∧ x ≤ 3) → Q 0 H) : xCall dd 195 [(0, x)] H Q := by
  obtain ⟨e, rfl, he⟩ := ttRun0 (n := 0) hd
  refine xC_of (L := [(0, x)]) (cd := cd_195) rfl rfl rfl ?_
  refine q_il (pc := 0) (i := 0) (x := x) rfl rfl ?_
  refine q_if (pc := 1) rfl (fun h1 => ?_) (fun h1 => ?_)
  · replace h1 : x < 0 := h1
    refine q_ic (pc := 7) (v := 0) rfl ?_
    refine q_rz (pc := 8) rfl (by omega) ?_
    first | exact hy (by omega) | exact hn (by omega)
  · replace h1 : 0 ≤ x := h1
    refine q_il (pc := 2) (i := 0) (x := x) rfl rfl ?_
    refine q_ic (pc := 3) (v := 4) rfl ?_
    refine q_i2 (pc := 4) rfl (fun h4 => ?_) (fun h4 => ?_)
    · replace h4 : 4 ≤ x := h4
      refine q_ic (pc := 7) (v := 0) rfl ?_
      refine q_rz (pc := 8) rfl (by omega) ?_
      first | exact hy (by omega) | exact hn (by omega)
    · replace h4 : x < 4 := h4
      refine q_ic (pc := 5) (v := 1) rfl ?_
      refine q_go (pc := 6) rfl ?_
      refine q_rz (pc := 8) rfl (by omega) ?_
      first | exact hy (by omega) | exact hn (by omega)
theorem lf_slot2 {dd : Nat} (hd : 2 ≤ dd) {x : Int} {H : xH} {Q : Int → xH → Prop} (hy : 0 ≤ x ∧ x ≤ 3 → Q 1 H) (hn : ¬ (0 ≤ x ∧ x ≤ 3) → Q 0 H) : xCall dd 327 [(0, x)] H Q := by
  obtain ⟨e, rfl, he⟩ := ttRun0 (n := 1) hd
  refine xC_of (L := [(0, x)]) (cd := cd_327) rfl rfl rfl ?_
  refine q_il (pc := 0) (i := 0) (x := x) rfl rfl ?_
  refine q_2l (pc := 1) rfl ?_
  refine q_lc (pc := 2) (v := 0) rfl ?_
  refine q_lc (pc := 3) (v := 3) rfl ?_
  refine q_ij (pc := 4) (q := 1615932) rfl rfl rfl trivial ?_
  refine lf_in (by omega) (fun h4 => ?_) (fun h4 => ?_)
  · replace h4 : 0 ≤ x ∧ x ≤ 3 := h4
    refine q_rz (pc := 5) rfl (by omega) ?_
    first | exact hy (by omega) | exact hn (by omega)
  · replace h4 : ¬ (0 ≤ x ∧ x ≤ 3) := h4
    refine q_rz (pc := 5) rfl (by omega) ?_
    first | exact hy (by omega) | exact hn (by omega)
theorem lf_part {dd : Nat} (hd : 1 ≤ dd) {f n s : Int} {H : xH} {Q : Int → xH → Prop} (hs : -1 ≤ s ∧ s ≤ 60) (hy : 0 ≤ f ∧ 0 ≤ n ∧ f + n ≤ s → Q 1 H) (hn : ¬ (0 ≤ f ∧ 0 ≤ n ∧ f + n ≤ s) → Q 0 H) : xCall dd 200 [(0, f), (0, n), (0, s)] H Q := by
  obtain ⟨e, rfl, he⟩ := ttRun0 (n := 0) hd
  refine xC_of (L := [(0, f), (0, n), (0, s)]) (cd := cd_200) rfl rfl rfl ?_
  refine q_il (pc := 0) (i := 0) (x := f) rfl rfl ?_
  refine q_if (pc := 1) rfl (fun h1 => ?_) (fun h1 => ?_)
  · replace h1 : f < 0 := h1
    refine q_ic (pc := 14) (v := 0) rfl ?_
    refine q_rz (pc := 15) rfl (by omega) ?_
    first | exact hy (by omega) | exact hn (by omega)
  · replace h1 : 0 ≤ f := h1
    refine q_il (pc := 2) (i := 1) (x := n) rfl rfl ?_
    refine q_if (pc := 3) rfl (fun h3 => ?_) (fun h3 => ?_)
    · replace h3 : n < 0 := h3
      refine q_ic (pc := 14) (v := 0) rfl ?_
      refine q_rz (pc := 15) rfl (by omega) ?_
      first | exact hy (by omega) | exact hn (by omega)
    · replace h3 : 0 ≤ n := h3
      refine q_il (pc := 4) (i := 0) (x := f) rfl rfl ?_
      refine q_il (pc := 5) (i := 2) (x := s) rfl rfl ?_
      refine q_i2 (pc := 6) rfl (fun h6 => ?_) (fun h6 => ?_)
      · replace h6 : s < f := h6
        refine q_ic (pc := 14) (v := 0) rfl ?_
        refine q_rz (pc := 15) rfl (by omega) ?_
        first | exact hy (by omega) | exact hn (by omega)
      · replace h6 : f ≤ s := h6
        refine q_il (pc := 7) (i := 1) (x := n) rfl rfl ?_
        refine q_il (pc := 8) (i := 2) (x := s) rfl rfl ?_
        refine q_il (pc := 9) (i := 0) (x := f) rfl rfl ?_
        refine q_ib (pc := 10) rfl (by omega) (by omega) ?_
        refine q_i2 (pc := 11) rfl (fun h11 => ?_) (fun h11 => ?_)
        · replace h11 : (s - f) < n := h11
          refine q_ic (pc := 14) (v := 0) rfl ?_
          refine q_rz (pc := 15) rfl (by omega) ?_
          first | exact hy (by omega) | exact hn (by omega)
        · replace h11 : n ≤ (s - f) := h11
          refine q_ic (pc := 12) (v := 1) rfl ?_
          refine q_go (pc := 13) rfl ?_
          refine q_rz (pc := 15) rfl (by omega) ?_
          first | exact hy (by omega) | exact hn (by omega)
