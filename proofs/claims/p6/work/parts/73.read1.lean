/-! the reference reads -/
/-- what is claimed stays, when other places are written -/
theorem xx_fr {ef : ttEf} {H K : xH} (hF : ttFr ef H K) (h1 : ef.1 = true) (h73 : ef.2.all (fun q => decide (q.1 ≠ 73)) = true) (hd : ttFY.all (fun z => ef.2.all (fun q => decide (q.1 ≠ z.1.1) || (decide (q.2.2 < z.1.2.1) || decide (z.1.2.2 < q.2.1)))) = true) (hX : ttXX YY H) : ttXX YY K := by
  obtain ⟨r, y⟩ := hX
  refine ⟨rm_fr hF h1 y.1 h73 r, yyStab H K y hF.2.1 hF.2.2.1 (fun a j ha => ?_) (fun z hz a j ha hh => Or.inl ?_)⟩
  · exact hF.2.2.2 a j (by have := y.1; omega) (fun q _ hq => by obtain ⟨⟨c, -⟩, -⟩ := hq; omega)
  · refine hF.2.2.2 a j ha (fun q hq hq2 => ?_)
    have k := List.all_eq_true.mp (List.all_eq_true.mp hd z hz) q hq
    obtain ⟨⟨-, c2⟩, c3, c4⟩ := hh
    obtain ⟨⟨-, d2⟩, d3, d4⟩ := hq2
    rcases Bool.or_eq_true _ _ ▸ k with k | k
    · exact of_decide_eq_true k (d2.symm.trans c2)
    rcases Bool.or_eq_true _ _ ▸ k with k | k
    · have := of_decide_eq_true k
      omega
    · have := of_decide_eq_true k
      omega
/-- the word that was read is s -/
def yyIs (D : xD) (s : Int) : Prop := D 183 12 = 0 ∧ D 183 10 = 1 ∧ D 183 8 - D 183 9 = xLg s ∧ ∀ k : Int, 0 ≤ k → k < xLg s → D 187 (D 183 9 + k) = xCh s k
theorem fr_12 {H K : xH} {lo hi : Int} (kF : ttFr (true, [(183, lo, hi)]) H K) (h : hi < 12) (hn : 210 ≤ (H.2.2.2.1 : Int)) : K.1 183 12 = H.1 183 12 :=
  kF.2.2.2 183 12 (by omega) (fun q hq hh => by
    obtain ⟨-, c2, c3⟩ := hh
    rw [List.mem_singleton.mp hq] at c3
    have c3 : 12 ≤ hi := c3
    omega)
theorem up_j {D : xD} {a j x k : Int} (h : k ≠ j) : xUp D a j x a k = D a k := up_ne (fun z => h z.2)
theorem i183 {H : xH} (hT : ttTI H) : (0 ≤ H.1 183 8 ∧ H.1 183 8 ≤ 1600) ∧ (0 ≤ H.1 183 9 ∧ H.1 183 9 ≤ 1600) ∧ (-2147483648 ≤ H.1 183 11 ∧ H.1 183 11 ≤ 2147483647) := ⟨ttMc hT (a := 183) (j := 8) (by decide) (by decide) (by decide) (by decide), ttMc hT (a := 183) (j := 9) (by decide) (by decide) (by decide) (by decide), ttMc hT (a := 183) (j := 11) (by decide) (by decide) (by decide) (by decide)⟩
theorem lf_good {dd : Nat} (hd : 1 ≤ dd) {H : xH} (hT : ttTI H) {Q : Int → xH → Prop} (hy : H.1 183 12 = 0 → Q 1 H) (hn : H.1 183 12 ≠ 0 → Q 0 H) : xCall dd 214 [(2, 183)] H Q := by
  obtain ⟨e, rfl, he⟩ := ttRun0 (n := 0) hd
  have he : 0 ≤ e := he
  have hn0 : 210 ≤ (H.2.2.2.1 : Int) := by have := hT.1; omega
  refine xC_of (L := [(2, 183)]) (cd := cd_214) rfl rfl rfl ?_
  refine q_al (pc := 0) (i := 0) (x := 183) rfl rfl ?_
  refine q_gf (pc := 1) (m := 12120) (t := 0) (c := 12) rfl (ttKc hT (a := 183) (κ := 12) (len := 0) ⟨rfl, rfl⟩ (by decide) (by decide)).1 rfl rfl ?_
  refine q_if (pc := 2) rfl (fun h2 => ?_) (fun h2 => ?_)
  · replace h2 : (H.1 183 12) ≠ 0 := h2
    refine q_ic (pc := 5) (v := 0) rfl ?_
    refine q_rz (pc := 6) rfl (by omega) ?_
    exact hn h2
  · replace h2 : (H.1 183 12) = 0 := h2
    refine q_ic (pc := 3) (v := 1) rfl ?_
    refine q_go (pc := 4) rfl ?_
    refine q_rz (pc := 6) rfl (by omega) ?_
    exact hy h2
theorem lf_errs {dd : Nat} {k : Int} (hd : 2 ≤ dd) {H : xH} (hT : ttTI H) (k1 : 1 ≤ k) (k3 : k ≤ 3) {Q : Int → xH → Prop} (hQ : ∀ K, ttTI K → ttFr (true, [(183, 8, 13)]) H K → K.1 183 12 ≠ 0 → Q 0 K) : xCall dd 215 [(2, 183), (0, k)] H Q := by
  obtain ⟨e, rfl, he⟩ := ttRun0 (n := 1) hd
  have he : 1 ≤ e := he
  have hn : 210 ≤ (H.2.2.2.1 : Int) := by have := hT.1; omega
  refine xC_of (L := [(2, 183), (0, k)]) (cd := cd_215) rfl rfl rfl ?_
  refine q_al (pc := 0) (i := 0) (x := 183) rfl rfl ?_
  refine q_iv (pc := 1) (q := 1712964) rfl rfl rfl (ttKc hT (a := 183) (κ := 12) (len := 0) ⟨rfl, rfl⟩ (by decide) (by decide)).1 ?_
  refine lf_good (by omega) hT (fun jg1 => ?_) (fun jg1 => ?_)
  · skip
    refine q_if (pc := 2) rfl (fun h2 => ?_) (fun h2 => ?_)
    · replace h2 : (1 : Int) ≠ 0 := h2
      refine q_al (pc := 4) (i := 0) (x := 183) rfl rfl ?_
      refine q_il (pc := 5) (i := 1) (x := k) rfl rfl ?_
      have za := ttPuT hT (ttFr_rf (true, [(183, 8, 13)]) H) (a := 183) (j := 12) (x := k) (by decide) (fun _ _ => show (-2147483648 : Int) ≤ k ∧ k ≤ 2147483647 from by omega) ⟨(183, 8, 13), by simp, ⟨⟨by decide, rfl⟩, by decide, by decide⟩⟩
      obtain ⟨Y, jY⟩ : ∃ X : xH, X = (xUp H.1 183 12 k, H.2) := ⟨_, rfl⟩
      refine q_pf (pc := 6) (m := 12120) (c := 12) rfl (show xPt 0 0 _ _ from (ttKc hT (a := 183) (κ := 12) (len := 0) ⟨rfl, rfl⟩ (by decide) (by decide)).1) rfl ?_
      rw [← jY] at za ⊢
      refine q_al (pc := 7) (i := 0) (x := 183) rfl rfl ?_
      refine q_al (pc := 8) (i := 0) (x := 183) rfl rfl ?_
      refine q_gf (pc := 9) (m := 12090) (t := 0) (c := 9) rfl (ttKc za.1 (a := 183) (κ := 12) (len := 0) ⟨rfl, rfl⟩ (by decide) (by decide)).1 rfl rfl ?_
      have zf := i183 za.1
      have zb := ttPuT za.1 za.2 (a := 183) (j := 13) (x := Y.1 183 9) (by decide) (fun _ _ => show (-2147483648 : Int) ≤ Y.1 183 9 ∧ Y.1 183 9 ≤ 2147483647 from by omega) ⟨(183, 8, 13), by simp, ⟨⟨by decide, rfl⟩, by decide, by decide⟩⟩
      refine q_pf (pc := 10) (m := 12130) (c := 13) rfl (show xPt 0 0 _ _ from (ttKc za.1 (a := 183) (κ := 12) (len := 0) ⟨rfl, rfl⟩ (by decide) (by decide)).1) rfl ?_
      refine q_rv (pc := 11) rfl ?_
      refine hQ _ zb.1 zb.2 ?_
      show xUp Y.1 183 13 (Y.1 183 9) 183 12 ≠ 0
      rw [up_j (D := Y.1) (a := 183) (j := 13) (x := Y.1 183 9) (k := 12) (by decide), jY]
      show xUp H.1 183 12 k 183 12 ≠ 0
      rw [up_eq (D := H.1) (a := 183) (j := 12) (x := k)]
      omega
    · replace h2 : (1 : Int) = 0 := h2
      omega
  · skip
    refine q_if (pc := 2) rfl (fun h2 => ?_) (fun h2 => ?_)
    · replace h2 : (0 : Int) ≠ 0 := h2
      omega
    · replace h2 : (0 : Int) = 0 := h2
      refine q_rv (pc := 3) rfl ?_
      exact hQ H hT (ttFr_rf _ H) jg1
theorem lf_is {dd : Nat} {s : Int} (s0 : s ≤ -2) (s1 : -29 < s) (hd : 6 ≤ dd) {H : xH} (hT : ttTI H) {Q : Int → xH → Prop} (hy : yyIs H.1 s → Q 1 H) (hn : ¬ yyIs H.1 s → Q 0 H) : xCall dd 216 [(2, 183), (2, s)] H Q := by
  obtain ⟨e, rfl, he⟩ := ttRun0 (n := 5) hd
  have he : 5 ≤ e := he
  obtain ⟨z8, z9, -⟩ := i183 hT
  have h0 : ¬ yyIs H.1 s → ∀ k : Int, xW e cd_216 Q (21, [(2, 183), (2, s), (0, 0), (0, k)], [], H) := by
    intro jn k
    refine q_il (pc := 21) (i := 3) (x := k) rfl rfl ?_
    refine q_al (pc := 22) (i := 1) (x := s) rfl rfl ?_
    refine q_tl (pc := 23) rfl rfl (by omega) s0 s1 ?_
    refine q_i2 (pc := 24) rfl (fun h24 => ?_) (fun h24 => ?_)
    · replace h24 : (xLg s) ≤ k := h24
      refine q_il (pc := 44) (i := 2) (x := 0) rfl rfl ?_
      refine q_rz (pc := 45) rfl (by omega) ?_
      exact hn jn
    · replace h24 : k < (xLg s) := h24
      refine q_il (pc := 25) (i := 2) (x := 0) rfl rfl ?_
      refine q_if (pc := 26) rfl (fun h26 => ?_) (fun h26 => ?_)
      · replace h26 : (0 : Int) = 0 := h26
        refine q_il (pc := 44) (i := 2) (x := 0) rfl rfl ?_
        refine q_rz (pc := 45) rfl (by omega) ?_
        exact hn jn
      · replace h26 : (0 : Int) ≠ 0 := h26
        omega
  have hl : H.1 183 12 = 0 → H.1 183 10 = 1 → H.1 183 8 - H.1 183 9 = xLg s → ∀ n : Nat, ∀ k : Int, 0 ≤ k → k ≤ 2000 → xLg s - k ≤ (n : Int) → (∀ j : Int, 0 ≤ j → j < k → H.1 187 (H.1 183 9 + j) = xCh s j) → xW e cd_216 Q (21, [(2, 183), (2, s), (0, 1), (0, k)], [], H) := by
    intro a1 a2 a3 n
    induction n with
    | zero =>
      intro k k0 k1 hn2 hk
      refine q_il (pc := 21) (i := 3) (x := k) rfl rfl ?_
      refine q_al (pc := 22) (i := 1) (x := s) rfl rfl ?_
      refine q_tl (pc := 23) rfl rfl (by omega) s0 s1 ?_
      refine q_i2 (pc := 24) rfl (fun h24 => ?_) (fun h24 => ?_)
      · replace h24 : (xLg s) ≤ k := h24
        refine q_il (pc := 44) (i := 2) (x := 1) rfl rfl ?_
        refine q_rz (pc := 45) rfl (by omega) ?_
        exact hy ⟨a1, a2, a3, fun j ujj0 ujj1 => hk j ujj0 (by omega)⟩
      · replace h24 : k < (xLg s) := h24
        omega
    | succ n ih =>
      intro k k0 k1 hn2 hk
      refine q_il (pc := 21) (i := 3) (x := k) rfl rfl ?_
      refine q_al (pc := 22) (i := 1) (x := s) rfl rfl ?_
      refine q_tl (pc := 23) rfl rfl (by omega) s0 s1 ?_
      refine q_i2 (pc := 24) rfl (fun h24 => ?_) (fun h24 => ?_)
      · replace h24 : (xLg s) ≤ k := h24
        refine q_il (pc := 44) (i := 2) (x := 1) rfl rfl ?_
        refine q_rz (pc := 45) rfl (by omega) ?_
        exact hy ⟨a1, a2, a3, fun j ujj0 ujj1 => hk j ujj0 (by omega)⟩
      · replace h24 : k < (xLg s) := h24
        refine q_il (pc := 25) (i := 2) (x := 1) rfl rfl ?_
        refine q_if (pc := 26) rfl (fun h26 => ?_) (fun h26 => ?_)
        · replace h26 : (1 : Int) = 0 := h26
          omega
        · replace h26 : (1 : Int) ≠ 0 := h26
          refine q_al (pc := 27) (i := 0) (x := 183) rfl rfl ?_
          refine q_gf (pc := 28) (m := 12042) (t := 2) (c := 4) rfl (ttKc hT (a := 183) (κ := 12) (len := 0) ⟨rfl, rfl⟩ (by decide) (by decide)).1 rfl rfl ?_
          rw [show H.1 183 4 = 187 from ttFx hT (by decide) (by decide) rfl rfl rfl]
          refine q_al (pc := 29) (i := 0) (x := 183) rfl rfl ?_
          refine q_gf (pc := 30) (m := 12090) (t := 0) (c := 9) rfl (ttKc hT (a := 183) (κ := 12) (len := 0) ⟨rfl, rfl⟩ (by decide) (by decide)).1 rfl rfl ?_
          refine q_il (pc := 31) (i := 3) (x := k) rfl rfl ?_
          refine q_ia (pc := 32) rfl (by omega) (by omega) ?_
          refine q_ab (pc := 33) rfl (ttKc hT (a := 187) (κ := 21) (len := 1600) ⟨rfl, rfl⟩ (by decide) (by decide)).1 (by omega) (by rw [(ttKc hT (a := 187) (κ := 21) (len := 1600) ⟨rfl, rfl⟩ (by decide) (by decide)).2]; omega) ?_
          refine q_al (pc := 34) (i := 1) (x := s) rfl rfl ?_
          refine q_il (pc := 35) (i := 3) (x := k) rfl rfl ?_
          refine q_tc (pc := 36) rfl rfl (by omega) s0 s1 (by omega) (by omega) ?_
          refine q_i2 (pc := 37) rfl (fun h37 => ?_) (fun h37 => ?_)
          · replace h37 : (H.1 187 ((H.1 183 9) + k)) ≠ (xCh s k) := h37
            refine q_ic (pc := 40) (v := 0) rfl ?_
            refine q_is (pc := 41) (i := 2) (L' := [(2, 183), (2, s), (0, 0), (0, k)]) rfl rfl rfl ?_
            refine q_ii (pc := 42) (i := 3) (c := 1) (x := k) (L' := [(2, 183), (2, s), (0, 0), (0, (k + 1))]) rfl rfl rfl (by omega) (by omega) rfl ?_
            refine q_go (pc := 43) rfl ?_
            exact h0 (fun y => h37 (y.2.2.2 k k0 h24)) _
          · replace h37 : (H.1 187 ((H.1 183 9) + k)) = (xCh s k) := h37
            refine q_ic (pc := 38) (v := 1) rfl ?_
            refine q_go (pc := 39) rfl ?_
            refine q_is (pc := 41) (i := 2) (L' := [(2, 183), (2, s), (0, 1), (0, k)]) rfl rfl rfl ?_
            refine q_ii (pc := 42) (i := 3) (c := 1) (x := k) (L' := [(2, 183), (2, s), (0, 1), (0, (k + 1))]) rfl rfl rfl (by omega) (by omega) rfl ?_
            refine q_go (pc := 43) rfl ?_
            exact ih (k + 1) (by omega) (by omega) (by omega) (fun j ujj0 ujj1 => by
              by_cases z : j = k
              · subst z
                exact h37
              · exact hk j ujj0 (by omega))
  refine xC_of (L := [(2, 183), (2, s), (9, 0), (9, 0)]) (cd := cd_216) rfl rfl rfl ?_
  refine q_al (pc := 0) (i := 0) (x := 183) rfl rfl ?_
  refine q_iv (pc := 1) (q := 1712964) rfl rfl rfl (ttKc hT (a := 183) (κ := 12) (len := 0) ⟨rfl, rfl⟩ (by decide) (by decide)).1 ?_
  refine lf_good (by omega) hT (fun jg1 => ?_) (fun jg1 => ?_)
  · skip
    refine q_if (pc := 2) rfl (fun h2 => ?_) (fun h2 => ?_)
    · replace h2 : (1 : Int) = 0 := h2
      omega
    · replace h2 : (1 : Int) ≠ 0 := h2
      refine q_al (pc := 3) (i := 0) (x := 183) rfl rfl ?_
      refine q_gf (pc := 4) (m := 12100) (t := 0) (c := 10) rfl (ttKc hT (a := 183) (κ := 12) (len := 0) ⟨rfl, rfl⟩ (by decide) (by decide)).1 rfl rfl ?_
      refine q_ic (pc := 5) (v := 1) rfl ?_
      refine q_i2 (pc := 6) rfl (fun h6 => ?_) (fun h6 => ?_)
      · replace h6 : (H.1 183 10) ≠ 1 := h6
        refine q_ic (pc := 17) (v := 0) rfl ?_
        refine q_is (pc := 18) (i := 2) (L' := [(2, 183), (2, s), (0, 0), (9, 0)]) rfl rfl rfl ?_
        refine q_ic (pc := 19) (v := 0) rfl ?_
        refine q_is (pc := 20) (i := 3) (L' := [(2, 183), (2, s), (0, 0), (0, 0)]) rfl rfl rfl ?_
        exact h0 (fun y => by obtain ⟨y1, y2, y3, -⟩ := y; omega) 0
      · replace h6 : (H.1 183 10) = 1 := h6
        refine q_al (pc := 7) (i := 0) (x := 183) rfl rfl ?_
        refine q_gf (pc := 8) (m := 12080) (t := 0) (c := 8) rfl (ttKc hT (a := 183) (κ := 12) (len := 0) ⟨rfl, rfl⟩ (by decide) (by decide)).1 rfl rfl ?_
        refine q_al (pc := 9) (i := 0) (x := 183) rfl rfl ?_
        refine q_gf (pc := 10) (m := 12090) (t := 0) (c := 9) rfl (ttKc hT (a := 183) (κ := 12) (len := 0) ⟨rfl, rfl⟩ (by decide) (by decide)).1 rfl rfl ?_
        refine q_ib (pc := 11) rfl (by omega) (by omega) ?_
        refine q_al (pc := 12) (i := 1) (x := s) rfl rfl ?_
        refine q_tl (pc := 13) rfl rfl (by omega) s0 s1 ?_
        refine q_i2 (pc := 14) rfl (fun h14 => ?_) (fun h14 => ?_)
        · replace h14 : ((H.1 183 8) - (H.1 183 9)) ≠ (xLg s) := h14
          refine q_ic (pc := 17) (v := 0) rfl ?_
          refine q_is (pc := 18) (i := 2) (L' := [(2, 183), (2, s), (0, 0), (9, 0)]) rfl rfl rfl ?_
          refine q_ic (pc := 19) (v := 0) rfl ?_
          refine q_is (pc := 20) (i := 3) (L' := [(2, 183), (2, s), (0, 0), (0, 0)]) rfl rfl rfl ?_
          exact h0 (fun y => by obtain ⟨y1, y2, y3, -⟩ := y; omega) 0
        · replace h14 : ((H.1 183 8) - (H.1 183 9)) = (xLg s) := h14
          refine q_ic (pc := 15) (v := 1) rfl ?_
          refine q_go (pc := 16) rfl ?_
          refine q_is (pc := 18) (i := 2) (L' := [(2, 183), (2, s), (0, 1), (9, 0)]) rfl rfl rfl ?_
          refine q_ic (pc := 19) (v := 0) rfl ?_
          refine q_is (pc := 20) (i := 3) (L' := [(2, 183), (2, s), (0, 1), (0, 0)]) rfl rfl rfl ?_
          exact hl jg1 h6 h14 (xLg s).toNat 0 (by decide) (by decide) (by omega) (fun j ujj0 ujj1 => absurd ujj1 (by omega))
  · skip
    refine q_if (pc := 2) rfl (fun h2 => ?_) (fun h2 => ?_)
    · replace h2 : (0 : Int) = 0 := h2
      refine q_ic (pc := 17) (v := 0) rfl ?_
      refine q_is (pc := 18) (i := 2) (L' := [(2, 183), (2, s), (0, 0), (9, 0)]) rfl rfl rfl ?_
      refine q_ic (pc := 19) (v := 0) rfl ?_
      refine q_is (pc := 20) (i := 3) (L' := [(2, 183), (2, s), (0, 0), (0, 0)]) rfl rfl rfl ?_
      exact h0 (fun y => by obtain ⟨y1, y2, y3, -⟩ := y; omega) 0
    · replace h2 : (0 : Int) ≠ 0 := h2
      omega
theorem lf_see {dd : Nat} {k : Int} (hd : 1 ≤ dd) {H : xH} (hT : ttTI H) (k0 : 0 ≤ k) {Q : Int → xH → Prop} (hQ : ∀ r, (r = -1 ∨ (0 ≤ r ∧ r ≤ 255 ∧ k + 1 ≤ 1600)) → Q r H) : xCall dd 212 [(2, 183), (0, k)] H Q := by
  obtain ⟨e, rfl, he⟩ := ttRun0 (n := 0) hd
  have zs : 0 ≤ H.1 183 7 ∧ H.1 183 7 ≤ 1600 := ttMc hT (a := 183) (j := 7) (by decide) (by decide) (by decide) (by decide)
  refine xC_of (L := [(2, 183), (0, k)]) (cd := cd_212) rfl rfl rfl ?_
  refine q_il (pc := 0) (i := 1) (x := k) rfl rfl ?_
  refine q_al (pc := 1) (i := 0) (x := 183) rfl rfl ?_
  refine q_gf (pc := 2) (m := 12070) (t := 0) (c := 7) rfl (ttKc hT (a := 183) (κ := 12) (len := 0) ⟨rfl, rfl⟩ (by decide) (by decide)).1 rfl rfl ?_
  refine q_i2 (pc := 3) rfl (fun h3 => ?_) (fun h3 => ?_)
  · replace h3 : (H.1 183 7) ≤ k := h3
    refine q_ic (pc := 11) (v := (-1)) rfl ?_
    refine q_ri (pc := 12) rfl ?_
    exact hQ _ (Or.inl rfl)
  · replace h3 : k < (H.1 183 7) := h3
    refine q_al (pc := 4) (i := 0) (x := 183) rfl rfl ?_
    refine q_gf (pc := 5) (m := 12042) (t := 2) (c := 4) rfl (ttKc hT (a := 183) (κ := 12) (len := 0) ⟨rfl, rfl⟩ (by decide) (by decide)).1 rfl rfl ?_
    rw [show H.1 183 4 = 187 from ttFx hT (by decide) (by decide) rfl rfl rfl]
    refine q_il (pc := 6) (i := 1) (x := k) rfl rfl ?_
    refine q_ab (pc := 7) rfl (ttKc hT (a := 187) (κ := 21) (len := 1600) ⟨rfl, rfl⟩ (by decide) (by decide)).1 (by omega) (by rw [(ttKc hT (a := 187) (κ := 21) (len := 1600) ⟨rfl, rfl⟩ (by decide) (by decide)).2]; omega) ?_
    refine q_ic (pc := 8) (v := 255) rfl ?_
    refine q_an (pc := 9) rfl ?_
    refine q_go (pc := 10) rfl ?_
    refine q_ri (pc := 12) rfl ?_
    have za := tt_and_r (a := H.1 187 k) (b := 255) (by decide) (by decide)
    exact hQ _ (Or.inr ⟨za.1, za.2, by omega⟩)
theorem lf_advance {dd : Nat} (hd : 2 ≤ dd) {H : xH} (hT : ttTI H) {Q : Int → xH → Prop} (hQ : ∀ K, ttTI K → ttFr (true, [(183, 8, 11)]) H K → Q 0 K) : xCall dd 213 [(2, 183)] H Q := by
  obtain ⟨e, rfl, he⟩ := ttRun0 (n := 1) hd
  have he : 1 ≤ e := he
  have ha : ∀ n : Nat, ∀ (K : xH) (x1 : xV), 1600 - K.1 183 8 ≤ (n : Int) → ttTI K → ttFr (true, [(183, 8, 11)]) H K → xW e cd_213 Q (41, [(2, 183), x1], [], K) := by
    intro n
    induction n with
    | zero =>
      intro K x1 hn2 kT kF
      have z8 := (i183 kT).1
      have z11 := (i183 kT).2.2
      refine q_al (pc := 41) (i := 0) (x := 183) rfl rfl ?_
      refine q_al (pc := 42) (i := 0) (x := 183) rfl rfl ?_
      refine q_gf (pc := 43) (m := 12080) (t := 0) (c := 8) rfl (ttKc kT (a := 183) (κ := 12) (len := 0) ⟨rfl, rfl⟩ (by decide) (by decide)).1 rfl rfl ?_
      refine q_iv (pc := 44) (q := 1696968) rfl rfl rfl (ttKc kT (a := 183) (κ := 12) (len := 0) ⟨rfl, rfl⟩ (by decide) (by decide)).1 ?_
      refine lf_see (by omega) kT (i183 kT).1.1 (fun ujj1 ujhj1 => ?_)
      refine q_2l (pc := 45) rfl ?_
      refine q_lc (pc := 46) (v := 97) rfl ?_
      refine q_lc (pc := 47) (v := 122) rfl ?_
      refine q_ij (pc := 48) (q := 1615932) rfl rfl rfl trivial ?_
      refine lf_in (by omega) (fun jn48 => ?_) (fun jn48 => ?_)
      · skip
        refine q_if (pc := 49) rfl (fun h49 => ?_) (fun h49 => ?_)
        · replace h49 : (1 : Int) = 0 := h49
          omega
        · replace h49 : (1 : Int) ≠ 0 := h49
          exfalso
          omega
      · skip
        refine q_if (pc := 49) rfl (fun h49 => ?_) (fun h49 => ?_)
        · replace h49 : (0 : Int) = 0 := h49
          refine q_al (pc := 57) (i := 0) (x := 183) rfl rfl ?_
          refine q_ic (pc := 58) (v := 1) rfl ?_
          refine q_pf (pc := 59) (m := 12100) (c := 10) rfl (show xPt 0 0 _ _ from (ttKc kT (a := 183) (κ := 12) (len := 0) ⟨rfl, rfl⟩ (by decide) (by decide)).1) rfl ?_
          have ujzc2 := ttPuT kT kF (a := 183) (j := 10) (x := 1) (by decide) (fun _ _ => show ((-2147483648) : Int) ≤ 1 ∧ 1 ≤ 2147483647 from by decide) ⟨(183, 8, 11), by simp, ⟨⟨by decide, rfl⟩, by decide, by decide⟩⟩
          obtain ⟨ujZ2, ujzk2⟩ : ∃ X : xH, X = (xUp K.1 183 10 1, K.2) := ⟨_, rfl⟩
          rw [← ujzk2] at ujzc2 ⊢
          have ze2 : ujZ2.1 183 10 = 1 := by rw [ujzk2]; exact up_eq (D := K.1) (a := 183) (j := 10) (x := 1)
          have zm2 : ujZ2.1 183 8 = K.1 183 8 := by rw [ujzk2]; exact up_j (D := K.1) (a := 183) (j := 10) (x := 1) (k := 8) (by decide)
          refine q_go (pc := 60) rfl ?_
          refine q_rv (pc := 119) rfl ?_
          exact hQ _ ujzc2.1 ujzc2.2
        · replace h49 : (0 : Int) ≠ 0 := h49
          omega
    | succ n ih =>
      intro K x1 hn2 kT kF
      have z8 := (i183 kT).1
      have z11 := (i183 kT).2.2
      refine q_al (pc := 41) (i := 0) (x := 183) rfl rfl ?_
      refine q_al (pc := 42) (i := 0) (x := 183) rfl rfl ?_
      refine q_gf (pc := 43) (m := 12080) (t := 0) (c := 8) rfl (ttKc kT (a := 183) (κ := 12) (len := 0) ⟨rfl, rfl⟩ (by decide) (by decide)).1 rfl rfl ?_
      refine q_iv (pc := 44) (q := 1696968) rfl rfl rfl (ttKc kT (a := 183) (κ := 12) (len := 0) ⟨rfl, rfl⟩ (by decide) (by decide)).1 ?_
      refine lf_see (by omega) kT (i183 kT).1.1 (fun ujj3 ujhj3 => ?_)
      refine q_2l (pc := 45) rfl ?_
      refine q_lc (pc := 46) (v := 97) rfl ?_
      refine q_lc (pc := 47) (v := 122) rfl ?_
      refine q_ij (pc := 48) (q := 1615932) rfl rfl rfl trivial ?_
      refine lf_in (by omega) (fun jn48 => ?_) (fun jn48 => ?_)
      · skip
        refine q_if (pc := 49) rfl (fun h49 => ?_) (fun h49 => ?_)
        · replace h49 : (1 : Int) = 0 := h49
          omega
        · replace h49 : (1 : Int) ≠ 0 := h49
          refine q_al (pc := 50) (i := 0) (x := 183) rfl rfl ?_
          refine q_d2 (pc := 51) rfl ?_
          refine q_gf (pc := 52) (m := 12080) (t := 0) (c := 8) rfl (ttKc kT (a := 183) (κ := 12) (len := 0) ⟨rfl, rfl⟩ (by decide) (by decide)).1 rfl rfl ?_
          refine q_ic (pc := 53) (v := 1) rfl ?_
          refine q_ia (pc := 54) rfl (by omega) (by omega) ?_
          refine q_pf (pc := 55) (m := 12080) (c := 8) rfl (show xPt 0 0 _ _ from (ttKc kT (a := 183) (κ := 12) (len := 0) ⟨rfl, rfl⟩ (by decide) (by decide)).1) rfl ?_
          have ujzc4 := ttPuT kT kF (a := 183) (j := 8) (x := ((K.1 183 8) + 1)) (by decide) (fun _ _ => show (0 : Int) ≤ ((K.1 183 8) + 1) ∧ ((K.1 183 8) + 1) ≤ 1600 from by omega) ⟨(183, 8, 11), by simp, ⟨⟨by decide, rfl⟩, by decide, by decide⟩⟩
          obtain ⟨ujZ4, ujzk4⟩ : ∃ X : xH, X = (xUp K.1 183 8 ((K.1 183 8) + 1), K.2) := ⟨_, rfl⟩
          rw [← ujzk4] at ujzc4 ⊢
          have ze4 : ujZ4.1 183 8 = ((K.1 183 8) + 1) := by rw [ujzk4]; exact up_eq (D := K.1) (a := 183) (j := 8) (x := ((K.1 183 8) + 1))
          refine q_go (pc := 56) rfl ?_
          exact ih ujZ4 _ (by rw [ze4]; omega) ujzc4.1 ujzc4.2
      · skip
        refine q_if (pc := 49) rfl (fun h49 => ?_) (fun h49 => ?_)
        · replace h49 : (0 : Int) = 0 := h49
          refine q_al (pc := 57) (i := 0) (x := 183) rfl rfl ?_
          refine q_ic (pc := 58) (v := 1) rfl ?_
          refine q_pf (pc := 59) (m := 12100) (c := 10) rfl (show xPt 0 0 _ _ from (ttKc kT (a := 183) (κ := 12) (len := 0) ⟨rfl, rfl⟩ (by decide) (by decide)).1) rfl ?_
          have ujzc5 := ttPuT kT kF (a := 183) (j := 10) (x := 1) (by decide) (fun _ _ => show ((-2147483648) : Int) ≤ 1 ∧ 1 ≤ 2147483647 from by decide) ⟨(183, 8, 11), by simp, ⟨⟨by decide, rfl⟩, by decide, by decide⟩⟩
          obtain ⟨ujZ5, ujzk5⟩ : ∃ X : xH, X = (xUp K.1 183 10 1, K.2) := ⟨_, rfl⟩
          rw [← ujzk5] at ujzc5 ⊢
          have ze5 : ujZ5.1 183 10 = 1 := by rw [ujzk5]; exact up_eq (D := K.1) (a := 183) (j := 10) (x := 1)
          have zm5 : ujZ5.1 183 8 = K.1 183 8 := by rw [ujzk5]; exact up_j (D := K.1) (a := 183) (j := 10) (x := 1) (k := 8) (by decide)
          refine q_go (pc := 60) rfl ?_
          refine q_rv (pc := 119) rfl ?_
          exact hQ _ ujzc5.1 ujzc5.2
        · replace h49 : (0 : Int) ≠ 0 := h49
          omega
  have hc : ∀ n : Nat, ∀ (K : xH) (x1 : xV), 1600 - K.1 183 8 ≤ (n : Int) → ttTI K → ttFr (true, [(183, 8, 11)]) H K → xW e cd_213 Q (70, [(2, 183), x1], [], K) := by
    intro n
    induction n with
    | zero =>
      intro K x1 hn2 kT kF
      have z8 := (i183 kT).1
      have z11 := (i183 kT).2.2
      refine q_al (pc := 70) (i := 0) (x := 183) rfl rfl ?_
      refine q_al (pc := 71) (i := 0) (x := 183) rfl rfl ?_
      refine q_gf (pc := 72) (m := 12080) (t := 0) (c := 8) rfl (ttKc kT (a := 183) (κ := 12) (len := 0) ⟨rfl, rfl⟩ (by decide) (by decide)).1 rfl rfl ?_
      refine q_iv (pc := 73) (q := 1696968) rfl rfl rfl (ttKc kT (a := 183) (κ := 12) (len := 0) ⟨rfl, rfl⟩ (by decide) (by decide)).1 ?_
      refine lf_see (by omega) kT (i183 kT).1.1 (fun ujj6 ujhj6 => ?_)
      refine q_2l (pc := 74) rfl ?_
      refine q_lc (pc := 75) (v := 48) rfl ?_
      refine q_lc (pc := 76) (v := 57) rfl ?_
      refine q_ij (pc := 77) (q := 1615932) rfl rfl rfl trivial ?_
      refine lf_in (by omega) (fun jn77 => ?_) (fun jn77 => ?_)
      · skip
        refine q_if (pc := 78) rfl (fun h78 => ?_) (fun h78 => ?_)
        · replace h78 : (1 : Int) = 0 := h78
          omega
        · replace h78 : (1 : Int) ≠ 0 := h78
          exfalso
          omega
      · skip
        refine q_if (pc := 78) rfl (fun h78 => ?_) (fun h78 => ?_)
        · replace h78 : (0 : Int) = 0 := h78
          refine q_al (pc := 101) (i := 0) (x := 183) rfl rfl ?_
          refine q_ic (pc := 102) (v := 2) rfl ?_
          refine q_pf (pc := 103) (m := 12100) (c := 10) rfl (show xPt 0 0 _ _ from (ttKc kT (a := 183) (κ := 12) (len := 0) ⟨rfl, rfl⟩ (by decide) (by decide)).1) rfl ?_
          have ujzc7 := ttPuT kT kF (a := 183) (j := 10) (x := 2) (by decide) (fun _ _ => show ((-2147483648) : Int) ≤ 2 ∧ 2 ≤ 2147483647 from by decide) ⟨(183, 8, 11), by simp, ⟨⟨by decide, rfl⟩, by decide, by decide⟩⟩
          obtain ⟨ujZ7, ujzk7⟩ : ∃ X : xH, X = (xUp K.1 183 10 2, K.2) := ⟨_, rfl⟩
          rw [← ujzk7] at ujzc7 ⊢
          have ze7 : ujZ7.1 183 10 = 2 := by rw [ujzk7]; exact up_eq (D := K.1) (a := 183) (j := 10) (x := 2)
          have zm7 : ujZ7.1 183 8 = K.1 183 8 := by rw [ujzk7]; exact up_j (D := K.1) (a := 183) (j := 10) (x := 2) (k := 8) (by decide)
          refine q_go (pc := 104) rfl ?_
          refine q_rv (pc := 119) rfl ?_
          exact hQ _ ujzc7.1 ujzc7.2
        · replace h78 : (0 : Int) ≠ 0 := h78
          omega
    | succ n ih =>
      intro K x1 hn2 kT kF
      have z8 := (i183 kT).1
      have z11 := (i183 kT).2.2
      refine q_al (pc := 70) (i := 0) (x := 183) rfl rfl ?_
      refine q_al (pc := 71) (i := 0) (x := 183) rfl rfl ?_
      refine q_gf (pc := 72) (m := 12080) (t := 0) (c := 8) rfl (ttKc kT (a := 183) (κ := 12) (len := 0) ⟨rfl, rfl⟩ (by decide) (by decide)).1 rfl rfl ?_
      refine q_iv (pc := 73) (q := 1696968) rfl rfl rfl (ttKc kT (a := 183) (κ := 12) (len := 0) ⟨rfl, rfl⟩ (by decide) (by decide)).1 ?_
      refine lf_see (by omega) kT (i183 kT).1.1 (fun ujj8 ujhj8 => ?_)
      refine q_2l (pc := 74) rfl ?_
      refine q_lc (pc := 75) (v := 48) rfl ?_
      refine q_lc (pc := 76) (v := 57) rfl ?_
      refine q_ij (pc := 77) (q := 1615932) rfl rfl rfl trivial ?_
      refine lf_in (by omega) (fun jn77 => ?_) (fun jn77 => ?_)
      · skip
        refine q_if (pc := 78) rfl (fun h78 => ?_) (fun h78 => ?_)
        · replace h78 : (1 : Int) = 0 := h78
          omega
        · replace h78 : (1 : Int) ≠ 0 := h78
          refine q_al (pc := 79) (i := 0) (x := 183) rfl rfl ?_
          refine q_ic (pc := 80) (v := 99999) rfl ?_
          refine q_ic (pc := 81) (v := 10) rfl ?_
          refine q_al (pc := 82) (i := 0) (x := 183) rfl rfl ?_
          refine q_gf (pc := 83) (m := 12110) (t := 0) (c := 11) rfl (ttKc kT (a := 183) (κ := 12) (len := 0) ⟨rfl, rfl⟩ (by decide) (by decide)).1 rfl rfl ?_
          refine q_wm (pc := 84) rfl ?_
          refine q_al (pc := 85) (i := 0) (x := 183) rfl rfl ?_
          refine q_al (pc := 86) (i := 0) (x := 183) rfl rfl ?_
          refine q_gf (pc := 87) (m := 12080) (t := 0) (c := 8) rfl (ttKc kT (a := 183) (κ := 12) (len := 0) ⟨rfl, rfl⟩ (by decide) (by decide)).1 rfl rfl ?_
          refine q_iv (pc := 88) (q := 1696968) rfl rfl rfl (ttKc kT (a := 183) (κ := 12) (len := 0) ⟨rfl, rfl⟩ (by decide) (by decide)).1 ?_
          refine lf_see (by omega) kT (i183 kT).1.1 (fun ujj9 ujhj9 => ?_)
          refine q_wa (pc := 89) rfl ?_
          refine q_ic (pc := 90) (v := 48) rfl ?_
          refine q_wb (pc := 91) rfl ?_
          refine q_mn (pc := 92) rfl rfl (by omega) ?_
          refine q_pf (pc := 93) (m := 12110) (c := 11) rfl (show xPt 0 0 _ _ from (ttKc kT (a := 183) (κ := 12) (len := 0) ⟨rfl, rfl⟩ (by decide) (by decide)).1) rfl ?_
          have zw : -2147483648 ≤ (w32 ((w32 ((w32 (10 * (K.1 183 11))) + ujj9)) - 48)) ∧ (w32 ((w32 ((w32 (10 * (K.1 183 11))) + ujj9)) - 48)) < 2147483648 := w32_in _
          have ujzc10 := ttPuT kT kF (a := 183) (j := 11) (x := (min 99999 (w32 ((w32 ((w32 (10 * (K.1 183 11))) + ujj9)) - 48)))) (by decide) (fun _ _ => show ((-2147483648) : Int) ≤ (min 99999 (w32 ((w32 ((w32 (10 * (K.1 183 11))) + ujj9)) - 48))) ∧ (min 99999 (w32 ((w32 ((w32 (10 * (K.1 183 11))) + ujj9)) - 48))) ≤ 2147483647 from by omega) ⟨(183, 8, 11), by simp, ⟨⟨by decide, rfl⟩, by decide, by decide⟩⟩
          obtain ⟨ujZ10, ujzk10⟩ : ∃ X : xH, X = (xUp K.1 183 11 (min 99999 (w32 ((w32 ((w32 (10 * (K.1 183 11))) + ujj9)) - 48))), K.2) := ⟨_, rfl⟩
          rw [← ujzk10] at ujzc10 ⊢
          have ze10 : ujZ10.1 183 11 = (min 99999 (w32 ((w32 ((w32 (10 * (K.1 183 11))) + ujj9)) - 48))) := by rw [ujzk10]; exact up_eq (D := K.1) (a := 183) (j := 11) (x := (min 99999 (w32 ((w32 ((w32 (10 * (K.1 183 11))) + ujj9)) - 48))))
          have zm10 : ujZ10.1 183 8 = K.1 183 8 := by rw [ujzk10]; exact up_j (D := K.1) (a := 183) (j := 11) (x := (min 99999 (w32 ((w32 ((w32 (10 * (K.1 183 11))) + ujj9)) - 48)))) (k := 8) (by decide)
          refine q_al (pc := 94) (i := 0) (x := 183) rfl rfl ?_
          refine q_d2 (pc := 95) rfl ?_
          refine q_gf (pc := 96) (m := 12080) (t := 0) (c := 8) rfl (ttKc ujzc10.1 (a := 183) (κ := 12) (len := 0) ⟨rfl, rfl⟩ (by decide) (by decide)).1 rfl rfl ?_
          rw [zm10]
          refine q_ic (pc := 97) (v := 1) rfl ?_
          refine q_ia (pc := 98) rfl (by omega) (by omega) ?_
          refine q_pf (pc := 99) (m := 12080) (c := 8) rfl (show xPt 0 0 _ _ from (ttKc ujzc10.1 (a := 183) (κ := 12) (len := 0) ⟨rfl, rfl⟩ (by decide) (by decide)).1) rfl ?_
          have ujzc11 := ttPuT ujzc10.1 ujzc10.2 (a := 183) (j := 8) (x := ((K.1 183 8) + 1)) (by decide) (fun _ _ => show (0 : Int) ≤ ((K.1 183 8) + 1) ∧ ((K.1 183 8) + 1) ≤ 1600 from by omega) ⟨(183, 8, 11), by simp, ⟨⟨by decide, rfl⟩, by decide, by decide⟩⟩
          obtain ⟨ujZ11, ujzk11⟩ : ∃ X : xH, X = (xUp ujZ10.1 183 8 ((K.1 183 8) + 1), ujZ10.2) := ⟨_, rfl⟩
          rw [← ujzk11] at ujzc11 ⊢
          have ze11 : ujZ11.1 183 8 = ((K.1 183 8) + 1) := by rw [ujzk11]; exact up_eq (D := ujZ10.1) (a := 183) (j := 8) (x := ((K.1 183 8) + 1))
          refine q_go (pc := 100) rfl ?_
          exact ih ujZ11 _ (by rw [ze11]; omega) ujzc11.1 ujzc11.2
      · skip
        refine q_if (pc := 78) rfl (fun h78 => ?_) (fun h78 => ?_)
        · replace h78 : (0 : Int) = 0 := h78
          refine q_al (pc := 101) (i := 0) (x := 183) rfl rfl ?_
          refine q_ic (pc := 102) (v := 2) rfl ?_
          refine q_pf (pc := 103) (m := 12100) (c := 10) rfl (show xPt 0 0 _ _ from (ttKc kT (a := 183) (κ := 12) (len := 0) ⟨rfl, rfl⟩ (by decide) (by decide)).1) rfl ?_
          have ujzc12 := ttPuT kT kF (a := 183) (j := 10) (x := 2) (by decide) (fun _ _ => show ((-2147483648) : Int) ≤ 2 ∧ 2 ≤ 2147483647 from by decide) ⟨(183, 8, 11), by simp, ⟨⟨by decide, rfl⟩, by decide, by decide⟩⟩
          obtain ⟨ujZ12, ujzk12⟩ : ∃ X : xH, X = (xUp K.1 183 10 2, K.2) := ⟨_, rfl⟩
          rw [← ujzk12] at ujzc12 ⊢
          have ze12 : ujZ12.1 183 10 = 2 := by rw [ujzk12]; exact up_eq (D := K.1) (a := 183) (j := 10) (x := 2)
          have zm12 : ujZ12.1 183 8 = K.1 183 8 := by rw [ujzk12]; exact up_j (D := K.1) (a := 183) (j := 10) (x := 2) (k := 8) (by decide)
          refine q_go (pc := 104) rfl ?_
          refine q_rv (pc := 119) rfl ?_
          exact hQ _ ujzc12.1 ujzc12.2
        · replace h78 : (0 : Int) ≠ 0 := h78
          omega
  have hb : ∀ n : Nat, ∀ (K : xH) (x1 : xV), 1600 - K.1 183 8 ≤ (n : Int) → ttTI K → ttFr (true, [(183, 8, 11)]) H K → xW e cd_213 Q (0, [(2, 183), x1], [], K) := by
    intro n
    induction n with
    | zero =>
      intro K x1 hn2 kT kF
      have z8 := (i183 kT).1
      refine q_al (pc := 0) (i := 0) (x := 183) rfl rfl ?_
      refine q_al (pc := 1) (i := 0) (x := 183) rfl rfl ?_
      refine q_gf (pc := 2) (m := 12080) (t := 0) (c := 8) rfl (ttKc kT (a := 183) (κ := 12) (len := 0) ⟨rfl, rfl⟩ (by decide) (by decide)).1 rfl rfl ?_
      refine q_iv (pc := 3) (q := 1696968) rfl rfl rfl (ttKc kT (a := 183) (κ := 12) (len := 0) ⟨rfl, rfl⟩ (by decide) (by decide)).1 ?_
      refine lf_see (by omega) kT (i183 kT).1.1 (fun ujj13 ujhj13 => ?_)
      refine q_ic (pc := 4) (v := 32) rfl ?_
      refine q_i2 (pc := 5) rfl (fun h5 => ?_) (fun h5 => ?_)
      · replace h5 : ujj13 = 32 := h5
        exfalso
        omega
      · replace h5 : ujj13 ≠ 32 := h5
        refine q_al (pc := 6) (i := 0) (x := 183) rfl rfl ?_
        refine q_al (pc := 7) (i := 0) (x := 183) rfl rfl ?_
        refine q_gf (pc := 8) (m := 12080) (t := 0) (c := 8) rfl (ttKc kT (a := 183) (κ := 12) (len := 0) ⟨rfl, rfl⟩ (by decide) (by decide)).1 rfl rfl ?_
        refine q_iv (pc := 9) (q := 1696968) rfl rfl rfl (ttKc kT (a := 183) (κ := 12) (len := 0) ⟨rfl, rfl⟩ (by decide) (by decide)).1 ?_
        refine lf_see (by omega) kT (i183 kT).1.1 (fun ujj14 ujhj14 => ?_)
        refine q_ic (pc := 10) (v := 10) rfl ?_
        refine q_i2 (pc := 11) rfl (fun h11 => ?_) (fun h11 => ?_)
        · replace h11 : ujj14 ≠ 10 := h11
          refine q_al (pc := 19) (i := 0) (x := 183) rfl rfl ?_
          refine q_al (pc := 20) (i := 0) (x := 183) rfl rfl ?_
          refine q_gf (pc := 21) (m := 12080) (t := 0) (c := 8) rfl (ttKc kT (a := 183) (κ := 12) (len := 0) ⟨rfl, rfl⟩ (by decide) (by decide)).1 rfl rfl ?_
          refine q_pf (pc := 22) (m := 12090) (c := 9) rfl (show xPt 0 0 _ _ from (ttKc kT (a := 183) (κ := 12) (len := 0) ⟨rfl, rfl⟩ (by decide) (by decide)).1) rfl ?_
          have ujzc15 := ttPuT kT kF (a := 183) (j := 9) (x := (K.1 183 8)) (by decide) (fun _ _ => show (0 : Int) ≤ (K.1 183 8) ∧ (K.1 183 8) ≤ 1600 from by omega) ⟨(183, 8, 11), by simp, ⟨⟨by decide, rfl⟩, by decide, by decide⟩⟩
          obtain ⟨ujZ15, ujzk15⟩ : ∃ X : xH, X = (xUp K.1 183 9 (K.1 183 8), K.2) := ⟨_, rfl⟩
          rw [← ujzk15] at ujzc15 ⊢
          have ze15 : ujZ15.1 183 9 = (K.1 183 8) := by rw [ujzk15]; exact up_eq (D := K.1) (a := 183) (j := 9) (x := (K.1 183 8))
          have zm15 : ujZ15.1 183 8 = K.1 183 8 := by rw [ujzk15]; exact up_j (D := K.1) (a := 183) (j := 9) (x := (K.1 183 8)) (k := 8) (by decide)
          have zp : ujZ15.1 183 8 = K.1 183 8 := zm15
          refine q_al (pc := 23) (i := 0) (x := 183) rfl rfl ?_
          refine q_al (pc := 24) (i := 0) (x := 183) rfl rfl ?_
          refine q_gf (pc := 25) (m := 12080) (t := 0) (c := 8) rfl (ttKc ujzc15.1 (a := 183) (κ := 12) (len := 0) ⟨rfl, rfl⟩ (by decide) (by decide)).1 rfl rfl ?_
          refine q_iv (pc := 26) (q := 1696968) rfl rfl rfl (ttKc ujzc15.1 (a := 183) (κ := 12) (len := 0) ⟨rfl, rfl⟩ (by decide) (by decide)).1 ?_
          refine lf_see (by omega) ujzc15.1 (i183 ujzc15.1).1.1 (fun ujj16 ujhj16 => ?_)
          obtain ⟨c, jc⟩ : ∃ c, c = ujj16 := ⟨_, rfl⟩
          rw [← jc] at ujhj16 ⊢
          rw [zp] at ujhj16
          refine q_is (pc := 27) (i := 1) (L' := [(2, 183), (0, c)]) rfl rfl rfl ?_
          refine q_il (pc := 28) (i := 1) (x := c) rfl rfl ?_
          refine q_ic (pc := 29) (v := (-1)) rfl ?_
          refine q_i2 (pc := 30) rfl (fun h30 => ?_) (fun h30 => ?_)
          · replace h30 : c ≠ (-1) := h30
            refine q_il (pc := 35) (i := 1) (x := c) rfl rfl ?_
            refine q_2l (pc := 36) rfl ?_
            refine q_lc (pc := 37) (v := 97) rfl ?_
            refine q_lc (pc := 38) (v := 122) rfl ?_
            refine q_ij (pc := 39) (q := 1615932) rfl rfl rfl trivial ?_
            refine lf_in (by omega) (fun jn39 => ?_) (fun jn39 => ?_)
            · skip
              refine q_if (pc := 40) rfl (fun h40 => ?_) (fun h40 => ?_)
              · replace h40 : (1 : Int) = 0 := h40
                omega
              · replace h40 : (1 : Int) ≠ 0 := h40
                exact ha (1600 - ujZ15.1 183 8).toNat ujZ15 _ (by have := (i183 ujzc15.1).1; omega) ujzc15.1 ujzc15.2
            · skip
              refine q_if (pc := 40) rfl (fun h40 => ?_) (fun h40 => ?_)
              · replace h40 : (0 : Int) = 0 := h40
                refine q_il (pc := 61) (i := 1) (x := c) rfl rfl ?_
                refine q_2l (pc := 62) rfl ?_
                refine q_lc (pc := 63) (v := 48) rfl ?_
                refine q_lc (pc := 64) (v := 57) rfl ?_
                refine q_ij (pc := 65) (q := 1615932) rfl rfl rfl trivial ?_
                refine lf_in (by omega) (fun jn65 => ?_) (fun jn65 => ?_)
                · skip
                  refine q_if (pc := 66) rfl (fun h66 => ?_) (fun h66 => ?_)
                  · replace h66 : (1 : Int) = 0 := h66
                    omega
                  · replace h66 : (1 : Int) ≠ 0 := h66
                    refine q_al (pc := 67) (i := 0) (x := 183) rfl rfl ?_
                    refine q_ic (pc := 68) (v := 0) rfl ?_
                    refine q_pf (pc := 69) (m := 12110) (c := 11) rfl (show xPt 0 0 _ _ from (ttKc ujzc15.1 (a := 183) (κ := 12) (len := 0) ⟨rfl, rfl⟩ (by decide) (by decide)).1) rfl ?_
                    have ujzc17 := ttPuT ujzc15.1 ujzc15.2 (a := 183) (j := 11) (x := 0) (by decide) (fun _ _ => show ((-2147483648) : Int) ≤ 0 ∧ 0 ≤ 2147483647 from by decide) ⟨(183, 8, 11), by simp, ⟨⟨by decide, rfl⟩, by decide, by decide⟩⟩
                    obtain ⟨ujZ17, ujzk17⟩ : ∃ X : xH, X = (xUp ujZ15.1 183 11 0, ujZ15.2) := ⟨_, rfl⟩
                    rw [← ujzk17] at ujzc17 ⊢
                    have ze17 : ujZ17.1 183 11 = 0 := by rw [ujzk17]; exact up_eq (D := ujZ15.1) (a := 183) (j := 11) (x := 0)
                    have zm17 : ujZ17.1 183 8 = ujZ15.1 183 8 := by rw [ujzk17]; exact up_j (D := ujZ15.1) (a := 183) (j := 11) (x := 0) (k := 8) (by decide)
                    exact hc (1600 - ujZ17.1 183 8).toNat ujZ17 _ (by have := (i183 ujzc17.1).1; omega) ujzc17.1 ujzc17.2
                · skip
                  refine q_if (pc := 66) rfl (fun h66 => ?_) (fun h66 => ?_)
                  · replace h66 : (0 : Int) = 0 := h66
                    refine q_al (pc := 105) (i := 0) (x := 183) rfl rfl ?_
                    refine q_il (pc := 106) (i := 1) (x := c) rfl rfl ?_
                    refine q_ic (pc := 107) (v := 59) rfl ?_
                    refine q_i2 (pc := 108) rfl (fun h108 => ?_) (fun h108 => ?_)
                    · replace h108 : c ≠ 59 := h108
                      refine q_ic (pc := 111) (v := 4) rfl ?_
                      refine q_pf (pc := 112) (m := 12100) (c := 10) rfl (show xPt 0 0 _ _ from (ttKc ujzc15.1 (a := 183) (κ := 12) (len := 0) ⟨rfl, rfl⟩ (by decide) (by decide)).1) rfl ?_
                      have ujzc18 := ttPuT ujzc15.1 ujzc15.2 (a := 183) (j := 10) (x := 4) (by decide) (fun _ _ => show ((-2147483648) : Int) ≤ 4 ∧ 4 ≤ 2147483647 from by decide) ⟨(183, 8, 11), by simp, ⟨⟨by decide, rfl⟩, by decide, by decide⟩⟩
                      obtain ⟨ujZ18, ujzk18⟩ : ∃ X : xH, X = (xUp ujZ15.1 183 10 4, ujZ15.2) := ⟨_, rfl⟩
                      rw [← ujzk18] at ujzc18 ⊢
                      have ze18 : ujZ18.1 183 10 = 4 := by rw [ujzk18]; exact up_eq (D := ujZ15.1) (a := 183) (j := 10) (x := 4)
                      have zm18 : ujZ18.1 183 8 = ujZ15.1 183 8 := by rw [ujzk18]; exact up_j (D := ujZ15.1) (a := 183) (j := 10) (x := 4) (k := 8) (by decide)
                      refine q_al (pc := 113) (i := 0) (x := 183) rfl rfl ?_
                      refine q_d2 (pc := 114) rfl ?_
                      refine q_gf (pc := 115) (m := 12080) (t := 0) (c := 8) rfl (ttKc ujzc18.1 (a := 183) (κ := 12) (len := 0) ⟨rfl, rfl⟩ (by decide) (by decide)).1 rfl rfl ?_
                      rw [zm18, zp]
                      refine q_ic (pc := 116) (v := 1) rfl ?_
                      refine q_ia (pc := 117) rfl (by omega) (by omega) ?_
                      refine q_pf (pc := 118) (m := 12080) (c := 8) rfl (show xPt 0 0 _ _ from (ttKc ujzc18.1 (a := 183) (κ := 12) (len := 0) ⟨rfl, rfl⟩ (by decide) (by decide)).1) rfl ?_
                      have ujzc19 := ttPuT ujzc18.1 ujzc18.2 (a := 183) (j := 8) (x := ((K.1 183 8) + 1)) (by decide) (fun _ _ => show (0 : Int) ≤ ((K.1 183 8) + 1) ∧ ((K.1 183 8) + 1) ≤ 1600 from by omega) ⟨(183, 8, 11), by simp, ⟨⟨by decide, rfl⟩, by decide, by decide⟩⟩
                      obtain ⟨ujZ19, ujzk19⟩ : ∃ X : xH, X = (xUp ujZ18.1 183 8 ((K.1 183 8) + 1), ujZ18.2) := ⟨_, rfl⟩
                      rw [← ujzk19] at ujzc19 ⊢
                      have ze19 : ujZ19.1 183 8 = ((K.1 183 8) + 1) := by rw [ujzk19]; exact up_eq (D := ujZ18.1) (a := 183) (j := 8) (x := ((K.1 183 8) + 1))
                      refine q_rv (pc := 119) rfl ?_
                      exact hQ _ ujzc19.1 ujzc19.2
                    · replace h108 : c = 59 := h108
                      refine q_ic (pc := 109) (v := 3) rfl ?_
                      refine q_go (pc := 110) rfl ?_
                      refine q_pf (pc := 112) (m := 12100) (c := 10) rfl (show xPt 0 0 _ _ from (ttKc ujzc15.1 (a := 183) (κ := 12) (len := 0) ⟨rfl, rfl⟩ (by decide) (by decide)).1) rfl ?_
                      have ujzc20 := ttPuT ujzc15.1 ujzc15.2 (a := 183) (j := 10) (x := 3) (by decide) (fun _ _ => show ((-2147483648) : Int) ≤ 3 ∧ 3 ≤ 2147483647 from by decide) ⟨(183, 8, 11), by simp, ⟨⟨by decide, rfl⟩, by decide, by decide⟩⟩
                      obtain ⟨ujZ20, ujzk20⟩ : ∃ X : xH, X = (xUp ujZ15.1 183 10 3, ujZ15.2) := ⟨_, rfl⟩
                      rw [← ujzk20] at ujzc20 ⊢
                      have ze20 : ujZ20.1 183 10 = 3 := by rw [ujzk20]; exact up_eq (D := ujZ15.1) (a := 183) (j := 10) (x := 3)
                      have zm20 : ujZ20.1 183 8 = ujZ15.1 183 8 := by rw [ujzk20]; exact up_j (D := ujZ15.1) (a := 183) (j := 10) (x := 3) (k := 8) (by decide)
                      refine q_al (pc := 113) (i := 0) (x := 183) rfl rfl ?_
                      refine q_d2 (pc := 114) rfl ?_
                      refine q_gf (pc := 115) (m := 12080) (t := 0) (c := 8) rfl (ttKc ujzc20.1 (a := 183) (κ := 12) (len := 0) ⟨rfl, rfl⟩ (by decide) (by decide)).1 rfl rfl ?_
                      rw [zm20, zp]
                      refine q_ic (pc := 116) (v := 1) rfl ?_
                      refine q_ia (pc := 117) rfl (by omega) (by omega) ?_
                      refine q_pf (pc := 118) (m := 12080) (c := 8) rfl (show xPt 0 0 _ _ from (ttKc ujzc20.1 (a := 183) (κ := 12) (len := 0) ⟨rfl, rfl⟩ (by decide) (by decide)).1) rfl ?_
                      have ujzc21 := ttPuT ujzc20.1 ujzc20.2 (a := 183) (j := 8) (x := ((K.1 183 8) + 1)) (by decide) (fun _ _ => show (0 : Int) ≤ ((K.1 183 8) + 1) ∧ ((K.1 183 8) + 1) ≤ 1600 from by omega) ⟨(183, 8, 11), by simp, ⟨⟨by decide, rfl⟩, by decide, by decide⟩⟩
                      obtain ⟨ujZ21, ujzk21⟩ : ∃ X : xH, X = (xUp ujZ20.1 183 8 ((K.1 183 8) + 1), ujZ20.2) := ⟨_, rfl⟩
                      rw [← ujzk21] at ujzc21 ⊢
                      have ze21 : ujZ21.1 183 8 = ((K.1 183 8) + 1) := by rw [ujzk21]; exact up_eq (D := ujZ20.1) (a := 183) (j := 8) (x := ((K.1 183 8) + 1))
                      refine q_rv (pc := 119) rfl ?_
                      exact hQ _ ujzc21.1 ujzc21.2
                  · replace h66 : (0 : Int) ≠ 0 := h66
                    omega
              · replace h40 : (0 : Int) ≠ 0 := h40
                omega
          · replace h30 : c = (-1) := h30
            refine q_al (pc := 31) (i := 0) (x := 183) rfl rfl ?_
            refine q_ic (pc := 32) (v := 0) rfl ?_
            refine q_pf (pc := 33) (m := 12100) (c := 10) rfl (show xPt 0 0 _ _ from (ttKc ujzc15.1 (a := 183) (κ := 12) (len := 0) ⟨rfl, rfl⟩ (by decide) (by decide)).1) rfl ?_
            have ujzc22 := ttPuT ujzc15.1 ujzc15.2 (a := 183) (j := 10) (x := 0) (by decide) (fun _ _ => show ((-2147483648) : Int) ≤ 0 ∧ 0 ≤ 2147483647 from by decide) ⟨(183, 8, 11), by simp, ⟨⟨by decide, rfl⟩, by decide, by decide⟩⟩
            obtain ⟨ujZ22, ujzk22⟩ : ∃ X : xH, X = (xUp ujZ15.1 183 10 0, ujZ15.2) := ⟨_, rfl⟩
            rw [← ujzk22] at ujzc22 ⊢
            have ze22 : ujZ22.1 183 10 = 0 := by rw [ujzk22]; exact up_eq (D := ujZ15.1) (a := 183) (j := 10) (x := 0)
            have zm22 : ujZ22.1 183 8 = ujZ15.1 183 8 := by rw [ujzk22]; exact up_j (D := ujZ15.1) (a := 183) (j := 10) (x := 0) (k := 8) (by decide)
            refine q_go (pc := 34) rfl ?_
            refine q_rv (pc := 119) rfl ?_
            exact hQ _ ujzc22.1 ujzc22.2
        · replace h11 : ujj14 = 10 := h11
          exfalso
          omega
    | succ n ih =>
      intro K x1 hn2 kT kF
      have z8 := (i183 kT).1
      refine q_al (pc := 0) (i := 0) (x := 183) rfl rfl ?_
      refine q_al (pc := 1) (i := 0) (x := 183) rfl rfl ?_
      refine q_gf (pc := 2) (m := 12080) (t := 0) (c := 8) rfl (ttKc kT (a := 183) (κ := 12) (len := 0) ⟨rfl, rfl⟩ (by decide) (by decide)).1 rfl rfl ?_
      refine q_iv (pc := 3) (q := 1696968) rfl rfl rfl (ttKc kT (a := 183) (κ := 12) (len := 0) ⟨rfl, rfl⟩ (by decide) (by decide)).1 ?_
      refine lf_see (by omega) kT (i183 kT).1.1 (fun ujj23 ujhj23 => ?_)
      refine q_ic (pc := 4) (v := 32) rfl ?_
      refine q_i2 (pc := 5) rfl (fun h5 => ?_) (fun h5 => ?_)
      · replace h5 : ujj23 = 32 := h5
        refine q_al (pc := 12) (i := 0) (x := 183) rfl rfl ?_
        refine q_d2 (pc := 13) rfl ?_
        refine q_gf (pc := 14) (m := 12080) (t := 0) (c := 8) rfl (ttKc kT (a := 183) (κ := 12) (len := 0) ⟨rfl, rfl⟩ (by decide) (by decide)).1 rfl rfl ?_
        refine q_ic (pc := 15) (v := 1) rfl ?_
        refine q_ia (pc := 16) rfl (by omega) (by omega) ?_
        refine q_pf (pc := 17) (m := 12080) (c := 8) rfl (show xPt 0 0 _ _ from (ttKc kT (a := 183) (κ := 12) (len := 0) ⟨rfl, rfl⟩ (by decide) (by decide)).1) rfl ?_
        have ujzc24 := ttPuT kT kF (a := 183) (j := 8) (x := ((K.1 183 8) + 1)) (by decide) (fun _ _ => show (0 : Int) ≤ ((K.1 183 8) + 1) ∧ ((K.1 183 8) + 1) ≤ 1600 from by omega) ⟨(183, 8, 11), by simp, ⟨⟨by decide, rfl⟩, by decide, by decide⟩⟩
        obtain ⟨ujZ24, ujzk24⟩ : ∃ X : xH, X = (xUp K.1 183 8 ((K.1 183 8) + 1), K.2) := ⟨_, rfl⟩
        rw [← ujzk24] at ujzc24 ⊢
        have ze24 : ujZ24.1 183 8 = ((K.1 183 8) + 1) := by rw [ujzk24]; exact up_eq (D := K.1) (a := 183) (j := 8) (x := ((K.1 183 8) + 1))
        refine q_go (pc := 18) rfl ?_
        exact ih ujZ24 _ (by rw [ze24]; omega) ujzc24.1 ujzc24.2
      · replace h5 : ujj23 ≠ 32 := h5
        refine q_al (pc := 6) (i := 0) (x := 183) rfl rfl ?_
        refine q_al (pc := 7) (i := 0) (x := 183) rfl rfl ?_
        refine q_gf (pc := 8) (m := 12080) (t := 0) (c := 8) rfl (ttKc kT (a := 183) (κ := 12) (len := 0) ⟨rfl, rfl⟩ (by decide) (by decide)).1 rfl rfl ?_
        refine q_iv (pc := 9) (q := 1696968) rfl rfl rfl (ttKc kT (a := 183) (κ := 12) (len := 0) ⟨rfl, rfl⟩ (by decide) (by decide)).1 ?_
        refine lf_see (by omega) kT (i183 kT).1.1 (fun ujj25 ujhj25 => ?_)
        refine q_ic (pc := 10) (v := 10) rfl ?_
        refine q_i2 (pc := 11) rfl (fun h11 => ?_) (fun h11 => ?_)
        · replace h11 : ujj25 ≠ 10 := h11
          refine q_al (pc := 19) (i := 0) (x := 183) rfl rfl ?_
          refine q_al (pc := 20) (i := 0) (x := 183) rfl rfl ?_
          refine q_gf (pc := 21) (m := 12080) (t := 0) (c := 8) rfl (ttKc kT (a := 183) (κ := 12) (len := 0) ⟨rfl, rfl⟩ (by decide) (by decide)).1 rfl rfl ?_
          refine q_pf (pc := 22) (m := 12090) (c := 9) rfl (show xPt 0 0 _ _ from (ttKc kT (a := 183) (κ := 12) (len := 0) ⟨rfl, rfl⟩ (by decide) (by decide)).1) rfl ?_
          have ujzc26 := ttPuT kT kF (a := 183) (j := 9) (x := (K.1 183 8)) (by decide) (fun _ _ => show (0 : Int) ≤ (K.1 183 8) ∧ (K.1 183 8) ≤ 1600 from by omega) ⟨(183, 8, 11), by simp, ⟨⟨by decide, rfl⟩, by decide, by decide⟩⟩
          obtain ⟨ujZ26, ujzk26⟩ : ∃ X : xH, X = (xUp K.1 183 9 (K.1 183 8), K.2) := ⟨_, rfl⟩
          rw [← ujzk26] at ujzc26 ⊢
          have ze26 : ujZ26.1 183 9 = (K.1 183 8) := by rw [ujzk26]; exact up_eq (D := K.1) (a := 183) (j := 9) (x := (K.1 183 8))
          have zm26 : ujZ26.1 183 8 = K.1 183 8 := by rw [ujzk26]; exact up_j (D := K.1) (a := 183) (j := 9) (x := (K.1 183 8)) (k := 8) (by decide)
          have zp : ujZ26.1 183 8 = K.1 183 8 := zm26
          refine q_al (pc := 23) (i := 0) (x := 183) rfl rfl ?_
          refine q_al (pc := 24) (i := 0) (x := 183) rfl rfl ?_
          refine q_gf (pc := 25) (m := 12080) (t := 0) (c := 8) rfl (ttKc ujzc26.1 (a := 183) (κ := 12) (len := 0) ⟨rfl, rfl⟩ (by decide) (by decide)).1 rfl rfl ?_
          refine q_iv (pc := 26) (q := 1696968) rfl rfl rfl (ttKc ujzc26.1 (a := 183) (κ := 12) (len := 0) ⟨rfl, rfl⟩ (by decide) (by decide)).1 ?_
          refine lf_see (by omega) ujzc26.1 (i183 ujzc26.1).1.1 (fun ujj27 ujhj27 => ?_)
          obtain ⟨c, jc⟩ : ∃ c, c = ujj27 := ⟨_, rfl⟩
          rw [← jc] at ujhj27 ⊢
          rw [zp] at ujhj27
          refine q_is (pc := 27) (i := 1) (L' := [(2, 183), (0, c)]) rfl rfl rfl ?_
          refine q_il (pc := 28) (i := 1) (x := c) rfl rfl ?_
          refine q_ic (pc := 29) (v := (-1)) rfl ?_
          refine q_i2 (pc := 30) rfl (fun h30 => ?_) (fun h30 => ?_)
          · replace h30 : c ≠ (-1) := h30
            refine q_il (pc := 35) (i := 1) (x := c) rfl rfl ?_
            refine q_2l (pc := 36) rfl ?_
            refine q_lc (pc := 37) (v := 97) rfl ?_
            refine q_lc (pc := 38) (v := 122) rfl ?_
            refine q_ij (pc := 39) (q := 1615932) rfl rfl rfl trivial ?_
            refine lf_in (by omega) (fun jn39 => ?_) (fun jn39 => ?_)
            · skip
              refine q_if (pc := 40) rfl (fun h40 => ?_) (fun h40 => ?_)
              · replace h40 : (1 : Int) = 0 := h40
                omega
              · replace h40 : (1 : Int) ≠ 0 := h40
                exact ha (1600 - ujZ26.1 183 8).toNat ujZ26 _ (by have := (i183 ujzc26.1).1; omega) ujzc26.1 ujzc26.2
            · skip
              refine q_if (pc := 40) rfl (fun h40 => ?_) (fun h40 => ?_)
              · replace h40 : (0 : Int) = 0 := h40
                refine q_il (pc := 61) (i := 1) (x := c) rfl rfl ?_
                refine q_2l (pc := 62) rfl ?_
                refine q_lc (pc := 63) (v := 48) rfl ?_
                refine q_lc (pc := 64) (v := 57) rfl ?_
                refine q_ij (pc := 65) (q := 1615932) rfl rfl rfl trivial ?_
                refine lf_in (by omega) (fun jn65 => ?_) (fun jn65 => ?_)
                · skip
                  refine q_if (pc := 66) rfl (fun h66 => ?_) (fun h66 => ?_)
                  · replace h66 : (1 : Int) = 0 := h66
                    omega
                  · replace h66 : (1 : Int) ≠ 0 := h66
                    refine q_al (pc := 67) (i := 0) (x := 183) rfl rfl ?_
                    refine q_ic (pc := 68) (v := 0) rfl ?_
                    refine q_pf (pc := 69) (m := 12110) (c := 11) rfl (show xPt 0 0 _ _ from (ttKc ujzc26.1 (a := 183) (κ := 12) (len := 0) ⟨rfl, rfl⟩ (by decide) (by decide)).1) rfl ?_
                    have ujzc28 := ttPuT ujzc26.1 ujzc26.2 (a := 183) (j := 11) (x := 0) (by decide) (fun _ _ => show ((-2147483648) : Int) ≤ 0 ∧ 0 ≤ 2147483647 from by decide) ⟨(183, 8, 11), by simp, ⟨⟨by decide, rfl⟩, by decide, by decide⟩⟩
                    obtain ⟨ujZ28, ujzk28⟩ : ∃ X : xH, X = (xUp ujZ26.1 183 11 0, ujZ26.2) := ⟨_, rfl⟩
                    rw [← ujzk28] at ujzc28 ⊢
                    have ze28 : ujZ28.1 183 11 = 0 := by rw [ujzk28]; exact up_eq (D := ujZ26.1) (a := 183) (j := 11) (x := 0)
                    have zm28 : ujZ28.1 183 8 = ujZ26.1 183 8 := by rw [ujzk28]; exact up_j (D := ujZ26.1) (a := 183) (j := 11) (x := 0) (k := 8) (by decide)
                    exact hc (1600 - ujZ28.1 183 8).toNat ujZ28 _ (by have := (i183 ujzc28.1).1; omega) ujzc28.1 ujzc28.2
                · skip
                  refine q_if (pc := 66) rfl (fun h66 => ?_) (fun h66 => ?_)
                  · replace h66 : (0 : Int) = 0 := h66
                    refine q_al (pc := 105) (i := 0) (x := 183) rfl rfl ?_
                    refine q_il (pc := 106) (i := 1) (x := c) rfl rfl ?_
                    refine q_ic (pc := 107) (v := 59) rfl ?_
                    refine q_i2 (pc := 108) rfl (fun h108 => ?_) (fun h108 => ?_)
                    · replace h108 : c ≠ 59 := h108
                      refine q_ic (pc := 111) (v := 4) rfl ?_
                      refine q_pf (pc := 112) (m := 12100) (c := 10) rfl (show xPt 0 0 _ _ from (ttKc ujzc26.1 (a := 183) (κ := 12) (len := 0) ⟨rfl, rfl⟩ (by decide) (by decide)).1) rfl ?_
                      have ujzc29 := ttPuT ujzc26.1 ujzc26.2 (a := 183) (j := 10) (x := 4) (by decide) (fun _ _ => show ((-2147483648) : Int) ≤ 4 ∧ 4 ≤ 2147483647 from by decide) ⟨(183, 8, 11), by simp, ⟨⟨by decide, rfl⟩, by decide, by decide⟩⟩
                      obtain ⟨ujZ29, ujzk29⟩ : ∃ X : xH, X = (xUp ujZ26.1 183 10 4, ujZ26.2) := ⟨_, rfl⟩
                      rw [← ujzk29] at ujzc29 ⊢
                      have ze29 : ujZ29.1 183 10 = 4 := by rw [ujzk29]; exact up_eq (D := ujZ26.1) (a := 183) (j := 10) (x := 4)
                      have zm29 : ujZ29.1 183 8 = ujZ26.1 183 8 := by rw [ujzk29]; exact up_j (D := ujZ26.1) (a := 183) (j := 10) (x := 4) (k := 8) (by decide)
                      refine q_al (pc := 113) (i := 0) (x := 183) rfl rfl ?_
                      refine q_d2 (pc := 114) rfl ?_
                      refine q_gf (pc := 115) (m := 12080) (t := 0) (c := 8) rfl (ttKc ujzc29.1 (a := 183) (κ := 12) (len := 0) ⟨rfl, rfl⟩ (by decide) (by decide)).1 rfl rfl ?_
                      rw [zm29, zp]
                      refine q_ic (pc := 116) (v := 1) rfl ?_
                      refine q_ia (pc := 117) rfl (by omega) (by omega) ?_
                      refine q_pf (pc := 118) (m := 12080) (c := 8) rfl (show xPt 0 0 _ _ from (ttKc ujzc29.1 (a := 183) (κ := 12) (len := 0) ⟨rfl, rfl⟩ (by decide) (by decide)).1) rfl ?_
                      have ujzc30 := ttPuT ujzc29.1 ujzc29.2 (a := 183) (j := 8) (x := ((K.1 183 8) + 1)) (by decide) (fun _ _ => show (0 : Int) ≤ ((K.1 183 8) + 1) ∧ ((K.1 183 8) + 1) ≤ 1600 from by omega) ⟨(183, 8, 11), by simp, ⟨⟨by decide, rfl⟩, by decide, by decide⟩⟩
                      obtain ⟨ujZ30, ujzk30⟩ : ∃ X : xH, X = (xUp ujZ29.1 183 8 ((K.1 183 8) + 1), ujZ29.2) := ⟨_, rfl⟩
                      rw [← ujzk30] at ujzc30 ⊢
                      have ze30 : ujZ30.1 183 8 = ((K.1 183 8) + 1) := by rw [ujzk30]; exact up_eq (D := ujZ29.1) (a := 183) (j := 8) (x := ((K.1 183 8) + 1))
                      refine q_rv (pc := 119) rfl ?_
                      exact hQ _ ujzc30.1 ujzc30.2
                    · replace h108 : c = 59 := h108
                      refine q_ic (pc := 109) (v := 3) rfl ?_
                      refine q_go (pc := 110) rfl ?_
                      refine q_pf (pc := 112) (m := 12100) (c := 10) rfl (show xPt 0 0 _ _ from (ttKc ujzc26.1 (a := 183) (κ := 12) (len := 0) ⟨rfl, rfl⟩ (by decide) (by decide)).1) rfl ?_
                      have ujzc31 := ttPuT ujzc26.1 ujzc26.2 (a := 183) (j := 10) (x := 3) (by decide) (fun _ _ => show ((-2147483648) : Int) ≤ 3 ∧ 3 ≤ 2147483647 from by decide) ⟨(183, 8, 11), by simp, ⟨⟨by decide, rfl⟩, by decide, by decide⟩⟩
                      obtain ⟨ujZ31, ujzk31⟩ : ∃ X : xH, X = (xUp ujZ26.1 183 10 3, ujZ26.2) := ⟨_, rfl⟩
                      rw [← ujzk31] at ujzc31 ⊢
                      have ze31 : ujZ31.1 183 10 = 3 := by rw [ujzk31]; exact up_eq (D := ujZ26.1) (a := 183) (j := 10) (x := 3)
                      have zm31 : ujZ31.1 183 8 = ujZ26.1 183 8 := by rw [ujzk31]; exact up_j (D := ujZ26.1) (a := 183) (j := 10) (x := 3) (k := 8) (by decide)
                      refine q_al (pc := 113) (i := 0) (x := 183) rfl rfl ?_
                      refine q_d2 (pc := 114) rfl ?_
                      refine q_gf (pc := 115) (m := 12080) (t := 0) (c := 8) rfl (ttKc ujzc31.1 (a := 183) (κ := 12) (len := 0) ⟨rfl, rfl⟩ (by decide) (by decide)).1 rfl rfl ?_
                      rw [zm31, zp]
                      refine q_ic (pc := 116) (v := 1) rfl ?_
                      refine q_ia (pc := 117) rfl (by omega) (by omega) ?_
                      refine q_pf (pc := 118) (m := 12080) (c := 8) rfl (show xPt 0 0 _ _ from (ttKc ujzc31.1 (a := 183) (κ := 12) (len := 0) ⟨rfl, rfl⟩ (by decide) (by decide)).1) rfl ?_
                      have ujzc32 := ttPuT ujzc31.1 ujzc31.2 (a := 183) (j := 8) (x := ((K.1 183 8) + 1)) (by decide) (fun _ _ => show (0 : Int) ≤ ((K.1 183 8) + 1) ∧ ((K.1 183 8) + 1) ≤ 1600 from by omega) ⟨(183, 8, 11), by simp, ⟨⟨by decide, rfl⟩, by decide, by decide⟩⟩
                      obtain ⟨ujZ32, ujzk32⟩ : ∃ X : xH, X = (xUp ujZ31.1 183 8 ((K.1 183 8) + 1), ujZ31.2) := ⟨_, rfl⟩
                      rw [← ujzk32] at ujzc32 ⊢
                      have ze32 : ujZ32.1 183 8 = ((K.1 183 8) + 1) := by rw [ujzk32]; exact up_eq (D := ujZ31.1) (a := 183) (j := 8) (x := ((K.1 183 8) + 1))
                      refine q_rv (pc := 119) rfl ?_
                      exact hQ _ ujzc32.1 ujzc32.2
                  · replace h66 : (0 : Int) ≠ 0 := h66
                    omega
              · replace h40 : (0 : Int) ≠ 0 := h40
                omega
          · replace h30 : c = (-1) := h30
            refine q_al (pc := 31) (i := 0) (x := 183) rfl rfl ?_
            refine q_ic (pc := 32) (v := 0) rfl ?_
            refine q_pf (pc := 33) (m := 12100) (c := 10) rfl (show xPt 0 0 _ _ from (ttKc ujzc26.1 (a := 183) (κ := 12) (len := 0) ⟨rfl, rfl⟩ (by decide) (by decide)).1) rfl ?_
            have ujzc33 := ttPuT ujzc26.1 ujzc26.2 (a := 183) (j := 10) (x := 0) (by decide) (fun _ _ => show ((-2147483648) : Int) ≤ 0 ∧ 0 ≤ 2147483647 from by decide) ⟨(183, 8, 11), by simp, ⟨⟨by decide, rfl⟩, by decide, by decide⟩⟩
            obtain ⟨ujZ33, ujzk33⟩ : ∃ X : xH, X = (xUp ujZ26.1 183 10 0, ujZ26.2) := ⟨_, rfl⟩
            rw [← ujzk33] at ujzc33 ⊢
            have ze33 : ujZ33.1 183 10 = 0 := by rw [ujzk33]; exact up_eq (D := ujZ26.1) (a := 183) (j := 10) (x := 0)
            have zm33 : ujZ33.1 183 8 = ujZ26.1 183 8 := by rw [ujzk33]; exact up_j (D := ujZ26.1) (a := 183) (j := 10) (x := 0) (k := 8) (by decide)
            refine q_go (pc := 34) rfl ?_
            refine q_rv (pc := 119) rfl ?_
            exact hQ _ ujzc33.1 ujzc33.2
        · replace h11 : ujj25 = 10 := h11
          refine q_al (pc := 12) (i := 0) (x := 183) rfl rfl ?_
          refine q_d2 (pc := 13) rfl ?_
          refine q_gf (pc := 14) (m := 12080) (t := 0) (c := 8) rfl (ttKc kT (a := 183) (κ := 12) (len := 0) ⟨rfl, rfl⟩ (by decide) (by decide)).1 rfl rfl ?_
          refine q_ic (pc := 15) (v := 1) rfl ?_
          refine q_ia (pc := 16) rfl (by omega) (by omega) ?_
          refine q_pf (pc := 17) (m := 12080) (c := 8) rfl (show xPt 0 0 _ _ from (ttKc kT (a := 183) (κ := 12) (len := 0) ⟨rfl, rfl⟩ (by decide) (by decide)).1) rfl ?_
          have ujzc34 := ttPuT kT kF (a := 183) (j := 8) (x := ((K.1 183 8) + 1)) (by decide) (fun _ _ => show (0 : Int) ≤ ((K.1 183 8) + 1) ∧ ((K.1 183 8) + 1) ≤ 1600 from by omega) ⟨(183, 8, 11), by simp, ⟨⟨by decide, rfl⟩, by decide, by decide⟩⟩
          obtain ⟨ujZ34, ujzk34⟩ : ∃ X : xH, X = (xUp K.1 183 8 ((K.1 183 8) + 1), K.2) := ⟨_, rfl⟩
          rw [← ujzk34] at ujzc34 ⊢
          have ze34 : ujZ34.1 183 8 = ((K.1 183 8) + 1) := by rw [ujzk34]; exact up_eq (D := K.1) (a := 183) (j := 8) (x := ((K.1 183 8) + 1))
          refine q_go (pc := 18) rfl ?_
          exact ih ujZ34 _ (by rw [ze34]; omega) ujzc34.1 ujzc34.2
  refine xC_of (L := [(2, 183), (9, 0)]) (cd := cd_213) rfl rfl rfl ?_
  exact hb (1600 - H.1 183 8).toNat H _ (by have := (i183 hT).1; omega) hT (ttFr_rf _ H)
theorem lf_takes {dd : Nat} {s : Int} (s0 : s ≤ -2) (s1 : -29 < s) (hd : 7 ≤ dd) {H : xH} (hT : ttTI H) (hX : ttXX YY H) {Q : Int → xH → Prop} (hy : yyIs H.1 s → ∀ K, ttTI K → ttFr (true, [(183, 8, 13)]) H K → K.1 183 12 = 0 → Q 1 K) (hn : ¬ yyIs H.1 s → Q 0 H) : xCall dd 217 [(2, 183), (2, s)] H Q := by
  obtain ⟨e, rfl, he⟩ := ttRun0 (n := 6) hd
  have he : 6 ≤ e := he
  have hn0 : 210 ≤ (H.2.2.2.1 : Int) := by have := hT.1; omega
  refine xC_of (L := [(2, 183), (2, s), (9, 0)]) (cd := cd_217) rfl rfl rfl ?_
  refine q_al (pc := 0) (i := 0) (x := 183) rfl rfl ?_
  refine q_al (pc := 1) (i := 1) (x := s) rfl rfl ?_
  refine q_iv (pc := 2) (q := 1728968) rfl rfl rfl ⟨by omega, (ttKc hT (a := 183) (κ := 12) (len := 0) ⟨rfl, rfl⟩ (by decide) (by decide)).1⟩ ?_
  refine lf_is s0 s1 (by omega) hT (fun ji2 => ?_) (fun ji2 => ?_)
  · skip
    refine q_is (pc := 3) (i := 2) (L' := [(2, 183), (2, s), (0, 1)]) rfl rfl rfl ?_
    refine q_il (pc := 4) (i := 2) (x := 1) rfl rfl ?_
    refine q_if (pc := 5) rfl (fun h5 => ?_) (fun h5 => ?_)
    · replace h5 : (1 : Int) = 0 := h5
      omega
    · replace h5 : (1 : Int) ≠ 0 := h5
      refine q_al (pc := 6) (i := 0) (x := 183) rfl rfl ?_
      refine q_iv (pc := 7) (q := 1704967) rfl rfl rfl (ttKc hT (a := 183) (κ := 12) (len := 0) ⟨rfl, rfl⟩ (by decide) (by decide)).1 ?_
      refine lf_advance (by omega) hT (fun K kT kF => ?_)
      refine q_il (pc := 8) (i := 2) (x := 1) rfl rfl ?_
      refine q_rz (pc := 9) rfl (by omega) ?_
      exact hy ji2 K kT (ttFr_tr (ttFr_rf _ _) kF (fun _ => rfl) (by decide)) ((fr_12 kF (by decide) hn0).trans ji2.1)
  · skip
    refine q_is (pc := 3) (i := 2) (L' := [(2, 183), (2, s), (0, 0)]) rfl rfl rfl ?_
    refine q_il (pc := 4) (i := 2) (x := 0) rfl rfl ?_
    refine q_if (pc := 5) rfl (fun h5 => ?_) (fun h5 => ?_)
    · replace h5 : (0 : Int) = 0 := h5
      refine q_il (pc := 8) (i := 2) (x := 0) rfl rfl ?_
      refine q_rz (pc := 9) rfl (by omega) ?_
      exact hn ji2
    · replace h5 : (0 : Int) ≠ 0 := h5
      omega
theorem lf_needs {dd : Nat} {s : Int} (s0 : s ≤ -2) (s1 : -29 < s) (hd : 8 ≤ dd) {H : xH} (hT : ttTI H) (hX : ttXX YY H) {Q : Int → xH → Prop} (hQ : ∀ K, ttTI K → ttFr (true, [(183, 8, 13)]) H K → (K.1 183 12 = 0 → H.1 183 12 = 0) → Q 0 K) : xCall dd 218 [(2, 183), (2, s)] H Q := by
  obtain ⟨e, rfl, he⟩ := ttRun0 (n := 7) hd
  have he : 7 ≤ e := he
  have hn0 : 210 ≤ (H.2.2.2.1 : Int) := by have := hT.1; omega
  refine xC_of (L := [(2, 183), (2, s)]) (cd := cd_218) rfl rfl rfl ?_
  refine q_al (pc := 0) (i := 0) (x := 183) rfl rfl ?_
  refine q_al (pc := 1) (i := 1) (x := s) rfl rfl ?_
  refine q_iv (pc := 2) (q := 1736968) rfl rfl rfl ⟨by omega, (ttKc hT (a := 183) (κ := 12) (len := 0) ⟨rfl, rfl⟩ (by decide) (by decide)).1⟩ ?_
  refine lf_takes s0 s1 (by omega) hT hX (fun ji K kT kF kg => ?_) (fun ji => ?_)
  · skip
    refine q_if (pc := 3) rfl (fun h3 => ?_) (fun h3 => ?_)
    · replace h3 : (1 : Int) ≠ 0 := h3
      refine q_rv (pc := 7) rfl ?_
      exact hQ K kT kF (fun _ => ji.1)
    · replace h3 : (1 : Int) = 0 := h3
      omega
  · skip
    refine q_if (pc := 3) rfl (fun h3 => ?_) (fun h3 => ?_)
    · replace h3 : (0 : Int) ≠ 0 := h3
      omega
    · replace h3 : (0 : Int) = 0 := h3
      refine q_al (pc := 4) (i := 0) (x := 183) rfl rfl ?_
      refine q_ic (pc := 5) (v := 1) rfl ?_
      refine q_iv (pc := 6) (q := 1720971) rfl rfl rfl (ttKc hT (a := 183) (κ := 12) (len := 0) ⟨rfl, rfl⟩ (by decide) (by decide)).1 ?_
      refine lf_errs (by omega) hT (by decide) (by decide) (fun J jT jF jn => ?_)
      refine q_rv (pc := 7) rfl ?_
      exact hQ J jT jF (fun z => absurd z jn)
theorem lf_number {dd : Nat} {l m : Int} (hd : 3 ≤ dd) {H : xH} (hT : ttTI H) (hX : ttXX YY H) {Q : Int → xH → Prop} (hQ : ∀ r K, ttTI K → ttFr (true, [(183, 8, 13)]) H K → (K.1 183 12 = 0 → H.1 183 12 = 0 ∧ l ≤ r ∧ r ≤ m) → (r = 0 ∨ (l ≤ r ∧ r ≤ m)) → Q r K) : xCall dd 219 [(2, 183), (0, l), (0, m)] H Q := by
  obtain ⟨e, rfl, he⟩ := ttRun0 (n := 2) hd
  have he : 2 ≤ e := he
  have hn : 210 ≤ (H.2.2.2.1 : Int) := by have := hT.1; omega
  have h25 : ∀ K : xH, ttTI K → ttFr (true, [(183, 8, 13)]) H K → (K.1 183 12 = 0 → H.1 183 12 = 0 ∧ l ≤ K.1 183 11 ∧ K.1 183 11 ≤ m) → xW e cd_219 Q (25, [(2, 183), (0, l), (0, m), (9, 0)], [], K) := by
    intro K kT kF kg
    have kn : 210 ≤ (K.2.2.2.1 : Int) := by have := kT.1; omega
    refine q_al (pc := 25) (i := 0) (x := 183) rfl rfl ?_
    refine q_iv (pc := 26) (q := 1712964) rfl rfl rfl (ttKc kT (a := 183) (κ := 12) (len := 0) ⟨rfl, rfl⟩ (by decide) (by decide)).1 ?_
    refine lf_good (by omega) kT (fun jg26 => ?_) (fun jg26 => ?_)
    · skip
      refine q_if (pc := 27) rfl (fun h27 => ?_) (fun h27 => ?_)
      · replace h27 : (1 : Int) ≠ 0 := h27
        refine q_al (pc := 30) (i := 0) (x := 183) rfl rfl ?_
        refine q_gf (pc := 31) (m := 12110) (t := 0) (c := 11) rfl (ttKc kT (a := 183) (κ := 12) (len := 0) ⟨rfl, rfl⟩ (by decide) (by decide)).1 rfl rfl ?_
        refine q_is (pc := 32) (i := 3) (L' := [(2, 183), (0, l), (0, m), (0, (K.1 183 11))]) rfl rfl rfl ?_
        refine q_al (pc := 33) (i := 0) (x := 183) rfl rfl ?_
        refine q_iv (pc := 34) (q := 1704967) rfl rfl rfl (ttKc kT (a := 183) (κ := 12) (len := 0) ⟨rfl, rfl⟩ (by decide) (by decide)).1 ?_
        refine lf_advance (by omega) kT (fun J jT jF => ?_)
        refine q_il (pc := 35) (i := 3) (x := (K.1 183 11)) rfl rfl ?_
        refine q_ri (pc := 36) rfl ?_
        exact hQ _ J jT (ttFr_tr kF jF (fun _ => rfl) (by decide)) (fun _ => kg jg26) (Or.inr (kg jg26).2)
      · replace h27 : (1 : Int) = 0 := h27
        omega
    · skip
      refine q_if (pc := 27) rfl (fun h27 => ?_) (fun h27 => ?_)
      · replace h27 : (0 : Int) ≠ 0 := h27
        omega
      · replace h27 : (0 : Int) = 0 := h27
        refine q_ic (pc := 28) (v := 0) rfl ?_
        refine q_ri (pc := 29) rfl ?_
        exact hQ 0 K kT kF (fun z => absurd z jg26) (Or.inl rfl)
  have h10 : ∀ K : xH, ttTI K → ttFr (true, [(183, 8, 13)]) H K → (K.1 183 12 = 0 → H.1 183 12 = 0) → xW e cd_219 Q (10, [(2, 183), (0, l), (0, m), (9, 0)], [], K) := by
    intro K kT kF kg
    refine q_al (pc := 10) (i := 0) (x := 183) rfl rfl ?_
    refine q_iv (pc := 11) (q := 1712964) rfl rfl rfl (ttKc kT (a := 183) (κ := 12) (len := 0) ⟨rfl, rfl⟩ (by decide) (by decide)).1 ?_
    refine lf_good (by omega) kT (fun jg11 => ?_) (fun jg11 => ?_)
    · skip
      refine q_if (pc := 12) rfl (fun h12 => ?_) (fun h12 => ?_)
      · replace h12 : (1 : Int) = 0 := h12
        omega
      · replace h12 : (1 : Int) ≠ 0 := h12
        refine q_al (pc := 13) (i := 0) (x := 183) rfl rfl ?_
        refine q_gf (pc := 14) (m := 12110) (t := 0) (c := 11) rfl (ttKc kT (a := 183) (κ := 12) (len := 0) ⟨rfl, rfl⟩ (by decide) (by decide)).1 rfl rfl ?_
        refine q_2l (pc := 15) rfl ?_
        refine q_il (pc := 16) (i := 1) (x := l) rfl rfl ?_
        refine q_2l (pc := 17) rfl ?_
        refine q_il (pc := 18) (i := 2) (x := m) rfl rfl ?_
        refine q_2l (pc := 19) rfl ?_
        refine q_ij (pc := 20) (q := 1615932) rfl rfl rfl trivial ?_
        refine lf_in (by omega) (fun jn20 => ?_) (fun jn20 => ?_)
        · skip
          refine q_if (pc := 21) rfl (fun h21 => ?_) (fun h21 => ?_)
          · replace h21 : (1 : Int) ≠ 0 := h21
            exact h25 K kT kF (fun z => ⟨kg z, jn20.1, jn20.2⟩)
          · replace h21 : (1 : Int) = 0 := h21
            omega
        · skip
          refine q_if (pc := 21) rfl (fun h21 => ?_) (fun h21 => ?_)
          · replace h21 : (0 : Int) ≠ 0 := h21
            omega
          · replace h21 : (0 : Int) = 0 := h21
            refine q_al (pc := 22) (i := 0) (x := 183) rfl rfl ?_
            refine q_ic (pc := 23) (v := 2) rfl ?_
            refine q_iv (pc := 24) (q := 1720971) rfl rfl rfl (ttKc kT (a := 183) (κ := 12) (len := 0) ⟨rfl, rfl⟩ (by decide) (by decide)).1 ?_
            refine lf_errs (by omega) kT (by decide) (by decide) (fun J jT jF jn => ?_)
            replace jF := ttFr_tr kF jF (fun _ => rfl) (by decide)
            exact h25 J jT jF (fun z => absurd z jn)
    · skip
      refine q_if (pc := 12) rfl (fun h12 => ?_) (fun h12 => ?_)
      · replace h12 : (0 : Int) = 0 := h12
        exact h25 K kT kF (fun z => absurd z jg11)
      · replace h12 : (0 : Int) ≠ 0 := h12
        omega
  refine xC_of (L := [(2, 183), (0, l), (0, m), (9, 0)]) (cd := cd_219) rfl rfl rfl ?_
  refine q_al (pc := 0) (i := 0) (x := 183) rfl rfl ?_
  refine q_iv (pc := 1) (q := 1712964) rfl rfl rfl (ttKc hT (a := 183) (κ := 12) (len := 0) ⟨rfl, rfl⟩ (by decide) (by decide)).1 ?_
  refine lf_good (by omega) hT (fun jg1 => ?_) (fun jg1 => ?_)
  · skip
    refine q_if (pc := 2) rfl (fun h2 => ?_) (fun h2 => ?_)
    · replace h2 : (1 : Int) = 0 := h2
      omega
    · replace h2 : (1 : Int) ≠ 0 := h2
      refine q_al (pc := 3) (i := 0) (x := 183) rfl rfl ?_
      refine q_gf (pc := 4) (m := 12100) (t := 0) (c := 10) rfl (ttKc hT (a := 183) (κ := 12) (len := 0) ⟨rfl, rfl⟩ (by decide) (by decide)).1 rfl rfl ?_
      refine q_ic (pc := 5) (v := 2) rfl ?_
      refine q_i2 (pc := 6) rfl (fun h6 => ?_) (fun h6 => ?_)
      · replace h6 : (H.1 183 10) = 2 := h6
        exact h10 H hT (ttFr_rf _ H) id
      · replace h6 : (H.1 183 10) ≠ 2 := h6
        refine q_al (pc := 7) (i := 0) (x := 183) rfl rfl ?_
        refine q_ic (pc := 8) (v := 1) rfl ?_
        refine q_iv (pc := 9) (q := 1720971) rfl rfl rfl (ttKc hT (a := 183) (κ := 12) (len := 0) ⟨rfl, rfl⟩ (by decide) (by decide)).1 ?_
        refine lf_errs (by omega) hT (by decide) (by decide) (fun J jT jF jn => ?_)
        replace jF := ttFr_tr (ttFr_rf (true, [(183, 8, 13)]) H) jF (fun _ => rfl) (by decide)
        exact h10 J jT jF (fun z => absurd z jn)
  · skip
    refine q_if (pc := 2) rfl (fun h2 => ?_) (fun h2 => ?_)
    · replace h2 : (0 : Int) = 0 := h2
      exact h10 H hT (ttFr_rf _ H) id
    · replace h2 : (0 : Int) ≠ 0 := h2
      omega
theorem lf_told {dd : Nat} {s l m : Int} (s0 : s ≤ -2) (s1 : -29 < s) (hd : 9 ≤ dd) {H : xH} (hT : ttTI H) (hX : ttXX YY H) {Q : Int → xH → Prop} (hQ : ∀ r K, ttTI K → ttFr (true, [(183, 8, 13)]) H K → (K.1 183 12 = 0 → H.1 183 12 = 0 ∧ l ≤ r ∧ r ≤ m) → (r = 0 ∨ (l ≤ r ∧ r ≤ m)) → Q r K) : xCall dd 220 [(2, 183), (2, s), (0, l), (0, m)] H Q := by
  obtain ⟨e, rfl, he⟩ := ttRun0 (n := 8) hd
  have he : 8 ≤ e := he
  refine xC_of (L := [(2, 183), (2, s), (0, l), (0, m)]) (cd := cd_220) rfl rfl rfl ?_
  refine q_al (pc := 0) (i := 0) (x := 183) rfl rfl ?_
  refine q_al (pc := 1) (i := 1) (x := s) rfl rfl ?_
  refine q_iv (pc := 2) (q := 1744971) rfl rfl rfl ⟨by omega, (ttKc hT (a := 183) (κ := 12) (len := 0) ⟨rfl, rfl⟩ (by decide) (by decide)).1⟩ ?_
  refine lf_needs s0 s1 (by omega) hT hX (fun K kT kF kg => ?_)
  refine q_al (pc := 3) (i := 0) (x := 183) rfl rfl ?_
  refine q_il (pc := 4) (i := 2) (x := l) rfl rfl ?_
  refine q_il (pc := 5) (i := 3) (x := m) rfl rfl ?_
  refine q_iv (pc := 6) (q := 1752972) rfl rfl rfl (ttKc kT (a := 183) (κ := 12) (len := 0) ⟨rfl, rfl⟩ (by decide) (by decide)).1 ?_
  refine lf_number (by omega) kT (xx_fr kF rfl (by decide) (by decide) hX) (fun r J jT jF jg jr => ?_)
  refine q_ri (pc := 7) rfl ?_
  exact hQ r J jT (ttFr_tr kF jF (fun _ => rfl) (by decide)) (fun z => ⟨kg (jg z).1, (jg z).2⟩) jr
theorem lf_place {dd : Nat} (hd : 4 ≤ dd) {H : xH} (hT : ttTI H) (hX : ttXX YY H) {Q : Int → xH → Prop} (hQ : ∀ r K, ttTI K → ttFr (true, [(183, 8, 13)]) H K → (K.1 183 12 = 0 → H.1 183 12 = 0 ∧ r < H.1 189 1) → 0 ≤ r → r ≤ 7 → Q r K) : xCall dd 222 [(2, 183)] H Q := by
  obtain ⟨e, rfl, he⟩ := ttRun0 (n := 3) hd
  have he : 3 ≤ e := he
  have zn : 0 ≤ H.1 189 1 ∧ H.1 189 1 ≤ 8 := ttMc hT (a := 189) (j := 1) (by decide) (by decide) (by decide) (by decide)
  refine xC_of (L := [(2, 183)]) (cd := cd_222) rfl rfl rfl ?_
  refine q_al (pc := 0) (i := 0) (x := 183) rfl rfl ?_
  refine q_ic (pc := 1) (v := 0) rfl ?_
  refine q_al (pc := 2) (i := 0) (x := 183) rfl rfl ?_
  refine q_gf (pc := 3) (m := 12142) (t := 2) (c := 14) rfl (ttKc hT (a := 183) (κ := 12) (len := 0) ⟨rfl, rfl⟩ (by decide) (by decide)).1 rfl rfl ?_
  rw [show H.1 183 14 = 189 from ttFx hT (by decide) (by decide) rfl rfl rfl]
  refine q_ic (pc := 4) (v := 1) rfl ?_
  refine q_ai (pc := 5) rfl (ttKc hT (a := 189) (κ := 20) (len := 196) ⟨rfl, rfl⟩ (by decide) (by decide)).1 (by omega) (by rw [(ttKc hT (a := 189) (κ := 20) (len := 196) ⟨rfl, rfl⟩ (by decide) (by decide)).2]; omega) ?_
  refine q_ic (pc := 6) (v := 1) rfl ?_
  refine q_ib (pc := 7) rfl (by omega) (by omega) ?_
  refine q_iv (pc := 8) (q := 1752972) rfl rfl rfl (ttKc hT (a := 183) (κ := 12) (len := 0) ⟨rfl, rfl⟩ (by decide) (by decide)).1 ?_
  refine lf_number (by omega) hT hX (fun r J jT jF jg jr => ?_)
  refine q_ri (pc := 9) rfl ?_
  exact hQ r J jT jF (fun z => ⟨(jg z).1, by have := (jg z).2; omega⟩) (by omega) (by omega)
theorem lf_signed {dd : Nat} {m : Int} (hd : 8 ≤ dd) {H : xH} (hT : ttTI H) (hX : ttXX YY H) (m0 : 0 ≤ m) (m1 : m ≤ 999) {Q : Int → xH → Prop} (hQ : ∀ r K, ttTI K → ttFr (true, [(183, 8, 13)]) H K → (K.1 183 12 = 0 → H.1 183 12 = 0) → -m ≤ r → r ≤ m → Q r K) : xCall dd 223 [(2, 183), (0, m)] H Q := by
  obtain ⟨e, rfl, he⟩ := ttRun0 (n := 7) hd
  have he : 7 ≤ e := he
  refine xC_of (L := [(2, 183), (0, m), (9, 0)]) (cd := cd_223) rfl rfl rfl ?_
  refine q_al (pc := 0) (i := 0) (x := 183) rfl rfl ?_
  refine q_ic (pc := 1) (v := 0) rfl ?_
  refine q_il (pc := 2) (i := 1) (x := m) rfl rfl ?_
  refine q_iv (pc := 3) (q := 1752972) rfl rfl rfl (ttKc hT (a := 183) (κ := 12) (len := 0) ⟨rfl, rfl⟩ (by decide) (by decide)).1 ?_
  refine lf_number (by omega) hT hX (fun r J jT jF jg jr => ?_)
  have jr2 : 0 ≤ r ∧ r ≤ m := by omega
  refine q_is (pc := 4) (i := 2) (L' := [(2, 183), (0, m), (0, r)]) rfl rfl rfl ?_
  refine q_al (pc := 5) (i := 0) (x := 183) rfl rfl ?_
  refine q_sc (pc := 6) (j := 16) rfl ?_
  refine q_iv (pc := 7) (q := 1736968) rfl rfl rfl ⟨by omega, (ttKc jT (a := 183) (κ := 12) (len := 0) ⟨rfl, rfl⟩ (by decide) (by decide)).1⟩ ?_
  refine lf_takes (by decide) (by decide) (by omega) jT (xx_fr jF rfl (by decide) (by decide) hX) (fun ji K kT kF kg => ?_) (fun ji => ?_)
  · skip
    refine q_if (pc := 8) rfl (fun h8 => ?_) (fun h8 => ?_)
    · replace h8 : (1 : Int) = 0 := h8
      omega
    · replace h8 : (1 : Int) ≠ 0 := h8
      refine q_il (pc := 9) (i := 2) (x := r) rfl rfl ?_
      refine q_in (pc := 10) rfl ?_
      refine q_go (pc := 11) rfl ?_
      refine q_ri (pc := 13) rfl ?_
      have zw : w32 (-r) = -r := w32_eq (show -2147483648 ≤ -r ∧ -r < 2147483648 from ⟨by omega, by omega⟩)
      rw [zw]
      exact hQ _ K kT (ttFr_tr jF kF (fun _ => rfl) (by decide)) (fun z => (jg (ji.1)).1) (by omega) (by omega)
  · skip
    refine q_if (pc := 8) rfl (fun h8 => ?_) (fun h8 => ?_)
    · replace h8 : (0 : Int) = 0 := h8
      refine q_il (pc := 12) (i := 2) (x := r) rfl rfl ?_
      refine q_ri (pc := 13) rfl ?_
      exact hQ r J jT jF (fun z => (jg z).1) (by omega) (by omega)
    · replace h8 : (0 : Int) ≠ 0 := h8
      omega
