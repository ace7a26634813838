/-! is it this word? -/
set_option maxRecDepth 100000 in
theorem hm_isWord {XX : xH → Prop} : ttHas XX m_isWord := by
  intro dd hdd vs H hT hX hargs hcells Q hQ
  obtain ⟨v0, vs, rfl, p0, hargs⟩ := ttV1 hargs
  obtain ⟨v1, vs, rfl, p1, hargs⟩ := ttV1 hargs
  cases ttV0 hargs
  cases ttPk p0
  have p1 := ttPi p1
  obtain ⟨e, rfl, he⟩ := ttRun0 (n := 5) hdd
  have he : 5 ≤ e := he
  have hq : ∀ r, (r = 0 ∨ r = 1) → Q r H := fun r hr => hQ r H hT hX (ttFr_rf _ _) ⟨_, List.mem_singleton.mpr rfl, ttPi_of (by omega) (by omega)⟩ (fun q hq => absurd hq List.not_mem_nil)
  have hat : 0 ≤ H.1 3 5 ∧ H.1 3 5 ≤ 1600 := ttMc hT (a := 3) (j := 5) (by decide) (by decide) (by decide) (by decide)
  have hf := ttRw hT (a := 5) (κ := 20) (len := 1601) (sz := 1601) (lo := 0) (hi := 1600) (by decide) (by decide) rfl (H.1 3 5) (by omega) (by omega)
  have hb := ttRw hT (a := 6) (κ := 20) (len := 1601) (sz := 1601) (lo := 0) (hi := 1600) (by decide) (by decide) rfl (H.1 3 5) (by omega) (by omega)
  have hstep : ∀ i : Int, 0 ≤ i → i ≤ 100000 → H.1 6 (H.1 3 5) - H.1 5 (H.1 3 5) = xLg v1 → (i < xLg v1 → xW e cd_77 Q (25, [(2, 3), (2, v1), (0, i + 1)], [], H)) → xW e cd_77 Q (25, [(2, 3), (2, v1), (0, i)], [], H) := by
    intro i i0 i1 hl hk
    refine q_il (pc := 25) (i := 2) (x := i) rfl rfl ?_
    refine q_al (pc := 26) (i := 1) (x := v1) rfl rfl ?_
    refine q_tl (pc := 27) rfl rfl (by omega) (by omega) (by omega) ?_
    refine q_i2 (pc := 28) rfl (fun h28 => ?_) (fun h28 => ?_)
    · replace h28 : (xLg v1) ≤ i := h28
      refine q_ic (pc := 47) (v := 1) rfl ?_
      refine q_rz (pc := 48) rfl (by omega) ?_
      exact hq _ (by omega)
    · replace h28 : i < (xLg v1) := h28
      refine q_al (pc := 29) (i := 0) (x := 3) rfl rfl ?_
      refine q_gf (pc := 30) (m := 7002) (t := 2) (c := 0) rfl (ttKc hT (a := 3) (κ := 7) (len := 0) ⟨rfl, rfl⟩ (by decide) (by decide)).1 rfl rfl ?_
      rw [show H.1 3 0 = 2 from ttFx hT (by decide) (by decide) rfl rfl rfl]
      refine q_al (pc := 31) (i := 0) (x := 3) rfl rfl ?_
      refine q_gf (pc := 32) (m := 7022) (t := 2) (c := 2) rfl (ttKc hT (a := 3) (κ := 7) (len := 0) ⟨rfl, rfl⟩ (by decide) (by decide)).1 rfl rfl ?_
      rw [show H.1 3 2 = 5 from ttFx hT (by decide) (by decide) rfl rfl rfl]
      refine q_al (pc := 33) (i := 0) (x := 3) rfl rfl ?_
      refine q_gf (pc := 34) (m := 7050) (t := 0) (c := 5) rfl (ttKc hT (a := 3) (κ := 7) (len := 0) ⟨rfl, rfl⟩ (by decide) (by decide)).1 rfl rfl ?_
      refine q_ai (pc := 35) rfl (ttKc hT (a := 5) (κ := 20) (len := 1601) ⟨rfl, rfl⟩ (by decide) (by decide)).1 (by omega) (by rw [(ttKc hT (a := 5) (κ := 20) (len := 1601) ⟨rfl, rfl⟩ (by decide) (by decide)).2]; omega) ?_
      refine q_il (pc := 36) (i := 2) (x := i) rfl rfl ?_
      refine q_ia (pc := 37) rfl (by omega) (by omega) ?_
      refine q_ab (pc := 38) rfl (ttKc hT (a := 2) (κ := 21) (len := 1600) ⟨rfl, rfl⟩ (by decide) (by decide)).1 (by omega) (by rw [(ttKc hT (a := 2) (κ := 21) (len := 1600) ⟨rfl, rfl⟩ (by decide) (by decide)).2]; omega) ?_
      refine q_al (pc := 39) (i := 1) (x := v1) rfl rfl ?_
      refine q_il (pc := 40) (i := 2) (x := i) rfl rfl ?_
      refine q_tc (pc := 41) rfl rfl (by omega) (by omega) (by omega) (by omega) (by omega) ?_
      refine q_i2 (pc := 42) rfl (fun h42 => ?_) (fun h42 => ?_)
      · replace h42 : (H.1 2 ((H.1 5 (H.1 3 5)) + i)) = (xCh v1 i) := h42
        refine q_ii (pc := 45) (i := 2) (c := 1) (x := i) (L' := [(2, 3), (2, v1), (0, (i + 1))]) rfl rfl rfl (by omega) (by omega) rfl ?_
        refine q_go (pc := 46) rfl ?_
        exact hk h28
      · replace h42 : (H.1 2 ((H.1 5 (H.1 3 5)) + i)) ≠ (xCh v1 i) := h42
        refine q_ic (pc := 43) (v := 0) rfl ?_
        refine q_rz (pc := 44) rfl (by omega) ?_
        exact hq _ (by omega)
  have hloop : ∀ n : Nat, ∀ i : Int, 0 ≤ i → i ≤ 100000 → H.1 6 (H.1 3 5) - H.1 5 (H.1 3 5) = xLg v1 → xLg v1 - i ≤ (n : Int) → xW e cd_77 Q (25, [(2, 3), (2, v1), (0, i)], [], H) := by
    intro n
    induction n with
    | zero => exact fun i i0 i1 hl hn => hstep i i0 i1 hl (fun z => by omega)
    | succ n ih => exact fun i i0 i1 hl hn => hstep i i0 i1 hl (fun z => ih (i + 1) (by omega) (by omega) hl (by omega))
  refine xC_of (L := [(2, 3), (2, v1), (9, 0)]) (cd := cd_77) rfl rfl rfl ?_
  refine q_al (pc := 0) (i := 0) (x := 3) rfl rfl ?_
  refine q_gf (pc := 1) (m := 7012) (t := 2) (c := 1) rfl (ttKc hT (a := 3) (κ := 7) (len := 0) ⟨rfl, rfl⟩ (by decide) (by decide)).1 rfl rfl ?_
  rw [show H.1 3 1 = 4 from ttFx hT (by decide) (by decide) rfl rfl rfl]
  refine q_al (pc := 2) (i := 0) (x := 3) rfl rfl ?_
  refine q_gf (pc := 3) (m := 7050) (t := 0) (c := 5) rfl (ttKc hT (a := 3) (κ := 7) (len := 0) ⟨rfl, rfl⟩ (by decide) (by decide)).1 rfl rfl ?_
  refine q_ai (pc := 4) rfl (ttKc hT (a := 4) (κ := 20) (len := 1601) ⟨rfl, rfl⟩ (by decide) (by decide)).1 (by omega) (by rw [(ttKc hT (a := 4) (κ := 20) (len := 1601) ⟨rfl, rfl⟩ (by decide) (by decide)).2]; omega) ?_
  refine q_ic (pc := 5) (v := 1) rfl ?_
  refine q_i2 (pc := 6) rfl (fun h6 => ?_) (fun h6 => ?_)
  · replace h6 : (H.1 4 (H.1 3 5)) ≠ 1 := h6
    refine q_ic (pc := 21) (v := 0) rfl ?_
    refine q_rz (pc := 22) rfl (by omega) ?_
    exact hq _ (by omega)
  · replace h6 : (H.1 4 (H.1 3 5)) = 1 := h6
    refine q_al (pc := 7) (i := 0) (x := 3) rfl rfl ?_
    refine q_gf (pc := 8) (m := 7032) (t := 2) (c := 3) rfl (ttKc hT (a := 3) (κ := 7) (len := 0) ⟨rfl, rfl⟩ (by decide) (by decide)).1 rfl rfl ?_
    rw [show H.1 3 3 = 6 from ttFx hT (by decide) (by decide) rfl rfl rfl]
    refine q_al (pc := 9) (i := 0) (x := 3) rfl rfl ?_
    refine q_gf (pc := 10) (m := 7050) (t := 0) (c := 5) rfl (ttKc hT (a := 3) (κ := 7) (len := 0) ⟨rfl, rfl⟩ (by decide) (by decide)).1 rfl rfl ?_
    refine q_ai (pc := 11) rfl (ttKc hT (a := 6) (κ := 20) (len := 1601) ⟨rfl, rfl⟩ (by decide) (by decide)).1 (by omega) (by rw [(ttKc hT (a := 6) (κ := 20) (len := 1601) ⟨rfl, rfl⟩ (by decide) (by decide)).2]; omega) ?_
    refine q_al (pc := 12) (i := 0) (x := 3) rfl rfl ?_
    refine q_gf (pc := 13) (m := 7022) (t := 2) (c := 2) rfl (ttKc hT (a := 3) (κ := 7) (len := 0) ⟨rfl, rfl⟩ (by decide) (by decide)).1 rfl rfl ?_
    rw [show H.1 3 2 = 5 from ttFx hT (by decide) (by decide) rfl rfl rfl]
    refine q_al (pc := 14) (i := 0) (x := 3) rfl rfl ?_
    refine q_gf (pc := 15) (m := 7050) (t := 0) (c := 5) rfl (ttKc hT (a := 3) (κ := 7) (len := 0) ⟨rfl, rfl⟩ (by decide) (by decide)).1 rfl rfl ?_
    refine q_ai (pc := 16) rfl (ttKc hT (a := 5) (κ := 20) (len := 1601) ⟨rfl, rfl⟩ (by decide) (by decide)).1 (by omega) (by rw [(ttKc hT (a := 5) (κ := 20) (len := 1601) ⟨rfl, rfl⟩ (by decide) (by decide)).2]; omega) ?_
    refine q_ib (pc := 17) rfl (by omega) (by omega) ?_
    refine q_al (pc := 18) (i := 1) (x := v1) rfl rfl ?_
    refine q_tl (pc := 19) rfl rfl (by omega) (by omega) (by omega) ?_
    refine q_i2 (pc := 20) rfl (fun h20 => ?_) (fun h20 => ?_)
    · replace h20 : ((H.1 6 (H.1 3 5)) - (H.1 5 (H.1 3 5))) = (xLg v1) := h20
      refine q_ic (pc := 23) (v := 0) rfl ?_
      refine q_is (pc := 24) (i := 2) (L' := [(2, 3), (2, v1), (0, 0)]) rfl rfl rfl ?_
      exact hloop (xLg v1).toNat 0 (by omega) (by omega) h20 (by omega)
    · replace h20 : ((H.1 6 (H.1 3 5)) - (H.1 5 (H.1 3 5))) ≠ (xLg v1) := h20
      refine q_ic (pc := 21) (v := 0) rfl ?_
      refine q_rz (pc := 22) rfl (by omega) ?_
      exact hq _ (by omega)
