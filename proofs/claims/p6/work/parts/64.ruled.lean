/-! is a way one of the rule? -/
theorem lf_isRuled {dd : Nat} {ru k h w : Int} (hd : 7 ≤ dd) {H : xH} (hT : ttTI H) (hX : ttXX YY H) (k0 : 0 ≤ k) (k1 : k ≤ 4795) (km : k % 5 = 0) (h0 : 0 ≤ h) (h1 : h ≤ 60) (hf : H.1 183 22 = 1) {Q : Int → xH → Prop} (hQ : ∀ r K, (r = 0 ∨ r = 1) → ttTI K → ttXX YY K → ttFr (true, [(192, 0, 7), (193, 0, 975)]) H K → Q r K) : xCall dd 271 [(2, 183), (0, ru), (0, k), (0, h), (0, w)] H Q := by
  obtain ⟨e, rfl, he⟩ := ttRun0 (n := 6) hd
  have he : 6 ≤ e := he
  obtain ⟨-, z1, z2, -, -⟩ := wy_ty hT k0 k1 km
  refine xC_of (L := [(2, 183), (0, ru), (0, k), (0, h), (0, w)]) (cd := cd_271) rfl rfl rfl ?_
  refine q_il (pc := 0) (i := 1) (x := ru) rfl rfl ?_
  refine q_ic (pc := 1) (v := 1) rfl ?_
  refine q_i2 (pc := 2) rfl (fun h2 => ?_) (fun h2 => ?_)
  · replace h2 : ru ≠ 1 := h2
    refine q_il (pc := 23) (i := 1) (x := ru) rfl rfl ?_
    refine q_ic (pc := 24) (v := 3) rfl ?_
    refine q_i2 (pc := 25) rfl (fun h25 => ?_) (fun h25 => ?_)
    · replace h25 : ru ≠ 3 := h25
      refine q_ic (pc := 42) (v := 1) rfl ?_
      refine q_go (pc := 43) rfl ?_
      refine q_rz (pc := 45) rfl (by omega) ?_
      exact hQ _ H (by omega) hT hX (ttFr_rf _ _)
    · replace h25 : ru = 3 := h25
      refine q_al (pc := 26) (i := 0) (x := 183) rfl rfl ?_
      refine q_gf (pc := 27) (m := 12212) (t := 2) (c := 21) rfl (ttKc hT (a := 183) (κ := 12) (len := 0) ⟨rfl, rfl⟩ (by decide) (by decide)).1 rfl rfl ?_
      rw [show H.1 183 21 = 191 from ttFx hT (by decide) (by decide) rfl rfl rfl]
      refine q_il (pc := 28) (i := 2) (x := k) rfl rfl ?_
      refine q_ic (pc := 29) (v := 1) rfl ?_
      refine q_ia (pc := 30) rfl (by omega) (by omega) ?_
      refine q_ai (pc := 31) rfl (ttKc hT (a := 191) (κ := 20) (len := 4800) ⟨rfl, rfl⟩ (by decide) (by decide)).1 (by omega) (by rw [(ttKc hT (a := 191) (κ := 20) (len := 4800) ⟨rfl, rfl⟩ (by decide) (by decide)).2]; omega) ?_
      refine q_al (pc := 32) (i := 0) (x := 183) rfl rfl ?_
      refine q_gf (pc := 33) (m := 12302) (t := 2) (c := 30) rfl (ttKc hT (a := 183) (κ := 12) (len := 0) ⟨rfl, rfl⟩ (by decide) (by decide)).1 rfl rfl ?_
      rw [show H.1 183 30 = 198 from ttFx hT (by decide) (by decide) rfl rfl rfl]
      refine q_al (pc := 34) (i := 0) (x := 183) rfl rfl ?_
      refine q_gf (pc := 35) (m := 12212) (t := 2) (c := 21) rfl (ttKc hT (a := 183) (κ := 12) (len := 0) ⟨rfl, rfl⟩ (by decide) (by decide)).1 rfl rfl ?_
      rw [show H.1 183 21 = 191 from ttFx hT (by decide) (by decide) rfl rfl rfl]
      refine q_il (pc := 36) (i := 2) (x := k) rfl rfl ?_
      refine q_ic (pc := 37) (v := 2) rfl ?_
      refine q_ia (pc := 38) rfl (by omega) (by omega) ?_
      refine q_ai (pc := 39) rfl (ttKc hT (a := 191) (κ := 20) (len := 4800) ⟨rfl, rfl⟩ (by decide) (by decide)).1 (by omega) (by rw [(ttKc hT (a := 191) (κ := 20) (len := 4800) ⟨rfl, rfl⟩ (by decide) (by decide)).2]; omega) ?_
      refine q_ai (pc := 40) rfl (ttKc hT (a := 198) (κ := 20) (len := 8) ⟨rfl, rfl⟩ (by decide) (by decide)).1 (by omega) (by rw [(ttKc hT (a := 198) (κ := 20) (len := 8) ⟨rfl, rfl⟩ (by decide) (by decide)).2]; omega) ?_
      refine q_i2 (pc := 41) rfl (fun h41 => ?_) (fun h41 => ?_)
      · replace h41 : (H.1 191 (k + 1)) ≠ (H.1 198 (H.1 191 (k + 2))) := h41
        refine q_ic (pc := 44) (v := 0) rfl ?_
        refine q_rz (pc := 45) rfl (by omega) ?_
        exact hQ _ H (by omega) hT hX (ttFr_rf _ _)
      · replace h41 : (H.1 191 (k + 1)) = (H.1 198 (H.1 191 (k + 2))) := h41
        refine q_ic (pc := 42) (v := 1) rfl ?_
        refine q_go (pc := 43) rfl ?_
        refine q_rz (pc := 45) rfl (by omega) ?_
        exact hQ _ H (by omega) hT hX (ttFr_rf _ _)
  · replace h2 : ru = 1 := h2
    refine q_al (pc := 3) (i := 0) (x := 183) rfl rfl ?_
    refine q_al (pc := 4) (i := 0) (x := 183) rfl rfl ?_
    refine q_gf (pc := 5) (m := 12212) (t := 2) (c := 21) rfl (ttKc hT (a := 183) (κ := 12) (len := 0) ⟨rfl, rfl⟩ (by decide) (by decide)).1 rfl rfl ?_
    rw [show H.1 183 21 = 191 from ttFx hT (by decide) (by decide) rfl rfl rfl]
    refine q_il (pc := 6) (i := 2) (x := k) rfl rfl ?_
    refine q_ic (pc := 7) (v := 2) rfl ?_
    refine q_ia (pc := 8) rfl (by omega) (by omega) ?_
    refine q_ai (pc := 9) rfl (ttKc hT (a := 191) (κ := 20) (len := 4800) ⟨rfl, rfl⟩ (by decide) (by decide)).1 (by omega) (by rw [(ttKc hT (a := 191) (κ := 20) (len := 4800) ⟨rfl, rfl⟩ (by decide) (by decide)).2]; omega) ?_
    refine q_il (pc := 10) (i := 3) (x := h) rfl rfl ?_
    refine q_il (pc := 11) (i := 4) (x := w) rfl rfl ?_
    refine q_ic (pc := 12) (v := 1) rfl ?_
    refine q_i2 (pc := 13) rfl (fun h13 => ?_) (fun h13 => ?_)
    · replace h13 : w ≠ 1 := h13
      refine q_ic (pc := 16) (v := 0) rfl ?_
      refine q_iv (pc := 17) (q := 2048976) rfl rfl rfl (ttKc hT (a := 183) (κ := 12) (len := 0) ⟨rfl, rfl⟩ (by decide) (by decide)).1 ?_
      refine lf_fieldsOf (by omega) hT hX z2 ⟨h0, h1⟩ (by decide) hf (fun s K kT kX kF => ?_)
      refine q_if (pc := 18) rfl (fun h18 => ?_) (fun h18 => ?_)
      · replace h18 : s = 0 := h18
        refine q_ic (pc := 21) (v := 0) rfl ?_
        refine q_rz (pc := 22) rfl (by omega) ?_
        exact hQ _ K (by omega) kT kX kF
      · replace h18 : s ≠ 0 := h18
        refine q_ic (pc := 19) (v := 1) rfl ?_
        refine q_go (pc := 20) rfl ?_
        refine q_rz (pc := 22) rfl (by omega) ?_
        exact hQ _ K (by omega) kT kX kF
    · replace h13 : w = 1 := h13
      refine q_ic (pc := 14) (v := 1) rfl ?_
      refine q_go (pc := 15) rfl ?_
      refine q_iv (pc := 17) (q := 2048976) rfl rfl rfl (ttKc hT (a := 183) (κ := 12) (len := 0) ⟨rfl, rfl⟩ (by decide) (by decide)).1 ?_
      refine lf_fieldsOf (by omega) hT hX z2 ⟨h0, h1⟩ (by decide) hf (fun s K kT kX kF => ?_)
      refine q_if (pc := 18) rfl (fun h18 => ?_) (fun h18 => ?_)
      · replace h18 : s = 0 := h18
        refine q_ic (pc := 21) (v := 0) rfl ?_
        refine q_rz (pc := 22) rfl (by omega) ?_
        exact hQ _ K (by omega) kT kX kF
      · replace h18 : s ≠ 0 := h18
        refine q_ic (pc := 19) (v := 1) rfl ?_
        refine q_go (pc := 20) rfl ?_
        refine q_rz (pc := 22) rfl (by omega) ?_
        exact hQ _ K (by omega) kT kX kF
