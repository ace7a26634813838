/-! paste, the first one -/
def m_paste : ttCon := (199, 2, [(2, (0, 1, (9, 0, 0))), (0, (1, 0, (0, (-2147483648), 2147483647))), (0, (1, 0, (0, (-2147483648), 2147483647))), (0, (1, 0, (0, (-2147483648), 2147483647))), (0, (1, 0, (0, (-2147483648), 2147483647))), (0, (1, 0, (0, (-2147483648), 2147483647)))], [], [(1, 0, (0, (-8), 0))], [], true, [(96, 0, 59)])
theorem ttLcp {XX : xH → Prop} (hO : ttOut XX ttFF) {H : xH} (hT : ttTI H) (hX : XX H) {a b sp dp l : Int} (ha : (1 ≤ a ∧ a < (H.2.2.2.1 : Int)) ∧ ttRo a = 96) (hb : (1 ≤ b ∧ b < (H.2.2.2.1 : Int)) ∧ ttRo b = 96) (h1 : 0 ≤ sp) (h2 : 0 ≤ dp) (h3 : 0 ≤ l) (h4 : sp + l ≤ 60) (h5 : dp + l ≤ 60) : ttTI (xCpy H.1 a sp b dp l, H.2) ∧ XX (xCpy H.1 a sp b dp l, H.2) ∧ ttFr (true, [(96, 0, 59)]) H (xCpy H.1 a sp b dp l, H.2) := by
  have hne : ∀ c k : Int, ¬ (c = b ∧ dp ≤ k ∧ k < dp + l) → xCpy H.1 a sp b dp l c k = H.1 c k := fun c k hn => by
    show (if c = b ∧ dp ≤ k ∧ k < dp + l then H.1 a (sp + (k - dp)) else H.1 c k) = H.1 c k
    rw [if_neg hn]
  refine ⟨⟨hT.1, fun c c1 c2 => ?_⟩, hO H _ hX (fun c k hc => hne c k (by have := hb.1.1; omega)) (fun q hq c k hh => Or.inl (hne c k (fun z => ?_))), fun _ => rfl, Nat.le_refl _, fun _ _ => ⟨rfl, rfl⟩, fun c k hc hq => hne c k (fun z => ?_)⟩
  · obtain ⟨k1, k2, k3⟩ := hT.2 c c1 c2
    refine ⟨k1, k2, fun i i0 i1 => ?_⟩
    by_cases z : c = b ∧ dp ≤ i ∧ i < dp + l
    · obtain ⟨rfl, z1, z2⟩ := z
      have e : xCpy H.1 a sp c dp l c i = H.1 a (sp + (i - dp)) := by
        show (if c = c ∧ dp ≤ i ∧ i < dp + l then H.1 a (sp + (i - dp)) else H.1 c i) = _
        rw [if_pos ⟨rfl, z1, z2⟩]
      show ttM _ _ (xCpy H.1 a sp c dp l c i)
      rw [e]
      have k := (hT.2 a ha.1.1 ha.1.2).2.2 (sp + (i - dp)) (by omega) (by rw [ha.2]; show sp + (i - dp) < 60; omega)
      rw [ha.2] at k
      rw [hb.2]
      have e1 : ∀ j : Int, ttTy (ttTb 96) j = (0, -9223372036854775808, 9223372036854775807) := fun j => by
        show ([(0, -9223372036854775808, 9223372036854775807)] : List ttI).getD (j % 1).toNat (9, 0, 0) = _
        rw [Int.emod_one]
        rfl
      rw [e1] at k ⊢
      exact k
    · show ttM _ _ (xCpy H.1 a sp b dp l c i)
      rw [hne c i z]
      exact k3 i i0 i1
  · obtain ⟨rfl, -⟩ := z
    obtain ⟨⟨-, c2⟩, -⟩ := hh
    have hn : ∀ q ∈ ttFF, q.1.1 ≠ 96 := by decide
    exact hn q hq (c2.symm.trans hb.2)
  · obtain ⟨rfl, z1, z2⟩ := z
    exact hq _ (List.mem_singleton.mpr rfl) ⟨⟨hb.1.1, hb.2⟩, by show 0 ≤ k; omega, by show k ≤ 59; omega⟩
theorem hm_paste {XX : xH → Prop} (hO : ttOut XX ttFF) : ttHas XX m_paste := by
  intro dd hdd vs H hT hX hargs hcells Q hQ
  obtain ⟨v0, vs, rfl, p0, hargs⟩ := ttV1 hargs
  obtain ⟨v1, vs, rfl, p1, hargs⟩ := ttV1 hargs
  obtain ⟨v2, vs, rfl, p2, hargs⟩ := ttV1 hargs
  obtain ⟨v3, vs, rfl, p3, hargs⟩ := ttV1 hargs
  obtain ⟨v4, vs, rfl, p4, hargs⟩ := ttV1 hargs
  obtain ⟨v5, vs, rfl, p5, hargs⟩ := ttV1 hargs
  cases ttV0 hargs
  cases ttPk p0
  have p1 := ttPi p1
  have p2 := ttPi p2
  have p3 := ttPi p3
  have p4 := ttPi p4
  have p5 := ttPi p5
  obtain ⟨e, rfl, he⟩ := ttRun0 (n := 1) hdd
  have he : 1 ≤ e := he
  have hq : ∀ r H', (-8 ≤ r ∧ r ≤ 0) → ttTI H' → XX H' → ttFr m_paste.2.2.2.2.2.2 H H' → Q r H' := fun r H' hr a b c => hQ r H' a b c ⟨_, List.mem_singleton.mpr rfl, ttPi_of hr.1 hr.2⟩ (fun q hq => absurd hq List.not_mem_nil)
  have hmany := ttRw hT (a := 100) (κ := 20) (len := 4) (sz := 4) (lo := -1) (hi := 60) (by decide) (by decide) rfl
  have hrow : ∀ s : Int, 0 ≤ s → s < 4 → (1 ≤ H.1 95 s ∧ H.1 95 s < (H.2.2.2.1 : Int)) ∧ ttRo (H.1 95 s) = 96 := fun s s0 s1 => by
    have k := ttMc hT (a := 95) (j := s) (by decide) (by decide) s0 (by show s < 4; exact s1)
    have e : ttTy (ttTb (ttRo 95)) s = (1, 96, 0) := by
      show ([(1, 96, 0)] : List ttI).getD (s % 1).toNat (9, 0, 0) = _
      rw [Int.emod_one]
      rfl
    rw [e] at k
    exact k
  refine xC_of (L := [(2, 1), (0, v1), (0, v2), (0, v3), (0, v4), (0, v5)]) (cd := cd_199) rfl rfl rfl ?_
  refine q_il (pc := 0) (i := 1) (x := v1) rfl rfl ?_
  refine q_ij (pc := 1) (q := 1567924) rfl rfl rfl trivial ?_
  refine lf_slot (by omega) (fun h1 => ?_) (fun h1 => ?_)
  · replace h1 : 0 ≤ v1 ∧ v1 ≤ 3 := h1
    refine q_if (pc := 2) rfl (fun h2 => ?_) (fun h2 => ?_)
    · replace h2 : (1 : Int) = 0 := h2
      omega
    · replace h2 : (1 : Int) ≠ 0 := h2
      refine q_il (pc := 3) (i := 3) (x := v3) rfl rfl ?_
      refine q_ij (pc := 4) (q := 1567924) rfl rfl rfl trivial ?_
      refine lf_slot (by omega) (fun h4 => ?_) (fun h4 => ?_)
      · replace h4 : 0 ≤ v3 ∧ v3 ≤ 3 := h4
        refine q_if (pc := 5) rfl (fun h5 => ?_) (fun h5 => ?_)
        · replace h5 : (1 : Int) ≠ 0 := h5
          refine q_al (pc := 8) (i := 0) (x := 1) rfl rfl ?_
          refine q_gf (pc := 9) (m := 11162) (t := 2) (c := 16) rfl (ttKc hT (a := 1) (κ := 11) (len := 0) ⟨rfl, rfl⟩ (by decide) (by decide)).1 rfl rfl ?_
          rw [show H.1 1 16 = 100 from ttFx hT (by decide) (by decide) rfl rfl rfl]
          refine q_il (pc := 10) (i := 1) (x := v1) rfl rfl ?_
          refine q_ai (pc := 11) rfl (ttKc hT (a := 100) (κ := 20) (len := 4) ⟨rfl, rfl⟩ (by decide) (by decide)).1 (by omega) (by rw [(ttKc hT (a := 100) (κ := 20) (len := 4) ⟨rfl, rfl⟩ (by decide) (by decide)).2]; omega) ?_
          refine q_ic (pc := 12) (v := (-1)) rfl ?_
          refine q_i2 (pc := 13) rfl (fun h13 => ?_) (fun h13 => ?_)
          · replace h13 : (H.1 100 v1) = (-1) := h13
            refine q_ic (pc := 20) (v := (-6)) rfl ?_
            refine q_ri (pc := 21) rfl ?_
            first | exact hq _ H (by omega) hT hX (ttFr_rf _ _) | omega
          · replace h13 : (H.1 100 v1) ≠ (-1) := h13
            refine q_al (pc := 14) (i := 0) (x := 1) rfl rfl ?_
            refine q_gf (pc := 15) (m := 11162) (t := 2) (c := 16) rfl (ttKc hT (a := 1) (κ := 11) (len := 0) ⟨rfl, rfl⟩ (by decide) (by decide)).1 rfl rfl ?_
            rw [show H.1 1 16 = 100 from ttFx hT (by decide) (by decide) rfl rfl rfl]
            refine q_il (pc := 16) (i := 3) (x := v3) rfl rfl ?_
            refine q_ai (pc := 17) rfl (ttKc hT (a := 100) (κ := 20) (len := 4) ⟨rfl, rfl⟩ (by decide) (by decide)).1 (by omega) (by rw [(ttKc hT (a := 100) (κ := 20) (len := 4) ⟨rfl, rfl⟩ (by decide) (by decide)).2]; omega) ?_
            refine q_ic (pc := 18) (v := (-1)) rfl ?_
            refine q_i2 (pc := 19) rfl (fun h19 => ?_) (fun h19 => ?_)
            · replace h19 : (H.1 100 v3) ≠ (-1) := h19
              refine q_al (pc := 22) (i := 0) (x := 1) rfl rfl ?_
              refine q_gf (pc := 23) (m := 11172) (t := 2) (c := 17) rfl (ttKc hT (a := 1) (κ := 11) (len := 0) ⟨rfl, rfl⟩ (by decide) (by decide)).1 rfl rfl ?_
              rw [show H.1 1 17 = 101 from ttFx hT (by decide) (by decide) rfl rfl rfl]
              refine q_il (pc := 24) (i := 1) (x := v1) rfl rfl ?_
              refine q_ai (pc := 25) rfl (ttKc hT (a := 101) (κ := 20) (len := 4) ⟨rfl, rfl⟩ (by decide) (by decide)).1 (by omega) (by rw [(ttKc hT (a := 101) (κ := 20) (len := 4) ⟨rfl, rfl⟩ (by decide) (by decide)).2]; omega) ?_
              refine q_al (pc := 26) (i := 0) (x := 1) rfl rfl ?_
              refine q_gf (pc := 27) (m := 11172) (t := 2) (c := 17) rfl (ttKc hT (a := 1) (κ := 11) (len := 0) ⟨rfl, rfl⟩ (by decide) (by decide)).1 rfl rfl ?_
              rw [show H.1 1 17 = 101 from ttFx hT (by decide) (by decide) rfl rfl rfl]
              refine q_il (pc := 28) (i := 3) (x := v3) rfl rfl ?_
              refine q_ai (pc := 29) rfl (ttKc hT (a := 101) (κ := 20) (len := 4) ⟨rfl, rfl⟩ (by decide) (by decide)).1 (by omega) (by rw [(ttKc hT (a := 101) (κ := 20) (len := 4) ⟨rfl, rfl⟩ (by decide) (by decide)).2]; omega) ?_
              refine q_i2 (pc := 30) rfl (fun h30 => ?_) (fun h30 => ?_)
              · replace h30 : (H.1 101 v1) = (H.1 101 v3) := h30
                refine q_il (pc := 33) (i := 2) (x := v2) rfl rfl ?_
                refine q_il (pc := 34) (i := 5) (x := v5) rfl rfl ?_
                refine q_al (pc := 35) (i := 0) (x := 1) rfl rfl ?_
                refine q_gf (pc := 36) (m := 11162) (t := 2) (c := 16) rfl (ttKc hT (a := 1) (κ := 11) (len := 0) ⟨rfl, rfl⟩ (by decide) (by decide)).1 rfl rfl ?_
                rw [show H.1 1 16 = 100 from ttFx hT (by decide) (by decide) rfl rfl rfl]
                refine q_il (pc := 37) (i := 1) (x := v1) rfl rfl ?_
                refine q_ai (pc := 38) rfl (ttKc hT (a := 100) (κ := 20) (len := 4) ⟨rfl, rfl⟩ (by decide) (by decide)).1 (by omega) (by rw [(ttKc hT (a := 100) (κ := 20) (len := 4) ⟨rfl, rfl⟩ (by decide) (by decide)).2]; omega) ?_
                have hs39 := hmany v1 (by omega) (by omega)
                refine q_ij (pc := 39) (q := 1607932) rfl rfl rfl trivial ?_
                refine lf_part (by omega) hs39 (fun h39 => ?_) (fun h39 => ?_)
                · replace h39 : 0 ≤ v2 ∧ 0 ≤ v5 ∧ v2 + v5 ≤ (H.1 100 v1) := h39
                  refine q_if (pc := 40) rfl (fun h40 => ?_) (fun h40 => ?_)
                  · replace h40 : (1 : Int) = 0 := h40
                    omega
                  · replace h40 : (1 : Int) ≠ 0 := h40
                    refine q_il (pc := 41) (i := 4) (x := v4) rfl rfl ?_
                    refine q_il (pc := 42) (i := 5) (x := v5) rfl rfl ?_
                    refine q_al (pc := 43) (i := 0) (x := 1) rfl rfl ?_
                    refine q_gf (pc := 44) (m := 11162) (t := 2) (c := 16) rfl (ttKc hT (a := 1) (κ := 11) (len := 0) ⟨rfl, rfl⟩ (by decide) (by decide)).1 rfl rfl ?_
                    rw [show H.1 1 16 = 100 from ttFx hT (by decide) (by decide) rfl rfl rfl]
                    refine q_il (pc := 45) (i := 3) (x := v3) rfl rfl ?_
                    refine q_ai (pc := 46) rfl (ttKc hT (a := 100) (κ := 20) (len := 4) ⟨rfl, rfl⟩ (by decide) (by decide)).1 (by omega) (by rw [(ttKc hT (a := 100) (κ := 20) (len := 4) ⟨rfl, rfl⟩ (by decide) (by decide)).2]; omega) ?_
                    have hs47 := hmany v3 (by omega) (by omega)
                    refine q_ij (pc := 47) (q := 1607932) rfl rfl rfl trivial ?_
                    refine lf_part (by omega) hs47 (fun h47 => ?_) (fun h47 => ?_)
                    · replace h47 : 0 ≤ v4 ∧ 0 ≤ v5 ∧ v4 + v5 ≤ (H.1 100 v3) := h47
                      refine q_if (pc := 48) rfl (fun h48 => ?_) (fun h48 => ?_)
                      · replace h48 : (1 : Int) ≠ 0 := h48
                        refine q_al (pc := 51) (i := 0) (x := 1) rfl rfl ?_
                        refine q_gf (pc := 52) (m := 11152) (t := 2) (c := 15) rfl (ttKc hT (a := 1) (κ := 11) (len := 0) ⟨rfl, rfl⟩ (by decide) (by decide)).1 rfl rfl ?_
                        rw [show H.1 1 15 = 95 from ttFx hT (by decide) (by decide) rfl rfl rfl]
                        refine q_il (pc := 53) (i := 1) (x := v1) rfl rfl ?_
                        refine q_aa (pc := 54) rfl (by rw [(ttKc hT (a := 95) (κ := 24) (len := 4) ⟨rfl, rfl⟩ (by decide) (by decide)).1]; decide) (by omega) (by rw [(ttKc hT (a := 95) (κ := 24) (len := 4) ⟨rfl, rfl⟩ (by decide) (by decide)).2]; omega) ?_
                        refine q_il (pc := 55) (i := 2) (x := v2) rfl rfl ?_
                        refine q_al (pc := 56) (i := 0) (x := 1) rfl rfl ?_
                        refine q_gf (pc := 57) (m := 11152) (t := 2) (c := 15) rfl (ttKc hT (a := 1) (κ := 11) (len := 0) ⟨rfl, rfl⟩ (by decide) (by decide)).1 rfl rfl ?_
                        rw [show H.1 1 15 = 95 from ttFx hT (by decide) (by decide) rfl rfl rfl]
                        refine q_il (pc := 58) (i := 3) (x := v3) rfl rfl ?_
                        refine q_aa (pc := 59) rfl (by rw [(ttKc hT (a := 95) (κ := 24) (len := 4) ⟨rfl, rfl⟩ (by decide) (by decide)).1]; decide) (by omega) (by rw [(ttKc hT (a := 95) (κ := 24) (len := 4) ⟨rfl, rfl⟩ (by decide) (by decide)).2]; omega) ?_
                        refine q_il (pc := 60) (i := 4) (x := v4) rfl rfl ?_
                        refine q_il (pc := 61) (i := 5) (x := v5) rfl rfl ?_
                        have r1 := hrow v1 (by omega) (by omega)
                        have r3 := hrow v3 (by omega) (by omega)
                        have k1 := hT.2 _ r1.1.1 r1.1.2
                        have k3 := hT.2 _ r3.1.1 r3.1.2
                        rw [r1.2] at k1
                        rw [r3.2] at k3
                        have hs1 := hmany v1 (by omega) (by omega)
                        have hs3 := hmany v3 (by omega) (by omega)
                        have c := ttLcp hO hT hX r1 r3 (sp := v2) (dp := v4) (l := v5) (by omega) (by omega) (by omega) (by omega) (by omega)
                        refine q_cy (pc := 62) rfl rfl (by omega) ⟨by omega, by omega, k1.1, k3.1, by omega, by omega, by omega, by rw [k1.2.1]; show v2 + v5 ≤ 60; omega, by rw [k3.2.1]; show v4 + v5 ≤ 60; omega⟩ ?_
                        refine q_ic (pc := 63) (v := 0) rfl ?_
                        exact q_ri (pc := 64) rfl (hq _ _ (by omega) c.1 c.2.1 c.2.2)
                      · replace h48 : (1 : Int) = 0 := h48
                        omega
                    · replace h47 : ¬ (0 ≤ v4 ∧ 0 ≤ v5 ∧ v4 + v5 ≤ (H.1 100 v3)) := h47
                      refine q_if (pc := 48) rfl (fun h48 => ?_) (fun h48 => ?_)
                      · replace h48 : (0 : Int) ≠ 0 := h48
                        omega
                      · replace h48 : (0 : Int) = 0 := h48
                        refine q_ic (pc := 49) (v := (-7)) rfl ?_
                        refine q_ri (pc := 50) rfl ?_
                        first | exact hq _ H (by omega) hT hX (ttFr_rf _ _) | omega
                · replace h39 : ¬ (0 ≤ v2 ∧ 0 ≤ v5 ∧ v2 + v5 ≤ (H.1 100 v1)) := h39
                  refine q_if (pc := 40) rfl (fun h40 => ?_) (fun h40 => ?_)
                  · replace h40 : (0 : Int) = 0 := h40
                    refine q_ic (pc := 49) (v := (-7)) rfl ?_
                    refine q_ri (pc := 50) rfl ?_
                    first | exact hq _ H (by omega) hT hX (ttFr_rf _ _) | omega
                  · replace h40 : (0 : Int) ≠ 0 := h40
                    omega
              · replace h30 : (H.1 101 v1) ≠ (H.1 101 v3) := h30
                refine q_ic (pc := 31) (v := (-8)) rfl ?_
                refine q_ri (pc := 32) rfl ?_
                first | exact hq _ H (by omega) hT hX (ttFr_rf _ _) | omega
            · replace h19 : (H.1 100 v3) = (-1) := h19
              refine q_ic (pc := 20) (v := (-6)) rfl ?_
              refine q_ri (pc := 21) rfl ?_
              first | exact hq _ H (by omega) hT hX (ttFr_rf _ _) | omega
        · replace h5 : (1 : Int) = 0 := h5
          omega
      · replace h4 : ¬ (0 ≤ v3 ∧ v3 ≤ 3) := h4
        refine q_if (pc := 5) rfl (fun h5 => ?_) (fun h5 => ?_)
        · replace h5 : (0 : Int) ≠ 0 := h5
          omega
        · replace h5 : (0 : Int) = 0 := h5
          refine q_ic (pc := 6) (v := (-2)) rfl ?_
          refine q_ri (pc := 7) rfl ?_
          first | exact hq _ H (by omega) hT hX (ttFr_rf _ _) | omega
  · replace h1 : ¬ (0 ≤ v1 ∧ v1 ≤ 3) := h1
    refine q_if (pc := 2) rfl (fun h2 => ?_) (fun h2 => ?_)
    · replace h2 : (0 : Int) = 0 := h2
      refine q_ic (pc := 6) (v := (-2)) rfl ?_
      refine q_ri (pc := 7) rfl ?_
      first | exact hq _ H (by omega) hT hX (ttFr_rf _ _) | omega
    · replace h2 : (0 : Int) ≠ 0 := h2
      omega
