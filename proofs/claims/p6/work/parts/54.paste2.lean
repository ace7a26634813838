/-! paste of the model -/
def m_paste2 : ttCon := (331, 3, [(2, (0, 183, (9, 0, 0))), (0, (1, 0, (0, (-2147483648), 2147483647))), (0, (1, 0, (0, (-2147483648), 2147483647))), (0, (1, 0, (0, (-2147483648), 2147483647))), (0, (1, 0, (0, (-2147483648), 2147483647))), (0, (1, 0, (0, (-2147483648), 2147483647)))], [], [(1, 0, (0, (-8), 0))], [], true, [(208, 0, 239), (209, 0, 59)])
theorem hm_paste2 {XX : xH → Prop} (hO : ttOut XX ttFF) : ttHas XX m_paste2 := by
  intro dd hdd vs H hT hX hargs hcells Q hQ
  obtain ⟨v0, vs, rfl, p0, hargs⟩ := ttV1 hargs
  obtain ⟨v1, vs, rfl, p1, hargs⟩ := ttV1 hargs
  obtain ⟨v2, vs, rfl, p2, hargs⟩ := ttV1 hargs
  obtain ⟨v3, vs, rfl, p3, hargs⟩ := ttV1 hargs
  obtain ⟨v4, vs, rfl, p4, hargs⟩ := ttV1 hargs
  obtain ⟨v5, vs, rfl, p5, hargs⟩ := ttV1 hargs
  cases ttV0 hargs
  cases ttPk p0
  have p1 := ttPi p1
  have p2 := ttPi p2
  have p3 := ttPi p3
  have p4 := ttPi p4
  have p5 := ttPi p5
  obtain ⟨e, rfl, he⟩ := ttRun0 (n := 2) hdd
  have he : 2 ≤ e := he
  have hq : ∀ r H', (-8 ≤ r ∧ r ≤ 0) → ttTI H' → XX H' → ttFr (true, [(208, 0, 239), (209, 0, 59)]) H H' → Q r H' := fun r H' hr a b c => hQ r H' a b c ⟨_, List.mem_singleton.mpr rfl, ttPi_of hr.1 hr.2⟩ (fun q hq => absurd hq List.not_mem_nil)
  have hmany := ttRw hT (a := 206) (κ := 20) (len := 4) (sz := 4) (lo := -1) (hi := 60) (by decide) (by decide) rfl
  have hl2 : ∀ n : Nat, ∀ (K : xH) (i : Int), ttTI K → XX K → ttFr (true, [(208, 0, 239), (209, 0, 59)]) H K → 0 ≤ v1 → v1 ≤ 3 → 0 ≤ v3 → v3 ≤ 3 → 0 ≤ v2 → 0 ≤ v4 → 0 ≤ v5 → v2 + v5 ≤ 60 → v4 + v5 ≤ 60 → 0 ≤ i → i ≤ v5 → v5 - i ≤ (n : Int) → xW e cd_331 Q (88, [(2, 183), (0, v1), (0, v2), (0, v3), (0, v4), (0, v5), (0, i)], [], K) := by
    intro n
    induction n with
    | zero =>
      intro K i kT kX kF w1 w2 w3 w4 w5 w6 w7 w8 w9 i0 i1 hn
      refine q_il (pc := 88) (i := 6) (x := i) rfl rfl ?_
      refine q_il (pc := 89) (i := 5) (x := v5) rfl rfl ?_
      refine q_i2 (pc := 90) rfl (fun h90 => ?_) (fun h90 => ?_)
      · replace h90 : v5 ≤ i := h90
        refine q_ic (pc := 107) (v := 0) rfl ?_
        refine q_ri (pc := 108) rfl ?_
        exact hq _ K (by omega) kT kX kF
      · replace h90 : i < v5 := h90
        refine q_al (pc := 91) (i := 0) (x := 183) rfl rfl ?_
        refine q_gf (pc := 92) (m := 12512) (t := 2) (c := 51) rfl (ttKc kT (a := 183) (κ := 12) (len := 0) ⟨rfl, rfl⟩ (by decide) (by decide)).1 rfl rfl ?_
        rw [show K.1 183 51 = 208 from ttFx kT (by decide) (by decide) rfl rfl rfl]
        refine q_ic (pc := 93) (v := 60) rfl ?_
        refine q_il (pc := 94) (i := 3) (x := v3) rfl rfl ?_
        refine q_im (pc := 95) rfl (by omega) (by omega) ?_
        refine q_il (pc := 96) (i := 4) (x := v4) rfl rfl ?_
        refine q_ia (pc := 97) rfl (by omega) (by omega) ?_
        refine q_il (pc := 98) (i := 6) (x := i) rfl rfl ?_
        refine q_ia (pc := 99) rfl (by omega) (by omega) ?_
        refine q_al (pc := 100) (i := 0) (x := 183) rfl rfl ?_
        refine q_gf (pc := 101) (m := 12522) (t := 2) (c := 52) rfl (ttKc kT (a := 183) (κ := 12) (len := 0) ⟨rfl, rfl⟩ (by decide) (by decide)).1 rfl rfl ?_
        rw [show K.1 183 52 = 209 from ttFx kT (by decide) (by decide) rfl rfl rfl]
        refine q_il (pc := 102) (i := 6) (x := i) rfl rfl ?_
        refine q_aj (pc := 103) rfl (ttKc kT (a := 209) (κ := 23) (len := 60) ⟨rfl, rfl⟩ (by decide) (by decide)).1 (by omega) (by rw [(ttKc kT (a := 209) (κ := 23) (len := 60) ⟨rfl, rfl⟩ (by decide) (by decide)).2]; omega) ?_
        refine q_sj (pc := 104) rfl (by decide) (ttKc kT (a := 208) (κ := 23) (len := 240) ⟨rfl, rfl⟩ (by decide) (by decide)).1 (by omega) (by rw [(ttKc kT (a := 208) (κ := 23) (len := 240) ⟨rfl, rfl⟩ (by decide) (by decide)).2]; omega) ?_
        refine q_ii (pc := 105) (i := 6) (c := 1) (x := i) (L' := [(2, 183), (0, v1), (0, v2), (0, v3), (0, v4), (0, v5), (0, (i + 1))]) rfl rfl rfl (by omega) (by omega) rfl ?_
        refine q_go (pc := 106) rfl ?_
        omega
    | succ n ih =>
      intro K i kT kX kF w1 w2 w3 w4 w5 w6 w7 w8 w9 i0 i1 hn
      refine q_il (pc := 88) (i := 6) (x := i) rfl rfl ?_
      refine q_il (pc := 89) (i := 5) (x := v5) rfl rfl ?_
      refine q_i2 (pc := 90) rfl (fun h90 => ?_) (fun h90 => ?_)
      · replace h90 : v5 ≤ i := h90
        refine q_ic (pc := 107) (v := 0) rfl ?_
        refine q_ri (pc := 108) rfl ?_
        exact hq _ K (by omega) kT kX kF
      · replace h90 : i < v5 := h90
        refine q_al (pc := 91) (i := 0) (x := 183) rfl rfl ?_
        refine q_gf (pc := 92) (m := 12512) (t := 2) (c := 51) rfl (ttKc kT (a := 183) (κ := 12) (len := 0) ⟨rfl, rfl⟩ (by decide) (by decide)).1 rfl rfl ?_
        rw [show K.1 183 51 = 208 from ttFx kT (by decide) (by decide) rfl rfl rfl]
        refine q_ic (pc := 93) (v := 60) rfl ?_
        refine q_il (pc := 94) (i := 3) (x := v3) rfl rfl ?_
        refine q_im (pc := 95) rfl (by omega) (by omega) ?_
        refine q_il (pc := 96) (i := 4) (x := v4) rfl rfl ?_
        refine q_ia (pc := 97) rfl (by omega) (by omega) ?_
        refine q_il (pc := 98) (i := 6) (x := i) rfl rfl ?_
        refine q_ia (pc := 99) rfl (by omega) (by omega) ?_
        refine q_al (pc := 100) (i := 0) (x := 183) rfl rfl ?_
        refine q_gf (pc := 101) (m := 12522) (t := 2) (c := 52) rfl (ttKc kT (a := 183) (κ := 12) (len := 0) ⟨rfl, rfl⟩ (by decide) (by decide)).1 rfl rfl ?_
        rw [show K.1 183 52 = 209 from ttFx kT (by decide) (by decide) rfl rfl rfl]
        refine q_il (pc := 102) (i := 6) (x := i) rfl rfl ?_
        refine q_aj (pc := 103) rfl (ttKc kT (a := 209) (κ := 23) (len := 60) ⟨rfl, rfl⟩ (by decide) (by decide)).1 (by omega) (by rw [(ttKc kT (a := 209) (κ := 23) (len := 60) ⟨rfl, rfl⟩ (by decide) (by decide)).2]; omega) ?_
        refine q_sj (pc := 104) rfl (by decide) (ttKc kT (a := 208) (κ := 23) (len := 240) ⟨rfl, rfl⟩ (by decide) (by decide)).1 (by omega) (by rw [(ttKc kT (a := 208) (κ := 23) (len := 240) ⟨rfl, rfl⟩ (by decide) (by decide)).2]; omega) ?_
        refine q_ii (pc := 105) (i := 6) (c := 1) (x := i) (L' := [(2, 183), (0, v1), (0, v2), (0, v3), (0, v4), (0, v5), (0, (i + 1))]) rfl rfl rfl (by omega) (by omega) rfl ?_
        refine q_go (pc := 106) rfl ?_
        have k := ttRw kT (a := 209) (κ := 23) (len := 60) (sz := 60) (lo := -9223372036854775808) (hi := 9223372036854775807) (by decide) (by decide) rfl i (by omega) (by omega)
        have c := ttPut hO kT kX kF (a := 208) (j := (60 * v3 + v4 + i)) (x := K.1 209 i) (by decide) (fun _ _ => ttTyr rfl k.1 k.2) ⟨(208, 0, 239), List.mem_cons_self .., ⟨⟨by decide, rfl⟩, by show (0 : Int) ≤ (60 * v3 + v4 + i); omega, by show (60 * v3 + v4 + i) ≤ 239; omega⟩⟩ (ttMay_no (r := 208) rfl (by decide))
        exact ih _ (i + 1) c.1 c.2.1 c.2.2 w1 w2 w3 w4 w5 w6 w7 w8 w9 (by omega) (by omega) (by omega)
  have hl1 : ∀ n : Nat, ∀ (K : xH) (i : Int), ttTI K → XX K → ttFr (true, [(208, 0, 239), (209, 0, 59)]) H K → 0 ≤ v1 → v1 ≤ 3 → 0 ≤ v3 → v3 ≤ 3 → 0 ≤ v2 → 0 ≤ v4 → 0 ≤ v5 → v2 + v5 ≤ 60 → v4 + v5 ≤ 60 → 0 ≤ i → i ≤ v5 → v5 - i ≤ (n : Int) → xW e cd_331 Q (67, [(2, 183), (0, v1), (0, v2), (0, v3), (0, v4), (0, v5), (0, i)], [], K) := by
    intro n
    induction n with
    | zero =>
      intro K i kT kX kF w1 w2 w3 w4 w5 w6 w7 w8 w9 i0 i1 hn
      refine q_il (pc := 67) (i := 6) (x := i) rfl rfl ?_
      refine q_il (pc := 68) (i := 5) (x := v5) rfl rfl ?_
      refine q_i2 (pc := 69) rfl (fun h69 => ?_) (fun h69 => ?_)
      · replace h69 : v5 ≤ i := h69
        refine q_ic (pc := 86) (v := 0) rfl ?_
        refine q_is (pc := 87) (i := 6) (L' := [(2, 183), (0, v1), (0, v2), (0, v3), (0, v4), (0, v5), (0, 0)]) rfl rfl rfl ?_
        exact hl2 v5.toNat K 0 kT kX kF w1 w2 w3 w4 w5 w6 w7 w8 w9 (by omega) (by omega) (by omega)
      · replace h69 : i < v5 := h69
        refine q_al (pc := 70) (i := 0) (x := 183) rfl rfl ?_
        refine q_gf (pc := 71) (m := 12522) (t := 2) (c := 52) rfl (ttKc kT (a := 183) (κ := 12) (len := 0) ⟨rfl, rfl⟩ (by decide) (by decide)).1 rfl rfl ?_
        rw [show K.1 183 52 = 209 from ttFx kT (by decide) (by decide) rfl rfl rfl]
        refine q_il (pc := 72) (i := 6) (x := i) rfl rfl ?_
        refine q_al (pc := 73) (i := 0) (x := 183) rfl rfl ?_
        refine q_gf (pc := 74) (m := 12512) (t := 2) (c := 51) rfl (ttKc kT (a := 183) (κ := 12) (len := 0) ⟨rfl, rfl⟩ (by decide) (by decide)).1 rfl rfl ?_
        rw [show K.1 183 51 = 208 from ttFx kT (by decide) (by decide) rfl rfl rfl]
        refine q_ic (pc := 75) (v := 60) rfl ?_
        refine q_il (pc := 76) (i := 1) (x := v1) rfl rfl ?_
        refine q_im (pc := 77) rfl (by omega) (by omega) ?_
        refine q_il (pc := 78) (i := 2) (x := v2) rfl rfl ?_
        refine q_ia (pc := 79) rfl (by omega) (by omega) ?_
        refine q_il (pc := 80) (i := 6) (x := i) rfl rfl ?_
        refine q_ia (pc := 81) rfl (by omega) (by omega) ?_
        refine q_aj (pc := 82) rfl (ttKc kT (a := 208) (κ := 23) (len := 240) ⟨rfl, rfl⟩ (by decide) (by decide)).1 (by omega) (by rw [(ttKc kT (a := 208) (κ := 23) (len := 240) ⟨rfl, rfl⟩ (by decide) (by decide)).2]; omega) ?_
        refine q_sj (pc := 83) rfl (by decide) (ttKc kT (a := 209) (κ := 23) (len := 60) ⟨rfl, rfl⟩ (by decide) (by decide)).1 (by omega) (by rw [(ttKc kT (a := 209) (κ := 23) (len := 60) ⟨rfl, rfl⟩ (by decide) (by decide)).2]; omega) ?_
        refine q_ii (pc := 84) (i := 6) (c := 1) (x := i) (L' := [(2, 183), (0, v1), (0, v2), (0, v3), (0, v4), (0, v5), (0, (i + 1))]) rfl rfl rfl (by omega) (by omega) rfl ?_
        refine q_go (pc := 85) rfl ?_
        omega
    | succ n ih =>
      intro K i kT kX kF w1 w2 w3 w4 w5 w6 w7 w8 w9 i0 i1 hn
      refine q_il (pc := 67) (i := 6) (x := i) rfl rfl ?_
      refine q_il (pc := 68) (i := 5) (x := v5) rfl rfl ?_
      refine q_i2 (pc := 69) rfl (fun h69 => ?_) (fun h69 => ?_)
      · replace h69 : v5 ≤ i := h69
        refine q_ic (pc := 86) (v := 0) rfl ?_
        refine q_is (pc := 87) (i := 6) (L' := [(2, 183), (0, v1), (0, v2), (0, v3), (0, v4), (0, v5), (0, 0)]) rfl rfl rfl ?_
        exact hl2 v5.toNat K 0 kT kX kF w1 w2 w3 w4 w5 w6 w7 w8 w9 (by omega) (by omega) (by omega)
      · replace h69 : i < v5 := h69
        refine q_al (pc := 70) (i := 0) (x := 183) rfl rfl ?_
        refine q_gf (pc := 71) (m := 12522) (t := 2) (c := 52) rfl (ttKc kT (a := 183) (κ := 12) (len := 0) ⟨rfl, rfl⟩ (by decide) (by decide)).1 rfl rfl ?_
        rw [show K.1 183 52 = 209 from ttFx kT (by decide) (by decide) rfl rfl rfl]
        refine q_il (pc := 72) (i := 6) (x := i) rfl rfl ?_
        refine q_al (pc := 73) (i := 0) (x := 183) rfl rfl ?_
        refine q_gf (pc := 74) (m := 12512) (t := 2) (c := 51) rfl (ttKc kT (a := 183) (κ := 12) (len := 0) ⟨rfl, rfl⟩ (by decide) (by decide)).1 rfl rfl ?_
        rw [show K.1 183 51 = 208 from ttFx kT (by decide) (by decide) rfl rfl rfl]
        refine q_ic (pc := 75) (v := 60) rfl ?_
        refine q_il (pc := 76) (i := 1) (x := v1) rfl rfl ?_
        refine q_im (pc := 77) rfl (by omega) (by omega) ?_
        refine q_il (pc := 78) (i := 2) (x := v2) rfl rfl ?_
        refine q_ia (pc := 79) rfl (by omega) (by omega) ?_
        refine q_il (pc := 80) (i := 6) (x := i) rfl rfl ?_
        refine q_ia (pc := 81) rfl (by omega) (by omega) ?_
        refine q_aj (pc := 82) rfl (ttKc kT (a := 208) (κ := 23) (len := 240) ⟨rfl, rfl⟩ (by decide) (by decide)).1 (by omega) (by rw [(ttKc kT (a := 208) (κ := 23) (len := 240) ⟨rfl, rfl⟩ (by decide) (by decide)).2]; omega) ?_
        refine q_sj (pc := 83) rfl (by decide) (ttKc kT (a := 209) (κ := 23) (len := 60) ⟨rfl, rfl⟩ (by decide) (by decide)).1 (by omega) (by rw [(ttKc kT (a := 209) (κ := 23) (len := 60) ⟨rfl, rfl⟩ (by decide) (by decide)).2]; omega) ?_
        refine q_ii (pc := 84) (i := 6) (c := 1) (x := i) (L' := [(2, 183), (0, v1), (0, v2), (0, v3), (0, v4), (0, v5), (0, (i + 1))]) rfl rfl rfl (by omega) (by omega) rfl ?_
        refine q_go (pc := 85) rfl ?_
        have k := ttRw kT (a := 208) (κ := 23) (len := 240) (sz := 240) (lo := -9223372036854775808) (hi := 9223372036854775807) (by decide) (by decide) rfl (60 * v1 + v2 + i) (by omega) (by omega)
        have c := ttPut hO kT kX kF (a := 209) (j := i) (x := K.1 208 (60 * v1 + v2 + i)) (by decide) (fun _ _ => ttTyr rfl k.1 k.2) ⟨(209, 0, 59), List.mem_cons_of_mem _ (List.mem_cons_self ..), ⟨⟨by decide, rfl⟩, by show (0 : Int) ≤ i; omega, by show i ≤ 59; omega⟩⟩ (ttMay_no (r := 209) rfl (by decide))
        exact ih _ (i + 1) c.1 c.2.1 c.2.2 w1 w2 w3 w4 w5 w6 w7 w8 w9 (by omega) (by omega) (by omega)
  refine xC_of (L := [(2, 183), (0, v1), (0, v2), (0, v3), (0, v4), (0, v5), (9, 0)]) (cd := cd_331) rfl rfl rfl ?_
  refine q_il (pc := 0) (i := 1) (x := v1) rfl rfl ?_
  refine q_ij (pc := 1) (q := 2623924) rfl rfl rfl trivial ?_
  refine lf_slot2 (by omega) (fun h1 => ?_) (fun h1 => ?_)
  · replace h1 : 0 ≤ v1 ∧ v1 ≤ 3 := h1
    refine q_if (pc := 2) rfl (fun h2 => ?_) (fun h2 => ?_)
    · replace h2 : (1 : Int) = 0 := h2
      omega
    · replace h2 : (1 : Int) ≠ 0 := h2
      refine q_il (pc := 3) (i := 3) (x := v3) rfl rfl ?_
      refine q_ij (pc := 4) (q := 2623924) rfl rfl rfl trivial ?_
      refine lf_slot2 (by omega) (fun h4 => ?_) (fun h4 => ?_)
      · replace h4 : 0 ≤ v3 ∧ v3 ≤ 3 := h4
        refine q_if (pc := 5) rfl (fun h5 => ?_) (fun h5 => ?_)
        · replace h5 : (1 : Int) ≠ 0 := h5
          refine q_al (pc := 8) (i := 0) (x := 183) rfl rfl ?_
          refine q_gf (pc := 9) (m := 12492) (t := 2) (c := 49) rfl (ttKc hT (a := 183) (κ := 12) (len := 0) ⟨rfl, rfl⟩ (by decide) (by decide)).1 rfl rfl ?_
          rw [show H.1 183 49 = 206 from ttFx hT (by decide) (by decide) rfl rfl rfl]
          refine q_il (pc := 10) (i := 1) (x := v1) rfl rfl ?_
          refine q_ai (pc := 11) rfl (ttKc hT (a := 206) (κ := 20) (len := 4) ⟨rfl, rfl⟩ (by decide) (by decide)).1 (by omega) (by rw [(ttKc hT (a := 206) (κ := 20) (len := 4) ⟨rfl, rfl⟩ (by decide) (by decide)).2]; omega) ?_
          refine q_ic (pc := 12) (v := (-1)) rfl ?_
          refine q_i2 (pc := 13) rfl (fun h13 => ?_) (fun h13 => ?_)
          · replace h13 : (H.1 206 v1) = (-1) := h13
            refine q_ic (pc := 20) (v := (-6)) rfl ?_
            refine q_ri (pc := 21) rfl ?_
            first | exact hq _ H (by omega) hT hX (ttFr_rf _ _) | omega
          · replace h13 : (H.1 206 v1) ≠ (-1) := h13
            refine q_al (pc := 14) (i := 0) (x := 183) rfl rfl ?_
            refine q_gf (pc := 15) (m := 12492) (t := 2) (c := 49) rfl (ttKc hT (a := 183) (κ := 12) (len := 0) ⟨rfl, rfl⟩ (by decide) (by decide)).1 rfl rfl ?_
            rw [show H.1 183 49 = 206 from ttFx hT (by decide) (by decide) rfl rfl rfl]
            refine q_il (pc := 16) (i := 3) (x := v3) rfl rfl ?_
            refine q_ai (pc := 17) rfl (ttKc hT (a := 206) (κ := 20) (len := 4) ⟨rfl, rfl⟩ (by decide) (by decide)).1 (by omega) (by rw [(ttKc hT (a := 206) (κ := 20) (len := 4) ⟨rfl, rfl⟩ (by decide) (by decide)).2]; omega) ?_
            refine q_ic (pc := 18) (v := (-1)) rfl ?_
            refine q_i2 (pc := 19) rfl (fun h19 => ?_) (fun h19 => ?_)
            · replace h19 : (H.1 206 v3) ≠ (-1) := h19
              refine q_al (pc := 22) (i := 0) (x := 183) rfl rfl ?_
              refine q_gf (pc := 23) (m := 12502) (t := 2) (c := 50) rfl (ttKc hT (a := 183) (κ := 12) (len := 0) ⟨rfl, rfl⟩ (by decide) (by decide)).1 rfl rfl ?_
              rw [show H.1 183 50 = 207 from ttFx hT (by decide) (by decide) rfl rfl rfl]
              refine q_il (pc := 24) (i := 1) (x := v1) rfl rfl ?_
              refine q_ai (pc := 25) rfl (ttKc hT (a := 207) (κ := 20) (len := 4) ⟨rfl, rfl⟩ (by decide) (by decide)).1 (by omega) (by rw [(ttKc hT (a := 207) (κ := 20) (len := 4) ⟨rfl, rfl⟩ (by decide) (by decide)).2]; omega) ?_
              refine q_al (pc := 26) (i := 0) (x := 183) rfl rfl ?_
              refine q_gf (pc := 27) (m := 12502) (t := 2) (c := 50) rfl (ttKc hT (a := 183) (κ := 12) (len := 0) ⟨rfl, rfl⟩ (by decide) (by decide)).1 rfl rfl ?_
              rw [show H.1 183 50 = 207 from ttFx hT (by decide) (by decide) rfl rfl rfl]
              refine q_il (pc := 28) (i := 3) (x := v3) rfl rfl ?_
              refine q_ai (pc := 29) rfl (ttKc hT (a := 207) (κ := 20) (len := 4) ⟨rfl, rfl⟩ (by decide) (by decide)).1 (by omega) (by rw [(ttKc hT (a := 207) (κ := 20) (len := 4) ⟨rfl, rfl⟩ (by decide) (by decide)).2]; omega) ?_
              refine q_i2 (pc := 30) rfl (fun h30 => ?_) (fun h30 => ?_)
              · replace h30 : (H.1 207 v1) = (H.1 207 v3) := h30
                refine q_il (pc := 33) (i := 2) (x := v2) rfl rfl ?_
                refine q_if (pc := 34) rfl (fun h34 => ?_) (fun h34 => ?_)
                · replace h34 : v2 < 0 := h34
                  refine q_ic (pc := 63) (v := (-7)) rfl ?_
                  refine q_ri (pc := 64) rfl ?_
                  first | exact hq _ H (by omega) hT hX (ttFr_rf _ _) | omega
                · replace h34 : 0 ≤ v2 := h34
                  refine q_il (pc := 35) (i := 4) (x := v4) rfl rfl ?_
                  refine q_if (pc := 36) rfl (fun h36 => ?_) (fun h36 => ?_)
                  · replace h36 : v4 < 0 := h36
                    refine q_ic (pc := 63) (v := (-7)) rfl ?_
                    refine q_ri (pc := 64) rfl ?_
                    first | exact hq _ H (by omega) hT hX (ttFr_rf _ _) | omega
                  · replace h36 : 0 ≤ v4 := h36
                    refine q_il (pc := 37) (i := 5) (x := v5) rfl rfl ?_
                    refine q_if (pc := 38) rfl (fun h38 => ?_) (fun h38 => ?_)
                    · replace h38 : v5 < 0 := h38
                      refine q_ic (pc := 63) (v := (-7)) rfl ?_
                      refine q_ri (pc := 64) rfl ?_
                      first | exact hq _ H (by omega) hT hX (ttFr_rf _ _) | omega
                    · replace h38 : 0 ≤ v5 := h38
                      refine q_il (pc := 39) (i := 2) (x := v2) rfl rfl ?_
                      refine q_2l (pc := 40) rfl ?_
                      refine q_il (pc := 41) (i := 5) (x := v5) rfl rfl ?_
                      refine q_2l (pc := 42) rfl ?_
                      refine q_lb (pc := 43) rfl (by omega) (by omega) ?_
                      refine q_al (pc := 44) (i := 0) (x := 183) rfl rfl ?_
                      refine q_gf (pc := 45) (m := 12492) (t := 2) (c := 49) rfl (ttKc hT (a := 183) (κ := 12) (len := 0) ⟨rfl, rfl⟩ (by decide) (by decide)).1 rfl rfl ?_
                      rw [show H.1 183 49 = 206 from ttFx hT (by decide) (by decide) rfl rfl rfl]
                      refine q_il (pc := 46) (i := 1) (x := v1) rfl rfl ?_
                      refine q_ai (pc := 47) rfl (ttKc hT (a := 206) (κ := 20) (len := 4) ⟨rfl, rfl⟩ (by decide) (by decide)).1 (by omega) (by rw [(ttKc hT (a := 206) (κ := 20) (len := 4) ⟨rfl, rfl⟩ (by decide) (by decide)).2]; omega) ?_
                      refine q_2l (pc := 48) rfl ?_
                      refine q_lcm (pc := 49) rfl rfl (fun h49 => ?_) (fun h49 => ?_)
                      · replace h49 : (H.1 206 v1) < (v2 + v5) := h49
                        refine q_ic (pc := 63) (v := (-7)) rfl ?_
                        refine q_ri (pc := 64) rfl ?_
                        first | exact hq _ H (by omega) hT hX (ttFr_rf _ _) | omega
                      · replace h49 : (v2 + v5) ≤ (H.1 206 v1) := h49
                        refine q_il (pc := 51) (i := 4) (x := v4) rfl rfl ?_
                        refine q_2l (pc := 52) rfl ?_
                        refine q_il (pc := 53) (i := 5) (x := v5) rfl rfl ?_
                        refine q_2l (pc := 54) rfl ?_
                        refine q_lb (pc := 55) rfl (by omega) (by omega) ?_
                        refine q_al (pc := 56) (i := 0) (x := 183) rfl rfl ?_
                        refine q_gf (pc := 57) (m := 12492) (t := 2) (c := 49) rfl (ttKc hT (a := 183) (κ := 12) (len := 0) ⟨rfl, rfl⟩ (by decide) (by decide)).1 rfl rfl ?_
                        rw [show H.1 183 49 = 206 from ttFx hT (by decide) (by decide) rfl rfl rfl]
                        refine q_il (pc := 58) (i := 3) (x := v3) rfl rfl ?_
                        refine q_ai (pc := 59) rfl (ttKc hT (a := 206) (κ := 20) (len := 4) ⟨rfl, rfl⟩ (by decide) (by decide)).1 (by omega) (by rw [(ttKc hT (a := 206) (κ := 20) (len := 4) ⟨rfl, rfl⟩ (by decide) (by decide)).2]; omega) ?_
                        refine q_2l (pc := 60) rfl ?_
                        refine q_lcm (pc := 61) rfl rfl (fun h61 => ?_) (fun h61 => ?_)
                        · replace h61 : (v4 + v5) ≤ (H.1 206 v3) := h61
                          refine q_ic (pc := 65) (v := 0) rfl ?_
                          refine q_is (pc := 66) (i := 6) (L' := [(2, 183), (0, v1), (0, v2), (0, v3), (0, v4), (0, v5), (0, 0)]) rfl rfl rfl ?_
                          have q1 := hmany v1 (by omega) (by omega)
                          have q3 := hmany v3 (by omega) (by omega)
                          exact hl1 v5.toNat H 0 hT hX (ttFr_rf _ _) (by omega) (by omega) (by omega) (by omega) (by omega) (by omega) (by omega) (by omega) (by omega) (by omega) (by omega) (by omega)
                        · replace h61 : (H.1 206 v3) < (v4 + v5) := h61
                          refine q_ic (pc := 63) (v := (-7)) rfl ?_
                          refine q_ri (pc := 64) rfl ?_
                          first | exact hq _ H (by omega) hT hX (ttFr_rf _ _) | omega
              · replace h30 : (H.1 207 v1) ≠ (H.1 207 v3) := h30
                refine q_ic (pc := 31) (v := (-8)) rfl ?_
                refine q_ri (pc := 32) rfl ?_
                first | exact hq _ H (by omega) hT hX (ttFr_rf _ _) | omega
            · replace h19 : (H.1 206 v3) = (-1) := h19
              refine q_ic (pc := 20) (v := (-6)) rfl ?_
              refine q_ri (pc := 21) rfl ?_
              first | exact hq _ H (by omega) hT hX (ttFr_rf _ _) | omega
        · replace h5 : (1 : Int) = 0 := h5
          omega
      · replace h4 : ¬ (0 ≤ v3 ∧ v3 ≤ 3) := h4
        refine q_if (pc := 5) rfl (fun h5 => ?_) (fun h5 => ?_)
        · replace h5 : (0 : Int) ≠ 0 := h5
          omega
        · replace h5 : (0 : Int) = 0 := h5
          refine q_ic (pc := 6) (v := (-2)) rfl ?_
          refine q_ri (pc := 7) rfl ?_
          first | exact hq _ H (by omega) hT hX (ttFr_rf _ _) | omega
  · replace h1 : ¬ (0 ≤ v1 ∧ v1 ≤ 3) := h1
    refine q_if (pc := 2) rfl (fun h2 => ?_) (fun h2 => ?_)
    · replace h2 : (0 : Int) = 0 := h2
      refine q_ic (pc := 6) (v := (-2)) rfl ?_
      refine q_ri (pc := 7) rfl ?_
      first | exact hq _ H (by omega) hT hX (ttFr_rf _ _) | omega
    · replace h2 : (0 : Int) ≠ 0 := h2
      omega
