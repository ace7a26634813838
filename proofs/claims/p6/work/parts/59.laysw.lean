/-! laysWays of the reference -/
theorem lf_laysWays {dd : Nat} (hd : 4 ≤ dd) {H : xH} (hT : ttTI H) (hX : ttXX YY H) {Q : Int → xH → Prop} (hq : ∀ H', ttTI H' → ttXX YY H' → ttFr (true, [(190, 0, 15), (191, 0, 4799), (183, 22, 22)]) H H' → H'.1 183 22 = 1 → (H.1 183 22 ≠ 0 → H' = H) → Q 0 H') : xCall dd 250 [(2, 183)] H Q := by
  obtain ⟨e, rfl, he⟩ := ttRun0 (n := 3) hd
  have he : 3 ≤ e := he
  obtain ⟨rm, hn, w, im, wy, lg⟩ := id hX
  have hlg : ∀ l : Int, 0 ≤ l → l < 10 → l < H.1 184 2 → H.1 184 (84 + 6 * l) < H.1 184 1 ∧ H.1 184 (85 + 6 * l) < H.1 184 1 := fun l l0 l1 l2 => by
    have z := w.1 l l0 l1 (by rw [Int.zero_add]; exact l2)
    rw [Int.zero_add, Int.zero_add, Int.zero_add] at z
    exact z
  have hend : ∀ K : xH, H.1 183 22 = 0 → ttTI K → ttFr (true, [(190, 0, 15), (191, 0, 4799), (183, 22, 22)]) H K → K.1 183 22 = 1 → (∀ p1 w1 : Int, 0 ≤ p1 → p1 ≤ 7 → 0 ≤ w1 → w1 ≤ 1 → yyWr K.1 (2 * p1 + w1) 100 (K.1 190 (2 * p1 + w1))) → Q 0 K := by
    intro K f0 kT kF f1 dn
    have h29 : K.1 183 29 = H.1 183 29 := kF.2.2.2 183 29 (by omega) (fun q hq hh => by
      have k : ∀ q ∈ ([(190, 0, 15), (191, 0, 4799), (183, 22, 22)] : List (Nat × Int × Int)), ¬ (q.1 = 183 ∧ q.2.1 ≤ 29 ∧ 29 ≤ q.2.2) := by decide
      exact k q hq ⟨hh.1.2.symm.trans rfl, hh.2.1, hh.2.2⟩)
    refine hq K kT ⟨rm_fr kF rfl hn (by decide) rm, by rw [kF.1 rfl]; exact hn, yyR_eq (fun j _ _ _ => fr_no kF 184 (by omega) rfl (by decide)) w, fun k k0 k1 k2 => ?_, fun _ => ?_, fun z => ?_⟩ kF f1 (fun z => absurd f0 z)
    · rw [fr_no kF 186 (by omega) rfl (by decide)] at k2
      exact yyR_eq (fun j _ _ _ => fr_no kF 185 (by omega) rfl (by decide)) (im k k0 k1 k2)
    · intro r r0 r1 i i0 i1 i2
      have z := dn (r / 2) (r % 2) (by omega) (by omega) (by omega) (by omega)
      rw [show 2 * (r / 2) + r % 2 = r by omega] at z
      obtain ⟨a1, a2, -, a4⟩ := z i i0 i2
      exact ⟨a1, a2, a4⟩
    · rw [h29] at z
      exact absurd ((lg z).1.symm.trans f0) (by decide)
  have hin : H.1 183 22 = 0 → ∀ w : Int, 0 ≤ w → w ≤ 1 → (∀ (K : xH) (x2 : xV) (p : Int), 8 ≤ p → ttTI K → ttFr (true, [(190, 0, 15), (191, 0, 4799), (183, 22, 22)]) H K → K.1 183 22 = 1 → (∀ p1 w1 : Int, 0 ≤ p1 → p1 ≤ 7 → 0 ≤ w1 → w1 ≤ 1 → (w1 < w ∨ (w1 = w ∧ p1 < p)) → yyWr K.1 (2 * p1 + w1) 100 (K.1 190 (2 * p1 + w1))) → xW e cd_250 Q (23, [(2, 183), (0, w), x2], [], K)) → ∀ n : Nat, ∀ (K : xH) (p : Int), 0 ≤ p → p ≤ 8 → 8 - p ≤ (n : Int) → ttTI K → ttFr (true, [(190, 0, 15), (191, 0, 4799), (183, 22, 22)]) H K → K.1 183 22 = 1 → (∀ p1 w1 : Int, 0 ≤ p1 → p1 ≤ 7 → 0 ≤ w1 → w1 ≤ 1 → (w1 < w ∨ (w1 = w ∧ p1 < p)) → yyWr K.1 (2 * p1 + w1) 100 (K.1 190 (2 * p1 + w1))) → xW e cd_250 Q (14, [(2, 183), (0, w), (0, p)], [], K) := by
    intro f0 w w0 w1 hk n
    induction n with
    | zero =>
      intro K p p0 p1 hn2 kT kF f1 dn
      refine q_il (pc := 14) (i := 2) (x := p) rfl rfl ?_
      refine q_ic (pc := 15) (v := 8) rfl ?_
      refine q_i2 (pc := 16) rfl (fun h16 => ?_) (fun h16 => ?_)
      · replace h16 : 8 ≤ p := h16
        exact hk K _ p (by omega) kT kF f1 dn
      · replace h16 : p < 8 := h16
        omega
    | succ n ih =>
      intro K p p0 p1 hn2 kT kF f1 dn
      refine q_il (pc := 14) (i := 2) (x := p) rfl rfl ?_
      refine q_ic (pc := 15) (v := 8) rfl ?_
      refine q_i2 (pc := 16) rfl (fun h16 => ?_) (fun h16 => ?_)
      · replace h16 : 8 ≤ p := h16
        exact hk K _ p (by omega) kT kF f1 dn
      · replace h16 : p < 8 := h16
        refine q_al (pc := 17) (i := 0) (x := 183) rfl rfl ?_
        refine q_il (pc := 18) (i := 2) (x := p) rfl rfl ?_
        refine q_il (pc := 19) (i := 1) (x := w) rfl rfl ?_
        refine q_iv (pc := 20) (q := 2008975) rfl rfl rfl (ttKc kT (a := 183) (κ := 12) (len := 0) ⟨rfl, rfl⟩ (by decide) (by decide)).1 ?_
        have kw : ∀ j : Int, K.1 184 j = H.1 184 j := fun j => fr_no kF 184 (by omega) rfl (by decide)
        refine lf_laysFrom (by omega) kT (by omega) (by omega) (by omega) (by omega) (fun l l0 l1 l2 => by rw [kw] at l2; rw [kw, kw, kw]; exact hlg l l0 l1 l2) (fun M m mT mF m1 mW m2 m3 => ?_)
        refine q_ii (pc := 21) (i := 2) (c := 1) (x := p) (L' := [(2, 183), (0, w), (0, (p + 1))]) rfl rfl rfl (by omega) (by omega) rfl ?_
        refine q_go (pc := 22) rfl ?_
        have ujf : ttFr (true, [(190, 0, 15), (191, 0, 4799), (183, 22, 22)]) H M := ttFr_tr kF mF (fun _ => rfl) (by decide)
        have ujk : 210 ≤ (K.2.2.2.1 : Int) := by have := kT.1; omega
        have ujy : M.1 184 1 = K.1 184 1 := fr_no mF 184 (by omega) rfl (by decide)
        refine ih M (p + 1) (by omega) (by omega) (by omega) mT ujf ((fr_no mF 183 (by omega) rfl (by decide)).trans f1) (fun p1 w1 a0 a1 b0 b1 hd => ?_)
        by_cases z : 2 * p1 + w1 = 2 * p + w
        · rw [z, m1]
          exact mW
        · rw [m2 _ z]
          have ujm := ttRw kT (a := 190) (κ := 20) (len := 16) (sz := 16) (lo := 0) (hi := 60) (by decide) (by decide) rfl (2 * p1 + w1) (by omega) (by omega)
          exact yyWr_s (dn p1 w1 a0 a1 b0 b1 (by omega)) (by omega) ujy (fun j j0 j1 => m3 j (by omega))
  have hou : H.1 183 22 = 0 → ∀ n : Nat, ∀ (K : xH) (w : Int) (x2 : xV) (p : Int), p = 0 → 0 ≤ w → w ≤ 2 → 2 - w ≤ (n : Int) → ttTI K → ttFr (true, [(190, 0, 15), (191, 0, 4799), (183, 22, 22)]) H K → K.1 183 22 = 1 → (∀ p1 w1 : Int, 0 ≤ p1 → p1 ≤ 7 → 0 ≤ w1 → w1 ≤ 1 → (w1 < w ∨ (w1 = w ∧ p1 < p)) → yyWr K.1 (2 * p1 + w1) 100 (K.1 190 (2 * p1 + w1))) → xW e cd_250 Q (9, [(2, 183), (0, w), x2], [], K) := by
    intro f0 n
    induction n with
    | zero =>
      intro K w x2 p pz w0 w1 hn2 kT kF f1 dn
      refine q_il (pc := 9) (i := 1) (x := w) rfl rfl ?_
      refine q_ic (pc := 10) (v := 2) rfl ?_
      refine q_i2 (pc := 11) rfl (fun h11 => ?_) (fun h11 => ?_)
      · replace h11 : 2 ≤ w := h11
        refine q_rv (pc := 25) rfl ?_
        exact hend K f0 kT kF f1 (fun p1 w1 a0 a1 b0 b1 => dn p1 w1 a0 a1 b0 b1 (by omega))
      · replace h11 : w < 2 := h11
        omega
    | succ n ih =>
      intro K w x2 p pz w0 w1 hn2 kT kF f1 dn
      refine q_il (pc := 9) (i := 1) (x := w) rfl rfl ?_
      refine q_ic (pc := 10) (v := 2) rfl ?_
      refine q_i2 (pc := 11) rfl (fun h11 => ?_) (fun h11 => ?_)
      · replace h11 : 2 ≤ w := h11
        refine q_rv (pc := 25) rfl ?_
        exact hend K f0 kT kF f1 (fun p1 w1 a0 a1 b0 b1 => dn p1 w1 a0 a1 b0 b1 (by omega))
      · replace h11 : w < 2 := h11
        refine q_ic (pc := 12) (v := 0) rfl ?_
        refine q_is (pc := 13) (i := 2) (L' := [(2, 183), (0, w), (0, 0)]) rfl rfl rfl ?_
        refine hin f0 w w0 (by omega) (fun K x2 p pz kT kF f1 dn => ?_) 8 K 0 (by decide) (by decide) (by decide) kT kF f1 (fun p1 w1 a0 a1 b0 b1 hd => dn p1 w1 a0 a1 b0 b1 (by omega))
        refine q_ii (pc := 23) (i := 1) (c := 1) (x := w) (L' := [(2, 183), (0, (w + 1)), x2]) rfl rfl rfl (by omega) (by omega) rfl ?_
        refine q_go (pc := 24) rfl ?_
        exact ih K (w + 1) x2 0 rfl (by omega) (by omega) (by omega) kT kF f1 (fun p1 w1 a0 a1 b0 b1 hd => dn p1 w1 a0 a1 b0 b1 (by omega))
  refine xC_of (L := [(2, 183), (9, 0), (9, 0)]) (cd := cd_250) rfl rfl rfl ?_
  refine q_al (pc := 0) (i := 0) (x := 183) rfl rfl ?_
  refine q_gf (pc := 1) (m := 12220) (t := 0) (c := 22) rfl (ttKc hT (a := 183) (κ := 12) (len := 0) ⟨rfl, rfl⟩ (by decide) (by decide)).1 rfl rfl ?_
  refine q_if (pc := 2) rfl (fun h2 => ?_) (fun h2 => ?_)
  · replace h2 : (H.1 183 22) = 0 := h2
    refine q_al (pc := 4) (i := 0) (x := 183) rfl rfl ?_
    refine q_ic (pc := 5) (v := 1) rfl ?_
    refine q_pf (pc := 6) (m := 12223) (c := 22) rfl (show xPt 3 0 _ _ from ⟨(ttKc hT (a := 183) (κ := 12) (len := 0) ⟨rfl, rfl⟩ (by decide) (by decide)).1, by omega⟩) rfl ?_
    refine q_ic (pc := 7) (v := 0) rfl ?_
    refine q_is (pc := 8) (i := 1) (L' := [(2, 183), (0, 0), (9, 0)]) rfl rfl rfl ?_
    have c := ttPuT hT (ttFr_rf (true, [(190, 0, 15), (191, 0, 4799), (183, 22, 22)]) H) (a := 183) (j := 22) (x := 1) (by decide) (fun _ _ => show ttM _ (0, 0, 1) 1 from ⟨by decide, by decide⟩) ⟨(183, 22, 22), by decide, ⟨⟨by decide, rfl⟩, by decide, by decide⟩⟩
    exact hou h2 2 _ 0 _ 0 rfl (by decide) (by decide) (by decide) c.1 c.2 (show xUp H.1 183 22 1 183 22 = 1 from up_eq) (fun p1 w1 a0 a1 b0 b1 hd => by omega)
  · replace h2 : (H.1 183 22) ≠ 0 := h2
    refine q_rv (pc := 3) rfl ?_
    have z : 0 ≤ H.1 183 22 ∧ H.1 183 22 ≤ 1 := ttMc hT (a := 183) (j := 22) (by decide) (by decide) (by decide) (by decide)
    exact hq H hT hX (ttFr_rf _ _) (by omega) (fun _ => rfl)
theorem hm_laysWays : ttHas (ttXX YY) m_laysWays := by
  intro dd hdd vs H hT hX hargs hcells Q hQ
  obtain ⟨v0, vs, rfl, p0, hargs⟩ := ttV1 hargs
  cases ttV0 hargs
  cases ttPk p0
  have hd : 7 ≤ dd := hdd
  exact lf_laysWays (by omega) hT hX (fun H' a b c _ _ => hQ 0 H' a b c ⟨_, List.mem_singleton.mpr rfl, ttPk_of rfl⟩ (fun q hq => absurd hq List.not_mem_nil))
