/-! reach, fields, edge, tour of the second, exactly -/
theorem ty_wo {p : Int} (p0 : 0 ≤ p) (p1 : p ≤ 7) : ttTy (ttTb 184) (20 + 8 * p + 2) = (0, 0, 999) := by
  have k : ∀ n : Nat, n < 8 → ttTy (ttTb 184) (20 + 8 * (n : Int) + 2) = (0, 0, 999) := by decide
  obtain ⟨n, rfl⟩ := Int.eq_ofNat_of_zero_le p0
  exact k n (by omega)
theorem ty_sk {s : Int} (s0 : 0 ≤ s) (s1 : s ≤ 5) : ttTy (ttTb 184) (144 + 2 * s + 1) = (0, 0, 999) := by
  have k : ∀ n : Nat, n < 6 → ttTy (ttTb 184) (144 + 2 * (n : Int) + 1) = (0, 0, 999) := by decide
  obtain ⟨n, rfl⟩ := Int.eq_ofNat_of_zero_le s0
  exact k n (by omega)
theorem ws_of {H : xH} (hT : ttTI H) (hX : ttXX YY H) : wsR (H.1 184) := by
  have t : ∀ j : Int, 0 ≤ j → j < 196 → ttM (H.2.2.2.1 : Int) (ttTy (ttTb 184) j) (H.1 184 j) := fun j ujj0 ujj1 => ttMc hT (a := 184) (j := j) (by decide) (by decide) ujj0 ujj1
  have y := hX.2.2.1
  have t7 : 0 ≤ H.1 184 7 ∧ H.1 184 7 ≤ 60 := t 7 (by decide) (by decide)
  have y7 : 31 ≤ H.1 184 (0 + 7) := y.2.1.2
  rw [Int.zero_add] at y7
  refine ⟨t 1 (by decide) (by decide), t 2 (by decide) (by decide), t 3 (by decide) (by decide), ⟨y7, t7.2⟩, fun p p0 p1 => ?_, fun l l0 l1 => ?_, fun s s0 s1 => ?_, fun l l0 l1 => ?_⟩
  · have z := pl_ty hT p0 p1
    have w := t (20 + 8 * p + 2) (by omega) (by omega)
    rw [ty_wo p0 p1] at w
    have w : 0 ≤ H.1 184 (20 + 8 * p + 2) ∧ H.1 184 (20 + 8 * p + 2) ≤ 999 := w
    rw [show (20 : Int) + 8 * p + 1 = 21 + 8 * p from by omega]
    exact ⟨z.1, z.2, w.1⟩
  · obtain ⟨z0, z1, z2, z3, z4, z5⟩ := lg_ty hT l0 l1
    rw [show (84 : Int) + 6 * l + 1 = 85 + 6 * l from by omega, show (84 : Int) + 6 * l + 2 = 86 + 6 * l from by omega, show (84 : Int) + 6 * l + 3 = 87 + 6 * l from by omega, show (84 : Int) + 6 * l + 5 = 89 + 6 * l from by omega]
    exact ⟨z0, z1, z2, z3, z5⟩
  · have w := t (144 + 2 * s + 1) (by omega) (by omega)
    rw [ty_sk s0 s1] at w
    exact w
  · have t2 : 0 ≤ H.1 184 2 ∧ H.1 184 2 ≤ 10 := t 2 (by decide) (by decide)
    have z := y.1 l l0 (by omega) (by rw [Int.zero_add]; exact l1)
    rw [Int.zero_add, Int.zero_add, Int.zero_add] at z
    rw [show (84 : Int) + 6 * l + 1 = 85 + 6 * l from by omega]
    exact z
theorem or_nz : ∀ s : Nat, s < 256 → ∀ p : Nat, p < 8 → xOr (s : Int) (xShl 1 (p : Int)) ≠ 0 := by decide +kernel
theorem gsS_in {R f : Int → Int} : ∀ n : Nat, n ≤ 8 → (0 ≤ gsS R f n ∧ gsS R f n ≤ 255) ∧ (gsS R f n ≠ 0 ↔ ∃ q : Int, (0 ≤ q ∧ q < (n : Int)) ∧ f q ≠ -1 ∧ R (20 + 8 * q + 1) ≠ 0) := by
  intro n
  induction n with
  | zero => exact fun _ => ⟨⟨Int.le_refl _, by show (0 : Int) ≤ 255; decide⟩, ⟨fun z => absurd rfl z, fun ⟨q, z, _⟩ => by omega⟩⟩
  | succ n ih =>
    intro n8
    obtain ⟨⟨s0, s1⟩, s2⟩ := ih (by omega)
    have e : gsS R f (n + 1) = if f (n : Int) ≠ -1 ∧ R (20 + 8 * (n : Int) + 1) ≠ 0 then xOr (gsS R f n) (xShl 1 (n : Int)) else gsS R f n := rfl
    by_cases c : f (n : Int) ≠ -1 ∧ R (20 + 8 * (n : Int) + 1) ≠ 0
    · rw [e, if_pos c]
      refine ⟨or_08 s0 s1 (by omega) (by omega), ⟨fun _ => ⟨n, ⟨by omega, by omega⟩, c⟩, fun _ => ?_⟩⟩
      have z := or_nz (gsS R f n).toNat (by omega) n (by omega)
      rw [Int.toNat_of_nonneg s0] at z
      exact z
    · rw [e, if_neg c]
      refine ⟨⟨s0, s1⟩, s2.trans ⟨fun ⟨q, z, y⟩ => ⟨q, ⟨z.1, by omega⟩, y⟩, fun ⟨q, z, y⟩ => ⟨q, ⟨z.1, ?_⟩, y⟩⟩⟩
      by_cases d : q = n
      · rw [d] at y
        exact absurd y c
      · omega
theorem gsS_L {R f : Int → Int} (hw : wsR R) {w p a : Int} (v : gsVd R p a) (g : gsG (gsT R w) p a f) : gsS R f (R 1).toNat ≠ 0 ↔ gsL R w p a := by
  have n8 := hw.1
  refine (gsS_in (R := R) (f := f) (R 1).toNat (by omega)).2.trans ⟨fun ⟨q, z, n, l⟩ => ⟨q, f q, (g.2.1 q z.1 (by omega)).2 n, l⟩, fun ⟨q, b, y, l⟩ => ?_⟩
  have i := gsP_in hw v y
  exact ⟨q, ⟨i.1.1, by omega⟩, (gsG_le hw v g y).2, l⟩
def rsEd2 (R : Int → Int) (p w r : Int) : Prop := (0 ≤ p ∧ p < R 1 → (r = -1 ∧ ∀ a : Int, gsVd R p a → ¬ gsL R w p a) ∨ (gsVd R p r ∧ gsL R w p r ∧ ∀ a : Int, gsVd R p a → a < r → ¬ gsL R w p a)) ∧ (¬ (0 ≤ p ∧ p < R 1) → r = -2)
theorem rsEd_u {R : Int → Int} (hw : wsR R) {p w r ujr2 : Int} (h : rsEdg R p w r) (h2 : rsEd2 R p w ujr2) : r = ujr2 := by
  by_cases c : 0 ≤ p ∧ p < R 1
  · obtain ⟨e, he, hr⟩ := h.1 c
    have n8 := hw.1.2
    have g := (hw.2.2.2.2.1 p c.1 (by omega)).1
    have c7 := hw.2.2.2.1
    have e1 := he.1 p c.1 c.2
    rcases h2.1 c with ⟨z1, z2⟩ | ⟨z1, z2, z3⟩
    · by_cases q : e p = 1000000
      · rw [hr, if_pos q, z1]
      · have v : gsVd R p (e p) := ⟨c, by omega, by omega⟩
        exact absurd ((gsE_l hw he v).2 (Int.le_refl _)) (z2 _ v)
    · have k := (gsE_l hw he z1).1 z2
      have b := z1.2
      have q : e p ≠ 1000000 := by omega
      have v : gsVd R p (e p) := ⟨c, by omega, by omega⟩
      rw [hr, if_neg q]
      by_cases l : e p < ujr2
      · exact absurd ((gsE_l hw he v).2 (Int.le_refl _)) (z3 _ v l)
      · omega
  · rw [h.2 c, h2.2 c]
def rsTo2 (R : Int → Int) (p a w r : Int) : Prop := (gsVd R p a → ∃ f d : Int → Int, gsG (gsT R w) p a f ∧ (∀ n : Int, 0 ≤ n → n < R 1 → f n ≠ -1 → (d n ≠ 0 ↔ gsL R w n (f n))) ∧ r = gsB (fun n => f (n : Int) ≠ -1 ∧ d (n : Int) ≠ 0) (R 1).toNat) ∧ (¬ gsVd R p a → r = -2)
theorem rsTo_u {R : Int → Int} (hw : wsR R) {p a w r ujr2 : Int} (h : rsTor R p a w r) (h2 : rsTo2 R p a w ujr2) : r = ujr2 := by
  by_cases c : gsVd R p a
  · obtain ⟨f, e, hf, he, hr⟩ := h.1 c
    obtain ⟨g, d, hg, hd, hr2⟩ := h2.1 c
    have n8 := hw.1.2
    rw [hr, hr2]
    refine gsB_c _ (fun i i1 => ?_)
    have k := gsG_u hw c hf hg (q := (i : Int)) (by omega) (by omega)
    rw [k]
    constructor
    · rintro ⟨z1, z2⟩
      have y := gsP_in hw c ((hg.2.1 i (by omega) (by omega)).2 z1)
      exact ⟨z1, (hd i (by omega) (by omega) z1).2 ((gsE_l hw he y).2 z2)⟩
    · rintro ⟨z1, z2⟩
      have y := gsP_in hw c ((hg.2.1 i (by omega) (by omega)).2 z1)
      exact ⟨z1, (gsE_l hw he y).1 ((hd i (by omega) (by omega) z1).1 z2)⟩
  · rw [h.2 c, h2.2 c]
theorem rsRc_u {R : Int → Int} (hw : wsR R) {p a q w r ujr2 : Int} (h : rsRch R p a q w r) (h2 : rsRch R p a q w ujr2) : r = ujr2 := by
  by_cases c : gsVd R p a ∧ (0 ≤ q ∧ q < R 1)
  · obtain ⟨f, hf, hr⟩ := h.1 c
    obtain ⟨g, hg, hr2⟩ := h2.1 c
    have n8 := hw.1.2
    rw [hr, hr2]
    exact gsG_u hw c.1 hf hg c.2.1 (by omega)
  · rw [h.2 c, h2.2 c]
theorem rsFl_u {R : Int → Int} (hw : wsR R) {p a w r ujr2 : Int} (h : rsFld R p a w r) (h2 : rsFld R p a w ujr2) : r = ujr2 := by
  by_cases c : gsVd R p a
  · obtain ⟨f, hf, hr⟩ := h.1 c
    obtain ⟨g, hg, hr2⟩ := h2.1 c
    have n8 := hw.1.2
    rw [hr, hr2]
    exact gsS_c _ (by omega) (fun q q0 q1 => gsG_u hw c hf hg q0 q1)
  · rw [h.2 c, h2.2 c]
theorem ly_hgt {dd : Nat} (hd : 3 ≤ dd) {H : xH} (hT : ttTI H) (hw : wsR (H.1 184)) {p a : Int} {Q : Int → xH → Prop} (hy : gsVd (H.1 184) p a → Q 1 H) (hn : ¬ gsVd (H.1 184) p a → Q 0 H) : xCall dd 254 [(2, 183), (0, p), (0, a)] H Q := by
  obtain ⟨e, rfl, he⟩ := ttRun0 (n := 2) hd
  have he : 2 ≤ e := he
  have w1 := hw.1
  refine xC_of (L := [(2, 183), (0, p), (0, a)]) (cd := cd_254) rfl rfl rfl ?_
  refine q_al (pc := 0) (i := 0) (x := 183) rfl rfl ?_
  refine q_il (pc := 1) (i := 1) (x := p) rfl rfl ?_
  refine q_iv (pc := 2) (q := 1656968) rfl rfl rfl (ttKc hT (a := 183) (κ := 12) (len := 0) ⟨rfl, rfl⟩ (by decide) (by decide)).1 ?_
  refine lf_isPl (by omega) hT (fun hp => ?_) (fun hp => ?_)
  · skip
    refine q_if (pc := 3) rfl (fun h3 => ?_) (fun h3 => ?_)
    · replace h3 : (1 : Int) = 0 := h3
      omega
    · replace h3 : (1 : Int) ≠ 0 := h3
      refine q_il (pc := 4) (i := 2) (x := a) rfl rfl ?_
      refine q_2l (pc := 5) rfl ?_
      refine q_al (pc := 6) (i := 0) (x := 183) rfl rfl ?_
      refine q_il (pc := 7) (i := 1) (x := p) rfl rfl ?_
      refine q_ic (pc := 8) (v := 0) rfl ?_
      refine q_iv (pc := 9) (q := 1664972) rfl rfl rfl (ttKc hT (a := 183) (κ := 12) (len := 0) ⟨rfl, rfl⟩ (by decide) (by decide)).1 ?_
      refine lf_ofPlace (j := 20 + 8 * p) (by omega) (by omega) hT hp.1 (by omega) (by decide) (by decide) ?_
      refine q_2l (pc := 10) rfl ?_
      refine q_al (pc := 11) (i := 0) (x := 183) rfl rfl ?_
      refine q_gf (pc := 12) (m := 12012) (t := 2) (c := 1) rfl (ttKc hT (a := 183) (κ := 12) (len := 0) ⟨rfl, rfl⟩ (by decide) (by decide)).1 rfl rfl ?_
      rw [show H.1 183 1 = 184 from ttFx hT (by decide) (by decide) rfl rfl rfl]
      refine q_ic (pc := 13) (v := 7) rfl ?_
      refine q_ai (pc := 14) rfl (ttKc hT (a := 184) (κ := 20) (len := 196) ⟨rfl, rfl⟩ (by decide) (by decide)).1 (by omega) (by rw [(ttKc hT (a := 184) (κ := 20) (len := 196) ⟨rfl, rfl⟩ (by decide) (by decide)).2]; omega) ?_
      refine q_2l (pc := 15) rfl ?_
      refine q_ij (pc := 16) (q := 1615932) rfl rfl rfl trivial ?_
      refine lf_in (by omega) (fun hi => ?_) (fun hi => ?_)
      · skip
        refine q_if (pc := 17) rfl (fun h17 => ?_) (fun h17 => ?_)
        · replace h17 : (1 : Int) = 0 := h17
          omega
        · replace h17 : (1 : Int) ≠ 0 := h17
          refine q_ic (pc := 18) (v := 1) rfl ?_
          refine q_go (pc := 19) rfl ?_
          refine q_rz (pc := 21) rfl (by omega) ?_
          exact hy ⟨hp, hi.1, hi.2⟩
      · skip
        refine q_if (pc := 17) rfl (fun h17 => ?_) (fun h17 => ?_)
        · replace h17 : (0 : Int) = 0 := h17
          refine q_ic (pc := 20) (v := 0) rfl ?_
          refine q_rz (pc := 21) rfl (by omega) ?_
          exact hn (fun z => by have z1 := z.1; have z2 := z.2; omega)
        · replace h17 : (0 : Int) ≠ 0 := h17
          omega
  · skip
    refine q_if (pc := 3) rfl (fun h3 => ?_) (fun h3 => ?_)
    · replace h3 : (0 : Int) = 0 := h3
      refine q_ic (pc := 20) (v := 0) rfl ?_
      refine q_rz (pc := 21) rfl (by omega) ?_
      exact hn (fun z => by have z1 := z.1; have z2 := z.2; omega)
    · replace h3 : (0 : Int) ≠ 0 := h3
      omega
theorem lx_rch2 {dd : Nat} (hd : 6 ≤ dd) {H : xH} (hT : ttTI H) (hX : ttXX YY H) {p a q w : Int} (ww : w = 0 ∨ w = 1) {Q : Int → xH → Prop} (hq : ∀ r K, rsRch (H.1 184) p a q w r → Q r K) : xCall dd 255 [(2, 183), (0, p), (0, a), (0, q), (0, w)] H Q := by
  obtain ⟨e, rfl, he⟩ := ttRun0 (n := 5) hd
  have he : 5 ≤ e := he
  have hn : 210 ≤ (H.2.2.2.1 : Int) := by have := hT.1; omega
  have hw := ws_of hT hX
  have w1 := hw.1
  have w7 := hw.2.2.2.1
  refine xC_of (L := [(2, 183), (0, p), (0, a), (0, q), (0, w)]) (cd := cd_255) rfl rfl rfl ?_
  refine q_al (pc := 0) (i := 0) (x := 183) rfl rfl ?_
  refine q_il (pc := 1) (i := 1) (x := p) rfl rfl ?_
  refine q_il (pc := 2) (i := 2) (x := a) rfl rfl ?_
  refine q_iv (pc := 3) (q := 2032972) rfl rfl rfl (ttKc hT (a := 183) (κ := 12) (len := 0) ⟨rfl, rfl⟩ (by decide) (by decide)).1 ?_
  refine ly_hgt (by omega) hT hw (fun hv => ?_) (fun hv => ?_)
  · skip
    refine q_if (pc := 4) rfl (fun h4 => ?_) (fun h4 => ?_)
    · replace h4 : (1 : Int) = 0 := h4
      omega
    · replace h4 : (1 : Int) ≠ 0 := h4
      refine q_al (pc := 5) (i := 0) (x := 183) rfl rfl ?_
      refine q_il (pc := 6) (i := 3) (x := q) rfl rfl ?_
      refine q_iv (pc := 7) (q := 1656968) rfl rfl rfl (ttKc hT (a := 183) (κ := 12) (len := 0) ⟨rfl, rfl⟩ (by decide) (by decide)).1 ?_
      refine lf_isPl (by omega) hT (fun hp => ?_) (fun hp => ?_)
      · skip
        refine q_if (pc := 8) rfl (fun h8 => ?_) (fun h8 => ?_)
        · replace h8 : (1 : Int) ≠ 0 := h8
          refine q_al (pc := 11) (i := 0) (x := 183) rfl rfl ?_
          refine q_il (pc := 12) (i := 1) (x := p) rfl rfl ?_
          refine q_il (pc := 13) (i := 2) (x := a) rfl rfl ?_
          refine q_il (pc := 14) (i := 4) (x := w) rfl rfl ?_
          refine q_iv (pc := 15) (q := 2024979) rfl rfl rfl (ttKc hT (a := 183) (κ := 12) (len := 0) ⟨rfl, rfl⟩ (by decide) (by decide)).1 ?_
          have vi := gsVd_in hw hv
          refine lf_glides (by omega) hT hX vi.1 vi.2 (by omega) (fun G K gF _ _ kT kX kF kG => ?_)
          refine q_al (pc := 16) (i := 0) (x := 183) rfl rfl ?_
          refine q_gf (pc := 17) (m := 12232) (t := 2) (c := 23) rfl (ttKc kT (a := 183) (κ := 12) (len := 0) ⟨rfl, rfl⟩ (by decide) (by decide)).1 rfl rfl ?_
          rw [show K.1 183 23 = 192 from ttFx kT (by decide) (by decide) rfl rfl rfl]
          refine q_il (pc := 18) (i := 3) (x := q) rfl rfl ?_
          refine q_ai (pc := 19) rfl (ttKc kT (a := 192) (κ := 20) (len := 8) ⟨rfl, rfl⟩ (by decide) (by decide)).1 (by omega) (by rw [(ttKc kT (a := 192) (κ := 20) (len := 8) ⟨rfl, rfl⟩ (by decide) (by decide)).2]; omega) ?_
          refine q_ri (pc := 20) rfl ?_
          exact hq _ _ ⟨fun _ => ⟨K.1 192, kG hw hv, rfl⟩, fun z => absurd ⟨hv, hp⟩ z⟩
        · replace h8 : (1 : Int) = 0 := h8
          omega
      · skip
        refine q_if (pc := 8) rfl (fun h8 => ?_) (fun h8 => ?_)
        · replace h8 : (0 : Int) ≠ 0 := h8
          omega
        · replace h8 : (0 : Int) = 0 := h8
          refine q_ic (pc := 9) (v := (-2)) rfl ?_
          refine q_ri (pc := 10) rfl ?_
          exact hq _ _ ⟨fun z => absurd z.2 hp, fun _ => rfl⟩
  · skip
    refine q_if (pc := 4) rfl (fun h4 => ?_) (fun h4 => ?_)
    · replace h4 : (0 : Int) = 0 := h4
      refine q_ic (pc := 9) (v := (-2)) rfl ?_
      refine q_ri (pc := 10) rfl ?_
      exact hq _ _ ⟨fun z => absurd z.1 hv, fun _ => rfl⟩
    · replace h4 : (0 : Int) ≠ 0 := h4
      omega
theorem lx_fld2 {dd : Nat} (hd : 7 ≤ dd) {H : xH} (hT : ttTI H) (hX : ttXX YY H) {p a w : Int} (ww : w = 0 ∨ w = 1) {Q : Int → xH → Prop} (hq : ∀ r K, rsFld (H.1 184) p a w r → Q r K) : xCall dd 257 [(2, 183), (0, p), (0, a), (0, w)] H Q := by
  obtain ⟨e, rfl, he⟩ := ttRun0 (n := 6) hd
  have he : 6 ≤ e := he
  have hn : 210 ≤ (H.2.2.2.1 : Int) := by have := hT.1; omega
  have hw := ws_of hT hX
  have w1 := hw.1
  have w7 := hw.2.2.2.1
  refine xC_of (L := [(2, 183), (0, p), (0, a), (0, w)]) (cd := cd_257) rfl rfl rfl ?_
  refine q_al (pc := 0) (i := 0) (x := 183) rfl rfl ?_
  refine q_il (pc := 1) (i := 1) (x := p) rfl rfl ?_
  refine q_il (pc := 2) (i := 2) (x := a) rfl rfl ?_
  refine q_iv (pc := 3) (q := 2032972) rfl rfl rfl (ttKc hT (a := 183) (κ := 12) (len := 0) ⟨rfl, rfl⟩ (by decide) (by decide)).1 ?_
  refine ly_hgt (by omega) hT hw (fun hv => ?_) (fun hv => ?_)
  · skip
    refine q_if (pc := 4) rfl (fun h4 => ?_) (fun h4 => ?_)
    · replace h4 : (1 : Int) = 0 := h4
      omega
    · replace h4 : (1 : Int) ≠ 0 := h4
      refine q_al (pc := 5) (i := 0) (x := 183) rfl rfl ?_
      refine q_il (pc := 6) (i := 1) (x := p) rfl rfl ?_
      refine q_il (pc := 7) (i := 2) (x := a) rfl rfl ?_
      refine q_il (pc := 8) (i := 3) (x := w) rfl rfl ?_
      refine q_iv (pc := 9) (q := 2048976) rfl rfl rfl (ttKc hT (a := 183) (κ := 12) (len := 0) ⟨rfl, rfl⟩ (by decide) (by decide)).1 ?_
      have vi := gsVd_in hw hv
      refine lg_fieldsOf (by omega) hT hX vi.1 vi.2 (by omega) (fun s K _ kT kX kF _ kE => ?_)
      refine q_go (pc := 10) rfl ?_
      refine q_ri (pc := 12) rfl ?_
      exact hq _ _ ⟨fun _ => kE hw hv, fun z => absurd hv z⟩
  · skip
    refine q_if (pc := 4) rfl (fun h4 => ?_) (fun h4 => ?_)
    · replace h4 : (0 : Int) = 0 := h4
      refine q_ic (pc := 11) (v := (-2)) rfl ?_
      refine q_ri (pc := 12) rfl ?_
      exact hq _ _ ⟨fun z => absurd z hv, fun _ => rfl⟩
    · replace h4 : (0 : Int) ≠ 0 := h4
      omega
theorem lx_edg2 {dd : Nat} (hd : 7 ≤ dd) {H : xH} (hT : ttTI H) (hX : ttXX YY H) {p w : Int} (ww : w = 0 ∨ w = 1) {Q : Int → xH → Prop} (hq : ∀ r K, rsEd2 (H.1 184) p w r → Q r K) : xCall dd 258 [(2, 183), (0, p), (0, w)] H Q := by
  obtain ⟨e, rfl, he⟩ := ttRun0 (n := 6) hd
  have he : 6 ≤ e := he
  have hn : 210 ≤ (H.2.2.2.1 : Int) := by have := hT.1; omega
  have hw := ws_of hT hX
  have w1 := hw.1
  have w7 := hw.2.2.2.1
  have hl : 0 ≤ p ∧ p < H.1 184 1 → ∀ n : Nat, ∀ (K : xH) (a : Int), 0 ≤ a → a ≤ 61 → 61 - a ≤ (n : Int) → H.1 184 (20 + 8 * p) ≤ a → ttTI K → ttXX YY K → ttFr (true, [(190, 0, 15), (191, 0, 4799), (192, 0, 7), (193, 0, 975), (183, 22, 22)]) H K → (∀ c : Int, gsVd (H.1 184) p c → c < a → ¬ gsL (H.1 184) w p c) → xW e cd_258 Q (11, [(2, 183), (0, p), (0, w), (0, a)], [], K) := by
    intro hp n
    induction n with
    | zero =>
      intro K a a0 a1 hz ag kT kX kF kN
      have kw : ∀ j : Int, K.1 184 j = H.1 184 j := fun j => fr_no kF 184 (by omega) rfl (by decide)
      have kw7 := kw 7
      have k7 : 0 ≤ K.1 184 7 ∧ K.1 184 7 ≤ 60 := ttMc kT (a := 184) (j := 7) (by decide) (by decide) (by decide) (by decide)
      refine q_il (pc := 11) (i := 3) (x := a) rfl rfl ?_
      refine q_al (pc := 12) (i := 0) (x := 183) rfl rfl ?_
      refine q_gf (pc := 13) (m := 12012) (t := 2) (c := 1) rfl (ttKc kT (a := 183) (κ := 12) (len := 0) ⟨rfl, rfl⟩ (by decide) (by decide)).1 rfl rfl ?_
      rw [show K.1 183 1 = 184 from ttFx kT (by decide) (by decide) rfl rfl rfl]
      refine q_ic (pc := 14) (v := 7) rfl ?_
      refine q_ai (pc := 15) rfl (ttKc kT (a := 184) (κ := 20) (len := 196) ⟨rfl, rfl⟩ (by decide) (by decide)).1 (by omega) (by rw [(ttKc kT (a := 184) (κ := 20) (len := 196) ⟨rfl, rfl⟩ (by decide) (by decide)).2]; omega) ?_
      refine q_i2 (pc := 16) rfl (fun h16 => ?_) (fun h16 => ?_)
      · replace h16 : (K.1 184 7) < a := h16
        refine q_ic (pc := 27) (v := (-1)) rfl ?_
        refine q_ri (pc := 28) rfl ?_
        exact hq _ _ ⟨fun _ => Or.inl ⟨rfl, fun c hc => kN c hc (by have := hc.2; omega)⟩, fun z => absurd hp z⟩
      · replace h16 : a ≤ (K.1 184 7) := h16
        omega
    | succ n ih =>
      intro K a a0 a1 hz ag kT kX kF kN
      have kw : ∀ j : Int, K.1 184 j = H.1 184 j := fun j => fr_no kF 184 (by omega) rfl (by decide)
      have kw7 := kw 7
      have k7 : 0 ≤ K.1 184 7 ∧ K.1 184 7 ≤ 60 := ttMc kT (a := 184) (j := 7) (by decide) (by decide) (by decide) (by decide)
      refine q_il (pc := 11) (i := 3) (x := a) rfl rfl ?_
      refine q_al (pc := 12) (i := 0) (x := 183) rfl rfl ?_
      refine q_gf (pc := 13) (m := 12012) (t := 2) (c := 1) rfl (ttKc kT (a := 183) (κ := 12) (len := 0) ⟨rfl, rfl⟩ (by decide) (by decide)).1 rfl rfl ?_
      rw [show K.1 183 1 = 184 from ttFx kT (by decide) (by decide) rfl rfl rfl]
      refine q_ic (pc := 14) (v := 7) rfl ?_
      refine q_ai (pc := 15) rfl (ttKc kT (a := 184) (κ := 20) (len := 196) ⟨rfl, rfl⟩ (by decide) (by decide)).1 (by omega) (by rw [(ttKc kT (a := 184) (κ := 20) (len := 196) ⟨rfl, rfl⟩ (by decide) (by decide)).2]; omega) ?_
      refine q_i2 (pc := 16) rfl (fun h16 => ?_) (fun h16 => ?_)
      · replace h16 : (K.1 184 7) < a := h16
        refine q_ic (pc := 27) (v := (-1)) rfl ?_
        refine q_ri (pc := 28) rfl ?_
        exact hq _ _ ⟨fun _ => Or.inl ⟨rfl, fun c hc => kN c hc (by have := hc.2; omega)⟩, fun z => absurd hp z⟩
      · replace h16 : a ≤ (K.1 184 7) := h16
        refine q_al (pc := 17) (i := 0) (x := 183) rfl rfl ?_
        refine q_il (pc := 18) (i := 1) (x := p) rfl rfl ?_
        refine q_il (pc := 19) (i := 3) (x := a) rfl rfl ?_
        refine q_il (pc := 20) (i := 2) (x := w) rfl rfl ?_
        refine q_iv (pc := 21) (q := 2048976) rfl rfl rfl (ttKc kT (a := 183) (κ := 12) (len := 0) ⟨rfl, rfl⟩ (by decide) (by decide)).1 ?_
        refine lg_fieldsOf (by omega) kT kX (by omega) (by omega) (by omega) (fun s M _ mT mX mF _ mE => ?_)
        have hv : gsVd (H.1 184) p a := ⟨hp, by omega, by omega⟩
        rw [show K.1 184 = H.1 184 from funext kw] at mE
        obtain ⟨f, f1, f2⟩ := mE hw hv
        have fl := gsS_L hw hv f1
        rw [← f2] at fl
        refine q_if (pc := 22) rfl (fun h22 => ?_) (fun h22 => ?_)
        · replace h22 : s = 0 := h22
          refine q_ii (pc := 25) (i := 3) (c := 1) (x := a) (L' := [(2, 183), (0, p), (0, w), (0, (a + 1))]) rfl rfl rfl (by omega) (by omega) rfl ?_
          refine q_go (pc := 26) rfl ?_
          exact ih M (a + 1) (by omega) (by omega) (by omega) (by omega) mT mX (ttFr_tr kF mF (fun _ => rfl) (by decide)) (fun c hc lt => by
            by_cases q : c = a
            · rw [q]
              exact fun y => fl.2 y h22
            · exact kN c hc (by omega))
        · replace h22 : s ≠ 0 := h22
          refine q_il (pc := 23) (i := 3) (x := a) rfl rfl ?_
          refine q_ri (pc := 24) rfl ?_
          exact hq _ _ ⟨fun _ => Or.inr ⟨hv, fl.1 h22, kN⟩, fun z => absurd hp z⟩
  refine xC_of (L := [(2, 183), (0, p), (0, w), (9, 0)]) (cd := cd_258) rfl rfl rfl ?_
  refine q_al (pc := 0) (i := 0) (x := 183) rfl rfl ?_
  refine q_il (pc := 1) (i := 1) (x := p) rfl rfl ?_
  refine q_iv (pc := 2) (q := 1656968) rfl rfl rfl (ttKc hT (a := 183) (κ := 12) (len := 0) ⟨rfl, rfl⟩ (by decide) (by decide)).1 ?_
  refine lf_isPl (by omega) hT (fun hp => ?_) (fun hp => ?_)
  · skip
    refine q_if (pc := 3) rfl (fun h3 => ?_) (fun h3 => ?_)
    · replace h3 : (1 : Int) ≠ 0 := h3
      refine q_al (pc := 6) (i := 0) (x := 183) rfl rfl ?_
      refine q_il (pc := 7) (i := 1) (x := p) rfl rfl ?_
      refine q_ic (pc := 8) (v := 0) rfl ?_
      refine q_iv (pc := 9) (q := 1664972) rfl rfl rfl (ttKc hT (a := 183) (κ := 12) (len := 0) ⟨rfl, rfl⟩ (by decide) (by decide)).1 ?_
      refine lf_ofPlace (j := 20 + 8 * p) (by omega) (by omega) hT hp.1 (by omega) (by decide) (by decide) ?_
      have gp := (hw.2.2.2.2.1 p hp.1 (by omega)).1
      refine q_is (pc := 10) (i := 3) (L' := [(2, 183), (0, p), (0, w), (0, (H.1 184 (20 + 8 * p)))]) rfl rfl rfl ?_
      exact hl hp 61 H _ (by omega) (by omega) (by omega) (Int.le_refl _) hT hX (ttFr_rf _ H) (fun c hc lt => by have := hc.2; omega)
    · replace h3 : (1 : Int) = 0 := h3
      omega
  · skip
    refine q_if (pc := 3) rfl (fun h3 => ?_) (fun h3 => ?_)
    · replace h3 : (0 : Int) ≠ 0 := h3
      omega
    · replace h3 : (0 : Int) = 0 := h3
      refine q_ic (pc := 4) (v := (-2)) rfl ?_
      refine q_ri (pc := 5) rfl ?_
      exact hq _ _ ⟨fun z => absurd z hp, fun _ => rfl⟩
theorem lx_tor2 {dd : Nat} (hd : 7 ≤ dd) {H : xH} (hT : ttTI H) (hX : ttXX YY H) {p a w : Int} (ww : w = 0 ∨ w = 1) (hex : gsVd (H.1 184) p a → ∃ f : Int → Int, gsG (gsT (H.1 184) w) p a f) {Q : Int → xH → Prop} (hq : ∀ r K, rsTo2 (H.1 184) p a w r → Q r K) : xCall dd 259 [(2, 183), (0, p), (0, a), (0, w)] H Q := by
  obtain ⟨e, rfl, he⟩ := ttRun0 (n := 6) hd
  have he : 6 ≤ e := he
  have hn : 210 ≤ (H.2.2.2.1 : Int) := by have := hT.1; omega
  have hw := ws_of hT hX
  have w1 := hw.1
  have w7 := hw.2.2.2.1
  have hl : gsVd (H.1 184) p a → ∀ f : Int → Int, gsG (gsT (H.1 184) w) p a f → ∀ n : Nat, ∀ (K : xH) (m : Nat) (s q : Int) (x6 : xV) (d : Int → Int), q = (m : Int) → q ≤ H.1 184 1 → H.1 184 1 - q ≤ (n : Int) → 0 ≤ s → s ≤ 255 → s = gsB (fun n => f (n : Int) ≠ -1 ∧ d (n : Int) ≠ 0) m → (∀ i : Int, 0 ≤ i → i < q → f i ≠ -1 → (d i ≠ 0 ↔ gsL (H.1 184) w i (f i))) → ttTI K → ttXX YY K → ttFr (true, [(190, 0, 15), (191, 0, 4799), (192, 0, 7), (193, 0, 975), (183, 22, 22)]) H K → xW e cd_259 Q (11, [(2, 183), (0, p), (0, a), (0, w), (0, s), (0, q), x6], [], K) := by
    intro hv f hf n
    have vi := gsVd_in hw hv
    induction n with
    | zero =>
      intro K m s q x6 d hm q1 hz s0 s1 hs hd kT kX kF
      have kw : ∀ j : Int, K.1 184 j = H.1 184 j := fun j => fr_no kF 184 (by omega) rfl (by decide)
      have kw1 := kw 1
      refine q_il (pc := 11) (i := 5) (x := q) rfl rfl ?_
      refine q_al (pc := 12) (i := 0) (x := 183) rfl rfl ?_
      refine q_gf (pc := 13) (m := 12012) (t := 2) (c := 1) rfl (ttKc kT (a := 183) (κ := 12) (len := 0) ⟨rfl, rfl⟩ (by decide) (by decide)).1 rfl rfl ?_
      rw [show K.1 183 1 = 184 from ttFx kT (by decide) (by decide) rfl rfl rfl]
      refine q_ic (pc := 14) (v := 1) rfl ?_
      refine q_ai (pc := 15) rfl (ttKc kT (a := 184) (κ := 20) (len := 196) ⟨rfl, rfl⟩ (by decide) (by decide)).1 (by omega) (by rw [(ttKc kT (a := 184) (κ := 20) (len := 196) ⟨rfl, rfl⟩ (by decide) (by decide)).2]; omega) ?_
      refine q_i2 (pc := 16) rfl (fun h16 => ?_) (fun h16 => ?_)
      · replace h16 : (K.1 184 1) ≤ q := h16
        refine q_il (pc := 46) (i := 4) (x := s) rfl rfl ?_
        refine q_ri (pc := 47) rfl ?_
        have em : (H.1 184 1).toNat = m := by omega
        exact hq _ _ ⟨fun _ => ⟨f, d, hf, fun i i0 i1 => hd i i0 (by omega), by rw [em]; exact hs⟩, fun z => absurd hv z⟩
      · replace h16 : q < (K.1 184 1) := h16
        omega
    | succ n ih =>
      intro K m s q x6 d hm q1 hz s0 s1 hs hd kT kX kF
      have kw : ∀ j : Int, K.1 184 j = H.1 184 j := fun j => fr_no kF 184 (by omega) rfl (by decide)
      have kw1 := kw 1
      refine q_il (pc := 11) (i := 5) (x := q) rfl rfl ?_
      refine q_al (pc := 12) (i := 0) (x := 183) rfl rfl ?_
      refine q_gf (pc := 13) (m := 12012) (t := 2) (c := 1) rfl (ttKc kT (a := 183) (κ := 12) (len := 0) ⟨rfl, rfl⟩ (by decide) (by decide)).1 rfl rfl ?_
      rw [show K.1 183 1 = 184 from ttFx kT (by decide) (by decide) rfl rfl rfl]
      refine q_ic (pc := 14) (v := 1) rfl ?_
      refine q_ai (pc := 15) rfl (ttKc kT (a := 184) (κ := 20) (len := 196) ⟨rfl, rfl⟩ (by decide) (by decide)).1 (by omega) (by rw [(ttKc kT (a := 184) (κ := 20) (len := 196) ⟨rfl, rfl⟩ (by decide) (by decide)).2]; omega) ?_
      refine q_i2 (pc := 16) rfl (fun h16 => ?_) (fun h16 => ?_)
      · replace h16 : (K.1 184 1) ≤ q := h16
        refine q_il (pc := 46) (i := 4) (x := s) rfl rfl ?_
        refine q_ri (pc := 47) rfl ?_
        have em : (H.1 184 1).toNat = m := by omega
        exact hq _ _ ⟨fun _ => ⟨f, d, hf, fun i i0 i1 => hd i i0 (by omega), by rw [em]; exact hs⟩, fun z => absurd hv z⟩
      · replace h16 : q < (K.1 184 1) := h16
        refine q_al (pc := 17) (i := 0) (x := 183) rfl rfl ?_
        refine q_il (pc := 18) (i := 1) (x := p) rfl rfl ?_
        refine q_il (pc := 19) (i := 2) (x := a) rfl rfl ?_
        refine q_il (pc := 20) (i := 3) (x := w) rfl rfl ?_
        refine q_iv (pc := 21) (q := 2024979) rfl rfl rfl (ttKc kT (a := 183) (κ := 12) (len := 0) ⟨rfl, rfl⟩ (by decide) (by decide)).1 ?_
        refine lf_glides (by omega) kT kX vi.1 vi.2 (by omega) (fun G M gF _ _ mT mX mF mG => ?_)
        rw [show K.1 184 = H.1 184 from funext kw] at mG
        have mu := gsG_u hw hv (mG hw hv) hf (q := q) (by omega) (by omega)
        have gn : 210 ≤ (G.2.2.2.1 : Int) := by have := kT.1; have := gF.2.1; omega
        have mF2 : ttFr (true, [(190, 0, 15), (191, 0, 4799), (192, 0, 7), (193, 0, 975), (183, 22, 22)]) H M := ttFr_tr (ttFr_tr kF gF (fun _ => rfl) (by decide)) mF (fun _ => rfl) (by decide)
        have mw : ∀ j : Int, M.1 184 j = H.1 184 j := fun j => fr_no mF2 184 (by omega) rfl (by decide)
        refine q_al (pc := 22) (i := 0) (x := 183) rfl rfl ?_
        refine q_gf (pc := 23) (m := 12232) (t := 2) (c := 23) rfl (ttKc mT (a := 183) (κ := 12) (len := 0) ⟨rfl, rfl⟩ (by decide) (by decide)).1 rfl rfl ?_
        rw [show M.1 183 23 = 192 from ttFx mT (by decide) (by decide) rfl rfl rfl]
        refine q_il (pc := 24) (i := 5) (x := q) rfl rfl ?_
        refine q_ai (pc := 25) rfl (ttKc mT (a := 192) (κ := 20) (len := 8) ⟨rfl, rfl⟩ (by decide) (by decide)).1 (by omega) (by rw [(ttKc mT (a := 192) (κ := 20) (len := 8) ⟨rfl, rfl⟩ (by decide) (by decide)).2]; omega) ?_
        rw [mu]
        refine q_is (pc := 26) (i := 6) (L' := [(2, 183), (0, p), (0, a), (0, w), (0, s), (0, q), (0, (f q))]) rfl rfl rfl ?_
        refine q_il (pc := 27) (i := 4) (x := s) rfl rfl ?_
        refine q_il (pc := 28) (i := 6) (x := (f q)) rfl rfl ?_
        refine q_ic (pc := 29) (v := (-1)) rfl ?_
        refine q_i2 (pc := 30) rfl (fun h30 => ?_) (fun h30 => ?_)
        · replace h30 : (f q) = (-1) := h30
          refine q_ic (pc := 41) (v := 0) rfl ?_
          refine q_or (pc := 42) rfl ?_
          refine q_is (pc := 43) (i := 4) (L' := [(2, 183), (0, p), (0, a), (0, w), (0, (xOr s 0)), (0, q), (0, (f q))]) rfl rfl rfl ?_
          rw [or_01 s0 s1]
          refine q_ii (pc := 44) (i := 5) (c := 1) (x := q) (L' := [(2, 183), (0, p), (0, a), (0, w), (0, s), (0, (q + 1)), (0, (f q))]) rfl rfl rfl (by omega) (by omega) rfl ?_
          refine q_go (pc := 45) rfl ?_
          have eb : gsB (fun n => f (n : Int) ≠ -1 ∧ (fun i => if i = q then 0 else d i) (n : Int) ≠ 0) m = s := by
            rw [hs]
            refine gsB_c _ (fun i i1 => ?_)
            show (f (i : Int) ≠ -1 ∧ (if (i : Int) = q then 0 else d (i : Int)) ≠ 0) ↔ _
            rw [if_neg (by omega)]
          refine ih M (m + 1) s (q + 1) _ (fun i => if i = q then 0 else d i) (by omega) (by omega) (by omega) s0 s1 ?_ ?_ mT mX mF2
          · show _ = (if f (m : Int) ≠ -1 ∧ (fun i => if i = q then 0 else d i) (m : Int) ≠ 0 then xOr (gsB (fun n => f (n : Int) ≠ -1 ∧ (fun i => if i = q then 0 else d i) (n : Int) ≠ 0) m) (xShl 1 (m : Int)) else gsB (fun n => f (n : Int) ≠ -1 ∧ (fun i => if i = q then 0 else d i) (n : Int) ≠ 0) m)
            rw [eb]
            rw [show xShl 1 (m : Int) = xShl 1 q from by rw [hm]]
            exact (if_neg (fun z => z.1 (by rw [← hm]; exact h30))).symm
          · intro i i0 i1 hi
            show ((if i = q then 0 else d i) ≠ 0) ↔ _
            by_cases c : i = q
            · rw [c] at hi ⊢
              rw [if_pos rfl]
              exact absurd h30 hi
            · rw [if_neg c]
              exact hd i i0 (by omega) hi
        · replace h30 : (f q) ≠ (-1) := h30
          refine q_al (pc := 31) (i := 0) (x := 183) rfl rfl ?_
          refine q_il (pc := 32) (i := 5) (x := q) rfl rfl ?_
          refine q_il (pc := 33) (i := 6) (x := (f q)) rfl rfl ?_
          refine q_il (pc := 34) (i := 3) (x := w) rfl rfl ?_
          have yv := gsP_in hw hv ((hf.2.1 q (by omega) (by omega)).2 h30)
          have yi := gsVd_in hw yv
          refine q_iv (pc := 35) (q := 2048976) rfl rfl rfl (ttKc mT (a := 183) (κ := 12) (len := 0) ⟨rfl, rfl⟩ (by decide) (by decide)).1 ?_
          refine lg_fieldsOf (by omega) mT mX yi.1 yi.2 (by omega) (fun v N _ nT nX nF _ nE => ?_)
          rw [show M.1 184 = H.1 184 from funext mw] at nE
          obtain ⟨u, u1, u2⟩ := nE hw yv
          have fl := gsS_L hw yv u1
          rw [← u2] at fl
          have nF2 : ttFr (true, [(190, 0, 15), (191, 0, 4799), (192, 0, 7), (193, 0, 975), (183, 22, 22)]) H N := ttFr_tr mF2 nF (fun _ => rfl) (by decide)
          refine q_if (pc := 36) rfl (fun h36 => ?_) (fun h36 => ?_)
          · replace h36 : v = 0 := h36
            refine q_ic (pc := 41) (v := 0) rfl ?_
            refine q_or (pc := 42) rfl ?_
            refine q_is (pc := 43) (i := 4) (L' := [(2, 183), (0, p), (0, a), (0, w), (0, (xOr s 0)), (0, q), (0, (f q))]) rfl rfl rfl ?_
            rw [or_01 s0 s1]
            refine q_ii (pc := 44) (i := 5) (c := 1) (x := q) (L' := [(2, 183), (0, p), (0, a), (0, w), (0, s), (0, (q + 1)), (0, (f q))]) rfl rfl rfl (by omega) (by omega) rfl ?_
            refine q_go (pc := 45) rfl ?_
            have eb : gsB (fun n => f (n : Int) ≠ -1 ∧ (fun i => if i = q then v else d i) (n : Int) ≠ 0) m = s := by
              rw [hs]
              refine gsB_c _ (fun i i1 => ?_)
              show (f (i : Int) ≠ -1 ∧ (if (i : Int) = q then v else d (i : Int)) ≠ 0) ↔ _
              rw [if_neg (by omega)]
            refine ih N (m + 1) s (q + 1) _ (fun i => if i = q then v else d i) (by omega) (by omega) (by omega) s0 s1 ?_ ?_ nT nX nF2
            · show _ = (if f (m : Int) ≠ -1 ∧ (fun i => if i = q then v else d i) (m : Int) ≠ 0 then xOr (gsB (fun n => f (n : Int) ≠ -1 ∧ (fun i => if i = q then v else d i) (n : Int) ≠ 0) m) (xShl 1 (m : Int)) else gsB (fun n => f (n : Int) ≠ -1 ∧ (fun i => if i = q then v else d i) (n : Int) ≠ 0) m)
              rw [eb]
              rw [show xShl 1 (m : Int) = xShl 1 q from by rw [hm]]
              exact (if_neg (fun z => z.2 (by show (if (m : Int) = q then v else d (m : Int)) = 0; rw [if_pos hm.symm]; exact h36))).symm
            · intro i i0 i1 hi
              show ((if i = q then v else d i) ≠ 0) ↔ _
              by_cases c : i = q
              · rw [c] at hi ⊢
                rw [if_pos rfl]
                exact fl
              · rw [if_neg c]
                exact hd i i0 (by omega) hi
          · replace h36 : v ≠ 0 := h36
            refine q_ic (pc := 37) (v := 1) rfl ?_
            refine q_il (pc := 38) (i := 5) (x := q) rfl rfl ?_
            refine q_sl (pc := 39) rfl ?_
            refine q_go (pc := 40) rfl ?_
            refine q_or (pc := 42) rfl ?_
            refine q_is (pc := 43) (i := 4) (L' := [(2, 183), (0, p), (0, a), (0, w), (0, (xOr s (xShl 1 q))), (0, q), (0, (f q))]) rfl rfl rfl ?_
            refine q_ii (pc := 44) (i := 5) (c := 1) (x := q) (L' := [(2, 183), (0, p), (0, a), (0, w), (0, (xOr s (xShl 1 q))), (0, (q + 1)), (0, (f q))]) rfl rfl rfl (by omega) (by omega) rfl ?_
            refine q_go (pc := 45) rfl ?_
            have b8 := or_08 s0 s1 (p := q) (by omega) (by omega)
            have eb : gsB (fun n => f (n : Int) ≠ -1 ∧ (fun i => if i = q then v else d i) (n : Int) ≠ 0) m = s := by
              rw [hs]
              refine gsB_c _ (fun i i1 => ?_)
              show (f (i : Int) ≠ -1 ∧ (if (i : Int) = q then v else d (i : Int)) ≠ 0) ↔ _
              rw [if_neg (by omega)]
            refine ih N (m + 1) (xOr s (xShl 1 q)) (q + 1) _ (fun i => if i = q then v else d i) (by omega) (by omega) (by omega) b8.1 b8.2 ?_ ?_ nT nX nF2
            · show _ = (if f (m : Int) ≠ -1 ∧ (fun i => if i = q then v else d i) (m : Int) ≠ 0 then xOr (gsB (fun n => f (n : Int) ≠ -1 ∧ (fun i => if i = q then v else d i) (n : Int) ≠ 0) m) (xShl 1 (m : Int)) else gsB (fun n => f (n : Int) ≠ -1 ∧ (fun i => if i = q then v else d i) (n : Int) ≠ 0) m)
              rw [eb]
              rw [show xShl 1 (m : Int) = xShl 1 q from by rw [hm]]
              exact (if_pos ⟨by rw [← hm]; exact h30, by show (if (m : Int) = q then v else d (m : Int)) ≠ 0; rw [if_pos hm.symm]; exact h36⟩).symm
            · intro i i0 i1 hi
              show ((if i = q then v else d i) ≠ 0) ↔ _
              by_cases c : i = q
              · rw [c] at hi ⊢
                rw [if_pos rfl]
                exact fl
              · rw [if_neg c]
                exact hd i i0 (by omega) hi
  refine xC_of (L := [(2, 183), (0, p), (0, a), (0, w), (9, 0), (9, 0), (9, 0)]) (cd := cd_259) rfl rfl rfl ?_
  refine q_al (pc := 0) (i := 0) (x := 183) rfl rfl ?_
  refine q_il (pc := 1) (i := 1) (x := p) rfl rfl ?_
  refine q_il (pc := 2) (i := 2) (x := a) rfl rfl ?_
  refine q_iv (pc := 3) (q := 2032972) rfl rfl rfl (ttKc hT (a := 183) (κ := 12) (len := 0) ⟨rfl, rfl⟩ (by decide) (by decide)).1 ?_
  refine ly_hgt (by omega) hT hw (fun hv => ?_) (fun hv => ?_)
  · skip
    refine q_if (pc := 4) rfl (fun h4 => ?_) (fun h4 => ?_)
    · replace h4 : (1 : Int) ≠ 0 := h4
      refine q_ic (pc := 7) (v := 0) rfl ?_
      refine q_is (pc := 8) (i := 4) (L' := [(2, 183), (0, p), (0, a), (0, w), (0, 0), (9, 0), (9, 0)]) rfl rfl rfl ?_
      refine q_ic (pc := 9) (v := 0) rfl ?_
      refine q_is (pc := 10) (i := 5) (L' := [(2, 183), (0, p), (0, a), (0, w), (0, 0), (0, 0), (9, 0)]) rfl rfl rfl ?_
      obtain ⟨f, hf⟩ := hex hv
      exact hl hv f hf 8 H 0 0 0 _ (fun _ => 0) rfl w1.1 (by omega) (by decide) (by decide) rfl (fun i i0 i1 => by omega) hT hX (ttFr_rf _ H)
    · replace h4 : (1 : Int) = 0 := h4
      omega
  · skip
    refine q_if (pc := 4) rfl (fun h4 => ?_) (fun h4 => ?_)
    · replace h4 : (0 : Int) ≠ 0 := h4
      omega
    · replace h4 : (0 : Int) = 0 := h4
      refine q_ic (pc := 5) (v := (-2)) rfl ?_
      refine q_ri (pc := 6) rfl ?_
      exact hq _ _ ⟨fun z => absurd z hv, fun _ => rfl⟩
