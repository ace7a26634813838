/-! deeds are looked for -/
def yyEL (q : Int) : ttEf := (true, [(192, 0, 7), (193, 0, 975), (195, 0, 93695), (196, q, q), (197, 0, 93695)])
theorem ttSub_mem {e e2 : ttE3} (h : ∀ q ∈ e2, q ∈ e) : ttSub e e2 = true :=
  List.all_eq_true.mpr fun q hq => List.any_eq_true.mpr ⟨q, h q hq, by
    show (Nat.beq q.1 q.1 && (zzLe q.2.1 q.2.1 && zzLe q.2.2 q.2.2)) = true
    rw [Nat.beq_refl, zzLe_iff.mpr (Int.le_refl _), zzLe_iff.mpr (Int.le_refl _)]; rfl⟩
theorem yyD_eq {D D' : xD} (hw : ∀ j : Int, D' 184 j = D 184 j) (hm : ∀ j : Int, D' 190 j = D 190 j) (hk : ∀ j : Int, D' 191 j = D 191 j) {p h t w d : Int} (p0 : 0 ≤ p) (p1 : p ≤ 7) (w0 : 0 ≤ w) (w1 : w ≤ 1) (y : yyD D p h t w d) : yyD D' p h t w d := by
  rcases y with z | z | z | ⟨i, i0, i1, i2, i3, i4, i5⟩
  · exact Or.inl z
  · exact Or.inr (Or.inl ⟨z.1, by rw [hw 8]; exact z.2⟩)
  · exact Or.inr (Or.inr (Or.inl z))
  · refine Or.inr (Or.inr (Or.inr ⟨i, i0, i1, ?_, ?_, ?_, yyC_eq (fun j _ _ _ => hw j) (fun j _ _ => hk j) (by omega) (by omega) i5⟩))
    · rw [hm (2 * p + w)]; exact i2
    · rw [hk (300 * (2 * p + w) + 5 * i), hk (300 * (2 * p + w) + 5 * i + 1)]; exact i3
    · rw [hk (300 * (2 * p + w) + 5 * i + 3), hw 8]; exact i4
theorem yyEL_k {H K : xH} {q : Int} (kF : ttFr (yyEL q) H K) (hn : 210 ≤ (H.2.2.2.1 : Int)) : (∀ j : Int, K.1 184 j = H.1 184 j) ∧ (∀ j : Int, K.1 190 j = H.1 190 j) ∧ (∀ j : Int, K.1 191 j = H.1 191 j) ∧ (∀ j : Int, K.1 183 j = H.1 183 j) ∧ (∀ j : Int, K.1 185 j = H.1 185 j) ∧ (∀ j : Int, K.1 186 j = H.1 186 j) ∧ ∀ j : Int, j ≠ q → K.1 196 j = H.1 196 j := by
  refine ⟨fun j => fr_no kF 184 (by omega) rfl rfl, fun j => fr_no kF 190 (by omega) rfl rfl, fun j => fr_no kF 191 (by omega) rfl rfl, fun j => fr_no kF 183 (by omega) rfl rfl, fun j => fr_no kF 185 (by omega) rfl rfl, fun j => fr_no kF 186 (by omega) rfl rfl, fun j hj => kF.2.2.2 196 j (by omega) (fun z hz hh => ?_)⟩
  obtain ⟨⟨-, c2⟩, c3, c4⟩ := hh
  have c2 : (196 : Nat) = z.1 := c2
  simp only [yyEL, List.mem_cons, List.not_mem_nil, or_false] at hz
  rcases hz with rfl | rfl | rfl | rfl | rfl
  · exact absurd c2 (by decide)
  · exact absurd c2 (by decide)
  · exact absurd c2 (by decide)
  · have c3 : q ≤ j := c3
    have c4 : j ≤ q := c4
    exact hj (by omega)
  · exact absurd c2 (by decide)
theorem yyX_in {p h t x w p' h' t' x' w' : Int} (h0 : 0 ≤ h) (h1 : h ≤ 60) (t0 : 0 ≤ t) (t1 : t ≤ 47) (x0 : 0 ≤ x) (x1 : x ≤ 1) (w0 : 0 ≤ w) (w1 : w ≤ 1) (h0' : 0 ≤ h') (h1' : h' ≤ 60) (t0' : 0 ≤ t') (t1' : t' ≤ 47) (x0' : 0 ≤ x') (x1' : x' ≤ 1) (w0' : 0 ≤ w') (w1' : w' ≤ 1) (e : yyX p' h' t' x' w' = yyX p h t x w) : p' = p ∧ h' = h ∧ t' = t ∧ x' = x ∧ w' = w := by
  unfold yyX at e
  omega
theorem yyPut {H K : xH} (y : YY H) {q p h t x w : Int} (kF : ttFr (yyEL q) H K) (p0 : 0 ≤ p) (p1 : p ≤ 7) (h0 : 0 ≤ h) (h1 : h ≤ 60) (t0 : 0 ≤ t) (t1 : t ≤ 47) (x0 : 0 ≤ x) (x1 : x ≤ 1) (w0 : 0 ≤ w) (w1 : w ≤ 1) (e : q = yyX p h t x w) (d : yyD H.1 p h t w (K.1 196 q)) : YY K := by
  obtain ⟨n, y1, y2, y3, y4⟩ := y
  obtain ⟨k1, k2, k3, k4, k5, k6, k7⟩ := yyEL_k kF n
  refine ⟨by have := kF.2.1; omega, yyR_eq (fun j _ _ _ => by rw [Int.zero_add]; exact k1 j) y1, fun k k0 k8 k9 => ?_, fun z => ?_, fun z => ?_⟩
  · rw [k6] at k9
    exact yyR_eq (fun j _ _ _ => k5 _) (y2 k k0 k8 k9)
  · rw [k4] at z
    exact yyW_eq (fun j _ _ _ => k1 j) (fun j _ _ => k2 j) (fun j _ _ => k3 j) (y3 z)
  · rw [k4] at z ⊢
    obtain ⟨z1, z2⟩ := y4 z
    refine ⟨z1, fun p' h' t' x' w' a0 a1 a2 ujb0 ujb1 ujb2 ujb3 c0 c1 c2 d0 d1 e0 e1 e2 => ?_⟩
    rw [k1] at a2 ujb2 ujb3 c2 e2
    by_cases zz : yyX p' h' t' x' w' = q
    · obtain ⟨rfl, rfl, rfl, rfl, rfl⟩ := yyX_in h0 h1 t0 t1 x0 x1 w0 w1 ujb0 ujb1 c0 c1 d0 d1 e0 e1 (zz.trans e)
      rw [zz]
      exact yyD_eq k1 k2 k3 p0 p1 w0 w1 d
    · rw [k7 _ zz]
      exact yyD_eq k1 k2 k3 a0 a1 e0 e1 (z2 p' h' t' x' w' a0 a1 a2 ujb0 ujb1 ujb2 ujb3 c0 c1 c2 d0 d1 e0 e1 e2)
theorem yyPutX {H K : xH} (y : ttXX YY H) {q p h t x w : Int} (kF : ttFr (yyEL q) H K) (p0 : 0 ≤ p) (p1 : p ≤ 7) (h0 : 0 ≤ h) (h1 : h ≤ 60) (t0 : 0 ≤ t) (t1 : t ≤ 47) (x0 : 0 ≤ x) (x1 : x ≤ 1) (w0 : 0 ≤ w) (w1 : w ≤ 1) (e : q = yyX p h t x w) (d : yyD H.1 p h t w (K.1 196 q)) : ttXX YY K :=
  ⟨rm_fr kF rfl y.2.1 rfl y.1, yyPut y.2 kF p0 p1 h0 h1 t0 t1 x0 x1 w0 w1 e d⟩
theorem lf_looks {dd : Nat} {ru p h t x w : Int} (hd : 8 ≤ dd) {H : xH} (hT : ttTI H) (hX : ttXX YY H) (hf : H.1 183 22 = 1) (p0 : 0 ≤ p) (p1 : p ≤ 7) (h0 : 0 ≤ h) (h1 : h ≤ 60) (hc : h ≤ H.1 184 7) (t0 : 0 ≤ t) (t1 : t ≤ 47) (x0 : 0 ≤ x) (x1 : x ≤ 1) (w0 : 0 ≤ w) (w1 : w ≤ 1) {Q : Int → xH → Prop} (hQ : ∀ K, ttTI K → ttXX YY K → ttFr (yyEL (yyX p h t x w)) H K → yyD H.1 p h t w (K.1 196 (yyX p h t x w)) → Q 0 K) : xCall dd 272 [(2, 183), (0, ru), (0, p), (0, h), (0, t), (0, x), (0, w)] H Q := by
  obtain ⟨e, rfl, he⟩ := ttRun0 (n := 7) hd
  have he : 7 ≤ e := he
  have hn : 210 ≤ (H.2.2.2.1 : Int) := by have := hT.1; omega
  obtain ⟨q, hq⟩ : ∃ q, q = yyX p h t x w := ⟨_, rfl⟩
  rw [← hq] at hQ
  have q0 : 0 ≤ q := by rw [hq]; unfold yyX; omega
  have q1 : q ≤ 93695 := by rw [hq]; unfold yyX; omega
  obtain ⟨r, hr⟩ : ∃ r, r = 2 * p + w := ⟨_, rfl⟩
  have m60 : 0 ≤ H.1 190 r ∧ H.1 190 r ≤ 60 := ttRw hT (a := 190) (κ := 20) (len := 16) (sz := 16) (lo := 0) (hi := 60) (by decide) (by decide) rfl r (by omega) (by omega)
  have z47 : 0 ≤ H.1 184 8 ∧ H.1 184 8 ≤ 47 := ttMc hT (a := 184) (j := 8) (by decide) (by decide) (by decide) (by decide)
  have z60 : 0 ≤ H.1 184 7 ∧ H.1 184 7 ≤ 60 := ttMc hT (a := 184) (j := 7) (by decide) (by decide) (by decide) (by decide)
  have hl : ∀ m u : Int, ∀ n : Nat, ∀ (K : xH) (i : Int) (x12 x13 x14 x15 : xV), 0 ≤ i → i ≤ 60 → 60 - i ≤ (n : Int) → ttTI K → ttXX YY K → ttFr (yyEL q) H K → yyD H.1 p h t w (K.1 196 q) → xW e cd_272 Q (101, [(2, 183), (0, ru), (0, p), (0, h), (0, t), (0, x), (0, w), (0, q), (0, m), (0, u), (0, r), (0, i), x12, x13, x14, x15], [], K) := by
    intro m u n
    induction n with
    | zero =>
      intro K i x12 x13 x14 x15 i0 i1 hn2 kT kX kF kD
      refine q_il (pc := 101) (i := 11) (x := i) rfl rfl ?_
      refine q_al (pc := 102) (i := 0) (x := 183) rfl rfl ?_
      refine q_gf (pc := 103) (m := 12202) (t := 2) (c := 20) rfl (ttKc kT (a := 183) (κ := 12) (len := 0) ⟨rfl, rfl⟩ (by decide) (by decide)).1 rfl rfl ?_
      rw [show K.1 183 20 = 190 from ttFx kT (by decide) (by decide) rfl rfl rfl]
      refine q_il (pc := 104) (i := 10) (x := r) rfl rfl ?_
      refine q_ai (pc := 105) rfl (ttKc kT (a := 190) (κ := 20) (len := 16) ⟨rfl, rfl⟩ (by decide) (by decide)).1 (by omega) (by rw [(ttKc kT (a := 190) (κ := 20) (len := 16) ⟨rfl, rfl⟩ (by decide) (by decide)).2]; omega) ?_
      rw [show K.1 190 r = H.1 190 r from (yyEL_k kF hn).2.1 _]
      refine q_i2 (pc := 106) rfl (fun h106 => ?_) (fun h106 => ?_)
      · replace h106 : (H.1 190 r) ≤ i := h106
        refine q_rv (pc := 212) rfl ?_
        exact hQ K kT kX kF kD
      · replace h106 : i < (H.1 190 r) := h106
        omega
    | succ n ih =>
      intro K i x12 x13 x14 x15 i0 i1 hn2 kT kX kF kD
      refine q_il (pc := 101) (i := 11) (x := i) rfl rfl ?_
      refine q_al (pc := 102) (i := 0) (x := 183) rfl rfl ?_
      refine q_gf (pc := 103) (m := 12202) (t := 2) (c := 20) rfl (ttKc kT (a := 183) (κ := 12) (len := 0) ⟨rfl, rfl⟩ (by decide) (by decide)).1 rfl rfl ?_
      rw [show K.1 183 20 = 190 from ttFx kT (by decide) (by decide) rfl rfl rfl]
      refine q_il (pc := 104) (i := 10) (x := r) rfl rfl ?_
      refine q_ai (pc := 105) rfl (ttKc kT (a := 190) (κ := 20) (len := 16) ⟨rfl, rfl⟩ (by decide) (by decide)).1 (by omega) (by rw [(ttKc kT (a := 190) (κ := 20) (len := 16) ⟨rfl, rfl⟩ (by decide) (by decide)).2]; omega) ?_
      rw [show K.1 190 r = H.1 190 r from (yyEL_k kF hn).2.1 _]
      refine q_i2 (pc := 106) rfl (fun h106 => ?_) (fun h106 => ?_)
      · replace h106 : (H.1 190 r) ≤ i := h106
        refine q_rv (pc := 212) rfl ?_
        exact hQ K kT kX kF kD
      · replace h106 : i < (H.1 190 r) := h106
        refine q_ic (pc := 107) (v := 300) rfl ?_
        refine q_il (pc := 108) (i := 10) (x := r) rfl rfl ?_
        refine q_im (pc := 109) rfl (by omega) (by omega) ?_
        refine q_ic (pc := 110) (v := 5) rfl ?_
        refine q_il (pc := 111) (i := 11) (x := i) rfl rfl ?_
        refine q_im (pc := 112) rfl (by omega) (by omega) ?_
        refine q_ia (pc := 113) rfl (by omega) (by omega) ?_
        obtain ⟨k, hk⟩ : ∃ z, z = ((300 * r) + (5 * i)) := ⟨_, rfl⟩
        rw [← hk]
        have k0 : 0 ≤ k ∧ k ≤ 4795 ∧ k % 5 = 0 := by omega
        obtain ⟨wa, wb, wc, wt, -⟩ := wy_ty hT k0.1 k0.2.1 k0.2.2
        obtain ⟨y, hy⟩ : ∃ y, y = H.1 191 (k + 2) := ⟨_, rfl⟩
        rw [← hy] at wc
        refine q_is (pc := 114) (i := 12) (L' := [(2, 183), (0, ru), (0, p), (0, h), (0, t), (0, x), (0, w), (0, q), (0, m), (0, u), (0, r), (0, i), (0, k), x13, x14, x15]) rfl rfl rfl ?_
        refine q_il (pc := 115) (i := 4) (x := t) rfl rfl ?_
        refine q_al (pc := 116) (i := 0) (x := 183) rfl rfl ?_
        refine q_gf (pc := 117) (m := 12212) (t := 2) (c := 21) rfl (ttKc kT (a := 183) (κ := 12) (len := 0) ⟨rfl, rfl⟩ (by decide) (by decide)).1 rfl rfl ?_
        rw [show K.1 183 21 = 191 from ttFx kT (by decide) (by decide) rfl rfl rfl]
        refine q_il (pc := 118) (i := 12) (x := k) rfl rfl ?_
        refine q_ic (pc := 119) (v := 3) rfl ?_
        refine q_ia (pc := 120) rfl (by omega) (by omega) ?_
        refine q_ai (pc := 121) rfl (ttKc kT (a := 191) (κ := 20) (len := 4800) ⟨rfl, rfl⟩ (by decide) (by decide)).1 (by omega) (by rw [(ttKc kT (a := 191) (κ := 20) (len := 4800) ⟨rfl, rfl⟩ (by decide) (by decide)).2]; omega) ?_
        rw [show K.1 191 (k + 3) = H.1 191 (k + 3) from (yyEL_k kF hn).2.2.1 _]
        refine q_ia (pc := 122) rfl (by omega) (by omega) ?_
        obtain ⟨s, hs⟩ : ∃ z, z = (t + (H.1 191 (k + 3))) := ⟨_, rfl⟩
        rw [← hs]
        refine q_is (pc := 123) (i := 13) (L' := [(2, 183), (0, ru), (0, p), (0, h), (0, t), (0, x), (0, w), (0, q), (0, m), (0, u), (0, r), (0, i), (0, k), (0, s), x14, x15]) rfl rfl rfl ?_
        refine q_il (pc := 124) (i := 13) (x := s) rfl rfl ?_
        refine q_al (pc := 125) (i := 0) (x := 183) rfl rfl ?_
        refine q_gf (pc := 126) (m := 12012) (t := 2) (c := 1) rfl (ttKc kT (a := 183) (κ := 12) (len := 0) ⟨rfl, rfl⟩ (by decide) (by decide)).1 rfl rfl ?_
        rw [show K.1 183 1 = 184 from ttFx kT (by decide) (by decide) rfl rfl rfl]
        refine q_ic (pc := 127) (v := 8) rfl ?_
        refine q_ai (pc := 128) rfl (ttKc kT (a := 184) (κ := 20) (len := 196) ⟨rfl, rfl⟩ (by decide) (by decide)).1 (by omega) (by rw [(ttKc kT (a := 184) (κ := 20) (len := 196) ⟨rfl, rfl⟩ (by decide) (by decide)).2]; omega) ?_
        rw [show K.1 184 8 = H.1 184 8 from (yyEL_k kF hn).1 _]
        refine q_i2 (pc := 129) rfl (fun h129 => ?_) (fun h129 => ?_)
        · replace h129 : s ≤ (H.1 184 8) := h129
          refine q_al (pc := 132) (i := 0) (x := 183) rfl rfl ?_
          refine q_il (pc := 133) (i := 12) (x := k) rfl rfl ?_
          refine q_il (pc := 134) (i := 3) (x := h) rfl rfl ?_
          refine q_iv (pc := 135) (q := 2016972) rfl rfl rfl (ttKc kT (a := 183) (κ := 12) (len := 0) ⟨rfl, rfl⟩ (by decide) (by decide)).1 ?_
          refine lf_comesAt (by omega) kT k0.1 k0.2.1 k0.2.2 (fun yc => ?_) (fun _ => ?_)
          · obtain ⟨v, hv⟩ : ∃ v, v = yyA K.1 k h := ⟨_, rfl⟩
            have v0 : 0 ≤ v ∧ v ≤ 60 := by
              have z1 := pl_ty kT yc.2.1.1 yc.2.1.2
              have z2 := yc.2.2.2
              have z3 : 0 ≤ K.1 184 7 ∧ K.1 184 7 ≤ 60 := ttMc kT (a := 184) (j := 7) (by decide) (by decide) (by decide) (by decide)
              unfold yyA at hv
              omega
            have yc : yyC H.1 k h := yyC_eq (fun j _ _ _ => ((yyEL_k kF hn).1 j).symm) (fun j _ _ => ((yyEL_k kF hn).2.2.1 j).symm) k0.1 k0.2.1 yc
            rw [← hv]
            refine q_is (pc := 136) (i := 14) (L' := [(2, 183), (0, ru), (0, p), (0, h), (0, t), (0, x), (0, w), (0, q), (0, m), (0, u), (0, r), (0, i), (0, k), (0, s), (0, v), x15]) rfl rfl rfl ?_
            refine q_il (pc := 137) (i := 14) (x := v) rfl rfl ?_
            refine q_ic (pc := 138) (v := (-1)) rfl ?_
            refine q_i2 (pc := 139) rfl (fun h139 => ?_) (fun h139 => ?_)
            · replace h139 : v = (-1) := h139
              refine q_ii (pc := 210) (i := 11) (c := 1) (x := i) (L' := [(2, 183), (0, ru), (0, p), (0, h), (0, t), (0, x), (0, w), (0, q), (0, m), (0, u), (0, r), (0, (i + 1)), (0, k), (0, s), (0, v), x15]) rfl rfl rfl (by omega) (by omega) rfl ?_
              refine q_go (pc := 211) rfl ?_
              exact ih K (i + 1) _ _ _ _ (by omega) (by omega) (by omega) kT kX kF kD
            · replace h139 : v ≠ (-1) := h139
              refine q_al (pc := 140) (i := 0) (x := 183) rfl rfl ?_
              refine q_il (pc := 141) (i := 1) (x := ru) rfl rfl ?_
              refine q_il (pc := 142) (i := 12) (x := k) rfl rfl ?_
              refine q_il (pc := 143) (i := 14) (x := v) rfl rfl ?_
              refine q_il (pc := 144) (i := 6) (x := w) rfl rfl ?_
              refine q_iv (pc := 145) (q := 2168980) rfl rfl rfl (ttKc kT (a := 183) (κ := 12) (len := 0) ⟨rfl, rfl⟩ (by decide) (by decide)).1 ?_
              refine lf_isRuled (by omega) kT kX k0.1 k0.2.1 k0.2.2 v0.1 v0.2 (((yyEL_k kF hn).2.2.2.1 22).trans hf) (fun ujj1 ujK1 ujhj1 ujzT1 ujzX1 ujzF1 => ?_)
              have ujzd1 : yyD H.1 p h t w (ujK1.1 196 q) := by rw [fr_no ujzF1 196 (by have := kT.1; omega) rfl rfl]; exact kD
              replace ujzF1 := ttFr_tr kF ujzF1 (fun _ => rfl) rfl
              refine q_if (pc := 146) rfl (fun h146 => ?_) (fun h146 => ?_)
              · replace h146 : ujj1 ≠ 0 := h146
                refine q_al (pc := 148) (i := 0) (x := 183) rfl rfl ?_
                refine q_al (pc := 149) (i := 0) (x := 183) rfl rfl ?_
                refine q_gf (pc := 150) (m := 12262) (t := 2) (c := 26) rfl (ttKc ujzT1 (a := 183) (κ := 12) (len := 0) ⟨rfl, rfl⟩ (by decide) (by decide)).1 rfl rfl ?_
                rw [show ujK1.1 183 26 = 195 from ttFx ujzT1 (by decide) (by decide) rfl rfl rfl]
                refine q_al (pc := 151) (i := 0) (x := 183) rfl rfl ?_
                refine q_gf (pc := 152) (m := 12212) (t := 2) (c := 21) rfl (ttKc ujzT1 (a := 183) (κ := 12) (len := 0) ⟨rfl, rfl⟩ (by decide) (by decide)).1 rfl rfl ?_
                rw [show ujK1.1 183 21 = 191 from ttFx ujzT1 (by decide) (by decide) rfl rfl rfl]
                refine q_il (pc := 153) (i := 12) (x := k) rfl rfl ?_
                refine q_ic (pc := 154) (v := 2) rfl ?_
                refine q_ia (pc := 155) rfl (by omega) (by omega) ?_
                refine q_ai (pc := 156) rfl (ttKc ujzT1 (a := 191) (κ := 20) (len := 4800) ⟨rfl, rfl⟩ (by decide) (by decide)).1 (by omega) (by rw [(ttKc ujzT1 (a := 191) (κ := 20) (len := 4800) ⟨rfl, rfl⟩ (by decide) (by decide)).2]; omega) ?_
                rw [show ujK1.1 191 (k + 2) = H.1 191 (k + 2) from (yyEL_k ujzF1 hn).2.2.1 _]
                rw [← hy]
                refine q_il (pc := 157) (i := 14) (x := v) rfl rfl ?_
                refine q_il (pc := 158) (i := 13) (x := s) rfl rfl ?_
                refine q_il (pc := 159) (i := 6) (x := w) rfl rfl ?_
                refine q_iv (pc := 160) (q := 2160984) rfl rfl rfl ⟨by omega, (ttKc ujzT1 (a := 183) (κ := 12) (len := 0) ⟨rfl, rfl⟩ (by decide) (by decide)).1⟩ ?_
                refine hw_mixed195 (ttXX_out yyStab (fun _ _ => trivial)) e (by show 5 ≤ e; omega) [(2, 183), (2, 195), (0, y), (0, v), (0, s), (0, w)] ujK1 ujzT1 ujzX1 ⟨⟨rfl, ttPk_of rfl⟩, ⟨rfl, ttPk_of rfl⟩, ⟨rfl, ttPi_of (by omega) (by omega)⟩, ⟨rfl, ttPi_of (by omega) (by omega)⟩, ⟨rfl, ttPi_of (by omega) (by omega)⟩, ⟨rfl, ttPi_of (by omega) (by omega)⟩, trivial⟩ (fun _ hq => absurd hq List.not_mem_nil) _ (fun ujr2 ujK2 ujzT2 ujzX2 ujzF2 ujzr2 _ => ?_)
                replace ujzr2 : -2147483648 ≤ ujr2 ∧ ujr2 ≤ 2147483647 := by obtain ⟨p, hp, hr⟩ := ujzr2; rw [List.mem_singleton.mp hp] at hr; exact ttPi hr
                have ujzd2 : yyD H.1 p h t w (ujK2.1 196 q) := by rw [fr_no ujzF2 196 (by have := ujzT1.1; omega) rfl rfl]; exact ujzd1
                replace ujzF2 := ttFr_tr ujzF1 ujzF2 (fun _ => rfl) rfl
                refine q_is (pc := 161) (i := 15) (L' := [(2, 183), (0, ru), (0, p), (0, h), (0, t), (0, x), (0, w), (0, q), (0, m), (0, u), (0, r), (0, i), (0, k), (0, s), (0, v), (0, ujr2)]) rfl rfl rfl ?_
                refine q_il (pc := 162) (i := 15) (x := ujr2) rfl rfl ?_
                refine q_al (pc := 163) (i := 0) (x := 183) rfl rfl ?_
                refine q_gf (pc := 164) (m := 12262) (t := 2) (c := 26) rfl (ttKc ujzT2 (a := 183) (κ := 12) (len := 0) ⟨rfl, rfl⟩ (by decide) (by decide)).1 rfl rfl ?_
                rw [show ujK2.1 183 26 = 195 from ttFx ujzT2 (by decide) (by decide) rfl rfl rfl]
                refine q_il (pc := 165) (i := 7) (x := q) rfl rfl ?_
                refine q_ai (pc := 166) rfl (ttKc ujzT2 (a := 195) (κ := 20) (len := 93696) ⟨rfl, rfl⟩ (by decide) (by decide)).1 (by omega) (by rw [(ttKc ujzT2 (a := 195) (κ := 20) (len := 93696) ⟨rfl, rfl⟩ (by decide) (by decide)).2]; omega) ?_
                refine q_i2 (pc := 167) rfl (fun h167 => ?_) (fun h167 => ?_)
                · replace h167 : (ujK2.1 195 q) < ujr2 := h167
                  refine q_al (pc := 169) (i := 0) (x := 183) rfl rfl ?_
                  refine q_gf (pc := 170) (m := 12262) (t := 2) (c := 26) rfl (ttKc ujzT2 (a := 183) (κ := 12) (len := 0) ⟨rfl, rfl⟩ (by decide) (by decide)).1 rfl rfl ?_
                  rw [show ujK2.1 183 26 = 195 from ttFx ujzT2 (by decide) (by decide) rfl rfl rfl]
                  refine q_il (pc := 171) (i := 7) (x := q) rfl rfl ?_
                  refine q_il (pc := 172) (i := 15) (x := ujr2) rfl rfl ?_
                  refine q_si (pc := 173) rfl (by decide) (ttKc ujzT2 (a := 195) (κ := 20) (len := 93696) ⟨rfl, rfl⟩ (by decide) (by decide)).1 (by omega) (by rw [(ttKc ujzT2 (a := 195) (κ := 20) (len := 93696) ⟨rfl, rfl⟩ (by decide) (by decide)).2]; omega) ?_
                  have ujzc3 := ttPut (ttXX_out yyStab (fun _ _ => trivial)) ujzT2 ujzX2 ujzF2 (a := 195) (j := q) (x := ujr2) (by decide) (fun _ _ => ttTyr rfl (by omega) (by omega)) ⟨(195, 0, 93695), by simp [yyEL], ⟨⟨by decide, rfl⟩, by show (0 : Int) ≤ q; omega, by show q ≤ (93695 : Int); omega⟩⟩ (ttMay_no (r := 195) rfl (by decide))
                  obtain ⟨ujZ3, ujzk3⟩ : ∃ X : xH, X = (xUp ujK2.1 195 q ujr2, ujK2.2) := ⟨_, rfl⟩
                  rw [← ujzk3] at ujzc3 ⊢
                  have ujzd3 : yyD H.1 p h t w (ujZ3.1 196 q) := by rw [ujzk3]; exact (show xUp ujK2.1 195 q ujr2 196 q = _ from up_na (by decide)) ▸ ujzd2
                  refine q_al (pc := 174) (i := 0) (x := 183) rfl rfl ?_
                  refine q_gf (pc := 175) (m := 12272) (t := 2) (c := 27) rfl (ttKc ujzc3.1 (a := 183) (κ := 12) (len := 0) ⟨rfl, rfl⟩ (by decide) (by decide)).1 rfl rfl ?_
                  rw [show ujZ3.1 183 27 = 196 from ttFx ujzc3.1 (by decide) (by decide) rfl rfl rfl]
                  refine q_il (pc := 176) (i := 7) (x := q) rfl rfl ?_
                  refine q_ic (pc := 177) (v := 100) rfl ?_
                  refine q_ic (pc := 178) (v := 10) rfl ?_
                  refine q_al (pc := 179) (i := 0) (x := 183) rfl rfl ?_
                  refine q_gf (pc := 180) (m := 12212) (t := 2) (c := 21) rfl (ttKc ujzc3.1 (a := 183) (κ := 12) (len := 0) ⟨rfl, rfl⟩ (by decide) (by decide)).1 rfl rfl ?_
                  rw [show ujZ3.1 183 21 = 191 from ttFx ujzc3.1 (by decide) (by decide) rfl rfl rfl]
                  refine q_il (pc := 181) (i := 12) (x := k) rfl rfl ?_
                  refine q_ai (pc := 182) rfl (ttKc ujzc3.1 (a := 191) (κ := 20) (len := 4800) ⟨rfl, rfl⟩ (by decide) (by decide)).1 (by omega) (by rw [(ttKc ujzc3.1 (a := 191) (κ := 20) (len := 4800) ⟨rfl, rfl⟩ (by decide) (by decide)).2]; omega) ?_
                  rw [show ujZ3.1 191 k = H.1 191 k from (yyEL_k ujzc3.2.2 hn).2.2.1 _]
                  refine q_im (pc := 183) rfl (by omega) (by omega) ?_
                  refine q_ia (pc := 184) rfl (by omega) (by omega) ?_
                  refine q_al (pc := 185) (i := 0) (x := 183) rfl rfl ?_
                  refine q_gf (pc := 186) (m := 12212) (t := 2) (c := 21) rfl (ttKc ujzc3.1 (a := 183) (κ := 12) (len := 0) ⟨rfl, rfl⟩ (by decide) (by decide)).1 rfl rfl ?_
                  rw [show ujZ3.1 183 21 = 191 from ttFx ujzc3.1 (by decide) (by decide) rfl rfl rfl]
                  refine q_il (pc := 187) (i := 12) (x := k) rfl rfl ?_
                  refine q_ic (pc := 188) (v := 1) rfl ?_
                  refine q_ia (pc := 189) rfl (by omega) (by omega) ?_
                  refine q_ai (pc := 190) rfl (ttKc ujzc3.1 (a := 191) (κ := 20) (len := 4800) ⟨rfl, rfl⟩ (by decide) (by decide)).1 (by omega) (by rw [(ttKc ujzc3.1 (a := 191) (κ := 20) (len := 4800) ⟨rfl, rfl⟩ (by decide) (by decide)).2]; omega) ?_
                  rw [show ujZ3.1 191 (k + 1) = H.1 191 (k + 1) from (yyEL_k ujzc3.2.2 hn).2.2.1 _]
                  refine q_ia (pc := 191) rfl (by omega) (by omega) ?_
                  refine q_si (pc := 192) rfl (by decide) (ttKc ujzc3.1 (a := 196) (κ := 20) (len := 93696) ⟨rfl, rfl⟩ (by decide) (by decide)).1 (by omega) (by rw [(ttKc ujzc3.1 (a := 196) (κ := 20) (len := 93696) ⟨rfl, rfl⟩ (by decide) (by decide)).2]; omega) ?_
                  have ujzc4 := ttPuT ujzc3.1 ujzc3.2.2 (a := 196) (j := q) (x := ((100 + (10 * (H.1 191 k))) + (H.1 191 (k + 1)))) (by decide) (fun _ _ => ttTyr rfl (by omega) (by omega)) ⟨(196, q, q), by simp [yyEL], ⟨⟨by decide, rfl⟩, by show (q : Int) ≤ q; omega, by show q ≤ (q : Int); omega⟩⟩
                  obtain ⟨ujZ4, ujzk4⟩ : ∃ X : xH, X = (xUp ujZ3.1 196 q ((100 + (10 * (H.1 191 k))) + (H.1 191 (k + 1))), ujZ3.2) := ⟨_, rfl⟩
                  rw [← ujzk4] at ujzc4 ⊢
                  have ujzd4 : yyD H.1 p h t w (ujZ4.1 196 q) := by
                    rw [show ujZ4.1 196 q = ((100 + (10 * (H.1 191 k))) + (H.1 191 (k + 1))) from by rw [ujzk4]; exact up_eq]
                    exact Or.inr (Or.inr (Or.inr ⟨i, i0, by omega, by rw [← hr]; omega, by rw [← hr, ← hk]; omega, by rw [← hr, ← hk]; omega, by rw [← hr, ← hk]; exact yc⟩))
                  have zx4 : ttXX YY ujZ4 := yyPutX hX ujzc4.2 p0 p1 h0 h1 t0 t1 x0 x1 w0 w1 hq ujzd4
                  refine q_al (pc := 193) (i := 0) (x := 183) rfl rfl ?_
                  refine q_gf (pc := 194) (m := 12282) (t := 2) (c := 28) rfl (ttKc ujzc4.1 (a := 183) (κ := 12) (len := 0) ⟨rfl, rfl⟩ (by decide) (by decide)).1 rfl rfl ?_
                  rw [show ujZ4.1 183 28 = 197 from ttFx ujzc4.1 (by decide) (by decide) rfl rfl rfl]
                  refine q_il (pc := 195) (i := 7) (x := q) rfl rfl ?_
                  refine q_al (pc := 196) (i := 0) (x := 183) rfl rfl ?_
                  refine q_al (pc := 197) (i := 0) (x := 183) rfl rfl ?_
                  refine q_gf (pc := 198) (m := 12282) (t := 2) (c := 28) rfl (ttKc ujzc4.1 (a := 183) (κ := 12) (len := 0) ⟨rfl, rfl⟩ (by decide) (by decide)).1 rfl rfl ?_
                  rw [show ujZ4.1 183 28 = 197 from ttFx ujzc4.1 (by decide) (by decide) rfl rfl rfl]
                  refine q_al (pc := 199) (i := 0) (x := 183) rfl rfl ?_
                  refine q_gf (pc := 200) (m := 12212) (t := 2) (c := 21) rfl (ttKc ujzc4.1 (a := 183) (κ := 12) (len := 0) ⟨rfl, rfl⟩ (by decide) (by decide)).1 rfl rfl ?_
                  rw [show ujZ4.1 183 21 = 191 from ttFx ujzc4.1 (by decide) (by decide) rfl rfl rfl]
                  refine q_il (pc := 201) (i := 12) (x := k) rfl rfl ?_
                  refine q_ic (pc := 202) (v := 2) rfl ?_
                  refine q_ia (pc := 203) rfl (by omega) (by omega) ?_
                  refine q_ai (pc := 204) rfl (ttKc ujzc4.1 (a := 191) (κ := 20) (len := 4800) ⟨rfl, rfl⟩ (by decide) (by decide)).1 (by omega) (by rw [(ttKc ujzc4.1 (a := 191) (κ := 20) (len := 4800) ⟨rfl, rfl⟩ (by decide) (by decide)).2]; omega) ?_
                  rw [show ujZ4.1 191 (k + 2) = H.1 191 (k + 2) from (yyEL_k ujzc4.2 hn).2.2.1 _]
                  rw [← hy]
                  refine q_il (pc := 205) (i := 14) (x := v) rfl rfl ?_
                  refine q_il (pc := 206) (i := 13) (x := s) rfl rfl ?_
                  refine q_il (pc := 207) (i := 6) (x := w) rfl rfl ?_
                  refine q_iv (pc := 208) (q := 2160984) rfl rfl rfl ⟨by omega, (ttKc ujzc4.1 (a := 183) (κ := 12) (len := 0) ⟨rfl, rfl⟩ (by decide) (by decide)).1⟩ ?_
                  refine hw_mixed197 (ttXX_out yyStab (fun _ _ => trivial)) e (by show 5 ≤ e; omega) [(2, 183), (2, 197), (0, y), (0, v), (0, s), (0, w)] ujZ4 ujzc4.1 zx4 ⟨⟨rfl, ttPk_of rfl⟩, ⟨rfl, ttPk_of rfl⟩, ⟨rfl, ttPi_of (by omega) (by omega)⟩, ⟨rfl, ttPi_of (by omega) (by omega)⟩, ⟨rfl, ttPi_of (by omega) (by omega)⟩, ⟨rfl, ttPi_of (by omega) (by omega)⟩, trivial⟩ (fun _ hq => absurd hq List.not_mem_nil) _ (fun ujr5 ujK5 ujzT5 ujzX5 ujzF5 ujzr5 _ => ?_)
                  replace ujzr5 : -2147483648 ≤ ujr5 ∧ ujr5 ≤ 2147483647 := by obtain ⟨p, hp, hr⟩ := ujzr5; rw [List.mem_singleton.mp hp] at hr; exact ttPi hr
                  have ujzd5 : yyD H.1 p h t w (ujK5.1 196 q) := by rw [fr_no ujzF5 196 (by have := ujzc4.1.1; omega) rfl rfl]; exact ujzd4
                  replace ujzF5 := ttFr_tr ujzc4.2 ujzF5 (fun _ => rfl) rfl
                  refine q_si (pc := 209) rfl (by decide) (ttKc ujzT5 (a := 197) (κ := 20) (len := 93696) ⟨rfl, rfl⟩ (by decide) (by decide)).1 (by omega) (by rw [(ttKc ujzT5 (a := 197) (κ := 20) (len := 93696) ⟨rfl, rfl⟩ (by decide) (by decide)).2]; omega) ?_
                  have ujzc6 := ttPut (ttXX_out yyStab (fun _ _ => trivial)) ujzT5 ujzX5 ujzF5 (a := 197) (j := q) (x := ujr5) (by decide) (fun _ _ => ttTyr rfl (by omega) (by omega)) ⟨(197, 0, 93695), by simp [yyEL], ⟨⟨by decide, rfl⟩, by show (0 : Int) ≤ q; omega, by show q ≤ (93695 : Int); omega⟩⟩ (ttMay_no (r := 197) rfl (by decide))
                  obtain ⟨ujZ6, ujzk6⟩ : ∃ X : xH, X = (xUp ujK5.1 197 q ujr5, ujK5.2) := ⟨_, rfl⟩
                  rw [← ujzk6] at ujzc6 ⊢
                  have ujzd6 : yyD H.1 p h t w (ujZ6.1 196 q) := by rw [ujzk6]; exact (show xUp ujK5.1 197 q ujr5 196 q = _ from up_na (by decide)) ▸ ujzd5
                  refine q_ii (pc := 210) (i := 11) (c := 1) (x := i) (L' := [(2, 183), (0, ru), (0, p), (0, h), (0, t), (0, x), (0, w), (0, q), (0, m), (0, u), (0, r), (0, (i + 1)), (0, k), (0, s), (0, v), (0, ujr2)]) rfl rfl rfl (by omega) (by omega) rfl ?_
                  refine q_go (pc := 211) rfl ?_
                  exact ih ujZ6 (i + 1) _ _ _ _ (by omega) (by omega) (by omega) ujzc6.1 ujzc6.2.1 ujzc6.2.2 ujzd6
                · replace h167 : ujr2 ≤ (ujK2.1 195 q) := h167
                  refine q_go (pc := 168) rfl ?_
                  refine q_ii (pc := 210) (i := 11) (c := 1) (x := i) (L' := [(2, 183), (0, ru), (0, p), (0, h), (0, t), (0, x), (0, w), (0, q), (0, m), (0, u), (0, r), (0, (i + 1)), (0, k), (0, s), (0, v), (0, ujr2)]) rfl rfl rfl (by omega) (by omega) rfl ?_
                  refine q_go (pc := 211) rfl ?_
                  exact ih ujK2 (i + 1) _ _ _ _ (by omega) (by omega) (by omega) ujzT2 ujzX2 ujzF2 ujzd2
              · replace h146 : ujj1 = 0 := h146
                refine q_go (pc := 147) rfl ?_
                refine q_ii (pc := 210) (i := 11) (c := 1) (x := i) (L' := [(2, 183), (0, ru), (0, p), (0, h), (0, t), (0, x), (0, w), (0, q), (0, m), (0, u), (0, r), (0, (i + 1)), (0, k), (0, s), (0, v), x15]) rfl rfl rfl (by omega) (by omega) rfl ?_
                refine q_go (pc := 211) rfl ?_
                exact ih ujK1 (i + 1) _ _ _ _ (by omega) (by omega) (by omega) ujzT1 ujzX1 ujzF1 ujzd1
          · skip
            refine q_is (pc := 136) (i := 14) (L' := [(2, 183), (0, ru), (0, p), (0, h), (0, t), (0, x), (0, w), (0, q), (0, m), (0, u), (0, r), (0, i), (0, k), (0, s), (0, (-1)), x15]) rfl rfl rfl ?_
            refine q_il (pc := 137) (i := 14) (x := (-1)) rfl rfl ?_
            refine q_ic (pc := 138) (v := (-1)) rfl ?_
            refine q_i2 (pc := 139) rfl (fun h139 => ?_) (fun h139 => ?_)
            · replace h139 : (-1 : Int) = (-1) := h139
              refine q_ii (pc := 210) (i := 11) (c := 1) (x := i) (L' := [(2, 183), (0, ru), (0, p), (0, h), (0, t), (0, x), (0, w), (0, q), (0, m), (0, u), (0, r), (0, (i + 1)), (0, k), (0, s), (0, (-1)), x15]) rfl rfl rfl (by omega) (by omega) rfl ?_
              refine q_go (pc := 211) rfl ?_
              exact ih K (i + 1) _ _ _ _ (by omega) (by omega) (by omega) kT kX kF kD
            · replace h139 : (-1 : Int) ≠ (-1) := h139
              omega
        · replace h129 : (H.1 184 8) < s := h129
          refine q_ic (pc := 130) (v := (-1)) rfl ?_
          refine q_go (pc := 131) rfl ?_
          refine q_is (pc := 136) (i := 14) (L' := [(2, 183), (0, ru), (0, p), (0, h), (0, t), (0, x), (0, w), (0, q), (0, m), (0, u), (0, r), (0, i), (0, k), (0, s), (0, (-1)), x15]) rfl rfl rfl ?_
          refine q_il (pc := 137) (i := 14) (x := (-1)) rfl rfl ?_
          refine q_ic (pc := 138) (v := (-1)) rfl ?_
          refine q_i2 (pc := 139) rfl (fun h139 => ?_) (fun h139 => ?_)
          · replace h139 : (-1 : Int) = (-1) := h139
            refine q_ii (pc := 210) (i := 11) (c := 1) (x := i) (L' := [(2, 183), (0, ru), (0, p), (0, h), (0, t), (0, x), (0, w), (0, q), (0, m), (0, u), (0, r), (0, (i + 1)), (0, k), (0, s), (0, (-1)), x15]) rfl rfl rfl (by omega) (by omega) rfl ?_
            refine q_go (pc := 211) rfl ?_
            exact ih K (i + 1) _ _ _ _ (by omega) (by omega) (by omega) kT kX kF kD
          · replace h139 : (-1 : Int) ≠ (-1) := h139
            omega
  have h8 : ∀ m u : Int, ∀ (K : xH) (x10 x11 x12 x13 x14 x15 : xV), ttTI K → ttXX YY K → ttFr (yyEL q) H K → yyD H.1 p h t w (K.1 196 q) → xW e cd_272 Q (80, [(2, 183), (0, ru), (0, p), (0, h), (0, t), (0, x), (0, w), (0, q), (0, m), (0, u), x10, x11, x12, x13, x14, x15], [], K) := by
    intro m u K x10 x11 x12 x13 x14 x15 kT kX kF kD
    refine q_il (pc := 80) (i := 6) (x := w) rfl rfl ?_
    refine q_ic (pc := 81) (v := 1) rfl ?_
    refine q_i2 (pc := 82) rfl (fun h82 => ?_) (fun h82 => ?_)
    · replace h82 : w ≠ 1 := h82
      refine q_ic (pc := 93) (v := 2) rfl ?_
      refine q_il (pc := 94) (i := 2) (x := p) rfl rfl ?_
      refine q_im (pc := 95) rfl (by omega) (by omega) ?_
      refine q_il (pc := 96) (i := 6) (x := w) rfl rfl ?_
      refine q_ia (pc := 97) rfl (by omega) (by omega) ?_
      rw [← hr]
      refine q_is (pc := 98) (i := 10) (L' := [(2, 183), (0, ru), (0, p), (0, h), (0, t), (0, x), (0, w), (0, q), (0, m), (0, u), (0, r), x11, x12, x13, x14, x15]) rfl rfl rfl ?_
      refine q_ic (pc := 99) (v := 0) rfl ?_
      refine q_is (pc := 100) (i := 11) (L' := [(2, 183), (0, ru), (0, p), (0, h), (0, t), (0, x), (0, w), (0, q), (0, m), (0, u), (0, r), (0, 0), x12, x13, x14, x15]) rfl rfl rfl ?_
      exact hl m u 60 K 0 _ _ _ _ (by decide) (by decide) (by decide) kT kX kF kD
    · replace h82 : w = 1 := h82
      refine q_al (pc := 83) (i := 0) (x := 183) rfl rfl ?_
      refine q_il (pc := 84) (i := 7) (x := q) rfl rfl ?_
      refine q_il (pc := 85) (i := 2) (x := p) rfl rfl ?_
      refine q_il (pc := 86) (i := 3) (x := h) rfl rfl ?_
      refine q_il (pc := 87) (i := 4) (x := t) rfl rfl ?_
      refine q_il (pc := 88) (i := 5) (x := x) rfl rfl ?_
      refine q_ic (pc := 89) (v := 0) rfl ?_
      refine q_ij (pc := 90) (q := 2143940) rfl rfl rfl trivial ?_
      refine lf_state (by omega) (by omega) (by omega) (by omega) (by omega) (by omega) (by omega) (by omega) (by omega) (by omega) (by omega) ?_
      obtain ⟨ujb7, ujhb7⟩ : ∃ z, z = (yyX p h t x 0) := ⟨_, rfl⟩
      have ujhc7 : 0 ≤ ujb7 ∧ ujb7 ≤ 93695 := by rw [ujhb7]; unfold yyX; omega
      rw [← ujhb7]
      refine q_ic (pc := 91) (v := 1) rfl ?_
      refine q_iv (pc := 92) (q := 2184979) rfl rfl rfl (ttKc kT (a := 183) (κ := 12) (len := 0) ⟨rfl, rfl⟩ (by decide) (by decide)).1 ?_
      refine lf_takesOver (by omega) kT q0 q1 (by omega) (by omega) (by decide) (by decide) (fun ujK8 ujzT8 ujzF8 ujzo8 => ?_)
      have ujzd8 : yyD H.1 p h t w (ujK8.1 196 q) := by
        rcases ujzo8 with z | z
        · rw [z]; exact kD
        · rw [z]; exact Or.inr (Or.inr (Or.inl rfl))
      replace ujzF8 := ttFr_tr kF ujzF8 (fun _ => rfl) (ttSub_mem (fun z hz => by simp only [yyEL, List.mem_cons, List.not_mem_nil, or_false] at hz ⊢; rcases hz with rfl | rfl | rfl <;> simp))
      have ujzX8 : ttXX YY ujK8 := yyPutX hX ujzF8 p0 p1 h0 h1 t0 t1 x0 x1 w0 w1 hq ujzd8
      refine q_ic (pc := 93) (v := 2) rfl ?_
      refine q_il (pc := 94) (i := 2) (x := p) rfl rfl ?_
      refine q_im (pc := 95) rfl (by omega) (by omega) ?_
      refine q_il (pc := 96) (i := 6) (x := w) rfl rfl ?_
      refine q_ia (pc := 97) rfl (by omega) (by omega) ?_
      rw [← hr]
      refine q_is (pc := 98) (i := 10) (L' := [(2, 183), (0, ru), (0, p), (0, h), (0, t), (0, x), (0, w), (0, q), (0, m), (0, u), (0, r), x11, x12, x13, x14, x15]) rfl rfl rfl ?_
      refine q_ic (pc := 99) (v := 0) rfl ?_
      refine q_is (pc := 100) (i := 11) (L' := [(2, 183), (0, ru), (0, p), (0, h), (0, t), (0, x), (0, w), (0, q), (0, m), (0, u), (0, r), (0, 0), x12, x13, x14, x15]) rfl rfl rfl ?_
      exact hl m u 60 ujK8 0 _ _ _ _ (by decide) (by decide) (by decide) ujzT8 ujzX8 ujzF8 ujzd8
  have h5 : ∀ m : Int, ∀ (K : xH) (x9 : xV) (x10 x11 x12 x13 x14 x15 : xV), ttTI K → ttXX YY K → ttFr (yyEL q) H K → yyD H.1 p h t w (K.1 196 q) → xW e cd_272 Q (50, [(2, 183), (0, ru), (0, p), (0, h), (0, t), (0, x), (0, w), (0, q), (0, m), x9, x10, x11, x12, x13, x14, x15], [], K) := by
    intro m K x9 x10 x11 x12 x13 x14 x15 kT kX kF kD
    refine q_al (pc := 50) (i := 0) (x := 183) rfl rfl ?_
    refine q_il (pc := 51) (i := 2) (x := p) rfl rfl ?_
    refine q_il (pc := 52) (i := 3) (x := h) rfl rfl ?_
    refine q_il (pc := 53) (i := 6) (x := w) rfl rfl ?_
    refine q_iv (pc := 54) (q := 2152976) rfl rfl rfl (ttKc kT (a := 183) (κ := 12) (len := 0) ⟨rfl, rfl⟩ (by decide) (by decide)).1 ?_
    refine lf_higher (by omega) kT p0 p1 h0 h1 (fun u ua ub => ?_)
    rw [(yyEL_k kF hn).1] at ua ub
    have uc := ub hc
    refine q_is (pc := 55) (i := 9) (L' := [(2, 183), (0, ru), (0, p), (0, h), (0, t), (0, x), (0, w), (0, q), (0, m), (0, u), x10, x11, x12, x13, x14, x15]) rfl rfl rfl ?_
    refine q_il (pc := 56) (i := 5) (x := x) rfl rfl ?_
    refine q_ic (pc := 57) (v := 1) rfl ?_
    refine q_i2 (pc := 58) rfl (fun h58 => ?_) (fun h58 => ?_)
    · replace h58 : x ≠ 1 := h58
      exact h8 m u K _ _ _ _ _ _ kT kX kF kD
    · replace h58 : x = 1 := h58
      refine q_il (pc := 59) (i := 4) (x := t) rfl rfl ?_
      refine q_al (pc := 60) (i := 0) (x := 183) rfl rfl ?_
      refine q_gf (pc := 61) (m := 12012) (t := 2) (c := 1) rfl (ttKc kT (a := 183) (κ := 12) (len := 0) ⟨rfl, rfl⟩ (by decide) (by decide)).1 rfl rfl ?_
      rw [show K.1 183 1 = 184 from ttFx kT (by decide) (by decide) rfl rfl rfl]
      refine q_ic (pc := 62) (v := 8) rfl ?_
      refine q_ai (pc := 63) rfl (ttKc kT (a := 184) (κ := 20) (len := 196) ⟨rfl, rfl⟩ (by decide) (by decide)).1 (by omega) (by rw [(ttKc kT (a := 184) (κ := 20) (len := 196) ⟨rfl, rfl⟩ (by decide) (by decide)).2]; omega) ?_
      rw [show K.1 184 8 = H.1 184 8 from (yyEL_k kF hn).1 _]
      refine q_i2 (pc := 64) rfl (fun h64 => ?_) (fun h64 => ?_)
      · replace h64 : (H.1 184 8) ≤ t := h64
        exact h8 m u K _ _ _ _ _ _ kT kX kF kD
      · replace h64 : t < (H.1 184 8) := h64
        refine q_il (pc := 65) (i := 9) (x := u) rfl rfl ?_
        refine q_il (pc := 66) (i := 3) (x := h) rfl rfl ?_
        refine q_i2 (pc := 67) rfl (fun h67 => ?_) (fun h67 => ?_)
        · replace h67 : u ≤ h := h67
          exact h8 m u K _ _ _ _ _ _ kT kX kF kD
        · replace h67 : h < u := h67
          refine q_al (pc := 68) (i := 0) (x := 183) rfl rfl ?_
          refine q_il (pc := 69) (i := 7) (x := q) rfl rfl ?_
          refine q_il (pc := 70) (i := 2) (x := p) rfl rfl ?_
          refine q_il (pc := 71) (i := 9) (x := u) rfl rfl ?_
          refine q_il (pc := 72) (i := 4) (x := t) rfl rfl ?_
          refine q_ic (pc := 73) (v := 1) rfl ?_
          refine q_ia (pc := 74) rfl (by omega) (by omega) ?_
          refine q_ic (pc := 75) (v := 1) rfl ?_
          refine q_il (pc := 76) (i := 6) (x := w) rfl rfl ?_
          refine q_ij (pc := 77) (q := 2143940) rfl rfl rfl trivial ?_
          refine lf_state (by omega) (by omega) (by omega) (by omega) (by omega) (by omega) (by omega) (by omega) (by omega) (by omega) (by omega) ?_
          obtain ⟨ujb9, ujhb9⟩ : ∃ z, z = (yyX p u (t + 1) 1 w) := ⟨_, rfl⟩
          have ujhc9 : 0 ≤ ujb9 ∧ ujb9 ≤ 93695 := by rw [ujhb9]; unfold yyX; omega
          rw [← ujhb9]
          refine q_ic (pc := 78) (v := 0) rfl ?_
          refine q_iv (pc := 79) (q := 2184979) rfl rfl rfl (ttKc kT (a := 183) (κ := 12) (len := 0) ⟨rfl, rfl⟩ (by decide) (by decide)).1 ?_
          refine lf_takesOver (by omega) kT q0 q1 (by omega) (by omega) (by decide) (by decide) (fun ujK10 ujzT10 ujzF10 ujzo10 => ?_)
          have ujzd10 : yyD H.1 p h t w (ujK10.1 196 q) := by
            rcases ujzo10 with z | z
            · rw [z]; exact kD
            · rw [z]; exact Or.inr (Or.inl ⟨rfl, by omega⟩)
          replace ujzF10 := ttFr_tr kF ujzF10 (fun _ => rfl) (ttSub_mem (fun z hz => by simp only [yyEL, List.mem_cons, List.not_mem_nil, or_false] at hz ⊢; rcases hz with rfl | rfl | rfl <;> simp))
          have ujzX10 : ttXX YY ujK10 := yyPutX hX ujzF10 p0 p1 h0 h1 t0 t1 x0 x1 w0 w1 hq ujzd10
          exact h8 m u ujK10 _ _ _ _ _ _ ujzT10 ujzX10 ujzF10 ujzd10
  have h4 : ∀ m v : Int, 0 ≤ v → v ≤ 10000 → ∀ (K : xH) (x9 : xV) (x10 x11 x12 x13 x14 x15 : xV), ttTI K → ttXX YY K → ttFr (yyEL q) H K → yyD H.1 p h t w (K.1 196 q) → xW e cd_272 Q (49, [(2, 183), (0, ru), (0, p), (0, h), (0, t), (0, x), (0, w), (0, q), (0, m), x9, x10, x11, x12, x13, x14, x15], [(0, v), (0, q), (2, 197)], K) := by
    intro m v v0 v1 K x9 x10 x11 x12 x13 x14 x15 kT kX kF kD
    refine q_si (pc := 49) rfl (by decide) (ttKc kT (a := 197) (κ := 20) (len := 93696) ⟨rfl, rfl⟩ (by decide) (by decide)).1 (by omega) (by rw [(ttKc kT (a := 197) (κ := 20) (len := 93696) ⟨rfl, rfl⟩ (by decide) (by decide)).2]; omega) ?_
    have ujzc11 := ttPut (ttXX_out yyStab (fun _ _ => trivial)) kT kX kF (a := 197) (j := q) (x := v) (by decide) (fun _ _ => ttTyr rfl (by omega) (by omega)) ⟨(197, 0, 93695), by simp [yyEL], ⟨⟨by decide, rfl⟩, by show (0 : Int) ≤ q; omega, by show q ≤ (93695 : Int); omega⟩⟩ (ttMay_no (r := 197) rfl (by decide))
    obtain ⟨ujZ11, ujzk11⟩ : ∃ X : xH, X = (xUp K.1 197 q v, K.2) := ⟨_, rfl⟩
    rw [← ujzk11] at ujzc11 ⊢
    have ujzd11 : yyD H.1 p h t w (ujZ11.1 196 q) := by rw [ujzk11]; exact (show xUp K.1 197 q v 196 q = _ from up_na (by decide)) ▸ kD
    exact h5 m ujZ11 _ _ _ _ _ _ _ ujzc11.1 ujzc11.2.1 ujzc11.2.2 ujzd11
  have h3 : ∀ m v : Int, -10000 ≤ v → v ≤ 10000 → ∀ (K : xH) (x9 : xV) (x10 x11 x12 x13 x14 x15 : xV), ttTI K → ttXX YY K → ttFr (yyEL q) H K → xW e cd_272 Q (35, [(2, 183), (0, ru), (0, p), (0, h), (0, t), (0, x), (0, w), (0, q), (0, m), x9, x10, x11, x12, x13, x14, x15], [(0, v), (0, q), (2, 195)], K) := by
    intro m v v0 v1 K x9 x10 x11 x12 x13 x14 x15 kT kX kF
    refine q_si (pc := 35) rfl (by decide) (ttKc kT (a := 195) (κ := 20) (len := 93696) ⟨rfl, rfl⟩ (by decide) (by decide)).1 (by omega) (by rw [(ttKc kT (a := 195) (κ := 20) (len := 93696) ⟨rfl, rfl⟩ (by decide) (by decide)).2]; omega) ?_
    have ujzc12 := ttPut (ttXX_out yyStab (fun _ _ => trivial)) kT kX kF (a := 195) (j := q) (x := v) (by decide) (fun _ _ => ttTyr rfl (by omega) (by omega)) ⟨(195, 0, 93695), by simp [yyEL], ⟨⟨by decide, rfl⟩, by show (0 : Int) ≤ q; omega, by show q ≤ (93695 : Int); omega⟩⟩ (ttMay_no (r := 195) rfl (by decide))
    obtain ⟨ujZ12, ujzk12⟩ : ∃ X : xH, X = (xUp K.1 195 q v, K.2) := ⟨_, rfl⟩
    rw [← ujzk12] at ujzc12 ⊢
    refine q_al (pc := 36) (i := 0) (x := 183) rfl rfl ?_
    refine q_gf (pc := 37) (m := 12272) (t := 2) (c := 27) rfl (ttKc ujzc12.1 (a := 183) (κ := 12) (len := 0) ⟨rfl, rfl⟩ (by decide) (by decide)).1 rfl rfl ?_
    rw [show ujZ12.1 183 27 = 196 from ttFx ujzc12.1 (by decide) (by decide) rfl rfl rfl]
    refine q_il (pc := 38) (i := 7) (x := q) rfl rfl ?_
    refine q_ic (pc := 39) (v := (-1)) rfl ?_
    refine q_si (pc := 40) rfl (by decide) (ttKc ujzc12.1 (a := 196) (κ := 20) (len := 93696) ⟨rfl, rfl⟩ (by decide) (by decide)).1 (by omega) (by rw [(ttKc ujzc12.1 (a := 196) (κ := 20) (len := 93696) ⟨rfl, rfl⟩ (by decide) (by decide)).2]; omega) ?_
    have ujzc13 := ttPuT ujzc12.1 ujzc12.2.2 (a := 196) (j := q) (x := (-1)) (by decide) (fun _ _ => ttTyr rfl (by omega) (by omega)) ⟨(196, q, q), by simp [yyEL], ⟨⟨by decide, rfl⟩, by show (q : Int) ≤ q; omega, by show q ≤ (q : Int); omega⟩⟩
    obtain ⟨ujZ13, ujzk13⟩ : ∃ X : xH, X = (xUp ujZ12.1 196 q (-1), ujZ12.2) := ⟨_, rfl⟩
    rw [← ujzk13] at ujzc13 ⊢
    have ujzd13 : yyD H.1 p h t w (ujZ13.1 196 q) := by
      rw [show ujZ13.1 196 q = (-1) from by rw [ujzk13]; exact up_eq]
      exact Or.inl rfl
    have zx13 : ttXX YY ujZ13 := yyPutX hX ujzc13.2 p0 p1 h0 h1 t0 t1 x0 x1 w0 w1 hq ujzd13
    refine q_al (pc := 41) (i := 0) (x := 183) rfl rfl ?_
    refine q_gf (pc := 42) (m := 12282) (t := 2) (c := 28) rfl (ttKc ujzc13.1 (a := 183) (κ := 12) (len := 0) ⟨rfl, rfl⟩ (by decide) (by decide)).1 rfl rfl ?_
    rw [show ujZ13.1 183 28 = 197 from ttFx ujzc13.1 (by decide) (by decide) rfl rfl rfl]
    refine q_il (pc := 43) (i := 7) (x := q) rfl rfl ?_
    refine q_il (pc := 44) (i := 8) (x := m) rfl rfl ?_
    refine q_if (pc := 45) rfl (fun h45 => ?_) (fun h45 => ?_)
    · replace h45 : m = 0 := h45
      refine q_ic (pc := 48) (v := 0) rfl ?_
      exact h4 m 0 (by decide) (by decide) ujZ13 _ _ _ _ _ _ _ ujzc13.1 zx13 ujzc13.2 ujzd13
    · replace h45 : m ≠ 0 := h45
      refine q_ic (pc := 46) (v := 10000) rfl ?_
      refine q_go (pc := 47) rfl ?_
      exact h4 m 10000 (by decide) (by decide) ujZ13 _ _ _ _ _ _ _ ujzc13.1 zx13 ujzc13.2 ujzd13
  refine xC_of (L := [(2, 183), (0, ru), (0, p), (0, h), (0, t), (0, x), (0, w), (9, 0), (9, 0), (9, 0), (9, 0), (9, 0), (9, 0), (9, 0), (9, 0), (9, 0)]) (cd := cd_272) rfl rfl rfl ?_
  refine q_il (pc := 0) (i := 2) (x := p) rfl rfl ?_
  refine q_il (pc := 1) (i := 3) (x := h) rfl rfl ?_
  refine q_il (pc := 2) (i := 4) (x := t) rfl rfl ?_
  refine q_il (pc := 3) (i := 5) (x := x) rfl rfl ?_
  refine q_il (pc := 4) (i := 6) (x := w) rfl rfl ?_
  refine q_ij (pc := 5) (q := 2143940) rfl rfl rfl trivial ?_
  refine lf_state (by omega) (by omega) (by omega) (by omega) (by omega) (by omega) (by omega) (by omega) (by omega) (by omega) (by omega) ?_
  rw [← hq]
  refine q_is (pc := 6) (i := 7) (L' := [(2, 183), (0, ru), (0, p), (0, h), (0, t), (0, x), (0, w), (0, q), (9, 0), (9, 0), (9, 0), (9, 0), (9, 0), (9, 0), (9, 0), (9, 0)]) rfl rfl rfl ?_
  refine q_al (pc := 7) (i := 0) (x := 183) rfl rfl ?_
  refine q_il (pc := 8) (i := 2) (x := p) rfl rfl ?_
  refine q_ic (pc := 9) (v := 1) rfl ?_
  refine q_iv (pc := 10) (q := 1664972) rfl rfl rfl (ttKc hT (a := 183) (κ := 12) (len := 0) ⟨rfl, rfl⟩ (by decide) (by decide)).1 ?_
  refine lf_ofPlace (j := (21 + 8 * p)) (by omega) (by omega) hT (by omega) (by omega) (by omega) (by omega) ?_
  refine q_ic (pc := 11) (v := 2) rfl ?_
  refine q_i2 (pc := 12) rfl (fun h12 => ?_) (fun h12 => ?_)
  · replace h12 : (H.1 184 (21 + 8 * p)) ≠ 2 := h12
    refine q_ic (pc := 15) (v := 0) rfl ?_
    refine q_is (pc := 16) (i := 8) (L' := [(2, 183), (0, ru), (0, p), (0, h), (0, t), (0, x), (0, w), (0, q), (0, 0), (9, 0), (9, 0), (9, 0), (9, 0), (9, 0), (9, 0), (9, 0)]) rfl rfl rfl ?_
    refine q_al (pc := 17) (i := 0) (x := 183) rfl rfl ?_
    refine q_gf (pc := 18) (m := 12262) (t := 2) (c := 26) rfl (ttKc hT (a := 183) (κ := 12) (len := 0) ⟨rfl, rfl⟩ (by decide) (by decide)).1 rfl rfl ?_
    rw [show H.1 183 26 = 195 from ttFx hT (by decide) (by decide) rfl rfl rfl]
    refine q_il (pc := 19) (i := 7) (x := q) rfl rfl ?_
    refine q_il (pc := 20) (i := 1) (x := ru) rfl rfl ?_
    refine q_ic (pc := 21) (v := 2) rfl ?_
    refine q_i2 (pc := 22) rfl (fun h22 => ?_) (fun h22 => ?_)
    · replace h22 : ru ≠ 2 := h22
      refine q_al (pc := 31) (i := 0) (x := 183) rfl rfl ?_
      refine q_il (pc := 32) (i := 2) (x := p) rfl rfl ?_
      refine q_il (pc := 33) (i := 4) (x := t) rfl rfl ?_
      refine q_iv (pc := 34) (q := 2144972) rfl rfl rfl (ttKc hT (a := 183) (κ := 12) (len := 0) ⟨rfl, rfl⟩ (by decide) (by decide)).1 ?_
      refine hw_landingOf (ttXX_out yyStab (fun _ _ => trivial)) e (by show 2 ≤ e; omega) [(2, 183), (0, p), (0, t)] H hT hX ⟨⟨rfl, ttPk_of rfl⟩, ⟨rfl, ttPi_of (by omega) (by omega)⟩, ⟨rfl, ttPi_of (by omega) (by omega)⟩, trivial⟩ (fun _ hq => absurd hq List.not_mem_nil) _ (fun ujr14 ujK14 ujzT14 ujzX14 ujzF14 ujzr14 _ => ?_)
      replace ujzr14 : -9999 ≤ ujr14 ∧ ujr14 ≤ 9999 := by obtain ⟨p, hp, hr⟩ := ujzr14; rw [List.mem_singleton.mp hp] at hr; exact ttPi hr
      replace ujzF14 := ttFr_tr (ttFr_rf (yyEL q) H) ujzF14 (fun _ => rfl) rfl
      exact h3 _ _ (by omega) (by omega) ujK14 _ _ _ _ _ _ _ ujzT14 ujzX14 ujzF14
    · replace h22 : ru = 2 := h22
      refine q_il (pc := 23) (i := 8) (x := 0) rfl rfl ?_
      refine q_if (pc := 24) rfl (fun h24 => ?_) (fun h24 => ?_)
      · replace h24 : (0 : Int) = 0 := h24
        refine q_ic (pc := 29) (v := 0) rfl ?_
        refine q_go (pc := 30) rfl ?_
        exact h3 _ _ (by omega) (by omega) H _ _ _ _ _ _ _ hT hX (ttFr_rf (yyEL q) H)
      · replace h24 : (0 : Int) ≠ 0 := h24
        omega
  · replace h12 : (H.1 184 (21 + 8 * p)) = 2 := h12
    refine q_ic (pc := 13) (v := 1) rfl ?_
    refine q_go (pc := 14) rfl ?_
    refine q_is (pc := 16) (i := 8) (L' := [(2, 183), (0, ru), (0, p), (0, h), (0, t), (0, x), (0, w), (0, q), (0, 1), (9, 0), (9, 0), (9, 0), (9, 0), (9, 0), (9, 0), (9, 0)]) rfl rfl rfl ?_
    refine q_al (pc := 17) (i := 0) (x := 183) rfl rfl ?_
    refine q_gf (pc := 18) (m := 12262) (t := 2) (c := 26) rfl (ttKc hT (a := 183) (κ := 12) (len := 0) ⟨rfl, rfl⟩ (by decide) (by decide)).1 rfl rfl ?_
    rw [show H.1 183 26 = 195 from ttFx hT (by decide) (by decide) rfl rfl rfl]
    refine q_il (pc := 19) (i := 7) (x := q) rfl rfl ?_
    refine q_il (pc := 20) (i := 1) (x := ru) rfl rfl ?_
    refine q_ic (pc := 21) (v := 2) rfl ?_
    refine q_i2 (pc := 22) rfl (fun h22 => ?_) (fun h22 => ?_)
    · replace h22 : ru ≠ 2 := h22
      refine q_al (pc := 31) (i := 0) (x := 183) rfl rfl ?_
      refine q_il (pc := 32) (i := 2) (x := p) rfl rfl ?_
      refine q_il (pc := 33) (i := 4) (x := t) rfl rfl ?_
      refine q_iv (pc := 34) (q := 2144972) rfl rfl rfl (ttKc hT (a := 183) (κ := 12) (len := 0) ⟨rfl, rfl⟩ (by decide) (by decide)).1 ?_
      refine hw_landingOf (ttXX_out yyStab (fun _ _ => trivial)) e (by show 2 ≤ e; omega) [(2, 183), (0, p), (0, t)] H hT hX ⟨⟨rfl, ttPk_of rfl⟩, ⟨rfl, ttPi_of (by omega) (by omega)⟩, ⟨rfl, ttPi_of (by omega) (by omega)⟩, trivial⟩ (fun _ hq => absurd hq List.not_mem_nil) _ (fun ujr15 ujK15 ujzT15 ujzX15 ujzF15 ujzr15 _ => ?_)
      replace ujzr15 : -9999 ≤ ujr15 ∧ ujr15 ≤ 9999 := by obtain ⟨p, hp, hr⟩ := ujzr15; rw [List.mem_singleton.mp hp] at hr; exact ttPi hr
      replace ujzF15 := ttFr_tr (ttFr_rf (yyEL q) H) ujzF15 (fun _ => rfl) rfl
      exact h3 _ _ (by omega) (by omega) ujK15 _ _ _ _ _ _ _ ujzT15 ujzX15 ujzF15
    · replace h22 : ru = 2 := h22
      refine q_il (pc := 23) (i := 8) (x := 1) rfl rfl ?_
      refine q_if (pc := 24) rfl (fun h24 => ?_) (fun h24 => ?_)
      · replace h24 : (1 : Int) = 0 := h24
        omega
      · replace h24 : (1 : Int) ≠ 0 := h24
        refine q_ic (pc := 25) (v := 10000) rfl ?_
        refine q_il (pc := 26) (i := 4) (x := t) rfl rfl ?_
        refine q_ib (pc := 27) rfl (by omega) (by omega) ?_
        refine q_go (pc := 28) rfl ?_
        exact h3 _ _ (by omega) (by omega) H _ _ _ _ _ _ _ hT hX (ttFr_rf (yyEL q) H)
