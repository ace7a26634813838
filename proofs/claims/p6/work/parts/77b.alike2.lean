/-! the law: the skies and the images alike -/
theorem skR_G {D : xD} {b : Int} {S S' : tSa} {R R' : Int → Int} {h : Int} (y : skR D b (S, R, h)) (h3 : R 3 ≤ 6) (h4 : R 4 ≤ 20) (f : ∀ i : Int, 0 ≤ i → i < 196 → R' i = R i) : skR D b (S', R', h) := by
  obtain ⟨y1, y2, y3, y4, y5, y6⟩ := y
  have y5 : skI D b R := y5
  refine ⟨skA_c y1 (fun _ _ => rfl) (fun i i0 i1 _ _ => f i i0 (by omega)), skP_c y2 (fun _ _ _ _ => rfl) (f 1 (by decide) (by decide)) (fun i i0 i1 => f i (by omega) (by omega)), skL_c y3 (fun _ _ _ _ => rfl) (f 2 (by decide) (by decide)) (fun i i0 i1 => f i (by omega) (by omega)), skV_c y4 h3 (fun _ _ _ _ => rfl) (f 3 (by decide) (by decide)) (fun i i0 i1 => f i (by omega) (by omega)), ⟨y5.1.trans (f 4 (by decide) (by decide)).symm, fun s s0 s1 => ?_⟩, skH_c y6 rfl (f 1 (by decide) (by decide)) (fun p p0 p1 => f _ (by omega) (by omega))⟩
  have s1 : s < R' 4 := s1
  rw [f 4 (by decide) (by decide)] at s1
  show D (b + 7) s = R' (156 + 2 * s) ∧ D (b + 8) s = R' (156 + 2 * s + 1)
  rw [f _ (by omega) (by omega), f (156 + 2 * s + 1) (by omega) (by omega)]
  exact y5.2 s s0 s1
def lwSk (D : xD) (b : Int) (R : Int → Int) : Prop := (∃ h : Int, skR D b (zZ0.1, R, h)) ∧ R 3 ≤ 6 ∧ R 4 ≤ 20
theorem lwSk_c {D D' : xD} {b : Int} {R R' : Int → Int} (h : lwSk D b R) (e : ∀ a j : Int, b ≤ a → a ≤ b + 26 → D' a j = D a j) (f : ∀ i : Int, 0 ≤ i → i < 196 → R' i = R i) : lwSk D' b R' := by
  obtain ⟨⟨y, hy⟩, h3, h4⟩ := h
  have k3 : R' 3 ≤ 6 := by rw [f 3 (by decide) (by decide)]; exact h3
  exact ⟨⟨y, skR_D (skR_G hy h3 h4 f) k3 e⟩, k3, by rw [f 4 (by decide) (by decide)]; exact h4⟩
theorem lwSk_i {K : xH} (kT : ttTI K) {b : Int} (hB : skB b) {S : tSa} {R : Int → Int} {h : Int} (y : skR K.1 b (S, R, h)) : lwSk K.1 b R := by
  have w := sk_ro hB (o := 6) (by decide) (by decide)
  have u := ttMc kT (a := b + 6) (j := 0) w.2.1 w.2.2 (by decide) (by rw [w.1]; decide)
  rw [w.1] at u
  have u : 0 ≤ K.1 (b + 6) 0 ∧ K.1 (b + 6) 0 ≤ 20 := u
  have e : K.1 (b + 6) 0 = R 4 := y.2.2.2.2.1.1
  exact ⟨⟨h, y⟩, rW3 kT hB y, by rw [← e]; exact u.2⟩
def lwI (H : xH) (k : Int) : Prop := (H.1 61 k = 102 + 27 * k ∧ skW H.1 (102 + 27 * k)) ∧ H.1 62 k = H.1 186 k ∧ (H.1 62 k ≠ 0 → lwSk H.1 (102 + 27 * k) (fun j => H.1 185 (196 * k + j)))
def lwR4 (H : xH) : Prop := lwSk H.1 (H.1 1 5) (H.1 184) ∧ ∀ k : Int, 0 ≤ k → k ≤ 2 → lwI H k
def lwRR (H : xH) : Prop := lwRO H ∧ lwR4 H
def lwZ (ef : ttEf) (a : Nat) : Bool := ef.2.all (fun q => decide (q.1 ≠ a))
def lwCs (ef : ttEf) : Bool := ef.2.all (fun q => decide (q.1 < 7) || decide (24 < q.1))
def lwC4 (ef : ttEf) : Bool := (skWe ef && lwCs ef) && ((lwZ ef 61 && lwZ ef 62) && ((lwZ ef 184 && lwZ ef 185) && (lwZ ef 186 && lwNo ef 1 5)))
def lwCk (ef : ttEf) : Bool := lwCo ef && lwC4 ef
theorem lwRO_5 {H : xH} (h : lwRO H) : H.1 1 5 = 7 ∨ H.1 1 5 = 34 := h.2.1.imp And.left And.left
theorem lwRO_W {H : xH} (h : lwRO H) {b : Int} (hb : b = 7 ∨ b = 34) : skW H.1 b := by
  rcases hb with rfl | rfl
  · exact h.2.2.1.1
  · exact h.2.2.1.2
theorem lwR4_f {ef : ttEf} {H K : xH} (hF : ttFr ef H K) (hn : 210 ≤ (H.2.2.2.1 : Int)) (c : lwC4 ef = true) (h5 : H.1 1 5 = 7 ∨ H.1 1 5 = 34) (h : lwR4 H) : lwR4 K := by
  obtain ⟨c1, c2⟩ := zz_and c
  obtain ⟨c3, c4⟩ := zz_and c1
  obtain ⟨c5, c6⟩ := zz_and c2
  obtain ⟨d1, d2⟩ := zz_and c5
  obtain ⟨c7, c8⟩ := zz_and c6
  obtain ⟨d4, d5⟩ := zz_and c7
  obtain ⟨d6, d7⟩ := zz_and c8
  have e5 : K.1 1 5 = H.1 1 5 := lwNo_ok hF hn (a := 1) (by decide) rfl d7
  have hB : skB (H.1 1 5) := skB_2 h5
  refine ⟨?_, fun k k0 k2 => ?_⟩
  · rw [e5]
    exact lwSk_c h.1 (fun a j a0 a1 => sk_fr hF hn hB c4 a0 a1) (fun i _ _ => fr_no hF 184 (by omega) rfl d4)
  · obtain ⟨⟨i1, i2⟩, i3, i4⟩ := h.2 k k0 k2
    have hC := im_c k0 k2
    have e1 : K.1 62 k = H.1 62 k := fr_no hF 62 (by omega) rfl d2
    have e2 : K.1 186 k = H.1 186 k := fr_no hF 186 (by omega) rfl d6
    have e3 : K.1 61 k = H.1 61 k := fr_no hF 61 (by omega) rfl d1
    refine ⟨⟨e3.trans i1, skW_fr hF hn hC c3 i2⟩, by rw [e1, e2]; exact i3, fun y => ?_⟩
    rw [e1] at y
    exact lwSk_c (i4 y) (fun a j a0 a1 => sk_fr hF hn hC c4 a0 a1) (fun i _ _ => fr_no hF 185 (by omega) rfl d5)
theorem lwRR_f {ef : ttEf} {H K : xH} (hF : ttFr ef H K) (hn : 210 ≤ (H.2.2.2.1 : Int)) (c : lwCk ef = true) (h : lwRR H) : lwRR K :=
  ⟨lwRO_f hF hn (zz_and c).1 h.1, lwR4_f hF hn (zz_and c).2 (lwRO_5 h.1) h.2⟩
theorem lwRR_fr {e1 e2 : ttEf} {H M K : xH} (hn : 210 ≤ (H.2.2.2.1 : Int)) (h1 : ttFr e1 H M) (h2 : ttFr e2 M K) (c1 : lwCk e1 = true) (c2 : lwCk e2 = true) (hR : lwRR H) : lwRR K :=
  lwRR_f h2 (by have := h1.2.1; omega) c2 (lwRR_f h1 hn c1 hR)
theorem lwRR_D {H K : xH} (e : K.1 = H.1) (h : lwRR H) : lwRR K := by
  unfold lwRR lwRO lwR3 lwR4 lwI at *
  rw [e]; exact h
/-- a frame of both, but for what is told -/
theorem lwI_c {H K : xH} {k : Int} (h : lwI H k) (e1 : K.1 61 k = H.1 61 k) (e2 : K.1 62 k = H.1 62 k) (e3 : K.1 186 k = H.1 186 k) (w : skW K.1 (102 + 27 * k)) (e : ∀ a j : Int, 102 + 27 * k ≤ a → a ≤ 102 + 27 * k + 26 → K.1 a j = H.1 a j) (f : ∀ j : Int, 0 ≤ j → j < 196 → K.1 185 (196 * k + j) = H.1 185 (196 * k + j)) : lwI K k := by
  obtain ⟨⟨i1, i2⟩, i3, i4⟩ := h
  refine ⟨⟨e1.trans i1, w⟩, by rw [e2, e3]; exact i3, fun y => ?_⟩
  rw [e2] at y
  exact lwSk_c (i4 y) e f
theorem rs_sky {H M K : xH} {T : tSm} {E : tZ} {b b2 r r2 : Int} (hn : 210 ≤ (H.2.2.2.1 : Int)) (hR : lwRR H) (hb : (b = 7 ∧ b2 = 34) ∨ (b = 34 ∧ b2 = 7)) (h5 : H.1 1 5 = b2) (mT : ttTI M) (MF : ttFr (true, [(1, 1, 1), (1, 3, 6), (3, 4, 9), (4, 0, 1600), (5, 0, 1600), (6, 0, 1600), (7, 4, 18), (10, 0, 0), (11, 0, 5), (12, 0, 5), (13, 0, 0), (16, 0, 6), (24, 0, 5), (63, 6, 6), (64, 0, 16), (65, 0, 239), (66, 0, 239), (67, 0, 239), (68, 0, 239), (69, 0, 239), (70, 0, 15), (210, 9, 9)]) H M) (KF : ttFr (true, [(183, 5, 5), (183, 7, 13), (183, 15, 15), (189, 0, 195), (184, 0, 195), (193, 0, 975), (183, 22, 22), (183, 29, 29)]) M K) (w1 : r1W b b2 E r M) (mO : skO b H M) (w2 : r2W T E r2 K) (k4 : E.1.2.1 ≠ 0 → ∀ j : Int, K.1 184 j = M.1 184 j) (k5 : K.1 183 5 = 0) : lwRR K ∧ r = r2 := by
  obtain ⟨ro, eq⟩ := rr_sky hn hR.1 hb MF KF w1 w2 k5
  have nM : 210 ≤ (M.2.2.2.1 : Int) := by have := MF.2.1; omega
  have hB : skB b := skB_2 (by omega)
  have hB2 : skB (H.1 1 5) := skB_2 (lwRO_5 hR.1)
  refine ⟨⟨ro, ?_, fun k k0 k2 => ?_⟩, eq⟩
  · by_cases f : E.1.2.1 = 0
    · obtain ⟨-, q5, -, q⟩ := w1.2.2.2 f
      have e5 : K.1 1 5 = b := (fr_no KF 1 (by omega) rfl (by decide)).trans q5
      rw [e5]
      exact lwSk_c (lwSk_i mT hB q) (fun a j a0 a1 => sk_fr KF nM hB (by decide) a0 a1) (fun i i0 i1 => (w2.2.2 f).2 i i0 i1)
    · obtain ⟨-, q5, -⟩ := w1.2.2.1 f
      have e5 : K.1 1 5 = H.1 1 5 := (fr_no KF 1 (by omega) rfl (by decide)).trans (q5.trans h5.symm)
      rw [e5]
      exact lwSk_c hR.2.1 (fun a j a0 a1 => (sk_fr KF nM hB2 (by decide) a0 a1).trans (mO _ hB2 (by omega) a j a0 a1)) (fun i _ _ => (k4 f i).trans (fr_no MF 184 (by omega) rfl (by decide)))
  · have hC := im_c k0 k2
    exact lwI_c (hR.2.2 k k0 k2) ((fr_no KF 61 (by omega) rfl (by decide)).trans (fr_no MF 61 (by omega) rfl (by decide))) ((fr_no KF 62 (by omega) rfl (by decide)).trans (fr_no MF 62 (by omega) rfl (by decide))) ((fr_no KF 186 (by omega) rfl (by decide)).trans (fr_no MF 186 (by omega) rfl (by decide))) (skW_fr KF nM hC (by decide) (skW_fr MF hn hC (by decide) (hR.2.2 k k0 k2).1.2)) (fun a j a0 a1 => (sk_fr KF nM hC (by decide) a0 a1).trans (mO _ hC (by omega) a j a0 a1)) (fun j _ _ => (fr_no KF 185 (by omega) rfl (by decide)).trans (fr_no MF 185 (by omega) rfl (by decide)))
theorem rs_sight {H M K : xH} {b h : Int} {S : tSa} {R' : Int → Int} (hn : 210 ≤ (H.2.2.2.1 : Int)) (hR : lwRR H) (h5 : H.1 1 5 = b) (mT : ttTI M) (MF : ttFr (true, [(13, 0, 0), (14, 0, 19), (15, 0, 19), (210, 9, 9)]) H M) (KF : ttFr (true, [(183, 22, 22), (183, 29, 29), (184, 4, 4), (184, 156, 195), (193, 0, 975)]) M K) (q : skR M.1 b (S, R', h)) (mO : skO b H M) (k4 : ∀ j : Int, K.1 184 j = R' j) : lwRR K := by
  have nM : 210 ≤ (M.2.2.2.1 : Int) := by have := MF.2.1; omega
  have hb := lwRO_5 hR.1
  have hB : skB b := by rw [← h5]; exact skB_2 hb
  have e5 : K.1 1 5 = b := (fr_no KF 1 (by omega) rfl (by decide)).trans ((fr_no MF 1 (by omega) rfl (by decide)).trans h5)
  refine ⟨lwRO_f KF nM (by decide) (lwRO_f MF hn (by decide) hR.1), ?_, fun k k0 k2 => ?_⟩
  · rw [e5]
    exact lwSk_c (lwSk_i mT hB q) (fun a j a0 a1 => sk_fr KF nM hB (by decide) a0 a1) (fun i _ _ => k4 i)
  · have hC := im_c k0 k2
    exact lwI_c (hR.2.2 k k0 k2) ((fr_no KF 61 (by omega) rfl (by decide)).trans (fr_no MF 61 (by omega) rfl (by decide))) ((fr_no KF 62 (by omega) rfl (by decide)).trans (fr_no MF 62 (by omega) rfl (by decide))) ((fr_no KF 186 (by omega) rfl (by decide)).trans (fr_no MF 186 (by omega) rfl (by decide))) (skW_fr KF nM hC (by decide) (skW_fr MF hn hC (by decide) (hR.2.2 k k0 k2).1.2)) (fun a j a0 a1 => (sk_fr KF nM hC (by decide) a0 a1).trans (mO _ hC (by omega) a j a0 a1)) (fun j _ _ => (fr_no KF 185 (by omega) rfl (by decide)).trans (fr_no MF 185 (by omega) rfl (by decide)))
theorem rs_unsee {H M K : xH} {b h : Int} {S : tSa} {R' : Int → Int} (hn : 210 ≤ (H.2.2.2.1 : Int)) (hR : lwRR H) (h5 : H.1 1 5 = b) (mT : ttTI M) (MF : ttFr (true, [(13, 0, 0), (210, 9, 9)]) H M) (KF : ttFr (true, [(183, 22, 22), (183, 29, 29), (184, 4, 4), (193, 0, 975)]) M K) (q : skR M.1 b (S, R', h)) (mO : skO b H M) (k4 : ∀ j : Int, K.1 184 j = R' j) : lwRR K := by
  have nM : 210 ≤ (M.2.2.2.1 : Int) := by have := MF.2.1; omega
  have hb := lwRO_5 hR.1
  have hB : skB b := by rw [← h5]; exact skB_2 hb
  have e5 : K.1 1 5 = b := (fr_no KF 1 (by omega) rfl (by decide)).trans ((fr_no MF 1 (by omega) rfl (by decide)).trans h5)
  refine ⟨lwRO_f KF nM (by decide) (lwRO_f MF hn (by decide) hR.1), ?_, fun k k0 k2 => ?_⟩
  · rw [e5]
    exact lwSk_c (lwSk_i mT hB q) (fun a j a0 a1 => sk_fr KF nM hB (by decide) a0 a1) (fun i _ _ => k4 i)
  · have hC := im_c k0 k2
    exact lwI_c (hR.2.2 k k0 k2) ((fr_no KF 61 (by omega) rfl (by decide)).trans (fr_no MF 61 (by omega) rfl (by decide))) ((fr_no KF 62 (by omega) rfl (by decide)).trans (fr_no MF 62 (by omega) rfl (by decide))) ((fr_no KF 186 (by omega) rfl (by decide)).trans (fr_no MF 186 (by omega) rfl (by decide))) (skW_fr KF nM hC (by decide) (skW_fr MF hn hC (by decide) (hR.2.2 k k0 k2).1.2)) (fun a j a0 a1 => (sk_fr KF nM hC (by decide) a0 a1).trans (mO _ hC (by omega) a j a0 a1)) (fun j _ _ => (fr_no KF 185 (by omega) rfl (by decide)).trans (fr_no MF 185 (by omega) rfl (by decide)))
theorem rs_keep {H M K : xH} {k : Int} (hn : 210 ≤ (H.2.2.2.1 : Int)) (hR : lwRR H) (MF : ttFr (true, [(7, 4, 18), (10, 0, 0), (11, 0, 5), (12, 0, 5), (13, 0, 0), (14, 0, 19), (15, 0, 19), (16, 0, 6), (24, 0, 5), (62, 0, 2)]) H M) (KF : ttFr (true, [(185, 0, 587), (186, 0, 2)]) M K) (mz : ∀ j : Int, M.1 62 j = if (0 ≤ k ∧ k ≤ 2) ∧ j = k then 1 else H.1 62 j) (kz : ∀ j : Int, K.1 186 j = if (0 ≤ k ∧ k ≤ 2) ∧ j = k then 1 else M.1 186 j) (m1 : 0 ≤ k ∧ k ≤ 2 → (∀ x j : Int, (x < 102 + 27 * k ∨ 128 + 27 * k < x) → x ≠ 62 → M.1 x j = H.1 x j) ∧ skE H.1 (H.1 1 5) M.1 (102 + 27 * k)) (m2 : ¬ (0 ≤ k ∧ k ≤ 2) → M.1 = H.1) (k1 : 0 ≤ k ∧ k ≤ 2 → (∀ j : Int, 0 ≤ j → j < 196 → K.1 185 (196 * k + j) = M.1 184 j) ∧ (∀ j : Int, (j < 196 * k ∨ 196 * k + 195 < j) → K.1 185 j = M.1 185 j)) (k2 : ¬ (0 ≤ k ∧ k ≤ 2) → K.1 = M.1) : lwRR K := by
  have nM : 210 ≤ (M.2.2.2.1 : Int) := by have := MF.2.1; omega
  by_cases c : 0 ≤ k ∧ k ≤ 2
  · obtain ⟨m3, m4⟩ := m1 c
    obtain ⟨k3, k4⟩ := k1 c
    have h5 := lwRO_5 hR.1
    have hB : skB (H.1 1 5) := skB_2 h5
    have bi := skB_in hB
    have e5 : K.1 1 5 = H.1 1 5 := (fr_no KF 1 (by omega) rfl (by decide)).trans (fr_no MF 1 (by omega) rfl (by decide))
    have e4 : ∀ j : Int, M.1 184 j = H.1 184 j := fun j => fr_no MF 184 (by omega) rfl (by decide)
    have f4 : ∀ j : Int, K.1 184 j = M.1 184 j := fun j => fr_no KF 184 (by omega) rfl (by decide)
    refine ⟨lwRO_f KF nM (by decide) (lwRO_f MF hn (by decide) hR.1), ?_, fun i i0 i2 => ?_⟩
    · rw [e5]
      exact lwSk_c hR.2.1 (fun a j a0 a1 => (sk_fr KF nM hB (by decide) a0 a1).trans (m3 a j (by omega) (by omega))) (fun i _ _ => (f4 i).trans (e4 i))
    · have hC := im_c i0 i2
      have w : skW K.1 (102 + 27 * i) := skW_fr KF nM hC (by decide) (skW_fr MF hn hC (by decide) (hR.2.2 i i0 i2).1.2)
      have e1 : K.1 61 i = H.1 61 i := (fr_no KF 61 (by omega) rfl (by decide)).trans (fr_no MF 61 (by omega) rfl (by decide))
      have e2 : K.1 62 i = M.1 62 i := fr_no KF 62 (by omega) rfl (by decide)
      have e3 : M.1 186 i = H.1 186 i := fr_no MF 186 (by omega) rfl (by decide)
      by_cases z : i = k
      · subst z
        have u2 : K.1 62 i = 1 := by rw [e2, mz i, if_pos ⟨c, rfl⟩]
        have u3 : K.1 186 i = 1 := by rw [kz i, if_pos ⟨c, rfl⟩]
        refine ⟨⟨e1.trans (hR.2.2 i i0 i2).1.1, w⟩, u2.trans u3.symm, fun _ => ?_⟩
        obtain ⟨⟨h, y⟩, y3, y4⟩ := hR.2.1
        have q : lwSk M.1 (102 + 27 * i) (H.1 184) := ⟨⟨h, skR_E y m4 y3 y4⟩, y3, y4⟩
        exact lwSk_c q (fun a j a0 a1 => sk_fr KF nM hC (by decide) a0 a1) (fun j j0 j1 => (k3 j j0 j1).trans (e4 j))
      · have u2 : K.1 62 i = H.1 62 i := by rw [e2, mz i, if_neg (fun y => z y.2)]
        have u3 : K.1 186 i = H.1 186 i := by rw [kz i, if_neg (fun y => z y.2), e3]
        exact lwI_c (hR.2.2 i i0 i2) e1 u2 u3 w (fun a j a0 a1 => (sk_fr KF nM hC (by decide) a0 a1).trans (m3 a j (by omega) (by omega))) (fun j j0 j1 => (k4 _ (by omega)).trans (fr_no MF 185 (by omega) rfl (by decide)))
  · exact lwRR_D ((k2 c).trans (m2 c)) hR
theorem rs_back {H M K : xH} {k : Int} (hn : 210 ≤ (H.2.2.2.1 : Int)) (hR : lwRR H) (MF : ttFr (true, [(7, 4, 18), (10, 0, 0), (11, 0, 5), (12, 0, 5), (13, 0, 0), (14, 0, 19), (15, 0, 19), (16, 0, 6), (24, 0, 5), (63, 6, 6), (64, 0, 16), (65, 0, 239), (66, 0, 239), (67, 0, 239), (68, 0, 239), (69, 0, 239), (70, 0, 15), (210, 9, 9)]) H M) (KF : ttFr (true, [(184, 0, 195), (193, 0, 975), (183, 22, 22), (183, 29, 29)]) M K) (m1 : (0 ≤ k ∧ k ≤ 2) ∧ H.1 62 k ≠ 0 → skE H.1 (102 + 27 * k) M.1 (H.1 1 5) ∧ skO (H.1 1 5) H M) (m2 : ¬ ((0 ≤ k ∧ k ≤ 2) ∧ H.1 62 k ≠ 0) → M.1 = H.1) (k1 : (0 ≤ k ∧ k ≤ 2) ∧ M.1 186 k ≠ 0 → ∀ j : Int, 0 ≤ j → j < 196 → K.1 184 j = M.1 185 (196 * k + j)) (k2 : ¬ ((0 ≤ k ∧ k ≤ 2) ∧ M.1 186 k ≠ 0) → K.1 = M.1) : lwRR K := by
  have nM : 210 ≤ (M.2.2.2.1 : Int) := by have := MF.2.1; omega
  have e6 : M.1 186 k = H.1 186 k := fr_no MF 186 (by omega) rfl (by decide)
  by_cases c : (0 ≤ k ∧ k ≤ 2) ∧ H.1 62 k ≠ 0
  · obtain ⟨m3, mO⟩ := m1 c
    have i3 := (hR.2.2 k c.1.1 c.1.2).2.1
    have k3 := k1 ⟨c.1, by rw [e6, ← i3]; exact c.2⟩
    have hB : skB (H.1 1 5) := skB_2 (lwRO_5 hR.1)
    have bi := skB_in hB
    have h5 := lwRO_5 hR.1
    have e5 : K.1 1 5 = H.1 1 5 := (fr_no KF 1 (by omega) rfl (by decide)).trans (fr_no MF 1 (by omega) rfl (by decide))
    refine ⟨lwRO_f KF nM (by decide) (lwRO_f MF hn (by decide) hR.1), ?_, fun i i0 i2 => ?_⟩
    · rw [e5]
      obtain ⟨⟨h, y⟩, y3, y4⟩ := (hR.2.2 k c.1.1 c.1.2).2.2 c.2
      have q : lwSk M.1 (H.1 1 5) (fun j => H.1 185 (196 * k + j)) := ⟨⟨h, skR_E y m3 y3 y4⟩, y3, y4⟩
      exact lwSk_c q (fun a j a0 a1 => sk_fr KF nM hB (by decide) a0 a1) (fun j j0 j1 => (k3 j j0 j1).trans (fr_no MF 185 (by omega) rfl (by decide)))
    · have hC := im_c i0 i2
      exact lwI_c (hR.2.2 i i0 i2) ((fr_no KF 61 (by omega) rfl (by decide)).trans (fr_no MF 61 (by omega) rfl (by decide))) ((fr_no KF 62 (by omega) rfl (by decide)).trans (fr_no MF 62 (by omega) rfl (by decide))) ((fr_no KF 186 (by omega) rfl (by decide)).trans (fr_no MF 186 (by omega) rfl (by decide))) (skW_fr KF nM hC (by decide) (skW_fr MF hn hC (by decide) (hR.2.2 i i0 i2).1.2)) (fun a j a0 a1 => (sk_fr KF nM hC (by decide) a0 a1).trans (mO _ hC (by omega) a j a0 a1)) (fun j _ _ => (fr_no KF 185 (by omega) rfl (by decide)).trans (fr_no MF 185 (by omega) rfl (by decide)))
  · have c2 : ¬ ((0 ≤ k ∧ k ≤ 2) ∧ M.1 186 k ≠ 0) := fun z => c ⟨z.1, by rw [(hR.2.2 k z.1.1 z.1.2).2.1, ← e6]; exact z.2⟩
    exact lwRR_D ((k2 c2).trans (m2 c)) hR
theorem lz_sight1 {dd : Nat} (hd : 3 ≤ dd) {H : xH} (hT : ttTI H) (hX : ttXX YY H) {b : Int} (hB : skB b) (h5 : H.1 1 5 = b) (hW : skW H.1 b) {S : tSa} {R : Int → Int} {h : Int} (hR : skR H.1 b (S, R, h)) (h36 : R 3 ≤ 6) {p : Int} {s : Int} (p0 : -2147483648 ≤ p) (p1 : p ≤ 2147483647) (s0 : -2147483648 ≤ s) (s1 : s ≤ 2147483647) {Q : Int → xH → Prop} (hq : ∀ r K, (r = rsSight R p s) → (skR K.1 b (S, rsSeen R p s, h)) → (skO b H K) → ttTI K → ttXX YY K → ttFr (true, [(13, 0, 0), (14, 0, 19), (15, 0, 19), (210, 9, 9)]) H K → Q r K) : xCall dd 143 [(2, 1), (0, p), (0, s)] H Q :=
  xCall_and ((hc_44 m8.1.1.1.1.1.1.1.1) dd (by show 2 ≤ dd; omega) [(2, 1), (0, p), (0, s)] H hT hX ⟨⟨rfl, ttPk_of rfl⟩, ⟨rfl, ttPi_of p0 p1⟩, ⟨rfl, ttPi_of s0 s1⟩, trivial⟩ (fun _ hq => absurd hq List.not_mem_nil) (fun _ K => ttTI K ∧ ttXX YY K ∧ ttFr (true, [(13, 0, 0), (14, 0, 19), (15, 0, 19), (210, 9, 9)]) H K) (fun _ _ t x f _ _ => ⟨t, x, f⟩)) (lx_sight1 (by omega) hT hX hB h5 hW hR h36 p0 p1 s0 s1 (Q := fun r K => (r = rsSight R p s) ∧ (skR K.1 b (S, rsSeen R p s, h)) ∧ (skO b H K)) (fun _ _ a1 a2 a3 => ⟨a1, a2, a3⟩)) (fun r K f g => hq r K g.1 g.2.1 g.2.2 f.1 f.2.1 f.2.2)
theorem lz_sight2 {dd : Nat} (hd : 4 ≤ dd) {H : xH} (hT : ttTI H) (hX : ttXX YY H)  {p : Int} {s : Int} (p0 : -2147483648 ≤ p) (p1 : p ≤ 2147483647) (s0 : -2147483648 ≤ s) (s1 : s ≤ 2147483647) {Q : Int → xH → Prop} (hq : ∀ r K, (r = rsSight (H.1 184) p s) → (K.1 184 = rsSeen (H.1 184) p s) → ttTI K → ttXX YY K → ttFr (true, [(183, 22, 22), (183, 29, 29), (184, 4, 4), (184, 156, 195), (193, 0, 975)]) H K → Q r K) : xCall dd 247 [(2, 183), (0, p), (0, s)] H Q :=
  xCall_and ((hc_208 m8.1.1.1.1) dd (by show 3 ≤ dd; omega) [(2, 183), (0, p), (0, s)] H hT hX ⟨⟨rfl, ttPk_of rfl⟩, ⟨rfl, ttPi_of p0 p1⟩, ⟨rfl, ttPi_of s0 s1⟩, trivial⟩ (fun _ hq => absurd hq List.not_mem_nil) (fun _ K => ttTI K ∧ ttXX YY K ∧ ttFr (true, [(183, 22, 22), (183, 29, 29), (184, 4, 4), (184, 156, 195), (193, 0, 975)]) H K) (fun _ _ t x f _ _ => ⟨t, x, f⟩)) (lx_sight2 (by omega) hT p0 p1 (Q := fun r K => (r = rsSight (H.1 184) p s) ∧ (K.1 184 = rsSeen (H.1 184) p s)) (fun _ _ a1 a2 => ⟨a1, a2⟩)) (fun r K f g => hq r K g.1 g.2 f.1 f.2.1 f.2.2)
theorem lz_unsee1 {dd : Nat} (hd : 3 ≤ dd) {H : xH} (hT : ttTI H) (hX : ttXX YY H) {b : Int} (hB : skB b) (h5 : H.1 1 5 = b) (hW : skW H.1 b) {S : tSa} {R : Int → Int} {h : Int} (hR : skR H.1 b (S, R, h)) (h36 : R 3 ≤ 6) {n : Int} (n0 : -2147483648 ≤ n) (n1 : n ≤ 2147483647) {Q : Int → xH → Prop} (hq : ∀ r K, (r = rsUns R n) → (skR K.1 b (S, rsUnsee R n, h)) → (skO b H K) → ttTI K → ttXX YY K → ttFr (true, [(13, 0, 0), (210, 9, 9)]) H K → Q r K) : xCall dd 144 [(2, 1), (0, n)] H Q :=
  xCall_and ((hc_45 m8.1.1.1.1.1.1.1.1) dd (by show 2 ≤ dd; omega) [(2, 1), (0, n)] H hT hX ⟨⟨rfl, ttPk_of rfl⟩, ⟨rfl, ttPi_of n0 n1⟩, trivial⟩ (fun _ hq => absurd hq List.not_mem_nil) (fun _ K => ttTI K ∧ ttXX YY K ∧ ttFr (true, [(13, 0, 0), (210, 9, 9)]) H K) (fun _ _ t x f _ _ => ⟨t, x, f⟩)) (lx_unsee1 (by omega) hT hX hB h5 hW hR h36 n0 n1 (Q := fun r K => (r = rsUns R n) ∧ (skR K.1 b (S, rsUnsee R n, h)) ∧ (skO b H K)) (fun _ _ a1 a2 a3 => ⟨a1, a2, a3⟩)) (fun r K f g => hq r K g.1 g.2.1 g.2.2 f.1 f.2.1 f.2.2)
theorem lz_unsee2 {dd : Nat} (hd : 4 ≤ dd) {H : xH} (hT : ttTI H) (hX : ttXX YY H)  {n : Int} (n0 : -2147483648 ≤ n) (n1 : n ≤ 2147483647) {Q : Int → xH → Prop} (hq : ∀ r K, (r = rsUns (H.1 184) n) → (K.1 184 = rsUnsee (H.1 184) n) → ttTI K → ttXX YY K → ttFr (true, [(183, 22, 22), (183, 29, 29), (184, 4, 4), (193, 0, 975)]) H K → Q r K) : xCall dd 248 [(2, 183), (0, n)] H Q :=
  xCall_and ((hc_209 m8.1.1.1.1) dd (by show 2 ≤ dd; omega) [(2, 183), (0, n)] H hT hX ⟨⟨rfl, ttPk_of rfl⟩, ⟨rfl, ttPi_of n0 n1⟩, trivial⟩ (fun _ hq => absurd hq List.not_mem_nil) (fun _ K => ttTI K ∧ ttXX YY K ∧ ttFr (true, [(183, 22, 22), (183, 29, 29), (184, 4, 4), (193, 0, 975)]) H K) (fun _ _ t x f _ _ => ⟨t, x, f⟩)) (lx_unsee2 (by omega) hT n0 n1 (Q := fun r K => (r = rsUns (H.1 184) n) ∧ (K.1 184 = rsUnsee (H.1 184) n)) (fun _ _ a1 a2 => ⟨a1, a2⟩)) (fun r K f g => hq r K g.1 g.2 f.1 f.2.1 f.2.2)
theorem lz_keep1 {dd : Nat} (hd : 6 ≤ dd) {H : xH} (hT : ttTI H) (hX : ttXX YY H) {b : Int} (hb : b = 7 ∨ b = 34) (h5 : H.1 1 5 = b) (hW : skW H.1 b) (hI : ∀ k : Int, 0 ≤ k → k ≤ 2 → H.1 61 k = 102 + 27 * k ∧ skW H.1 (102 + 27 * k)) {k : Int} (p1 : -2147483648 ≤ k ∧ k ≤ 2147483647) {Q : Int → xH → Prop} (hq : ∀ r K, (r = rsKeep k) → (∀ j : Int, K.1 62 j = if (0 ≤ k ∧ k ≤ 2) ∧ j = k then 1 else H.1 62 j) → (0 ≤ k ∧ k ≤ 2 → (∀ x j : Int, (x < 102 + 27 * k ∨ 128 + 27 * k < x) → x ≠ 62 → K.1 x j = H.1 x j) ∧ skE H.1 b K.1 (102 + 27 * k)) → (¬ (0 ≤ k ∧ k ≤ 2) → K.1 = H.1) → ttTI K → ttXX YY K → ttFr (true, [(7, 4, 18), (10, 0, 0), (11, 0, 5), (12, 0, 5), (13, 0, 0), (14, 0, 19), (15, 0, 19), (16, 0, 6), (24, 0, 5), (62, 0, 2)]) H K → Q r K) : xCall dd 193 [(2, 1), (0, k)] H Q :=
  xCall_and (lx_keep1 (by omega) hT hX p1 (Q := fun r K => (r = rsKeep k) ∧ (∀ j : Int, K.1 62 j = if (0 ≤ k ∧ k ≤ 2) ∧ j = k then 1 else H.1 62 j) ∧ ttTI K ∧ ttXX YY K ∧ ttFr (true, [(7, 4, 18), (10, 0, 0), (11, 0, 5), (12, 0, 5), (13, 0, 0), (14, 0, 19), (15, 0, 19), (16, 0, 6), (24, 0, 5), (62, 0, 2)]) H K) (fun _ _ e z t x f => ⟨e, z, t, x, f⟩)) (lx_keepC1 (by omega) hT hX hb h5 hW hI (Q := fun r K => (0 ≤ k ∧ k ≤ 2 → (∀ x j : Int, (x < 102 + 27 * k ∨ 128 + 27 * k < x) → x ≠ 62 → K.1 x j = H.1 x j) ∧ skE H.1 b K.1 (102 + 27 * k)) ∧ (¬ (0 ≤ k ∧ k ≤ 2) → K.1 = H.1)) (fun _ _ a1 a2 => ⟨a1, a2⟩)) (fun r K f g => hq r K f.1 f.2.1 g.1 g.2 f.2.2.1 f.2.2.2.1 f.2.2.2.2)
theorem lz_keep2 {dd : Nat} (hd : 3 ≤ dd) {H : xH} (hT : ttTI H) (hX : ttXX YY H) {k : Int} (p1 : -2147483648 ≤ k ∧ k ≤ 2147483647) {Q : Int → xH → Prop} (hq : ∀ r K, (r = rsKeep k) → (∀ j : Int, K.1 186 j = if (0 ≤ k ∧ k ≤ 2) ∧ j = k then 1 else H.1 186 j) → (0 ≤ k ∧ k ≤ 2 → (∀ j : Int, 0 ≤ j → j < 196 → K.1 185 (196 * k + j) = H.1 184 j) ∧ (∀ j : Int, (j < 196 * k ∨ 196 * k + 195 < j) → K.1 185 j = H.1 185 j)) → (¬ (0 ≤ k ∧ k ≤ 2) → K.1 = H.1) → ttTI K → ttXX YY K → ttFr (true, [(185, 0, 587), (186, 0, 2)]) H K → Q r K) : xCall dd 205 [(2, 183), (0, k)] H Q :=
  xCall_and (lx_keep2 (by omega) hT hX p1 (Q := fun r K => (r = rsKeep k) ∧ (∀ j : Int, K.1 186 j = if (0 ≤ k ∧ k ≤ 2) ∧ j = k then 1 else H.1 186 j) ∧ ttTI K ∧ ttXX YY K ∧ ttFr (true, [(185, 0, 587), (186, 0, 2)]) H K) (fun _ _ e z t x f => ⟨e, z, t, x, f⟩)) (lx_keepC2 (by omega) hT (Q := fun r K => (0 ≤ k ∧ k ≤ 2 → (∀ j : Int, 0 ≤ j → j < 196 → K.1 185 (196 * k + j) = H.1 184 j) ∧ (∀ j : Int, (j < 196 * k ∨ 196 * k + 195 < j) → K.1 185 j = H.1 185 j)) ∧ (¬ (0 ≤ k ∧ k ≤ 2) → K.1 = H.1)) (fun _ _ a1 a2 => ⟨a1, a2⟩)) (fun r K f g => hq r K f.1 f.2.1 g.1 g.2 f.2.2.1 f.2.2.2.1 f.2.2.2.2)
theorem lz_back1 {dd : Nat} (hd : 9 ≤ dd) {H : xH} (hT : ttTI H) (hX : ttXX YY H) {b : Int} (hb : b = 7 ∨ b = 34) (h5 : H.1 1 5 = b) (hW : skW H.1 b) (hI : ∀ k : Int, 0 ≤ k → k ≤ 2 → H.1 61 k = 102 + 27 * k ∧ skW H.1 (102 + 27 * k)) {k : Int} (p1 : -2147483648 ≤ k ∧ k ≤ 2147483647) {Q : Int → xH → Prop} (hq : ∀ r K, (r = rsBack (H.1 62) k) → ((0 ≤ k ∧ k ≤ 2) ∧ H.1 62 k ≠ 0 → skE H.1 (102 + 27 * k) K.1 b ∧ skO b H K) → (¬ ((0 ≤ k ∧ k ≤ 2) ∧ H.1 62 k ≠ 0) → K.1 = H.1) → ttTI K → ttXX YY K → ttFr (true, [(7, 4, 18), (10, 0, 0), (11, 0, 5), (12, 0, 5), (13, 0, 0), (14, 0, 19), (15, 0, 19), (16, 0, 6), (24, 0, 5), (63, 6, 6), (64, 0, 16), (65, 0, 239), (66, 0, 239), (67, 0, 239), (68, 0, 239), (69, 0, 239), (70, 0, 15), (210, 9, 9)]) H K → Q r K) : xCall dd 194 [(2, 1), (0, k)] H Q :=
  xCall_and (lx_back1 (by omega) hT hX p1 (Q := fun r K => (r = rsBack (H.1 62) k) ∧ ttTI K ∧ ttXX YY K ∧ ttFr (true, [(7, 4, 18), (10, 0, 0), (11, 0, 5), (12, 0, 5), (13, 0, 0), (14, 0, 19), (15, 0, 19), (16, 0, 6), (24, 0, 5), (63, 6, 6), (64, 0, 16), (65, 0, 239), (66, 0, 239), (67, 0, 239), (68, 0, 239), (69, 0, 239), (70, 0, 15), (210, 9, 9)]) H K) (fun _ _ e t x f => ⟨e, t, x, f⟩)) (lx_backC1 (by omega) hT hX hb h5 hW hI (Q := fun r K => ((0 ≤ k ∧ k ≤ 2) ∧ H.1 62 k ≠ 0 → skE H.1 (102 + 27 * k) K.1 b ∧ skO b H K) ∧ (¬ ((0 ≤ k ∧ k ≤ 2) ∧ H.1 62 k ≠ 0) → K.1 = H.1)) (fun _ _ a1 a2 => ⟨a1, a2⟩)) (fun r K f g => hq r K f.1 g.1 g.2 f.2.1 f.2.2.1 f.2.2.2)
theorem lz_back2 {dd : Nat} (hd : 3 ≤ dd) {H : xH} (hT : ttTI H) (hX : ttXX YY H) {k : Int} (p1 : -2147483648 ≤ k ∧ k ≤ 2147483647) {Q : Int → xH → Prop} (hq : ∀ r K, (r = rsBack (H.1 186) k) → ((0 ≤ k ∧ k ≤ 2) ∧ H.1 186 k ≠ 0 → ∀ j : Int, 0 ≤ j → j < 196 → K.1 184 j = H.1 185 (196 * k + j)) → (¬ ((0 ≤ k ∧ k ≤ 2) ∧ H.1 186 k ≠ 0) → K.1 = H.1) → ttTI K → ttXX YY K → ttFr (true, [(184, 0, 195), (193, 0, 975), (183, 22, 22), (183, 29, 29)]) H K → Q r K) : xCall dd 206 [(2, 183), (0, k)] H Q :=
  xCall_and (lx_back2 (by omega) hT hX p1 (Q := fun r K => (r = rsBack (H.1 186) k) ∧ ttTI K ∧ ttXX YY K ∧ ttFr (true, [(184, 0, 195), (193, 0, 975), (183, 22, 22), (183, 29, 29)]) H K) (fun _ _ e t x f => ⟨e, t, x, f⟩)) (lx_backC2 (by omega) hT (Q := fun r K => ((0 ≤ k ∧ k ≤ 2) ∧ H.1 186 k ≠ 0 → ∀ j : Int, 0 ≤ j → j < 196 → K.1 184 j = H.1 185 (196 * k + j)) ∧ (¬ ((0 ≤ k ∧ k ≤ 2) ∧ H.1 186 k ≠ 0) → K.1 = H.1)) (fun _ _ a1 a2 => ⟨a1, a2⟩)) (fun r K f g => hq r K f.1 g.1 g.2 f.2.1 f.2.2.1 f.2.2.2)
