/-! copies of skies -/
def skE (D : xD) (c : Int) (D' : xD) (b : Int) : Prop := (∀ j : Int, 4 ≤ j → j ≤ 18 → D' b j = D c j) ∧ (∀ p j : Int, 0 ≤ p → p ≤ 7 → 0 ≤ j → j ≤ 6 → D' (b + 9 + p) j = D (c + 9 + p) j) ∧ (∀ l j : Int, 0 ≤ l → l ≤ 9 → 0 ≤ j → j ≤ 5 → D' (b + 17 + l) j = D (c + 17 + l) j) ∧ (D' (b + 3) 0 = D (c + 3) 0 ∧ ∀ s : Int, 0 ≤ s → s ≤ 5 → D' (b + 4) s = D (c + 4) s ∧ D' (b + 5) s = D (c + 5) s) ∧ (D' (b + 6) 0 = D (c + 6) 0 ∧ ∀ s : Int, 0 ≤ s → s ≤ 19 → D' (b + 7) s = D (c + 7) s ∧ D' (b + 8) s = D (c + 8) s)
theorem skR_E {D D' : xD} {b c : Int} {Z : tZ} (h : skR D c Z) (e : skE D c D' b) (ujr3 : Z.2.1 3 ≤ 6) (ujr4 : Z.2.1 4 ≤ 20) : skR D' b Z := by
  obtain ⟨h1, h2, h3, h4, h5, h6⟩ := h
  obtain ⟨e1, e2, e3, ⟨e4, e5⟩, e6, e7⟩ := e
  refine ⟨fun q hq => ?_, fun p p0 p1 => ?_, ⟨fun l c l0 l1 l9 c0 c1 => ?_, h3.2⟩, ⟨e4.trans h4.1, fun s s0 s1 => ?_⟩, ⟨e6.trans h5.1, fun s s0 s1 => ?_⟩, ?_⟩
  · have w := (by decide : ∀ q ∈ skS, 4 ≤ (q : Int × Int).1 ∧ q.1 ≤ 18) q hq
    rw [e1 _ w.1 w.2]; exact h1 q hq
  · obtain ⟨⟨w1, w2, w3, ⟨w4, w5, w6, w7⟩, w8⟩, w9⟩ := h2 p p0 p1
    have k : ∀ j : Int, 0 ≤ j → j ≤ 6 → D' (b + 9 + p) j = D (c + 9 + p) j := fun j ujj0 ujj1 => e2 p j p0 p1 ujj0 ujj1
    refine ⟨⟨(k 0 (by decide) (by decide)).trans w1, ?_, (k 2 (by decide) (by decide)).trans w3, ⟨(k 3 (by decide) (by decide)).trans w4, (k 4 (by decide) (by decide)).trans w5, (k 5 (by decide) (by decide)).trans w6, (k 6 (by decide) (by decide)).trans w7⟩, w8⟩, w9⟩
    rw [k 1 (by decide) (by decide)]; exact w2
  · rw [e3 l c l0 l9 c0 c1]; exact h3.1 l c l0 l1 l9 c0 c1
  · have s1 : s < Z.2.1 3 := s1
    have w := e5 s s0 (by omega)
    rw [w.1, w.2]; exact h4.2 s s0 s1
  · have s1 : s < Z.2.1 4 := s1
    have w := e7 s s0 (by omega)
    rw [w.1, w.2]; exact h5.2 s s0 s1
  · unfold skH
    rw [e1 14 (by decide) (by decide)]; exact h6
theorem kk {H K : xH} (e : K.2 = H.2) {a κ len : Int} (h : H.2.1 a = κ ∧ H.2.2.1 a = len) : K.2.1 a = κ ∧ K.2.2.1 a = len := by rw [e]; exact h
theorem skB_far {b c : Int} (hb : skB b) (hc : skB c) (h : b ≠ c) : b + 26 < c ∨ c + 26 < b := by
  rcases hb with rfl | rfl | rfl | rfl | rfl <;> rcases hc with rfl | rfl | rfl | rfl | rfl <;> omega
theorem up_cy {D : xD} {a sp b dp n c j : Int} (h : c ≠ b) : xCpy D a sp b dp n c j = D c j := if_neg (fun z => h z.1)
theorem up_c2 {D : xD} {a b n j : Int} (h0 : 0 ≤ j) (h1 : j < n) : xCpy D a 0 b 0 n b j = D a j := by
  refine (if_pos ⟨rfl, h0, by omega⟩).trans ?_
  rw [show 0 + (j - 0) = j from by omega]
theorem q_dm {d : Nat} {cd : List Instr} {Q : Int → xH → Prop} {pc : Nat} {L r : List xV} {H : xH} {a sp b dp l : Int} (h : cd.getD pc .nop = .dmul) (hc : Nat.ble (xCat r) 8 = true) (hd : 0 < d) (h1 : 0 < a ∧ 0 < b ∧ H.2.1 a = 20 ∧ H.2.1 b = 20 ∧ 0 ≤ sp ∧ 0 ≤ dp ∧ 0 ≤ l ∧ sp + l ≤ H.2.2.1 a ∧ dp + l ≤ H.2.2.1 b) (k : xW d cd Q (pc + 1, L, r, (xCpy H.1 a sp b dp l, H.2))) : xW d cd Q (pc, L, (0, l) :: (0, dp) :: (2, b) :: (0, sp) :: (2, a) :: r, H) := xW_step (by rw [h]; exact ttIf hc ⟨⟨hd, h1⟩, k⟩)
theorem lk_42p {dd : Nat} (hd : 1 ≤ dd) {K : xH} {a c : Int} (ha : K.2.1 a = 4) (hc : K.2.1 c = 4) (a0 : 0 < a) (c0 : 0 < c) (hne : a ≠ c) (hb : 0 ≤ K.1 c 2 ∧ K.1 c 2 ≤ 1) {Q : Int → xH → Prop} (hq : ∀ J, J.2 = K.2 → (∀ x j : Int, x ≠ a → J.1 x j = K.1 x j) → (∀ j : Int, 0 ≤ j → j ≤ 6 → J.1 a j = K.1 c j) → Q 0 J) : xCall dd 42 [(2, a), (2, c)] K Q := by
  obtain ⟨e, rfl, he⟩ := ttRun0 (n := 0) hd
  refine xC_of (L := [(2, a), (2, c)]) (cd := cd_42) rfl rfl rfl ?_
  refine q_al (pc := 0) (i := 0) (x := a) rfl rfl ?_
  refine q_al (pc := 1) (i := 1) (x := c) rfl rfl ?_
  refine q_gf (pc := 2) (m := 4000) (t := 0) (c := 0) rfl hc rfl rfl ?_
  refine q_pf (pc := 3) (m := 4000) (c := 0) rfl (show xPt 0 0 _ _ from ha) rfl ?_
  obtain ⟨Y1, ujj1⟩ : ∃ X : xH, X = (xUp K.1 a 0 (K.1 c 0), K.2) := ⟨_, rfl⟩
  rw [← ujj1]
  have s1 : Y1.2 = K.2 := by rw [ujj1]
  have e1 : ∀ x j : Int, x ≠ a → Y1.1 x j = K.1 x j := fun x j h => by rw [ujj1]; exact up_na h
  refine q_al (pc := 4) (i := 0) (x := a) rfl rfl ?_
  refine q_al (pc := 5) (i := 1) (x := c) rfl rfl ?_
  refine q_gf (pc := 6) (m := 4010) (t := 0) (c := 1) rfl (by rw [s1]; exact hc) rfl rfl ?_
  rw [show Y1.1 c 1 = K.1 c 1 from e1 c 1 (Ne.symm hne)]
  refine q_pf (pc := 7) (m := 4010) (c := 1) rfl (show xPt 0 0 _ _ from (by rw [s1]; exact ha)) rfl ?_
  obtain ⟨Y2, ujj2⟩ : ∃ X : xH, X = (xUp Y1.1 a 1 (K.1 c 1), Y1.2) := ⟨_, rfl⟩
  rw [← ujj2]
  have s2 : Y2.2 = K.2 := by rw [ujj2]; exact s1
  have e2 : ∀ x j : Int, x ≠ a → Y2.1 x j = K.1 x j := fun x j h => by rw [ujj2]; exact (up_na h).trans (e1 x j h)
  refine q_al (pc := 8) (i := 0) (x := a) rfl rfl ?_
  refine q_al (pc := 9) (i := 1) (x := c) rfl rfl ?_
  refine q_gf (pc := 10) (m := 4020) (t := 0) (c := 2) rfl (by rw [s2]; exact hc) rfl rfl ?_
  rw [show Y2.1 c 2 = K.1 c 2 from e2 c 2 (Ne.symm hne)]
  refine q_pf (pc := 11) (m := 4023) (c := 2) rfl (show xPt 3 0 _ _ from ⟨(by rw [s2]; exact ha), by omega⟩) rfl ?_
  obtain ⟨Y3, ujj3⟩ : ∃ X : xH, X = (xUp Y2.1 a 2 (K.1 c 2), Y2.2) := ⟨_, rfl⟩
  rw [← ujj3]
  have s3 : Y3.2 = K.2 := by rw [ujj3]; exact s2
  have e3 : ∀ x j : Int, x ≠ a → Y3.1 x j = K.1 x j := fun x j h => by rw [ujj3]; exact (up_na h).trans (e2 x j h)
  refine q_al (pc := 12) (i := 0) (x := a) rfl rfl ?_
  refine q_al (pc := 13) (i := 1) (x := c) rfl rfl ?_
  refine q_gf (pc := 14) (m := 4030) (t := 0) (c := 3) rfl (by rw [s3]; exact hc) rfl rfl ?_
  rw [show Y3.1 c 3 = K.1 c 3 from e3 c 3 (Ne.symm hne)]
  refine q_pf (pc := 15) (m := 4030) (c := 3) rfl (show xPt 0 0 _ _ from (by rw [s3]; exact ha)) rfl ?_
  obtain ⟨Y4, ujj4⟩ : ∃ X : xH, X = (xUp Y3.1 a 3 (K.1 c 3), Y3.2) := ⟨_, rfl⟩
  rw [← ujj4]
  have s4 : Y4.2 = K.2 := by rw [ujj4]; exact s3
  have e4 : ∀ x j : Int, x ≠ a → Y4.1 x j = K.1 x j := fun x j h => by rw [ujj4]; exact (up_na h).trans (e3 x j h)
  refine q_al (pc := 16) (i := 0) (x := a) rfl rfl ?_
  refine q_al (pc := 17) (i := 1) (x := c) rfl rfl ?_
  refine q_gf (pc := 18) (m := 4040) (t := 0) (c := 4) rfl (by rw [s4]; exact hc) rfl rfl ?_
  rw [show Y4.1 c 4 = K.1 c 4 from e4 c 4 (Ne.symm hne)]
  refine q_pf (pc := 19) (m := 4040) (c := 4) rfl (show xPt 0 0 _ _ from (by rw [s4]; exact ha)) rfl ?_
  obtain ⟨Y5, ujj5⟩ : ∃ X : xH, X = (xUp Y4.1 a 4 (K.1 c 4), Y4.2) := ⟨_, rfl⟩
  rw [← ujj5]
  have s5 : Y5.2 = K.2 := by rw [ujj5]; exact s4
  have e5 : ∀ x j : Int, x ≠ a → Y5.1 x j = K.1 x j := fun x j h => by rw [ujj5]; exact (up_na h).trans (e4 x j h)
  refine q_al (pc := 20) (i := 0) (x := a) rfl rfl ?_
  refine q_al (pc := 21) (i := 1) (x := c) rfl rfl ?_
  refine q_gf (pc := 22) (m := 4050) (t := 0) (c := 5) rfl (by rw [s5]; exact hc) rfl rfl ?_
  rw [show Y5.1 c 5 = K.1 c 5 from e5 c 5 (Ne.symm hne)]
  refine q_pf (pc := 23) (m := 4050) (c := 5) rfl (show xPt 0 0 _ _ from (by rw [s5]; exact ha)) rfl ?_
  obtain ⟨Y6, ujj6⟩ : ∃ X : xH, X = (xUp Y5.1 a 5 (K.1 c 5), Y5.2) := ⟨_, rfl⟩
  rw [← ujj6]
  have s6 : Y6.2 = K.2 := by rw [ujj6]; exact s5
  have e6 : ∀ x j : Int, x ≠ a → Y6.1 x j = K.1 x j := fun x j h => by rw [ujj6]; exact (up_na h).trans (e5 x j h)
  refine q_al (pc := 24) (i := 0) (x := a) rfl rfl ?_
  refine q_al (pc := 25) (i := 1) (x := c) rfl rfl ?_
  refine q_gf (pc := 26) (m := 4060) (t := 0) (c := 6) rfl (by rw [s6]; exact hc) rfl rfl ?_
  rw [show Y6.1 c 6 = K.1 c 6 from e6 c 6 (Ne.symm hne)]
  refine q_pf (pc := 27) (m := 4060) (c := 6) rfl (show xPt 0 0 _ _ from (by rw [s6]; exact ha)) rfl ?_
  obtain ⟨Y7, ujj7⟩ : ∃ X : xH, X = (xUp Y6.1 a 6 (K.1 c 6), Y6.2) := ⟨_, rfl⟩
  rw [← ujj7]
  have s7 : Y7.2 = K.2 := by rw [ujj7]; exact s6
  have e7 : ∀ x j : Int, x ≠ a → Y7.1 x j = K.1 x j := fun x j h => by rw [ujj7]; exact (up_na h).trans (e6 x j h)
  refine q_rv (pc := 28) rfl ?_
  have eD : Y7.1 = (xUp (xUp (xUp (xUp (xUp (xUp (xUp K.1 a 0 (K.1 c 0)) a 1 (K.1 c 1)) a 2 (K.1 c 2)) a 3 (K.1 c 3)) a 4 (K.1 c 4)) a 5 (K.1 c 5)) a 6 (K.1 c 6)) := by rw [ujj7, ujj6, ujj5, ujj4, ujj3, ujj2, ujj1]
  refine hq Y7 s7 e7 (fun j ujj0 ujj1 => ?_)
  rw [eD]
  obtain rfl | rfl | rfl | rfl | rfl | rfl | rfl : j = 0 ∨ j = 1 ∨ j = 2 ∨ j = 3 ∨ j = 4 ∨ j = 5 ∨ j = 6 := by omega
  · exact (up_j (by decide)).trans ((up_j (by decide)).trans ((up_j (by decide)).trans ((up_j (by decide)).trans ((up_j (by decide)).trans ((up_j (by decide)).trans (up_eq))))))
  · exact (up_j (by decide)).trans ((up_j (by decide)).trans ((up_j (by decide)).trans ((up_j (by decide)).trans ((up_j (by decide)).trans (up_eq)))))
  · exact (up_j (by decide)).trans ((up_j (by decide)).trans ((up_j (by decide)).trans ((up_j (by decide)).trans (up_eq))))
  · exact (up_j (by decide)).trans ((up_j (by decide)).trans ((up_j (by decide)).trans (up_eq)))
  · exact (up_j (by decide)).trans ((up_j (by decide)).trans (up_eq))
  · exact (up_j (by decide)).trans (up_eq)
  · exact up_eq
theorem lk_31 {dd : Nat} (hd : 1 ≤ dd) {K : xH} {a c : Int} (ha : K.2.1 a = 2) (hc : K.2.1 c = 2) (a0 : 0 < a) (c0 : 0 < c) (hne : a ≠ c) {Q : Int → xH → Prop} (hq : ∀ J, J.2 = K.2 → (∀ x j : Int, x ≠ a → J.1 x j = K.1 x j) → (∀ j : Int, 0 ≤ j → j ≤ 5 → J.1 a j = K.1 c j) → Q 0 J) : xCall dd 31 [(2, a), (2, c)] K Q := by
  obtain ⟨e, rfl, he⟩ := ttRun0 (n := 0) hd
  refine xC_of (L := [(2, a), (2, c)]) (cd := cd_31) rfl rfl rfl ?_
  refine q_al (pc := 0) (i := 0) (x := a) rfl rfl ?_
  refine q_al (pc := 1) (i := 1) (x := c) rfl rfl ?_
  refine q_gf (pc := 2) (m := 2000) (t := 0) (c := 0) rfl hc rfl rfl ?_
  refine q_pf (pc := 3) (m := 2000) (c := 0) rfl (show xPt 0 0 _ _ from ha) rfl ?_
  obtain ⟨Y1, ujj1⟩ : ∃ X : xH, X = (xUp K.1 a 0 (K.1 c 0), K.2) := ⟨_, rfl⟩
  rw [← ujj1]
  have s1 : Y1.2 = K.2 := by rw [ujj1]
  have e1 : ∀ x j : Int, x ≠ a → Y1.1 x j = K.1 x j := fun x j h => by rw [ujj1]; exact up_na h
  refine q_al (pc := 4) (i := 0) (x := a) rfl rfl ?_
  refine q_al (pc := 5) (i := 1) (x := c) rfl rfl ?_
  refine q_gf (pc := 6) (m := 2010) (t := 0) (c := 1) rfl (by rw [s1]; exact hc) rfl rfl ?_
  rw [show Y1.1 c 1 = K.1 c 1 from e1 c 1 (Ne.symm hne)]
  refine q_pf (pc := 7) (m := 2010) (c := 1) rfl (show xPt 0 0 _ _ from (by rw [s1]; exact ha)) rfl ?_
  obtain ⟨Y2, ujj2⟩ : ∃ X : xH, X = (xUp Y1.1 a 1 (K.1 c 1), Y1.2) := ⟨_, rfl⟩
  rw [← ujj2]
  have s2 : Y2.2 = K.2 := by rw [ujj2]; exact s1
  have e2 : ∀ x j : Int, x ≠ a → Y2.1 x j = K.1 x j := fun x j h => by rw [ujj2]; exact (up_na h).trans (e1 x j h)
  refine q_al (pc := 8) (i := 0) (x := a) rfl rfl ?_
  refine q_al (pc := 9) (i := 1) (x := c) rfl rfl ?_
  refine q_gf (pc := 10) (m := 2020) (t := 0) (c := 2) rfl (by rw [s2]; exact hc) rfl rfl ?_
  rw [show Y2.1 c 2 = K.1 c 2 from e2 c 2 (Ne.symm hne)]
  refine q_pf (pc := 11) (m := 2020) (c := 2) rfl (show xPt 0 0 _ _ from (by rw [s2]; exact ha)) rfl ?_
  obtain ⟨Y3, ujj3⟩ : ∃ X : xH, X = (xUp Y2.1 a 2 (K.1 c 2), Y2.2) := ⟨_, rfl⟩
  rw [← ujj3]
  have s3 : Y3.2 = K.2 := by rw [ujj3]; exact s2
  have e3 : ∀ x j : Int, x ≠ a → Y3.1 x j = K.1 x j := fun x j h => by rw [ujj3]; exact (up_na h).trans (e2 x j h)
  refine q_al (pc := 12) (i := 0) (x := a) rfl rfl ?_
  refine q_al (pc := 13) (i := 1) (x := c) rfl rfl ?_
  refine q_gf (pc := 14) (m := 2030) (t := 0) (c := 3) rfl (by rw [s3]; exact hc) rfl rfl ?_
  rw [show Y3.1 c 3 = K.1 c 3 from e3 c 3 (Ne.symm hne)]
  refine q_pf (pc := 15) (m := 2030) (c := 3) rfl (show xPt 0 0 _ _ from (by rw [s3]; exact ha)) rfl ?_
  obtain ⟨Y4, ujj4⟩ : ∃ X : xH, X = (xUp Y3.1 a 3 (K.1 c 3), Y3.2) := ⟨_, rfl⟩
  rw [← ujj4]
  have s4 : Y4.2 = K.2 := by rw [ujj4]; exact s3
  have e4 : ∀ x j : Int, x ≠ a → Y4.1 x j = K.1 x j := fun x j h => by rw [ujj4]; exact (up_na h).trans (e3 x j h)
  refine q_al (pc := 16) (i := 0) (x := a) rfl rfl ?_
  refine q_al (pc := 17) (i := 1) (x := c) rfl rfl ?_
  refine q_gf (pc := 18) (m := 2040) (t := 0) (c := 4) rfl (by rw [s4]; exact hc) rfl rfl ?_
  rw [show Y4.1 c 4 = K.1 c 4 from e4 c 4 (Ne.symm hne)]
  refine q_pf (pc := 19) (m := 2040) (c := 4) rfl (show xPt 0 0 _ _ from (by rw [s4]; exact ha)) rfl ?_
  obtain ⟨Y5, ujj5⟩ : ∃ X : xH, X = (xUp Y4.1 a 4 (K.1 c 4), Y4.2) := ⟨_, rfl⟩
  rw [← ujj5]
  have s5 : Y5.2 = K.2 := by rw [ujj5]; exact s4
  have e5 : ∀ x j : Int, x ≠ a → Y5.1 x j = K.1 x j := fun x j h => by rw [ujj5]; exact (up_na h).trans (e4 x j h)
  refine q_al (pc := 20) (i := 0) (x := a) rfl rfl ?_
  refine q_al (pc := 21) (i := 1) (x := c) rfl rfl ?_
  refine q_gf (pc := 22) (m := 2050) (t := 0) (c := 5) rfl (by rw [s5]; exact hc) rfl rfl ?_
  rw [show Y5.1 c 5 = K.1 c 5 from e5 c 5 (Ne.symm hne)]
  refine q_pf (pc := 23) (m := 2050) (c := 5) rfl (show xPt 0 0 _ _ from (by rw [s5]; exact ha)) rfl ?_
  obtain ⟨Y6, ujj6⟩ : ∃ X : xH, X = (xUp Y5.1 a 5 (K.1 c 5), Y5.2) := ⟨_, rfl⟩
  rw [← ujj6]
  have s6 : Y6.2 = K.2 := by rw [ujj6]; exact s5
  have e6 : ∀ x j : Int, x ≠ a → Y6.1 x j = K.1 x j := fun x j h => by rw [ujj6]; exact (up_na h).trans (e5 x j h)
  refine q_rv (pc := 24) rfl ?_
  have eD : Y6.1 = (xUp (xUp (xUp (xUp (xUp (xUp K.1 a 0 (K.1 c 0)) a 1 (K.1 c 1)) a 2 (K.1 c 2)) a 3 (K.1 c 3)) a 4 (K.1 c 4)) a 5 (K.1 c 5)) := by rw [ujj6, ujj5, ujj4, ujj3, ujj2, ujj1]
  refine hq Y6 s6 e6 (fun j ujj0 ujj1 => ?_)
  rw [eD]
  obtain rfl | rfl | rfl | rfl | rfl | rfl : j = 0 ∨ j = 1 ∨ j = 2 ∨ j = 3 ∨ j = 4 ∨ j = 5 := by omega
  · exact (up_j (by decide)).trans ((up_j (by decide)).trans ((up_j (by decide)).trans ((up_j (by decide)).trans ((up_j (by decide)).trans (up_eq)))))
  · exact (up_j (by decide)).trans ((up_j (by decide)).trans ((up_j (by decide)).trans ((up_j (by decide)).trans (up_eq))))
  · exact (up_j (by decide)).trans ((up_j (by decide)).trans ((up_j (by decide)).trans (up_eq)))
  · exact (up_j (by decide)).trans ((up_j (by decide)).trans (up_eq))
  · exact (up_j (by decide)).trans (up_eq)
  · exact up_eq
theorem lk_66 {dd : Nat} (hd : 2 ≤ dd) {K : xH} {b c : Int} (kb : K.2.1 (b + 3) = 6) (kc : K.2.1 (c + 3) = 6) (k1 : K.2.1 (b + 4) = 20 ∧ K.2.2.1 (b + 4) = 6) (k2 : K.2.1 (b + 5) = 20 ∧ K.2.2.1 (b + 5) = 6) (k3 : K.2.1 (c + 4) = 20 ∧ K.2.2.1 (c + 4) = 6) (k4 : K.2.1 (c + 5) = 20 ∧ K.2.2.1 (c + 5) = 6) (b0 : 0 < b) (c0 : 0 < c) (far : b + 26 < c ∨ c + 26 < b) (wb : K.1 (b + 3) 1 = b + 4 ∧ K.1 (b + 3) 2 = b + 5) (wc : K.1 (c + 3) 1 = c + 4 ∧ K.1 (c + 3) 2 = c + 5) {Q : Int → xH → Prop} (hq : ∀ J, J.2 = K.2 → (∀ x j : Int, ¬ (x = b + 3 ∧ j = 0) → x ≠ b + 4 → x ≠ b + 5 → J.1 x j = K.1 x j) → J.1 (b + 3) 0 = K.1 (c + 3) 0 → (∀ s : Int, 0 ≤ s → s ≤ 5 → J.1 (b + 4) s = K.1 (c + 4) s ∧ J.1 (b + 5) s = K.1 (c + 5) s) → Q 0 J) : xCall dd 66 [(2, b + 3), (2, c + 3)] K Q := by
  obtain ⟨e, rfl, he⟩ := ttRun0 (n := 1) hd
  refine xC_of (L := [(2, b + 3), (2, c + 3)]) (cd := cd_66) rfl rfl rfl ?_
  refine q_al (pc := 0) (i := 0) (x := b + 3) rfl rfl ?_
  refine q_al (pc := 1) (i := 1) (x := c + 3) rfl rfl ?_
  refine q_gf (pc := 2) (m := 6000) (t := 0) (c := 0) rfl kc rfl rfl ?_
  refine q_pf (pc := 3) (m := 6000) (c := 0) rfl (show xPt 0 0 _ _ from kb) rfl ?_
  obtain ⟨Y, jY⟩ : ∃ X : xH, X = (xUp K.1 (b + 3) 0 (K.1 (c + 3) 0), K.2) := ⟨_, rfl⟩
  rw [← jY]
  have yd : Y.1 = xUp K.1 (b + 3) 0 (K.1 (c + 3) 0) := by rw [jY]
  have y2 : Y.2 = K.2 := by rw [jY]
  have yo : ∀ x j : Int, ¬ (x = b + 3 ∧ j = 0) → Y.1 x j = K.1 x j := fun x j h => by rw [yd]; exact up_ne h
  refine q_al (pc := 4) (i := 1) (x := c + 3) rfl rfl ?_
  refine q_gf (pc := 5) (m := 6012) (t := 2) (c := 1) rfl (by rw [y2]; exact kc) rfl rfl ?_
  rw [show Y.1 (c + 3) 1 = c + 4 from (yo _ _ (by omega)).trans wc.1]
  refine q_ic (pc := 6) (v := 0) rfl ?_
  refine q_al (pc := 7) (i := 0) (x := b + 3) rfl rfl ?_
  refine q_gf (pc := 8) (m := 6012) (t := 2) (c := 1) rfl (by rw [y2]; exact kb) rfl rfl ?_
  rw [show Y.1 (b + 3) 1 = b + 4 from (yo _ _ (by omega)).trans wb.1]
  refine q_ic (pc := 9) (v := 0) rfl ?_
  refine q_ic (pc := 10) (v := 6) rfl ?_
  refine q_dm (pc := 11) rfl rfl (by omega) ⟨by omega, by omega, by rw [y2]; exact k3.1, by rw [y2]; exact k1.1, by decide, by decide, by decide, by rw [y2, k3.2]; decide, by rw [y2, k1.2]; decide⟩ ?_
  obtain ⟨V, jV⟩ : ∃ X : xH, X = (xCpy Y.1 (c + 4) 0 (b + 4) 0 6, Y.2) := ⟨_, rfl⟩
  rw [← jV]
  have vd : V.1 = xCpy Y.1 (c + 4) 0 (b + 4) 0 6 := by rw [jV]
  have v2 : V.2 = K.2 := by rw [jV]; exact y2
  have vo : ∀ x j : Int, x ≠ b + 4 → V.1 x j = Y.1 x j := fun x j h => by rw [vd]; exact up_cy h
  refine q_al (pc := 12) (i := 1) (x := c + 3) rfl rfl ?_
  refine q_gf (pc := 13) (m := 6022) (t := 2) (c := 2) rfl (by rw [v2]; exact kc) rfl rfl ?_
  rw [show V.1 (c + 3) 2 = c + 5 from (vo _ _ (by omega)).trans ((yo _ _ (by omega)).trans wc.2)]
  refine q_ic (pc := 14) (v := 0) rfl ?_
  refine q_al (pc := 15) (i := 0) (x := b + 3) rfl rfl ?_
  refine q_gf (pc := 16) (m := 6022) (t := 2) (c := 2) rfl (by rw [v2]; exact kb) rfl rfl ?_
  rw [show V.1 (b + 3) 2 = b + 5 from (vo _ _ (by omega)).trans ((yo _ _ (by omega)).trans wb.2)]
  refine q_ic (pc := 17) (v := 0) rfl ?_
  refine q_ic (pc := 18) (v := 6) rfl ?_
  refine q_dm (pc := 19) rfl rfl (by omega) ⟨by omega, by omega, by rw [v2]; exact k4.1, by rw [v2]; exact k2.1, by decide, by decide, by decide, by rw [v2, k4.2]; decide, by rw [v2, k2.2]; decide⟩ ?_
  refine q_rv (pc := 20) rfl ?_
  refine hq _ v2 (fun x j h1 h2 h3 => (up_cy h3).trans ((vo x j h2).trans (yo x j h1))) ?_ (fun s s0 s1 => ⟨?_, ?_⟩)
  · refine (up_cy (by omega)).trans ((vo _ _ (by omega)).trans ?_)
    rw [yd]
    exact up_eq
  · refine (up_cy (by omega)).trans ?_
    rw [vd]
    exact (up_c2 s0 (by omega)).trans (yo _ _ (by omega))
  · exact (up_c2 s0 (by omega)).trans ((vo _ _ (by omega)).trans (yo _ _ (by omega)))
theorem lk_109 {dd : Nat} (hd : 2 ≤ dd) {K : xH} {b c : Int} (kb : K.2.1 (b + 6) = 9) (kc : K.2.1 (c + 6) = 9) (k1 : K.2.1 (b + 7) = 20 ∧ K.2.2.1 (b + 7) = 20) (k2 : K.2.1 (b + 8) = 20 ∧ K.2.2.1 (b + 8) = 20) (k3 : K.2.1 (c + 7) = 20 ∧ K.2.2.1 (c + 7) = 20) (k4 : K.2.1 (c + 8) = 20 ∧ K.2.2.1 (c + 8) = 20) (b0 : 0 < b) (c0 : 0 < c) (far : b + 26 < c ∨ c + 26 < b) (wb : K.1 (b + 6) 1 = b + 7 ∧ K.1 (b + 6) 2 = b + 8) (wc : K.1 (c + 6) 1 = c + 7 ∧ K.1 (c + 6) 2 = c + 8) {Q : Int → xH → Prop} (hq : ∀ J, J.2 = K.2 → (∀ x j : Int, ¬ (x = b + 6 ∧ j = 0) → x ≠ b + 7 → x ≠ b + 8 → J.1 x j = K.1 x j) → J.1 (b + 6) 0 = K.1 (c + 6) 0 → (∀ s : Int, 0 ≤ s → s ≤ 19 → J.1 (b + 7) s = K.1 (c + 7) s ∧ J.1 (b + 8) s = K.1 (c + 8) s) → Q 0 J) : xCall dd 109 [(2, b + 6), (2, c + 6)] K Q := by
  obtain ⟨e, rfl, he⟩ := ttRun0 (n := 1) hd
  refine xC_of (L := [(2, b + 6), (2, c + 6)]) (cd := cd_109) rfl rfl rfl ?_
  refine q_al (pc := 0) (i := 0) (x := b + 6) rfl rfl ?_
  refine q_al (pc := 1) (i := 1) (x := c + 6) rfl rfl ?_
  refine q_gf (pc := 2) (m := 9000) (t := 0) (c := 0) rfl kc rfl rfl ?_
  refine q_pf (pc := 3) (m := 9000) (c := 0) rfl (show xPt 0 0 _ _ from kb) rfl ?_
  obtain ⟨Y, jY⟩ : ∃ X : xH, X = (xUp K.1 (b + 6) 0 (K.1 (c + 6) 0), K.2) := ⟨_, rfl⟩
  rw [← jY]
  have yd : Y.1 = xUp K.1 (b + 6) 0 (K.1 (c + 6) 0) := by rw [jY]
  have y2 : Y.2 = K.2 := by rw [jY]
  have yo : ∀ x j : Int, ¬ (x = b + 6 ∧ j = 0) → Y.1 x j = K.1 x j := fun x j h => by rw [yd]; exact up_ne h
  refine q_al (pc := 4) (i := 1) (x := c + 6) rfl rfl ?_
  refine q_gf (pc := 5) (m := 9012) (t := 2) (c := 1) rfl (by rw [y2]; exact kc) rfl rfl ?_
  rw [show Y.1 (c + 6) 1 = c + 7 from (yo _ _ (by omega)).trans wc.1]
  refine q_ic (pc := 6) (v := 0) rfl ?_
  refine q_al (pc := 7) (i := 0) (x := b + 6) rfl rfl ?_
  refine q_gf (pc := 8) (m := 9012) (t := 2) (c := 1) rfl (by rw [y2]; exact kb) rfl rfl ?_
  rw [show Y.1 (b + 6) 1 = b + 7 from (yo _ _ (by omega)).trans wb.1]
  refine q_ic (pc := 9) (v := 0) rfl ?_
  refine q_ic (pc := 10) (v := 20) rfl ?_
  refine q_dm (pc := 11) rfl rfl (by omega) ⟨by omega, by omega, by rw [y2]; exact k3.1, by rw [y2]; exact k1.1, by decide, by decide, by decide, by rw [y2, k3.2]; decide, by rw [y2, k1.2]; decide⟩ ?_
  obtain ⟨V, jV⟩ : ∃ X : xH, X = (xCpy Y.1 (c + 7) 0 (b + 7) 0 20, Y.2) := ⟨_, rfl⟩
  rw [← jV]
  have vd : V.1 = xCpy Y.1 (c + 7) 0 (b + 7) 0 20 := by rw [jV]
  have v2 : V.2 = K.2 := by rw [jV]; exact y2
  have vo : ∀ x j : Int, x ≠ b + 7 → V.1 x j = Y.1 x j := fun x j h => by rw [vd]; exact up_cy h
  refine q_al (pc := 12) (i := 1) (x := c + 6) rfl rfl ?_
  refine q_gf (pc := 13) (m := 9022) (t := 2) (c := 2) rfl (by rw [v2]; exact kc) rfl rfl ?_
  rw [show V.1 (c + 6) 2 = c + 8 from (vo _ _ (by omega)).trans ((yo _ _ (by omega)).trans wc.2)]
  refine q_ic (pc := 14) (v := 0) rfl ?_
  refine q_al (pc := 15) (i := 0) (x := b + 6) rfl rfl ?_
  refine q_gf (pc := 16) (m := 9022) (t := 2) (c := 2) rfl (by rw [v2]; exact kb) rfl rfl ?_
  rw [show V.1 (b + 6) 2 = b + 8 from (vo _ _ (by omega)).trans ((yo _ _ (by omega)).trans wb.2)]
  refine q_ic (pc := 17) (v := 0) rfl ?_
  refine q_ic (pc := 18) (v := 20) rfl ?_
  refine q_dm (pc := 19) rfl rfl (by omega) ⟨by omega, by omega, by rw [v2]; exact k4.1, by rw [v2]; exact k2.1, by decide, by decide, by decide, by rw [v2, k4.2]; decide, by rw [v2, k2.2]; decide⟩ ?_
  refine q_rv (pc := 20) rfl ?_
  refine hq _ v2 (fun x j h1 h2 h3 => (up_cy h3).trans ((vo x j h2).trans (yo x j h1))) ?_ (fun s s0 s1 => ⟨?_, ?_⟩)
  · refine (up_cy (by omega)).trans ((vo _ _ (by omega)).trans ?_)
    rw [yd]
    exact up_eq
  · refine (up_cy (by omega)).trans ?_
    rw [vd]
    exact (up_c2 s0 (by omega)).trans (yo _ _ (by omega))
  · exact (up_c2 s0 (by omega)).trans ((vo _ _ (by omega)).trans (yo _ _ (by omega)))
theorem lk_42 {e : Nat} {H : xH} (hT : ttTI H) {b c : Int} (hB : skB b) (hC : skB c) (hne : b ≠ c) (wb : skW H.1 b) (wc : skW H.1 c) {K : xH} (k2 : K.2 = H.2) (ko : (∀ x j : Int, (x < b ∨ b + 26 < x) → K.1 x j = H.1 x j)) (kp : ∀ p j : Int, 0 ≤ p → p ≤ 7 → 0 ≤ j → j ≤ 6 → K.1 (b + 9 + p) j = H.1 (c + 9 + p) j) (kl : ∀ l j : Int, 0 ≤ l → l ≤ 9 → 0 ≤ j → j ≤ 5 → K.1 (b + 17 + l) j = H.1 (c + 17 + l) j) (kv : K.1 (b + 3) 0 = H.1 (c + 3) 0 ∧ ∀ s : Int, 0 ≤ s → s ≤ 5 → K.1 (b + 4) s = H.1 (c + 4) s ∧ K.1 (b + 5) s = H.1 (c + 5) s) (ks : K.1 (b + 6) 0 = H.1 (c + 6) 0 ∧ ∀ s : Int, 0 ≤ s → s ≤ 19 → K.1 (b + 7) s = H.1 (c + 7) s ∧ K.1 (b + 8) s = H.1 (c + 8) s) {x2 : xV} {Q : Int → xH → Prop} (hq : ∀ J, J.2 = H.2 → (∀ x j : Int, (x < b ∨ b + 26 < x) → J.1 x j = H.1 x j) → skE H.1 c J.1 b → Q 0 J) : xW e cd_112 Q (42, [(2, b), (2, c), x2], [], K) := by
  have far := skB_far hB hC hne
  have bi := skB_in hB
  have ci := skB_in hC
  have kb := (kk k2 (sk_kb hT hB)).1
  have kc := (kk k2 (sk_kb hT hC)).1
  have ow : ∀ j : Int, K.1 c j = H.1 c j := fun j => ko c j (by omega)
  have o17 : 0 ≤ H.1 c 17 ∧ H.1 c 17 ≤ 1 := by
    have w := ttMc hT (a := c) (j := 17) (by omega) (by omega) (by decide) (by rw [sk_rb hC]; decide)
    rw [sk_rb hC] at w
    exact w
  refine q_al (pc := 42) (i := 0) (x := b) rfl rfl ?_
  refine q_al (pc := 43) (i := 1) (x := c) rfl rfl ?_
  refine q_gf (pc := 44) (m := 10040) (t := 0) (c := 4) rfl kc rfl rfl ?_
  rw [ow 4]
  refine q_pf (pc := 45) (m := 10040) (c := 4) rfl (show xPt 0 0 _ _ from kb) rfl ?_
  obtain ⟨Y0, jY0⟩ : ∃ X : xH, X = (xUp K.1 b 4 (H.1 c 4), K.2) := ⟨_, rfl⟩
  rw [← jY0]
  have yd0 : Y0.1 = xUp K.1 b 4 (H.1 c 4) := by rw [jY0]
  have y20 : Y0.2 = K.2 := by rw [jY0]
  have yo0 : ∀ x j : Int, x ≠ b → Y0.1 x j = K.1 x j := fun x j h => by rw [yd0]; exact (up_na h)
  have yv0 : ∀ j : Int, 4 ≤ j → j ≤ 4 → Y0.1 b j = H.1 c j := fun j ujj0 ujj1 => by
    rw [yd0]
    by_cases z : j = 4
    · rw [z]; exact up_eq
    · exact absurd z (by omega)
  replace kb : Y0.2.1 b = 10 := by rw [y20, k2]; exact (sk_kb hT hB).1
  replace kc : Y0.2.1 c = 10 := by rw [y20, k2]; exact (sk_kb hT hC).1
  refine q_al (pc := 46) (i := 0) (x := b) rfl rfl ?_
  refine q_al (pc := 47) (i := 1) (x := c) rfl rfl ?_
  refine q_gf (pc := 48) (m := 10050) (t := 0) (c := 5) rfl kc rfl rfl ?_
  rw [show Y0.1 c 5 = H.1 c 5 from (yo0 c 5 (by omega)).trans (ow 5)]
  refine q_pf (pc := 49) (m := 10050) (c := 5) rfl (show xPt 0 0 _ _ from kb) rfl ?_
  obtain ⟨Y1, jY1⟩ : ∃ X : xH, X = (xUp Y0.1 b 5 (H.1 c 5), Y0.2) := ⟨_, rfl⟩
  rw [← jY1]
  have yd1 : Y1.1 = xUp Y0.1 b 5 (H.1 c 5) := by rw [jY1]
  have y21 : Y1.2 = K.2 := by rw [jY1]; exact y20
  have yo1 : ∀ x j : Int, x ≠ b → Y1.1 x j = K.1 x j := fun x j h => by rw [yd1]; exact (up_na h).trans (yo0 x j h)
  have yv1 : ∀ j : Int, 4 ≤ j → j ≤ 5 → Y1.1 b j = H.1 c j := fun j ujj0 ujj1 => by
    rw [yd1]
    by_cases z : j = 5
    · rw [z]; exact up_eq
    · exact (up_j z).trans (yv0 j ujj0 (by omega))
  replace kb : Y1.2.1 b = 10 := by rw [y21, k2]; exact (sk_kb hT hB).1
  replace kc : Y1.2.1 c = 10 := by rw [y21, k2]; exact (sk_kb hT hC).1
  refine q_al (pc := 50) (i := 0) (x := b) rfl rfl ?_
  refine q_al (pc := 51) (i := 1) (x := c) rfl rfl ?_
  refine q_gf (pc := 52) (m := 10060) (t := 0) (c := 6) rfl kc rfl rfl ?_
  rw [show Y1.1 c 6 = H.1 c 6 from (yo1 c 6 (by omega)).trans (ow 6)]
  refine q_pf (pc := 53) (m := 10060) (c := 6) rfl (show xPt 0 0 _ _ from kb) rfl ?_
  obtain ⟨Y2, jY2⟩ : ∃ X : xH, X = (xUp Y1.1 b 6 (H.1 c 6), Y1.2) := ⟨_, rfl⟩
  rw [← jY2]
  have yd2 : Y2.1 = xUp Y1.1 b 6 (H.1 c 6) := by rw [jY2]
  have y22 : Y2.2 = K.2 := by rw [jY2]; exact y21
  have yo2 : ∀ x j : Int, x ≠ b → Y2.1 x j = K.1 x j := fun x j h => by rw [yd2]; exact (up_na h).trans (yo1 x j h)
  have yv2 : ∀ j : Int, 4 ≤ j → j ≤ 6 → Y2.1 b j = H.1 c j := fun j ujj0 ujj1 => by
    rw [yd2]
    by_cases z : j = 6
    · rw [z]; exact up_eq
    · exact (up_j z).trans (yv1 j ujj0 (by omega))
  replace kb : Y2.2.1 b = 10 := by rw [y22, k2]; exact (sk_kb hT hB).1
  replace kc : Y2.2.1 c = 10 := by rw [y22, k2]; exact (sk_kb hT hC).1
  refine q_al (pc := 54) (i := 0) (x := b) rfl rfl ?_
  refine q_al (pc := 55) (i := 1) (x := c) rfl rfl ?_
  refine q_gf (pc := 56) (m := 10070) (t := 0) (c := 7) rfl kc rfl rfl ?_
  rw [show Y2.1 c 7 = H.1 c 7 from (yo2 c 7 (by omega)).trans (ow 7)]
  refine q_pf (pc := 57) (m := 10070) (c := 7) rfl (show xPt 0 0 _ _ from kb) rfl ?_
  obtain ⟨Y3, jY3⟩ : ∃ X : xH, X = (xUp Y2.1 b 7 (H.1 c 7), Y2.2) := ⟨_, rfl⟩
  rw [← jY3]
  have yd3 : Y3.1 = xUp Y2.1 b 7 (H.1 c 7) := by rw [jY3]
  have y23 : Y3.2 = K.2 := by rw [jY3]; exact y22
  have yo3 : ∀ x j : Int, x ≠ b → Y3.1 x j = K.1 x j := fun x j h => by rw [yd3]; exact (up_na h).trans (yo2 x j h)
  have yv3 : ∀ j : Int, 4 ≤ j → j ≤ 7 → Y3.1 b j = H.1 c j := fun j ujj0 ujj1 => by
    rw [yd3]
    by_cases z : j = 7
    · rw [z]; exact up_eq
    · exact (up_j z).trans (yv2 j ujj0 (by omega))
  replace kb : Y3.2.1 b = 10 := by rw [y23, k2]; exact (sk_kb hT hB).1
  replace kc : Y3.2.1 c = 10 := by rw [y23, k2]; exact (sk_kb hT hC).1
  refine q_al (pc := 58) (i := 0) (x := b) rfl rfl ?_
  refine q_al (pc := 59) (i := 1) (x := c) rfl rfl ?_
  refine q_gf (pc := 60) (m := 10080) (t := 0) (c := 8) rfl kc rfl rfl ?_
  rw [show Y3.1 c 8 = H.1 c 8 from (yo3 c 8 (by omega)).trans (ow 8)]
  refine q_pf (pc := 61) (m := 10080) (c := 8) rfl (show xPt 0 0 _ _ from kb) rfl ?_
  obtain ⟨Y4, jY4⟩ : ∃ X : xH, X = (xUp Y3.1 b 8 (H.1 c 8), Y3.2) := ⟨_, rfl⟩
  rw [← jY4]
  have yd4 : Y4.1 = xUp Y3.1 b 8 (H.1 c 8) := by rw [jY4]
  have y24 : Y4.2 = K.2 := by rw [jY4]; exact y23
  have yo4 : ∀ x j : Int, x ≠ b → Y4.1 x j = K.1 x j := fun x j h => by rw [yd4]; exact (up_na h).trans (yo3 x j h)
  have yv4 : ∀ j : Int, 4 ≤ j → j ≤ 8 → Y4.1 b j = H.1 c j := fun j ujj0 ujj1 => by
    rw [yd4]
    by_cases z : j = 8
    · rw [z]; exact up_eq
    · exact (up_j z).trans (yv3 j ujj0 (by omega))
  replace kb : Y4.2.1 b = 10 := by rw [y24, k2]; exact (sk_kb hT hB).1
  replace kc : Y4.2.1 c = 10 := by rw [y24, k2]; exact (sk_kb hT hC).1
  refine q_al (pc := 62) (i := 0) (x := b) rfl rfl ?_
  refine q_al (pc := 63) (i := 1) (x := c) rfl rfl ?_
  refine q_gf (pc := 64) (m := 10090) (t := 0) (c := 9) rfl kc rfl rfl ?_
  rw [show Y4.1 c 9 = H.1 c 9 from (yo4 c 9 (by omega)).trans (ow 9)]
  refine q_pf (pc := 65) (m := 10090) (c := 9) rfl (show xPt 0 0 _ _ from kb) rfl ?_
  obtain ⟨Y5, jY5⟩ : ∃ X : xH, X = (xUp Y4.1 b 9 (H.1 c 9), Y4.2) := ⟨_, rfl⟩
  rw [← jY5]
  have yd5 : Y5.1 = xUp Y4.1 b 9 (H.1 c 9) := by rw [jY5]
  have y25 : Y5.2 = K.2 := by rw [jY5]; exact y24
  have yo5 : ∀ x j : Int, x ≠ b → Y5.1 x j = K.1 x j := fun x j h => by rw [yd5]; exact (up_na h).trans (yo4 x j h)
  have yv5 : ∀ j : Int, 4 ≤ j → j ≤ 9 → Y5.1 b j = H.1 c j := fun j ujj0 ujj1 => by
    rw [yd5]
    by_cases z : j = 9
    · rw [z]; exact up_eq
    · exact (up_j z).trans (yv4 j ujj0 (by omega))
  replace kb : Y5.2.1 b = 10 := by rw [y25, k2]; exact (sk_kb hT hB).1
  replace kc : Y5.2.1 c = 10 := by rw [y25, k2]; exact (sk_kb hT hC).1
  refine q_al (pc := 66) (i := 0) (x := b) rfl rfl ?_
  refine q_al (pc := 67) (i := 1) (x := c) rfl rfl ?_
  refine q_gf (pc := 68) (m := 10100) (t := 0) (c := 10) rfl kc rfl rfl ?_
  rw [show Y5.1 c 10 = H.1 c 10 from (yo5 c 10 (by omega)).trans (ow 10)]
  refine q_pf (pc := 69) (m := 10100) (c := 10) rfl (show xPt 0 0 _ _ from kb) rfl ?_
  obtain ⟨Y6, jY6⟩ : ∃ X : xH, X = (xUp Y5.1 b 10 (H.1 c 10), Y5.2) := ⟨_, rfl⟩
  rw [← jY6]
  have yd6 : Y6.1 = xUp Y5.1 b 10 (H.1 c 10) := by rw [jY6]
  have y26 : Y6.2 = K.2 := by rw [jY6]; exact y25
  have yo6 : ∀ x j : Int, x ≠ b → Y6.1 x j = K.1 x j := fun x j h => by rw [yd6]; exact (up_na h).trans (yo5 x j h)
  have yv6 : ∀ j : Int, 4 ≤ j → j ≤ 10 → Y6.1 b j = H.1 c j := fun j ujj0 ujj1 => by
    rw [yd6]
    by_cases z : j = 10
    · rw [z]; exact up_eq
    · exact (up_j z).trans (yv5 j ujj0 (by omega))
  replace kb : Y6.2.1 b = 10 := by rw [y26, k2]; exact (sk_kb hT hB).1
  replace kc : Y6.2.1 c = 10 := by rw [y26, k2]; exact (sk_kb hT hC).1
  refine q_al (pc := 70) (i := 0) (x := b) rfl rfl ?_
  refine q_al (pc := 71) (i := 1) (x := c) rfl rfl ?_
  refine q_gf (pc := 72) (m := 10110) (t := 0) (c := 11) rfl kc rfl rfl ?_
  rw [show Y6.1 c 11 = H.1 c 11 from (yo6 c 11 (by omega)).trans (ow 11)]
  refine q_pf (pc := 73) (m := 10110) (c := 11) rfl (show xPt 0 0 _ _ from kb) rfl ?_
  obtain ⟨Y7, jY7⟩ : ∃ X : xH, X = (xUp Y6.1 b 11 (H.1 c 11), Y6.2) := ⟨_, rfl⟩
  rw [← jY7]
  have yd7 : Y7.1 = xUp Y6.1 b 11 (H.1 c 11) := by rw [jY7]
  have y27 : Y7.2 = K.2 := by rw [jY7]; exact y26
  have yo7 : ∀ x j : Int, x ≠ b → Y7.1 x j = K.1 x j := fun x j h => by rw [yd7]; exact (up_na h).trans (yo6 x j h)
  have yv7 : ∀ j : Int, 4 ≤ j → j ≤ 11 → Y7.1 b j = H.1 c j := fun j ujj0 ujj1 => by
    rw [yd7]
    by_cases z : j = 11
    · rw [z]; exact up_eq
    · exact (up_j z).trans (yv6 j ujj0 (by omega))
  replace kb : Y7.2.1 b = 10 := by rw [y27, k2]; exact (sk_kb hT hB).1
  replace kc : Y7.2.1 c = 10 := by rw [y27, k2]; exact (sk_kb hT hC).1
  refine q_al (pc := 74) (i := 0) (x := b) rfl rfl ?_
  refine q_al (pc := 75) (i := 1) (x := c) rfl rfl ?_
  refine q_gf (pc := 76) (m := 10120) (t := 0) (c := 12) rfl kc rfl rfl ?_
  rw [show Y7.1 c 12 = H.1 c 12 from (yo7 c 12 (by omega)).trans (ow 12)]
  refine q_pf (pc := 77) (m := 10120) (c := 12) rfl (show xPt 0 0 _ _ from kb) rfl ?_
  obtain ⟨Y8, jY8⟩ : ∃ X : xH, X = (xUp Y7.1 b 12 (H.1 c 12), Y7.2) := ⟨_, rfl⟩
  rw [← jY8]
  have yd8 : Y8.1 = xUp Y7.1 b 12 (H.1 c 12) := by rw [jY8]
  have y28 : Y8.2 = K.2 := by rw [jY8]; exact y27
  have yo8 : ∀ x j : Int, x ≠ b → Y8.1 x j = K.1 x j := fun x j h => by rw [yd8]; exact (up_na h).trans (yo7 x j h)
  have yv8 : ∀ j : Int, 4 ≤ j → j ≤ 12 → Y8.1 b j = H.1 c j := fun j ujj0 ujj1 => by
    rw [yd8]
    by_cases z : j = 12
    · rw [z]; exact up_eq
    · exact (up_j z).trans (yv7 j ujj0 (by omega))
  replace kb : Y8.2.1 b = 10 := by rw [y28, k2]; exact (sk_kb hT hB).1
  replace kc : Y8.2.1 c = 10 := by rw [y28, k2]; exact (sk_kb hT hC).1
  refine q_al (pc := 78) (i := 0) (x := b) rfl rfl ?_
  refine q_al (pc := 79) (i := 1) (x := c) rfl rfl ?_
  refine q_gf (pc := 80) (m := 10130) (t := 0) (c := 13) rfl kc rfl rfl ?_
  rw [show Y8.1 c 13 = H.1 c 13 from (yo8 c 13 (by omega)).trans (ow 13)]
  refine q_pf (pc := 81) (m := 10130) (c := 13) rfl (show xPt 0 0 _ _ from kb) rfl ?_
  obtain ⟨Y9, jY9⟩ : ∃ X : xH, X = (xUp Y8.1 b 13 (H.1 c 13), Y8.2) := ⟨_, rfl⟩
  rw [← jY9]
  have yd9 : Y9.1 = xUp Y8.1 b 13 (H.1 c 13) := by rw [jY9]
  have y29 : Y9.2 = K.2 := by rw [jY9]; exact y28
  have yo9 : ∀ x j : Int, x ≠ b → Y9.1 x j = K.1 x j := fun x j h => by rw [yd9]; exact (up_na h).trans (yo8 x j h)
  have yv9 : ∀ j : Int, 4 ≤ j → j ≤ 13 → Y9.1 b j = H.1 c j := fun j ujj0 ujj1 => by
    rw [yd9]
    by_cases z : j = 13
    · rw [z]; exact up_eq
    · exact (up_j z).trans (yv8 j ujj0 (by omega))
  replace kb : Y9.2.1 b = 10 := by rw [y29, k2]; exact (sk_kb hT hB).1
  replace kc : Y9.2.1 c = 10 := by rw [y29, k2]; exact (sk_kb hT hC).1
  refine q_al (pc := 82) (i := 0) (x := b) rfl rfl ?_
  refine q_al (pc := 83) (i := 1) (x := c) rfl rfl ?_
  refine q_gf (pc := 84) (m := 10140) (t := 0) (c := 14) rfl kc rfl rfl ?_
  rw [show Y9.1 c 14 = H.1 c 14 from (yo9 c 14 (by omega)).trans (ow 14)]
  refine q_pf (pc := 85) (m := 10140) (c := 14) rfl (show xPt 0 0 _ _ from kb) rfl ?_
  obtain ⟨Y10, jY10⟩ : ∃ X : xH, X = (xUp Y9.1 b 14 (H.1 c 14), Y9.2) := ⟨_, rfl⟩
  rw [← jY10]
  have yd10 : Y10.1 = xUp Y9.1 b 14 (H.1 c 14) := by rw [jY10]
  have y210 : Y10.2 = K.2 := by rw [jY10]; exact y29
  have yo10 : ∀ x j : Int, x ≠ b → Y10.1 x j = K.1 x j := fun x j h => by rw [yd10]; exact (up_na h).trans (yo9 x j h)
  have yv10 : ∀ j : Int, 4 ≤ j → j ≤ 14 → Y10.1 b j = H.1 c j := fun j ujj0 ujj1 => by
    rw [yd10]
    by_cases z : j = 14
    · rw [z]; exact up_eq
    · exact (up_j z).trans (yv9 j ujj0 (by omega))
  replace kb : Y10.2.1 b = 10 := by rw [y210, k2]; exact (sk_kb hT hB).1
  replace kc : Y10.2.1 c = 10 := by rw [y210, k2]; exact (sk_kb hT hC).1
  refine q_al (pc := 86) (i := 0) (x := b) rfl rfl ?_
  refine q_al (pc := 87) (i := 1) (x := c) rfl rfl ?_
  refine q_gf (pc := 88) (m := 10150) (t := 0) (c := 15) rfl kc rfl rfl ?_
  rw [show Y10.1 c 15 = H.1 c 15 from (yo10 c 15 (by omega)).trans (ow 15)]
  refine q_pf (pc := 89) (m := 10150) (c := 15) rfl (show xPt 0 0 _ _ from kb) rfl ?_
  obtain ⟨Y11, jY11⟩ : ∃ X : xH, X = (xUp Y10.1 b 15 (H.1 c 15), Y10.2) := ⟨_, rfl⟩
  rw [← jY11]
  have yd11 : Y11.1 = xUp Y10.1 b 15 (H.1 c 15) := by rw [jY11]
  have y211 : Y11.2 = K.2 := by rw [jY11]; exact y210
  have yo11 : ∀ x j : Int, x ≠ b → Y11.1 x j = K.1 x j := fun x j h => by rw [yd11]; exact (up_na h).trans (yo10 x j h)
  have yv11 : ∀ j : Int, 4 ≤ j → j ≤ 15 → Y11.1 b j = H.1 c j := fun j ujj0 ujj1 => by
    rw [yd11]
    by_cases z : j = 15
    · rw [z]; exact up_eq
    · exact (up_j z).trans (yv10 j ujj0 (by omega))
  replace kb : Y11.2.1 b = 10 := by rw [y211, k2]; exact (sk_kb hT hB).1
  replace kc : Y11.2.1 c = 10 := by rw [y211, k2]; exact (sk_kb hT hC).1
  refine q_al (pc := 90) (i := 0) (x := b) rfl rfl ?_
  refine q_al (pc := 91) (i := 1) (x := c) rfl rfl ?_
  refine q_gf (pc := 92) (m := 10160) (t := 0) (c := 16) rfl kc rfl rfl ?_
  rw [show Y11.1 c 16 = H.1 c 16 from (yo11 c 16 (by omega)).trans (ow 16)]
  refine q_pf (pc := 93) (m := 10160) (c := 16) rfl (show xPt 0 0 _ _ from kb) rfl ?_
  obtain ⟨Y12, jY12⟩ : ∃ X : xH, X = (xUp Y11.1 b 16 (H.1 c 16), Y11.2) := ⟨_, rfl⟩
  rw [← jY12]
  have yd12 : Y12.1 = xUp Y11.1 b 16 (H.1 c 16) := by rw [jY12]
  have y212 : Y12.2 = K.2 := by rw [jY12]; exact y211
  have yo12 : ∀ x j : Int, x ≠ b → Y12.1 x j = K.1 x j := fun x j h => by rw [yd12]; exact (up_na h).trans (yo11 x j h)
  have yv12 : ∀ j : Int, 4 ≤ j → j ≤ 16 → Y12.1 b j = H.1 c j := fun j ujj0 ujj1 => by
    rw [yd12]
    by_cases z : j = 16
    · rw [z]; exact up_eq
    · exact (up_j z).trans (yv11 j ujj0 (by omega))
  replace kb : Y12.2.1 b = 10 := by rw [y212, k2]; exact (sk_kb hT hB).1
  replace kc : Y12.2.1 c = 10 := by rw [y212, k2]; exact (sk_kb hT hC).1
  refine q_al (pc := 94) (i := 0) (x := b) rfl rfl ?_
  refine q_al (pc := 95) (i := 1) (x := c) rfl rfl ?_
  refine q_gf (pc := 96) (m := 10170) (t := 0) (c := 17) rfl kc rfl rfl ?_
  rw [show Y12.1 c 17 = H.1 c 17 from (yo12 c 17 (by omega)).trans (ow 17)]
  refine q_pf (pc := 97) (m := 10173) (c := 17) rfl (show xPt 3 0 _ _ from ⟨kb, by omega⟩) rfl ?_
  obtain ⟨Y13, jY13⟩ : ∃ X : xH, X = (xUp Y12.1 b 17 (H.1 c 17), Y12.2) := ⟨_, rfl⟩
  rw [← jY13]
  have yd13 : Y13.1 = xUp Y12.1 b 17 (H.1 c 17) := by rw [jY13]
  have y213 : Y13.2 = K.2 := by rw [jY13]; exact y212
  have yo13 : ∀ x j : Int, x ≠ b → Y13.1 x j = K.1 x j := fun x j h => by rw [yd13]; exact (up_na h).trans (yo12 x j h)
  have yv13 : ∀ j : Int, 4 ≤ j → j ≤ 17 → Y13.1 b j = H.1 c j := fun j ujj0 ujj1 => by
    rw [yd13]
    by_cases z : j = 17
    · rw [z]; exact up_eq
    · exact (up_j z).trans (yv12 j ujj0 (by omega))
  replace kb : Y13.2.1 b = 10 := by rw [y213, k2]; exact (sk_kb hT hB).1
  replace kc : Y13.2.1 c = 10 := by rw [y213, k2]; exact (sk_kb hT hC).1
  refine q_al (pc := 98) (i := 0) (x := b) rfl rfl ?_
  refine q_al (pc := 99) (i := 1) (x := c) rfl rfl ?_
  refine q_gf (pc := 100) (m := 10180) (t := 0) (c := 18) rfl kc rfl rfl ?_
  rw [show Y13.1 c 18 = H.1 c 18 from (yo13 c 18 (by omega)).trans (ow 18)]
  refine q_pf (pc := 101) (m := 10180) (c := 18) rfl (show xPt 0 0 _ _ from kb) rfl ?_
  obtain ⟨Y14, jY14⟩ : ∃ X : xH, X = (xUp Y13.1 b 18 (H.1 c 18), Y13.2) := ⟨_, rfl⟩
  rw [← jY14]
  have yd14 : Y14.1 = xUp Y13.1 b 18 (H.1 c 18) := by rw [jY14]
  have y214 : Y14.2 = K.2 := by rw [jY14]; exact y213
  have yo14 : ∀ x j : Int, x ≠ b → Y14.1 x j = K.1 x j := fun x j h => by rw [yd14]; exact (up_na h).trans (yo13 x j h)
  have yv14 : ∀ j : Int, 4 ≤ j → j ≤ 18 → Y14.1 b j = H.1 c j := fun j ujj0 ujj1 => by
    rw [yd14]
    by_cases z : j = 18
    · rw [z]; exact up_eq
    · exact (up_j z).trans (yv13 j ujj0 (by omega))
  replace kb : Y14.2.1 b = 10 := by rw [y214, k2]; exact (sk_kb hT hB).1
  replace kc : Y14.2.1 c = 10 := by rw [y214, k2]; exact (sk_kb hT hC).1
  refine q_rv (pc := 102) rfl ?_
  refine hq Y14 (y214.trans k2) (fun x j h => (yo14 x j (by omega)).trans (ko x j h)) ⟨yv14, fun p j p0 p1 ujj0 ujj1 => (yo14 _ _ (by omega)).trans (kp p j p0 p1 ujj0 ujj1), fun l j l0 l1 ujj0 ujj1 => (yo14 _ _ (by omega)).trans (kl l j l0 l1 ujj0 ujj1), ⟨(yo14 _ _ (by omega)).trans kv.1, fun s s0 s1 => ⟨(yo14 _ _ (by omega)).trans (kv.2 s s0 s1).1, (yo14 _ _ (by omega)).trans (kv.2 s s0 s1).2⟩⟩, ⟨(yo14 _ _ (by omega)).trans ks.1, fun s s0 s1 => ⟨(yo14 _ _ (by omega)).trans (ks.2 s s0 s1).1, (yo14 _ _ (by omega)).trans (ks.2 s s0 s1).2⟩⟩⟩
theorem lk_32 {e : Nat} (he : 2 ≤ e) {H : xH} (hT : ttTI H) {b c : Int} (hB : skB b) (hC : skB c) (hne : b ≠ c) (wb : skW H.1 b) (wc : skW H.1 c) {K : xH} (k2 : K.2 = H.2) (ko : (∀ x j : Int, (x < b ∨ b + 26 < x) → K.1 x j = H.1 x j)) (kw : ∀ x j : Int, (b + 3 ≤ x ∧ x ≤ b + 8) → K.1 x j = H.1 x j) (kp : ∀ p j : Int, 0 ≤ p → p ≤ 7 → 0 ≤ j → j ≤ 6 → K.1 (b + 9 + p) j = H.1 (c + 9 + p) j) (kl : ∀ l j : Int, 0 ≤ l → l ≤ 9 → 0 ≤ j → j ≤ 5 → K.1 (b + 17 + l) j = H.1 (c + 17 + l) j) (kb0 : ∀ j : Int, K.1 b j = H.1 b j) {x2 : xV} {Q : Int → xH → Prop} (hq : ∀ J, J.2 = H.2 → (∀ x j : Int, (x < b ∨ b + 26 < x) → J.1 x j = H.1 x j) → skE H.1 c J.1 b → Q 0 J) : xW e cd_112 Q (32, [(2, b), (2, c), x2], [], K) := by
  have far := skB_far hB hC hne
  have bi := skB_in hB
  have ci := skB_in hC
  have x : ∀ {d : Int}, skB d → ∀ {o κ len : Int}, 0 ≤ o → o ≤ 26 → ((ttTb (ttSk o.toNat)).1 = κ ∧ (ttTb (ttSk o.toNat)).2.1 = len) → K.2.1 (d + o) = κ ∧ K.2.2.1 (d + o) = len := fun {d} hd {o κ len} o0 o1 h => kk k2 (sk_kx hT hd o0 o1 h)
  refine q_al (pc := 32) (i := 0) (x := b) rfl rfl ?_
  refine q_gf (pc := 33) (m := 10022) (t := 2) (c := 2) rfl (kk k2 (sk_kb hT hB)).1 rfl rfl ?_
  rw [show K.1 b 2 = b + 3 from (kb0 2).trans wb.1.2.2.1]
  refine q_al (pc := 34) (i := 1) (x := c) rfl rfl ?_
  refine q_gf (pc := 35) (m := 10022) (t := 2) (c := 2) rfl (kk k2 (sk_kb hT hC)).1 rfl rfl ?_
  rw [show K.1 c 2 = c + 3 from (ko c 2 (by omega)).trans wc.1.2.2.1]
  refine q_iv (pc := 36) (q := 528491) rfl rfl rfl ⟨by omega, (x hB (o := 3) (κ := 6) (len := 0) (by decide) (by decide) ⟨rfl, rfl⟩).1⟩ ?_
  refine lk_66 (by omega) (x hB (o := 3) (κ := 6) (len := 0) (by decide) (by decide) ⟨rfl, rfl⟩).1 (x hC (o := 3) (κ := 6) (len := 0) (by decide) (by decide) ⟨rfl, rfl⟩).1 (x hB (o := 4) (by decide) (by decide) ⟨rfl, rfl⟩) (x hB (o := 5) (by decide) (by decide) ⟨rfl, rfl⟩) (x hC (o := 4) (by decide) (by decide) ⟨rfl, rfl⟩) (x hC (o := 5) (by decide) (by decide) ⟨rfl, rfl⟩) (by omega) (by omega) far ⟨(kw _ _ ⟨by omega, by omega⟩).trans wb.2.2.2.1.1, (kw _ _ ⟨by omega, by omega⟩).trans wb.2.2.2.1.2⟩ ⟨(ko _ _ (by omega)).trans wc.2.2.2.1.1, (ko _ _ (by omega)).trans wc.2.2.2.1.2⟩ (fun M m2 mo m0 mv => ?_)
  have m3 : M.2 = H.2 := m2.trans k2
  have y : ∀ {d : Int}, skB d → ∀ {o κ len : Int}, 0 ≤ o → o ≤ 26 → ((ttTb (ttSk o.toNat)).1 = κ ∧ (ttTb (ttSk o.toNat)).2.1 = len) → M.2.1 (d + o) = κ ∧ M.2.2.1 (d + o) = len := fun {d} hd {o κ len} o0 o1 h => kk m3 (sk_kx hT hd o0 o1 h)
  refine q_al (pc := 37) (i := 0) (x := b) rfl rfl ?_
  refine q_gf (pc := 38) (m := 10032) (t := 2) (c := 3) rfl (kk m3 (sk_kb hT hB)).1 rfl rfl ?_
  rw [show M.1 b 3 = b + 6 from (mo b 3 (by omega) (by omega) (by omega)).trans ((kb0 3).trans wb.1.2.2.2)]
  refine q_al (pc := 39) (i := 1) (x := c) rfl rfl ?_
  refine q_gf (pc := 40) (m := 10032) (t := 2) (c := 3) rfl (kk m3 (sk_kb hT hC)).1 rfl rfl ?_
  rw [show M.1 c 3 = c + 6 from (mo c 3 (by omega) (by omega) (by omega)).trans ((ko c 3 (by omega)).trans wc.1.2.2.2)]
  refine q_iv (pc := 41) (q := 872731) rfl rfl rfl ⟨by omega, (y hB (o := 6) (κ := 9) (len := 0) (by decide) (by decide) ⟨rfl, rfl⟩).1⟩ ?_
  refine lk_109 (by omega) (y hB (o := 6) (κ := 9) (len := 0) (by decide) (by decide) ⟨rfl, rfl⟩).1 (y hC (o := 6) (κ := 9) (len := 0) (by decide) (by decide) ⟨rfl, rfl⟩).1 (y hB (o := 7) (by decide) (by decide) ⟨rfl, rfl⟩) (y hB (o := 8) (by decide) (by decide) ⟨rfl, rfl⟩) (y hC (o := 7) (by decide) (by decide) ⟨rfl, rfl⟩) (y hC (o := 8) (by decide) (by decide) ⟨rfl, rfl⟩) (by omega) (by omega) far ⟨(mo _ _ (by omega) (by omega) (by omega)).trans ((kw _ _ ⟨by omega, by omega⟩).trans wb.2.2.2.2.1), (mo _ _ (by omega) (by omega) (by omega)).trans ((kw _ _ ⟨by omega, by omega⟩).trans wb.2.2.2.2.2)⟩ ⟨(mo _ _ (by omega) (by omega) (by omega)).trans ((ko _ _ (by omega)).trans wc.2.2.2.2.1), (mo _ _ (by omega) (by omega) (by omega)).trans ((ko _ _ (by omega)).trans wc.2.2.2.2.2)⟩ (fun N n2 no n0 nv => ?_)
  have nk : ∀ x j : Int, (x < b + 3 ∨ b + 8 < x) → N.1 x j = K.1 x j := fun x j h => (no x j (by omega) (by omega) (by omega)).trans (mo x j (by omega) (by omega) (by omega))
  refine lk_42 hT hB hC hne wb wc (n2.trans m3) (fun x j h => (nk x j (by omega)).trans (ko x j h)) (fun p j p0 p1 ujj0 ujj1 => (nk _ _ (by omega)).trans (kp p j p0 p1 ujj0 ujj1)) (fun l j l0 l1 ujj0 ujj1 => (nk _ _ (by omega)).trans (kl l j l0 l1 ujj0 ujj1)) ⟨?_, fun s s0 s1 => ⟨?_, ?_⟩⟩ ⟨?_, fun s s0 s1 => ⟨?_, ?_⟩⟩ hq
  · exact (no _ _ (by omega) (by omega) (by omega)).trans (m0.trans (ko _ _ (by omega)))
  · exact (no _ _ (by omega) (by omega) (by omega)).trans ((mv s s0 s1).1.trans (ko _ _ (by omega)))
  · exact (no _ _ (by omega) (by omega) (by omega)).trans ((mv s s0 s1).2.trans (ko _ _ (by omega)))
  · exact n0.trans ((mo _ _ (by omega) (by omega) (by omega)).trans (ko _ _ (by omega)))
  · exact (nv s s0 s1).1.trans ((mo _ _ (by omega) (by omega) (by omega)).trans (ko _ _ (by omega)))
  · exact (nv s s0 s1).2.trans ((mo _ _ (by omega) (by omega) (by omega)).trans (ko _ _ (by omega)))
theorem lk_18 {e : Nat} (he : 2 ≤ e) {H : xH} (hT : ttTI H) {b c : Int} (hB : skB b) (hC : skB c) (hne : b ≠ c) (wb : skW H.1 b) (wc : skW H.1 c) {Q : Int → xH → Prop} (hq : ∀ J, J.2 = H.2 → (∀ x j : Int, (x < b ∨ b + 26 < x) → J.1 x j = H.1 x j) → skE H.1 c J.1 b → Q 0 J) : ∀ n : Nat, ∀ (K : xH) (i : Int), 0 ≤ i → i ≤ 10 → 10 - i ≤ (n : Int) → K.2 = H.2 → (∀ x j : Int, (x < b ∨ b + 26 < x) → K.1 x j = H.1 x j) → (∀ x j : Int, (x < b + 9) → K.1 x j = H.1 x j) → (∀ p j : Int, 0 ≤ p → p ≤ 7 → 0 ≤ j → j ≤ 6 → K.1 (b + 9 + p) j = H.1 (c + 9 + p) j) → (∀ l j : Int, 0 ≤ l → l < i → 0 ≤ j → j ≤ 5 → K.1 (b + 17 + l) j = H.1 (c + 17 + l) j) → xW e cd_112 Q (18, [(2, b), (2, c), (0, i)], [], K) := by
  have far := skB_far hB hC hne
  have bi := skB_in hB
  have ci := skB_in hC
  intro n
  induction n with
  | zero =>
    intro K i i0 i1 hk k2 ko kw kp kl
    refine q_il (pc := 18) (i := 2) (x := i) rfl rfl ?_
    refine q_ic (pc := 19) (v := 10) rfl ?_
    refine q_i2 (pc := 20) rfl (fun h20 => ?_) (fun h20 => ?_)
    · replace h20 : 10 ≤ i := h20
      exact lk_32 he hT hB hC hne wb wc k2 ko (fun x j h => kw x j (by omega)) kp (fun l j l0 l1 ujj0 ujj1 => kl l j l0 (by omega) ujj0 ujj1) (fun j => kw b j (by omega)) hq
    · replace h20 : i < 10 := h20
      omega
  | succ n ih =>
    intro K i i0 i1 hk k2 ko kw kp kl
    refine q_il (pc := 18) (i := 2) (x := i) rfl rfl ?_
    refine q_ic (pc := 19) (v := 10) rfl ?_
    refine q_i2 (pc := 20) rfl (fun h20 => ?_) (fun h20 => ?_)
    · replace h20 : 10 ≤ i := h20
      exact lk_32 he hT hB hC hne wb wc k2 ko (fun x j h => kw x j (by omega)) kp (fun l j l0 l1 ujj0 ujj1 => kl l j l0 (by omega) ujj0 ujj1) (fun j => kw b j (by omega)) hq
    · replace h20 : i < 10 := h20
      refine q_al (pc := 21) (i := 0) (x := b) rfl rfl ?_
      refine q_gf (pc := 22) (m := 10012) (t := 2) (c := 1) rfl (kk k2 (sk_kb hT hB)).1 rfl rfl ?_
      rw [show K.1 b 1 = b + 2 from (kw b 1 (by omega)).trans wb.1.2.1]
      refine q_il (pc := 23) (i := 2) (x := i) rfl rfl ?_
      refine q_aa (pc := 24) rfl (by rw [(kk k2 (sk_kx hT hB (o := 2) (by decide) (by decide) (κ := 26) (len := 10) ⟨rfl, rfl⟩)).1]; decide) (by omega) (by rw [(kk k2 (sk_kx hT hB (o := 2) (by decide) (by decide) (κ := 26) (len := 10) ⟨rfl, rfl⟩)).2]; omega) ?_
      rw [show K.1 (b + 2) i = b + 17 + i from (kw _ i (by omega)).trans (wb.2.2.1 i (by omega) (by omega))]
      refine q_al (pc := 25) (i := 1) (x := c) rfl rfl ?_
      refine q_gf (pc := 26) (m := 10012) (t := 2) (c := 1) rfl (kk k2 (sk_kb hT hC)).1 rfl rfl ?_
      rw [show K.1 c 1 = c + 2 from (ko c 1 (by omega)).trans wc.1.2.1]
      refine q_il (pc := 27) (i := 2) (x := i) rfl rfl ?_
      refine q_aa (pc := 28) rfl (by rw [(kk k2 (sk_kx hT hC (o := 2) (by decide) (by decide) (κ := 26) (len := 10) ⟨rfl, rfl⟩)).1]; decide) (by omega) (by rw [(kk k2 (sk_kx hT hC (o := 2) (by decide) (by decide) (κ := 26) (len := 10) ⟨rfl, rfl⟩)).2]; omega) ?_
      rw [show K.1 (c + 2) i = c + 17 + i from (ko _ i (by omega)).trans (wc.2.2.1 i (by omega) (by omega))]
      refine q_iv (pc := 29) (q := 248171) rfl rfl rfl ⟨by omega, (kk k2 (sk_kl hT hB (by omega) (by omega))).1⟩ ?_
      refine lk_31 (by omega) (kk k2 (sk_kl hT hB (l := i) (by omega) (by omega))).1 (kk k2 (sk_kl hT hC (l := i) (by omega) (by omega))).1 (by omega) (by omega) (by omega) (fun J ujj2 jo jv => ?_)
      refine q_ii (pc := 30) (i := 2) (c := 1) (x := i) (L' := [(2, b), (2, c), (0, (i + 1))]) rfl rfl rfl (by omega) (by omega) rfl ?_
      refine q_go (pc := 31) rfl ?_
      refine ih J (i + 1) (by omega) (by omega) (by omega) (ujj2.trans k2) (fun x j h => (jo x j (by omega)).trans (ko x j h)) (fun x j h => (jo x j (by omega)).trans (kw x j h)) (fun p j p0 p1 ujj0 ujj1 => (jo _ _ (by omega)).trans (kp p j p0 p1 ujj0 ujj1)) (fun l j l0 l1 ujj0 ujj1 => ?_)
      by_cases z : l = i
      · rw [z]; exact (jv j ujj0 ujj1).trans (ko _ _ (by omega))
      · exact (jo _ _ (by omega)).trans (kl l j l0 (by omega) ujj0 ujj1)
theorem lc_copy {dd : Nat} (hd : 3 ≤ dd) {H : xH} (hT : ttTI H) {b c : Int} (hB : skB b) (hC : skB c) (hne : b ≠ c) (wb : skW H.1 b) (wc : skW H.1 c) {Q : Int → xH → Prop} (hq : ∀ J, J.2 = H.2 → (∀ x j : Int, (x < b ∨ b + 26 < x) → J.1 x j = H.1 x j) → skE H.1 c J.1 b → Q 0 J) : xCall dd 112 [(2, b), (2, c)] H Q := by
  obtain ⟨e, rfl, he⟩ := ttRun0 (n := 2) hd
  have he : 2 ≤ e := he
  have far := skB_far hB hC hne
  have bi := skB_in hB
  have ci := skB_in hC
  have hl : ∀ n : Nat, ∀ (K : xH) (i : Int), 0 ≤ i → i ≤ 8 → 8 - i ≤ (n : Int) → K.2 = H.2 → (∀ x j : Int, (x < b ∨ b + 26 < x) → K.1 x j = H.1 x j) → (∀ x j : Int, (x < b + 9) → K.1 x j = H.1 x j) → (∀ p j : Int, 0 ≤ p → p < i → 0 ≤ j → j ≤ 6 → K.1 (b + 9 + p) j = H.1 (c + 9 + p) j) → xW e cd_112 Q (2, [(2, b), (2, c), (0, i)], [], K) := by
    intro n
    induction n with
    | zero =>
      intro K i i0 i1 hk k2 ko kw kp
      refine q_il (pc := 2) (i := 2) (x := i) rfl rfl ?_
      refine q_ic (pc := 3) (v := 8) rfl ?_
      refine q_i2 (pc := 4) rfl (fun h4 => ?_) (fun h4 => ?_)
      · replace h4 : 8 ≤ i := h4
        refine q_ic (pc := 16) (v := 0) rfl ?_
        refine q_is (pc := 17) (i := 2) (L' := [(2, b), (2, c), (0, 0)]) rfl rfl rfl ?_
        exact lk_18 he hT hB hC hne wb wc hq 10 K 0 (by decide) (by decide) (by decide) k2 ko kw (fun p j p0 p1 ujj0 ujj1 => kp p j p0 (by omega) ujj0 ujj1) (fun l j l0 l1 _ _ => absurd l1 (by omega))
      · replace h4 : i < 8 := h4
        omega
    | succ n ih =>
      intro K i i0 i1 hk k2 ko kw kp
      refine q_il (pc := 2) (i := 2) (x := i) rfl rfl ?_
      refine q_ic (pc := 3) (v := 8) rfl ?_
      refine q_i2 (pc := 4) rfl (fun h4 => ?_) (fun h4 => ?_)
      · replace h4 : 8 ≤ i := h4
        refine q_ic (pc := 16) (v := 0) rfl ?_
        refine q_is (pc := 17) (i := 2) (L' := [(2, b), (2, c), (0, 0)]) rfl rfl rfl ?_
        exact lk_18 he hT hB hC hne wb wc hq 10 K 0 (by decide) (by decide) (by decide) k2 ko kw (fun p j p0 p1 ujj0 ujj1 => kp p j p0 (by omega) ujj0 ujj1) (fun l j l0 l1 _ _ => absurd l1 (by omega))
      · replace h4 : i < 8 := h4
        refine q_al (pc := 5) (i := 0) (x := b) rfl rfl ?_
        refine q_gf (pc := 6) (m := 10002) (t := 2) (c := 0) rfl (kk k2 (sk_kb hT hB)).1 rfl rfl ?_
        rw [show K.1 b 0 = b + 1 from (kw b 0 (by omega)).trans wb.1.1]
        refine q_il (pc := 7) (i := 2) (x := i) rfl rfl ?_
        refine q_aa (pc := 8) rfl (by rw [(kk k2 (sk_kx hT hB (o := 1) (by decide) (by decide) (κ := 25) (len := 8) ⟨rfl, rfl⟩)).1]; decide) (by omega) (by rw [(kk k2 (sk_kx hT hB (o := 1) (by decide) (by decide) (κ := 25) (len := 8) ⟨rfl, rfl⟩)).2]; omega) ?_
        rw [show K.1 (b + 1) i = b + 9 + i from (kw _ i (by omega)).trans (wb.2.1 i (by omega) (by omega))]
        refine q_al (pc := 9) (i := 1) (x := c) rfl rfl ?_
        refine q_gf (pc := 10) (m := 10002) (t := 2) (c := 0) rfl (kk k2 (sk_kb hT hC)).1 rfl rfl ?_
        rw [show K.1 c 0 = c + 1 from (ko c 0 (by omega)).trans wc.1.1]
        refine q_il (pc := 11) (i := 2) (x := i) rfl rfl ?_
        refine q_aa (pc := 12) rfl (by rw [(kk k2 (sk_kx hT hC (o := 1) (by decide) (by decide) (κ := 25) (len := 8) ⟨rfl, rfl⟩)).1]; decide) (by omega) (by rw [(kk k2 (sk_kx hT hC (o := 1) (by decide) (by decide) (κ := 25) (len := 8) ⟨rfl, rfl⟩)).2]; omega) ?_
        rw [show K.1 (c + 1) i = c + 9 + i from (ko _ i (by omega)).trans (wc.2.1 i (by omega) (by omega))]
        refine q_iv (pc := 13) (q := 336331) rfl rfl rfl ⟨by omega, (kk k2 (sk_kp hT hB (by omega) (by omega))).1⟩ ?_
        have fl := fld_pl hT hC (p := i) i0 (by omega)
        refine lk_42p (by omega) (kk k2 (sk_kp hT hB (p := i) (by omega) (by omega))).1 (kk k2 (sk_kp hT hC (p := i) (by omega) (by omega))).1 (by omega) (by omega) (by omega) (by rw [ko _ _ (by omega)]; exact fl) (fun J ujj2 jo jv => ?_)
        refine q_ii (pc := 14) (i := 2) (c := 1) (x := i) (L' := [(2, b), (2, c), (0, (i + 1))]) rfl rfl rfl (by omega) (by omega) rfl ?_
        refine q_go (pc := 15) rfl ?_
        refine ih J (i + 1) (by omega) (by omega) (by omega) (ujj2.trans k2) (fun x j h => (jo x j (by omega)).trans (ko x j h)) (fun x j h => (jo x j (by omega)).trans (kw x j h)) (fun p j p0 p1 ujj0 ujj1 => ?_)
        by_cases z : p = i
        · rw [z]; exact (jv j ujj0 ujj1).trans (ko _ _ (by omega))
        · exact (jo _ _ (by omega)).trans (kp p j p0 (by omega) ujj0 ujj1)
  refine xC_of (L := [(2, b), (2, c), (9, 0)]) (cd := cd_112) rfl rfl rfl ?_
  refine q_ic (pc := 0) (v := 0) rfl ?_
  refine q_is (pc := 1) (i := 2) (L' := [(2, b), (2, c), (0, 0)]) rfl rfl rfl ?_
  exact hl 8 H 0 (by decide) (by decide) (by decide) rfl (fun _ _ _ => rfl) (fun _ _ _ => rfl) (fun p j p0 p1 _ _ => absurd p1 (by omega))
