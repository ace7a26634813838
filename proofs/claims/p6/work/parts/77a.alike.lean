/-! the law: what both bear alike -/
def lwR3 (H : xH) : Prop := ((H.1 1 5 = 7 ∧ H.1 1 6 = 34) ∨ (H.1 1 5 = 34 ∧ H.1 1 6 = 7)) ∧ (skW H.1 7 ∧ skW H.1 34) ∧ (H.1 1 3 = H.1 183 12 ∧ H.1 1 4 = H.1 183 13)
def lwRO (H : xH) : Prop := (H.1 1 1 = H.1 183 5 ∧ ∀ j : Int, 0 ≤ j → j < H.1 1 1 → H.1 2 j = H.1 187 j) ∧ lwR3 H
def lwNo (ef : ttEf) (a : Nat) (j : Int) : Bool := ef.2.all (fun q => decide (q.1 ≠ a) || (decide (j < q.2.1) || decide (q.2.2 < j)))
def lwC3 (ef : ttEf) : Bool := ((lwNo ef 1 3 && lwNo ef 1 4) && (lwNo ef 183 12 && lwNo ef 183 13)) && skWe ef
def lwC5 (ef : ttEf) : Bool := lwNo ef 1 5 && lwNo ef 1 6
def lwC1 (ef : ttEf) : Bool := (lwNo ef 1 1 && lwNo ef 183 5) && (ef.2.all (fun q => decide (q.1 ≠ 2)) && ef.2.all (fun q => decide (q.1 ≠ 187)))
def lwCo (ef : ttEf) : Bool := lwC1 ef && (lwC3 ef && lwC5 ef)
theorem lwNo_ok {ef : ttEf} {H K : xH} (hF : ttFr ef H K) (hn : 210 ≤ (H.2.2.2.1 : Int)) {a : Int} {r : Nat} {j : Int} (ha : a < 210) (hr : ttRo a = r) (h : lwNo ef r j = true) : K.1 a j = H.1 a j := fr_cl hF (by omega) (by rw [hr]; exact h)
theorem lwR3_f {ef : ttEf} {H K : xH} (hF : ttFr ef H K) (hn : 210 ≤ (H.2.2.2.1 : Int)) (c : lwC3 ef = true) (c5 : lwC5 ef = true) (h : lwR3 H) : lwR3 K := by
  obtain ⟨c1, c2⟩ := zz_and c
  obtain ⟨c1, c3⟩ := zz_and c1
  obtain ⟨d1, d2⟩ := zz_and c1
  obtain ⟨d3, d4⟩ := zz_and c3
  obtain ⟨d5, d6⟩ := zz_and c5
  obtain ⟨h1, h2, h3⟩ := h
  have e5 := lwNo_ok hF hn (a := 1) (by decide) rfl d5
  have e6 := lwNo_ok hF hn (a := 1) (by decide) rfl d6
  have e3 := lwNo_ok hF hn (a := 1) (by decide) rfl d1
  have e4 := lwNo_ok hF hn (a := 1) (by decide) rfl d2
  have e12 := lwNo_ok hF hn (a := 183) (by decide) rfl d3
  have e13 := lwNo_ok hF hn (a := 183) (by decide) rfl d4
  refine ⟨?_, ⟨skW_fr hF hn (Or.inl rfl) c2 h2.1, skW_fr hF hn (Or.inr (Or.inl rfl)) c2 h2.2⟩, ?_⟩
  · rw [e5, e6]; exact h1
  · rw [e3, e4, e12, e13]; exact h3
theorem lwRO_f {ef : ttEf} {H K : xH} (hF : ttFr ef H K) (hn : 210 ≤ (H.2.2.2.1 : Int)) (c : lwCo ef = true) (h : lwRO H) : lwRO K := by
  obtain ⟨c1, c2⟩ := zz_and c
  obtain ⟨c3, c5⟩ := zz_and c2
  obtain ⟨d1, d2⟩ := zz_and c1
  obtain ⟨d3, d4⟩ := zz_and d1
  obtain ⟨d5, d6⟩ := zz_and d2
  have e1 := lwNo_ok hF hn (a := 1) (by decide) rfl d3
  have e2 := lwNo_ok hF hn (a := 183) (by decide) rfl d4
  refine ⟨⟨by rw [e1, e2]; exact h.1.1, fun j j0 j1 => ?_⟩, lwR3_f hF hn c3 c5 h.2⟩
  rw [fr_no hF 2 (by omega) rfl d5, fr_no hF 187 (by omega) rfl d6]
  exact h.1.2 j j0 (by rw [← e1]; exact j1)
theorem lz_feed1 {dd : Nat} {a1 a2 a3 a4 a5 : Int} (hd : 2 ≤ dd) {H : xH} (hT : ttTI H) (hX : ttXX YY H) {Q : Int → xH → Prop} (hq : ∀ r K, K.1 1 1 = rsFed (H.1 1 1) → (∀ j : Int, j < H.1 1 1 → K.1 2 j = H.1 2 j) → (¬ 1600 < H.1 1 1 + 20 → ∀ i : Int, 0 ≤ i → i < 20 → K.1 2 (H.1 1 1 + i) = fdB a1 a2 a3 a4 a5 i) → ttTI K → ttXX YY K → ttFr (true, [(1, 1, 1), (2, 0, 1599)]) H K → Q r K) : xCall dd 133 [(2, 1), (0, a1), (0, a2), (0, a3), (0, a4), (0, a5)] H Q :=
  xCall_and (lx_feed1 hd hT hX (Q := fun _ K => K.1 1 1 = rsFed (H.1 1 1) ∧ ttTI K ∧ ttXX YY K ∧ ttFr (true, [(1, 1, 1), (2, 0, 1599)]) H K) (fun _ _ _ z t x f => ⟨z, t, x, f⟩)) (lx_feedC1 hd hT hX (Q := fun _ K => (∀ j : Int, j < H.1 1 1 → K.1 2 j = H.1 2 j) ∧ (¬ 1600 < H.1 1 1 + 20 → ∀ i : Int, 0 ≤ i → i < 20 → K.1 2 (H.1 1 1 + i) = fdB a1 a2 a3 a4 a5 i)) (fun _ _ a b => ⟨a, b⟩)) (fun r K f g => hq r K f.1 g.1 g.2 f.2.1 f.2.2.1 f.2.2.2)
theorem lz_feed2 {dd : Nat} {a1 a2 a3 a4 a5 : Int} (hd : 1 ≤ dd) {H : xH} (hT : ttTI H) (hX : ttXX YY H) (p1 : -2147483648 ≤ a1 ∧ a1 ≤ 2147483647) (p2 : -2147483648 ≤ a2 ∧ a2 ≤ 2147483647) (p3 : -2147483648 ≤ a3 ∧ a3 ≤ 2147483647) (p4 : -2147483648 ≤ a4 ∧ a4 ≤ 2147483647) (p5 : -2147483648 ≤ a5 ∧ a5 ≤ 2147483647) {Q : Int → xH → Prop} (hq : ∀ r K, K.1 183 5 = rsFed (H.1 183 5) → (∀ j : Int, j < H.1 183 5 → K.1 187 j = H.1 187 j) → (¬ 1600 < H.1 183 5 + 20 → ∀ i : Int, 0 ≤ i → i < 20 → K.1 187 (H.1 183 5 + i) = fdB a1 a2 a3 a4 a5 i) → ttTI K → ttXX YY K → ttFr (true, [(183, 5, 5), (188, 0, 4), (187, 0, 1599)]) H K → Q r K) : xCall dd 210 [(2, 183), (0, a1), (0, a2), (0, a3), (0, a4), (0, a5)] H Q :=
  xCall_and (lx_feed2 hd hT hX p1 p2 p3 p4 p5 (Q := fun _ K => K.1 183 5 = rsFed (H.1 183 5) ∧ ttTI K ∧ ttXX YY K ∧ ttFr (true, [(183, 5, 5), (188, 0, 4), (187, 0, 1599)]) H K) (fun _ _ _ z t x f => ⟨z, t, x, f⟩)) (lx_feedC2 hd hT hX p1 p2 p3 p4 p5 (Q := fun _ K => (∀ j : Int, j < H.1 183 5 → K.1 187 j = H.1 187 j) ∧ (¬ 1600 < H.1 183 5 + 20 → ∀ i : Int, 0 ≤ i → i < 20 → K.1 187 (H.1 183 5 + i) = fdB a1 a2 a3 a4 a5 i)) (fun _ _ a b => ⟨a, b⟩)) (fun r K f g => hq r K f.1 g.1 g.2 f.2.1 f.2.2.1 f.2.2.2)
theorem rr_feed {H M K : xH} {a1 a2 a3 a4 a5 : Int} (hn : 210 ≤ (H.2.2.2.1 : Int)) (hR : lwRO H) (MF : ttFr (true, [(1, 1, 1), (2, 0, 1599)]) H M) (KF : ttFr (true, [(183, 5, 5), (188, 0, 4), (187, 0, 1599)]) M K) (mz : M.1 1 1 = rsFed (H.1 1 1)) (ma : ∀ j : Int, j < H.1 1 1 → M.1 2 j = H.1 2 j) (mb : ¬ 1600 < H.1 1 1 + 20 → ∀ i : Int, 0 ≤ i → i < 20 → M.1 2 (H.1 1 1 + i) = fdB a1 a2 a3 a4 a5 i) (kz : K.1 183 5 = rsFed (M.1 183 5)) (ka : ∀ j : Int, j < M.1 183 5 → K.1 187 j = M.1 187 j) (kb : ¬ 1600 < M.1 183 5 + 20 → ∀ i : Int, 0 ≤ i → i < 20 → K.1 187 (M.1 183 5 + i) = fdB a1 a2 a3 a4 a5 i) : lwRO K := by
  have nM : 210 ≤ (M.2.2.2.1 : Int) := by have := MF.2.1; omega
  have e5 : M.1 183 5 = H.1 1 1 := (fr_cl MF (a := 183) (j := 5) (by omega) (by decide)).trans hR.1.1.symm
  have k1 : K.1 1 1 = rsFed (H.1 1 1) := (fr_cl KF (a := 1) (j := 1) (by omega) (by decide)).trans mz
  rw [e5] at kz ka kb
  refine ⟨⟨k1.trans kz.symm, fun j j0 j1 => ?_⟩, lwR3_f KF nM (by decide) (by decide) (lwR3_f MF hn (by decide) (by decide) hR.2)⟩
  rw [k1] at j1
  have k2 : K.1 2 j = M.1 2 j := fr_no KF 2 (by omega) rfl (by decide)
  have m7 : M.1 187 j = H.1 187 j := fr_no MF 187 (by omega) rfl (by decide)
  rw [k2]
  by_cases c : j < H.1 1 1
  · rw [ma j c, ka j c, m7]; exact hR.1.2 j j0 c
  · by_cases z : 1600 < H.1 1 1 + 20
    · rw [show rsFed (H.1 1 1) = H.1 1 1 from if_pos z] at j1
      exact absurd j1 c
    · rw [show rsFed (H.1 1 1) = H.1 1 1 + 20 from if_neg z] at j1
      have u := mb z (j - H.1 1 1) (by omega) (by omega)
      have v := kb z (j - H.1 1 1) (by omega) (by omega)
      rw [show H.1 1 1 + (j - H.1 1 1) = j from by omega] at u v
      exact u.trans v.symm
theorem rr_end {H M K : xH} {n : Int} (hn : 210 ≤ (H.2.2.2.1 : Int)) (hR : lwRO H) (MF : ttFr (true, [(1, 1, 1)]) H M) (KF : ttFr (true, [(183, 5, 5)]) M K) (mz : M.1 1 1 = rsEnded (H.1 1 1) n) (kz : K.1 183 5 = rsEnded (M.1 183 5) n) : lwRO K := by
  have nM : 210 ≤ (M.2.2.2.1 : Int) := by have := MF.2.1; omega
  have e5 : M.1 183 5 = H.1 1 1 := (fr_cl MF (a := 183) (j := 5) (by omega) (by decide)).trans hR.1.1.symm
  have k1 : K.1 1 1 = rsEnded (H.1 1 1) n := (fr_cl KF (a := 1) (j := 1) (by omega) (by decide)).trans mz
  rw [e5] at kz
  refine ⟨⟨k1.trans kz.symm, fun j j0 j1 => ?_⟩, lwR3_f KF nM (by decide) (by decide) (lwR3_f MF hn (by decide) (by decide) hR.2)⟩
  rw [k1] at j1
  have le : rsEnded (H.1 1 1) n ≤ H.1 1 1 := by
    unfold rsEnded
    (repeat' split) <;> omega
  rw [fr_no KF 2 (by omega) rfl (by decide), fr_no MF 2 (by omega) rfl (by decide), fr_no KF 187 (by omega) rfl (by decide), fr_no MF 187 (by omega) rfl (by decide)]
  exact hR.1.2 j j0 (by omega)
theorem lz_sky1 {dd : Nat} (hd : 13 ≤ dd) {H : xH} (hT : ttTI H) (hX : ttXX YY H) (hR : lwRO H) {Q : Int → xH → Prop} (hq : ∀ r K T E b b2, ((b = 7 ∧ b2 = 34) ∨ (b = 34 ∧ b2 = 7)) → sOk T (H.1 1 1) → (∀ j : Int, T.1 j = H.1 2 j) → zEnd T zZ0 E → r1W b b2 E r K → H.1 1 5 = b2 → skO b H K → ttTI K → ttXX YY K → ttFr (true, [(1, 1, 1), (1, 3, 6), (3, 4, 9), (4, 0, 1600), (5, 0, 1600), (6, 0, 1600), (7, 4, 18), (10, 0, 0), (11, 0, 5), (12, 0, 5), (13, 0, 0), (16, 0, 6), (24, 0, 5), (63, 6, 6), (64, 0, 16), (65, 0, 239), (66, 0, 239), (67, 0, 239), (68, 0, 239), (69, 0, 239), (70, 0, 15), (210, 9, 9)]) H K → Q r K) : xCall dd 136 [(2, 1)] H Q := by
  have go : ∀ b b2 : Int, ((b = 7 ∧ b2 = 34) ∨ (b = 34 ∧ b2 = 7)) → H.1 1 6 = b → H.1 1 5 = b2 → skW H.1 b → xCall dd 136 [(2, 1)] H Q := fun b b2 hb h6 h5 hW =>
    xCall_and (lx_sky1 (by omega) hT hX (Q := fun _ K => ttTI K ∧ ttXX YY K ∧ ttFr (true, [(1, 1, 1), (1, 3, 6), (3, 4, 9), (4, 0, 1600), (5, 0, 1600), (6, 0, 1600), (7, 4, 18), (10, 0, 0), (11, 0, 5), (12, 0, 5), (13, 0, 0), (16, 0, 6), (24, 0, 5), (63, 6, 6), (64, 0, 16), (65, 0, 239), (66, 0, 239), (67, 0, 239), (68, 0, 239), (69, 0, 239), (70, 0, 15), (210, 9, 9)]) H K) (fun _ _ _ t x f => ⟨t, x, f⟩)) (lx_sky hd hT hX (b := b) (b2 := b2) (n := H.1 1 1) (by omega) (by omega) h6 h5 hW rfl (Q := fun r K => ∃ T E, sOk T (H.1 1 1) ∧ (∀ j : Int, T.1 j = H.1 2 j) ∧ zEnd T zZ0 E ∧ r1W b b2 E r K ∧ skO b H K) (fun _ _ T E a1 a2 a3 a4 a5 => ⟨T, E, a1, a2, a3, a4, a5⟩)) (fun r K f g => by
      obtain ⟨T, E, a1, a2, a3, a4, a5⟩ := g
      exact hq r K T E b b2 hb a1 a2 a3 a4 h5 a5 f.1 f.2.1 f.2.2)
  rcases hR.2.1 with ⟨h5, h6⟩ | ⟨h5, h6⟩
  · exact go 34 7 (Or.inr ⟨rfl, rfl⟩) h6 h5 hR.2.2.1.2
  · exact go 7 34 (Or.inl ⟨rfl, rfl⟩) h6 h5 hR.2.2.1.1
theorem lz_sky2 {dd : Nat} (hd : 14 ≤ dd) {H : xH} (hT : ttTI H) (hX : ttXX YY H) {T : tSm} {n : Int} (hO : sOk T n) (en : H.1 183 5 = n) (ht : ∀ j : Int, 0 ≤ j → j < n → H.1 187 j = T.1 j) {Q : Int → xH → Prop} (hq : ∀ r K E, zEnd T zZ0 E → r2W T E r K → (E.1.2.1 ≠ 0 → ∀ j : Int, K.1 184 j = H.1 184 j) → K.1 183 5 = 0 → ttTI K → ttXX YY K → ttFr (true, [(183, 5, 5), (183, 7, 13), (183, 15, 15), (189, 0, 195), (184, 0, 195), (193, 0, 975), (183, 22, 22), (183, 29, 29)]) H K → Q r K) : xCall dd 233 [(2, 183)] H Q :=
  xCall_and (lx_sky2 hd hT hX (Q := fun _ K => K.1 183 5 = 0 ∧ ttTI K ∧ ttXX YY K ∧ ttFr (true, [(183, 5, 5), (183, 7, 13), (183, 15, 15), (189, 0, 195), (184, 0, 195), (193, 0, 975), (183, 22, 22), (183, 29, 29)]) H K) (fun _ _ z t x f => ⟨z, t, x, f⟩)) (ly_sky hd hT hO en ht (Q := fun r K => ∃ E, zEnd T zZ0 E ∧ r2W T E r K ∧ (E.1.2.1 ≠ 0 → ∀ j : Int, K.1 184 j = H.1 184 j)) (fun _ _ E a1 a2 a3 => ⟨E, a1, a2, a3⟩)) (fun r K f g => by
    obtain ⟨E, a1, a2, a3⟩ := g
    exact hq r K E a1 a2 a3 f.1 f.2.1 f.2.2.1 f.2.2.2)
theorem rr_sky {H M K : xH} {T : tSm} {E : tZ} {b b2 r r2 : Int} (hn : 210 ≤ (H.2.2.2.1 : Int)) (hR : lwRO H) (hb : (b = 7 ∧ b2 = 34) ∨ (b = 34 ∧ b2 = 7)) (MF : ttFr (true, [(1, 1, 1), (1, 3, 6), (3, 4, 9), (4, 0, 1600), (5, 0, 1600), (6, 0, 1600), (7, 4, 18), (10, 0, 0), (11, 0, 5), (12, 0, 5), (13, 0, 0), (16, 0, 6), (24, 0, 5), (63, 6, 6), (64, 0, 16), (65, 0, 239), (66, 0, 239), (67, 0, 239), (68, 0, 239), (69, 0, 239), (70, 0, 15), (210, 9, 9)]) H M) (KF : ttFr (true, [(183, 5, 5), (183, 7, 13), (183, 15, 15), (189, 0, 195), (184, 0, 195), (193, 0, 975), (183, 22, 22), (183, 29, 29)]) M K) (w1 : r1W b b2 E r M) (w2 : r2W T E r2 K) (k5 : K.1 183 5 = 0) : lwRO K ∧ r = r2 := by
  have nM : 210 ≤ (M.2.2.2.1 : Int) := by have := MF.2.1; omega
  obtain ⟨⟨f3, f4⟩, z1, c1, c2⟩ := w1
  obtain ⟨⟨g3, g4⟩, d1, d2⟩ := w2
  have e : ∀ j : Int, K.1 1 j = M.1 1 j := fun j => fr_no KF 1 (by omega) rfl (by decide)
  refine ⟨⟨⟨by rw [e, z1, k5], fun j j0 j1 => ?_⟩, ?_, ⟨skW_fr KF nM (Or.inl rfl) (by decide) (skW_fr MF hn (Or.inl rfl) (by decide) hR.2.2.1.1), skW_fr KF nM (Or.inr (Or.inl rfl)) (by decide) (skW_fr MF hn (Or.inr (Or.inl rfl)) (by decide) hR.2.2.1.2)⟩, ?_⟩, ?_⟩
  · rw [e, z1] at j1
    omega
  · rw [e, e]
    by_cases f : E.1.2.1 = 0
    · have u := c2 f
      omega
    · have u := c1 f
      omega
  · rw [e, e, f3, f4, g3, g4]; exact ⟨rfl, rfl⟩
  · by_cases f : E.1.2.1 = 0
    · exact (c2 f).1.trans (d2 f).1.symm
    · exact (c1 f).1.trans (d1 f).symm
def fdF (k p w : Int) : Int := if w = 0 then k else if w = 1 then p else -1
