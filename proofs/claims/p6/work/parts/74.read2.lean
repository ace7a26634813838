/-! the reference reads: what a line tells -/
def yyEF : ttEf := (true, [(183, 8, 13), (183, 15, 15), (189, 1, 195)])
def yyI (D : xD) : Prop := (∀ l : Int, 0 ≤ l → l < 10 → l < D 189 2 → D 189 (84 + 6 * l) < D 189 1 ∧ D 189 (85 + 6 * l) < D 189 1) ∧ yyP (D 189 15) ≤ 3 ∧ (D 189 12 ≠ -1 → 0 ≤ D 189 12 ∧ D 189 12 ≤ 7 ∧ D 189 12 < D 189 1) ∧ 31 ≤ D 189 7
theorem up_12 (D : xD) (j x : Int) : xUp D 189 j x 183 12 = D 183 12 := up_na (by decide)
theorem ty_fl {l : Int} (l0 : 0 ≤ l) (l1 : l ≤ 9) : ∀ c : Nat, c < 6 → ttTy (ttTb 189) (84 + 6 * l + c) = ([(0, 0, 7), (0, 0, 7), (0, 0, 60), (0, -999, 999), (0, -60, 60), (0, 0, 40)] : List ttI).getD c (9, 0, 0) := by
  have e : ∀ n : Nat, n < 10 → ∀ c : Nat, c < 6 → ttTy (ttTb 189) (84 + 6 * (n : Int) + c) = ([(0, 0, 7), (0, 0, 7), (0, 0, 60), (0, -999, 999), (0, -60, 60), (0, 0, 40)] : List ttI).getD c (9, 0, 0) := by decide +kernel
  have k := e l.toNat (by omega)
  rw [Int.toNat_of_nonneg l0] at k
  exact k
theorem ty_fp {p : Int} (p0 : 0 ≤ p) (p1 : p ≤ 7) : ∀ c : Nat, c < 8 → ttTy (ttTb 189) (20 + 8 * p + c) = ([(0, 0, 30), (0, 0, 2), (0, 0, 999), (0, 0, 1), (0, 0, 100), (0, 0, 2000), (0, 0, 100), (0, 0, 100)] : List ttI).getD c (9, 0, 0) := by
  have e : ∀ n : Nat, n < 8 → ∀ c : Nat, c < 8 → ttTy (ttTb 189) (20 + 8 * (n : Int) + c) = ([(0, 0, 30), (0, 0, 2), (0, 0, 999), (0, 0, 1), (0, 0, 100), (0, 0, 2000), (0, 0, 100), (0, 0, 100)] : List ttI).getD c (9, 0, 0) := by decide +kernel
  have k := e p.toNat (by omega)
  rw [Int.toNat_of_nonneg p0] at k
  exact k
theorem ty_fs {s : Int} (s0 : 0 ≤ s) (s1 : s ≤ 5) : ∀ c : Nat, c < 2 → ttTy (ttTb 189) (144 + 2 * s + c) = ([(0, 0, 150), (0, 0, 999)] : List ttI).getD c (9, 0, 0) := by
  have e : ∀ n : Nat, n < 6 → ∀ c : Nat, c < 2 → ttTy (ttTb 189) (144 + 2 * (n : Int) + c) = ([(0, 0, 150), (0, 0, 999)] : List ttI).getD c (9, 0, 0) := by decide +kernel
  have k := e s.toNat (by omega)
  rw [Int.toNat_of_nonneg s0] at k
  exact k
theorem yyI_eq {D D' : xD} (h : ∀ j : Int, 0 ≤ j → j ≤ 195 → ¬ (20 ≤ j ∧ j ≤ 83) → D' 189 j = D 189 j) (y : yyI D) : yyI D' := by
  obtain ⟨y1, y2, y3, y4⟩ := y
  have e1 := h 1 (by decide) (by decide) (by decide)
  have e2 := h 2 (by decide) (by decide) (by decide)
  have e7 := h 7 (by decide) (by decide) (by decide)
  have e12 := h 12 (by decide) (by decide) (by decide)
  have e15 := h 15 (by decide) (by decide) (by decide)
  refine ⟨fun l l0 l1 l2 => ?_, by rw [e15]; exact y2, by rw [e12, e1]; exact y3, by rw [e7]; exact y4⟩
  rw [e2] at l2
  rw [h (84 + 6 * l) (by omega) (by omega) (by omega), h (85 + 6 * l) (by omega) (by omega) (by omega), e1]
  exact y1 l l0 l1 l2
theorem yyI_eqO {D D' : xD} (h : ∀ j : Int, (j < 5 ∨ j = 7 ∨ 11 < j ∧ j ≠ 16) → D' 189 j = D 189 j) (y : yyI D) : yyI D' := by
  obtain ⟨y1, y2, y3, y4⟩ := y
  refine ⟨fun l l0 l1 l2 => ?_, by rw [h 15 (by decide)]; exact y2, by rw [h 12 (by decide), h 1 (by decide)]; exact y3, by rw [h 7 (by decide)]; exact y4⟩
  rw [h 2 (by decide)] at l2
  rw [h (84 + 6 * l) (by omega), h (85 + 6 * l) (by omega), h 1 (by decide)]
  exact y1 l l0 l1 l2
theorem lf_readPlace {dd : Nat} (hd : 10 ≤ dd) {H : xH} (hT : ttTI H) (hX : ttXX YY H) (m1 : H.1 189 1 ≤ 7) {Q : Int → xH → Prop} (hQ : ∀ K, ttTI K → ttFr yyEF H K → (K.1 183 12 = 0 → yyI H.1 → yyI K.1) → Q 0 K) : xCall dd 224 [(2, 183)] H Q := by
  obtain ⟨e, rfl, he⟩ := ttRun0 (n := 9) hd
  have he : 9 ≤ e := he
  have hn : 210 ≤ (H.2.2.2.1 : Int) := by have := hT.1; omega
  have m0 : 0 ≤ H.1 189 1 := (ttMc hT (a := 189) (j := 1) (by decide) (by decide) (by decide) (by decide)).1
  obtain ⟨m, jm⟩ : ∃ m, m = H.1 189 1 := ⟨_, rfl⟩
  rw [← jm] at m0 m1
  obtain ⟨k, jk⟩ : ∃ k, k = 20 + 8 * m := ⟨_, rfl⟩
  have h67 : ∀ (K : xH), ttTI K → ttFr yyEF H K → (∀ j : Int, ¬ (20 ≤ j ∧ j ≤ 83) → K.1 189 j = H.1 189 j) → xW e cd_224 Q (67, [(2, 183), (0, k)], [], K) := by
    intro K kT kF kO
    refine q_al (pc := 67) (i := 0) (x := 183) rfl rfl ?_
    refine q_gf (pc := 68) (m := 12142) (t := 2) (c := 14) rfl (ttKc kT (a := 183) (κ := 12) (len := 0) ⟨rfl, rfl⟩ (by decide) (by decide)).1 rfl rfl ?_
    rw [show K.1 183 14 = 189 from ttFx kT (by decide) (by decide) rfl rfl rfl]
    refine q_ic (pc := 69) (v := 1) rfl ?_
    refine q_dd (pc := 70) rfl ?_
    refine q_ai (pc := 71) rfl (ttKc kT (a := 189) (κ := 20) (len := 196) ⟨rfl, rfl⟩ (by decide) (by decide)).1 (by omega) (by rw [(ttKc kT (a := 189) (κ := 20) (len := 196) ⟨rfl, rfl⟩ (by decide) (by decide)).2]; omega) ?_
    rw [show K.1 189 1 = m from (kO 1 (by omega)).trans jm.symm]
    refine q_ic (pc := 72) (v := 1) rfl ?_
    refine q_ia (pc := 73) rfl (by omega) (by omega) ?_
    refine q_si (pc := 74) rfl (by decide) (ttKc kT (a := 189) (κ := 20) (len := 196) ⟨rfl, rfl⟩ (by decide) (by decide)).1 (by omega) (by rw [(ttKc kT (a := 189) (κ := 20) (len := 196) ⟨rfl, rfl⟩ (by decide) (by decide)).2]; omega) ?_
    have ujzc1 := ttPuT kT kF (a := 189) (j := 1) (x := (m + 1)) (by decide) (fun _ _ => show (0 : Int) ≤ (m + 1) ∧ (m + 1) ≤ 8 from ⟨by omega, by omega⟩) ⟨(189, 1, 195), by simp [yyEF], ⟨⟨by decide, rfl⟩, by show (1 : Int) ≤ 1; omega, by show 1 ≤ (195 : Int); omega⟩⟩
    obtain ⟨ujZ1, ujzk1⟩ : ∃ X : xH, X = (xUp K.1 189 1 (m + 1), K.2) := ⟨_, rfl⟩
    rw [← ujzk1] at ujzc1 ⊢
    refine q_rv (pc := 75) rfl ?_
    refine hQ _ ujzc1.1 ujzc1.2 (fun _ y => ?_)
    obtain ⟨y1, y2, y3, y4⟩ := y
    have e : ∀ j : Int, j ≠ 1 → ¬ (20 ≤ j ∧ j ≤ 83) → ujZ1.1 189 j = H.1 189 j := fun j ujj1 ujj2 => by rw [ujzk1]; exact (show xUp K.1 189 1 (m + 1) 189 j = _ from up_ne (by omega)).trans (kO j ujj2)
    have e1 : ujZ1.1 189 1 = m + 1 := by rw [ujzk1]; exact up_eq (D := K.1) (a := 189) (j := 1) (x := m + 1)
    rw [← jm] at y1 y3
    refine ⟨fun l l0 l1 l2 => ?_, by rw [e 15 (by decide) (by decide)]; exact y2, by rw [e 12 (by decide) (by decide), e1]; intro z; have := y3 z; omega, by rw [e 7 (by decide) (by decide)]; exact y4⟩
    rw [e 2 (by decide) (by decide)] at l2
    rw [e (84 + 6 * l) (by omega) (by omega), e (85 + 6 * l) (by omega) (by omega), e1]
    have := y1 l l0 l1 l2
    omega
  have h57 : ∀ (K : xH), ttTI K → ttFr yyEF H K → (∀ j : Int, ¬ (20 ≤ j ∧ j ≤ 83) → K.1 189 j = H.1 189 j) → xW e cd_224 Q (57, [(2, 183), (0, k)], [], K) := by
    intro K kT kF kO
    refine q_al (pc := 57) (i := 0) (x := 183) rfl rfl ?_
    refine q_ic (pc := 58) (v := 1) rfl ?_
    refine q_pf (pc := 59) (m := 12153) (c := 15) rfl (show xPt 3 0 _ _ from ⟨(ttKc kT (a := 183) (κ := 12) (len := 0) ⟨rfl, rfl⟩ (by decide) (by decide)).1, by omega⟩) rfl ?_
    have ujzc2 := ttPuT kT kF (a := 183) (j := 15) (x := 1) (by decide) (fun _ _ => show (0 : Int) ≤ 1 ∧ (1 : Int) ≤ 1 from by decide) ⟨(183, 15, 15), by simp [yyEF], ⟨⟨by decide, rfl⟩, by decide, by decide⟩⟩
    obtain ⟨ujZ2, ujzk2⟩ : ∃ X : xH, X = (xUp K.1 183 15 1, K.2) := ⟨_, rfl⟩
    rw [← ujzk2] at ujzc2 ⊢
    have ujzo2 : (∀ j : Int, ¬ (20 ≤ j ∧ j ≤ 83) → ujZ2.1 189 j = H.1 189 j) := fun j hj => by rw [ujzk2]; exact (show xUp K.1 183 15 1 189 j = _ from up_na (by decide)).trans (kO j hj)
    refine q_al (pc := 60) (i := 0) (x := 183) rfl rfl ?_
    refine q_gf (pc := 61) (m := 12142) (t := 2) (c := 14) rfl (ttKc ujzc2.1 (a := 183) (κ := 12) (len := 0) ⟨rfl, rfl⟩ (by decide) (by decide)).1 rfl rfl ?_
    rw [show ujZ2.1 183 14 = 189 from ttFx ujzc2.1 (by decide) (by decide) rfl rfl rfl]
    refine q_il (pc := 62) (i := 1) (x := k) rfl rfl ?_
    refine q_ic (pc := 63) (v := 1) rfl ?_
    refine q_ia (pc := 64) rfl (by omega) (by omega) ?_
    refine q_ic (pc := 65) (v := 2) rfl ?_
    refine q_si (pc := 66) rfl (by decide) (ttKc ujzc2.1 (a := 189) (κ := 20) (len := 196) ⟨rfl, rfl⟩ (by decide) (by decide)).1 (by omega) (by rw [(ttKc ujzc2.1 (a := 189) (κ := 20) (len := 196) ⟨rfl, rfl⟩ (by decide) (by decide)).2]; omega) ?_
    have ujzc3 := ttPuT ujzc2.1 ujzc2.2 (a := 189) (j := (k + 1)) (x := 2) (by decide) (fun _ _ => by rw [show ttRo 189 = 189 from rfl, show (k + 1) = 20 + 8 * m + ((1 : Nat) : Int) from by omega, ty_fp m0 m1 1 (by decide)]; exact (show (0 : Int) ≤ 2 ∧ 2 ≤ 2 from ⟨by omega, by omega⟩)) ⟨(189, 1, 195), by simp [yyEF], ⟨⟨by decide, rfl⟩, by show (1 : Int) ≤ (k + 1); omega, by show (k + 1) ≤ (195 : Int); omega⟩⟩
    obtain ⟨ujZ3, ujzk3⟩ : ∃ X : xH, X = (xUp ujZ2.1 189 (k + 1) 2, ujZ2.2) := ⟨_, rfl⟩
    rw [← ujzk3] at ujzc3 ⊢
    have ujzo3 : (∀ j : Int, ¬ (20 ≤ j ∧ j ≤ 83) → ujZ3.1 189 j = H.1 189 j) := fun j hj => by rw [ujzk3]; exact (show xUp ujZ2.1 189 (k + 1) 2 189 j = _ from up_ne (by omega)).trans (ujzo2 j hj)
    exact h67 ujZ3 ujzc3.1 ujzc3.2 ujzo3
  have h52 : ∀ (K : xH), ttTI K → ttFr yyEF H K → (∀ j : Int, ¬ (20 ≤ j ∧ j ≤ 83) → K.1 189 j = H.1 189 j) → xW e cd_224 Q (52, [(2, 183), (0, k)], [], K) := by
    intro K kT kF kO
    refine q_al (pc := 52) (i := 0) (x := 183) rfl rfl ?_
    refine q_iv (pc := 53) (q := 1712964) rfl rfl rfl (ttKc kT (a := 183) (κ := 12) (len := 0) ⟨rfl, rfl⟩ (by decide) (by decide)).1 ?_
    refine lf_good (by omega) kT (fun jg53 => ?_) (fun jg53 => ?_)
    · skip
      refine q_if (pc := 54) rfl (fun h54 => ?_) (fun h54 => ?_)
      · replace h54 : (1 : Int) = 0 := h54
        omega
      · replace h54 : (1 : Int) ≠ 0 := h54
        refine q_al (pc := 55) (i := 0) (x := 183) rfl rfl ?_
        refine q_iv (pc := 56) (q := 1704967) rfl rfl rfl (ttKc kT (a := 183) (κ := 12) (len := 0) ⟨rfl, rfl⟩ (by decide) (by decide)).1 ?_
        refine lf_advance (by omega) kT (fun ujK4 ujzT4 ujzF4 => ?_)
        have ujzo4 : (∀ j : Int, ¬ (20 ≤ j ∧ j ≤ 83) → ujK4.1 189 j = H.1 189 j) := fun j hj => (fr_no ujzF4 189 (by have := kT.1; omega) rfl rfl).trans (kO j hj)
        replace ujzF4 := ttFr_tr kF ujzF4 (fun _ => rfl) (by decide)
        exact h57 ujK4 ujzT4 ujzF4 ujzo4
    · skip
      refine q_if (pc := 54) rfl (fun h54 => ?_) (fun h54 => ?_)
      · replace h54 : (0 : Int) = 0 := h54
        exact h57 K kT kF kO
      · replace h54 : (0 : Int) ≠ 0 := h54
        omega
  refine xC_of (L := [(2, 183), (9, 0)]) (cd := cd_224) rfl rfl rfl ?_
  refine q_ic (pc := 0) (v := 20) rfl ?_
  refine q_ic (pc := 1) (v := 8) rfl ?_
  refine q_al (pc := 2) (i := 0) (x := 183) rfl rfl ?_
  refine q_gf (pc := 3) (m := 12142) (t := 2) (c := 14) rfl (ttKc hT (a := 183) (κ := 12) (len := 0) ⟨rfl, rfl⟩ (by decide) (by decide)).1 rfl rfl ?_
  rw [show H.1 183 14 = 189 from ttFx hT (by decide) (by decide) rfl rfl rfl]
  refine q_ic (pc := 4) (v := 1) rfl ?_
  refine q_ai (pc := 5) rfl (ttKc hT (a := 189) (κ := 20) (len := 196) ⟨rfl, rfl⟩ (by decide) (by decide)).1 (by omega) (by rw [(ttKc hT (a := 189) (κ := 20) (len := 196) ⟨rfl, rfl⟩ (by decide) (by decide)).2]; omega) ?_
  rw [← jm]
  refine q_im (pc := 6) rfl (by omega) (by omega) ?_
  refine q_ia (pc := 7) rfl (by omega) (by omega) ?_
  rw [show (20 + (8 * m)) = k from by omega]
  refine q_is (pc := 8) (i := 1) (L' := [(2, 183), (0, k)]) rfl rfl rfl ?_
  refine q_al (pc := 9) (i := 0) (x := 183) rfl rfl ?_
  refine q_gf (pc := 10) (m := 12142) (t := 2) (c := 14) rfl (ttKc hT (a := 183) (κ := 12) (len := 0) ⟨rfl, rfl⟩ (by decide) (by decide)).1 rfl rfl ?_
  rw [show H.1 183 14 = 189 from ttFx hT (by decide) (by decide) rfl rfl rfl]
  refine q_il (pc := 11) (i := 1) (x := k) rfl rfl ?_
  refine q_ic (pc := 12) (v := 0) rfl ?_
  refine q_ia (pc := 13) rfl (by omega) (by omega) ?_
  refine q_al (pc := 14) (i := 0) (x := 183) rfl rfl ?_
  refine q_sc (pc := 15) (j := 11) rfl ?_
  refine q_ic (pc := 16) (v := 0) rfl ?_
  refine q_ic (pc := 17) (v := 30) rfl ?_
  refine q_iv (pc := 18) (q := 1760976) rfl rfl rfl ⟨by omega, (ttKc hT (a := 183) (κ := 12) (len := 0) ⟨rfl, rfl⟩ (by decide) (by decide)).1⟩ ?_
  refine lf_told (by decide) (by decide) (by omega) hT (xx_fr (ttFr_rf yyEF H) rfl (by decide) (by decide) hX) (fun ujr5 ujK5 ujzT5 ujzF5 ujzg5 ujzr5 => ?_)
  have ujzo5 : (∀ j : Int, ¬ (20 ≤ j ∧ j ≤ 83) → ujK5.1 189 j = H.1 189 j) := fun j hj => (fr_no ujzF5 189 (by have := hT.1; omega) rfl rfl).trans ((fun _ _ => rfl) j hj)
  replace ujzF5 := ttFr_tr (ttFr_rf yyEF H) ujzF5 (fun _ => rfl) (by decide)
  refine q_si (pc := 19) rfl (by decide) (ttKc ujzT5 (a := 189) (κ := 20) (len := 196) ⟨rfl, rfl⟩ (by decide) (by decide)).1 (by omega) (by rw [(ttKc ujzT5 (a := 189) (κ := 20) (len := 196) ⟨rfl, rfl⟩ (by decide) (by decide)).2]; omega) ?_
  have ujzc6 := ttPuT ujzT5 ujzF5 (a := 189) (j := (k + 0)) (x := ujr5) (by decide) (fun _ _ => by rw [show ttRo 189 = 189 from rfl, show (k + 0) = 20 + 8 * m + ((0 : Nat) : Int) from by omega, ty_fp m0 m1 0 (by decide)]; exact (show (0 : Int) ≤ ujr5 ∧ ujr5 ≤ 30 from ⟨by omega, by omega⟩)) ⟨(189, 1, 195), by simp [yyEF], ⟨⟨by decide, rfl⟩, by show (1 : Int) ≤ (k + 0); omega, by show (k + 0) ≤ (195 : Int); omega⟩⟩
  obtain ⟨ujZ6, ujzk6⟩ : ∃ X : xH, X = (xUp ujK5.1 189 (k + 0) ujr5, ujK5.2) := ⟨_, rfl⟩
  rw [← ujzk6] at ujzc6 ⊢
  have ujzo6 : (∀ j : Int, ¬ (20 ≤ j ∧ j ≤ 83) → ujZ6.1 189 j = H.1 189 j) := fun j hj => by rw [ujzk6]; exact (show xUp ujK5.1 189 (k + 0) ujr5 189 j = _ from up_ne (by omega)).trans (ujzo5 j hj)
  refine q_al (pc := 20) (i := 0) (x := 183) rfl rfl ?_
  refine q_sc (pc := 21) (j := 13) rfl ?_
  refine q_iv (pc := 22) (q := 1736968) rfl rfl rfl ⟨by omega, (ttKc ujzc6.1 (a := 183) (κ := 12) (len := 0) ⟨rfl, rfl⟩ (by decide) (by decide)).1⟩ ?_
  refine lf_takes (by decide) (by decide) (by omega) ujzc6.1 (xx_fr ujzc6.2 rfl (by decide) (by decide) hX) (fun ji7 ujK7 ujzT7 ujzF7 ujzg7 => ?_) (fun ji7 => ?_)
  · have ujzo7 : (∀ j : Int, ¬ (20 ≤ j ∧ j ≤ 83) → ujK7.1 189 j = H.1 189 j) := fun j hj => (fr_no ujzF7 189 (by have := ujzc6.1.1; omega) rfl rfl).trans (ujzo6 j hj)
    replace ujzF7 := ttFr_tr ujzc6.2 ujzF7 (fun _ => rfl) (by decide)
    refine q_if (pc := 23) rfl (fun h23 => ?_) (fun h23 => ?_)
    · replace h23 : (1 : Int) = 0 := h23
      omega
    · replace h23 : (1 : Int) ≠ 0 := h23
      refine q_al (pc := 24) (i := 0) (x := 183) rfl rfl ?_
      refine q_gf (pc := 25) (m := 12142) (t := 2) (c := 14) rfl (ttKc ujzT7 (a := 183) (κ := 12) (len := 0) ⟨rfl, rfl⟩ (by decide) (by decide)).1 rfl rfl ?_
      rw [show ujK7.1 183 14 = 189 from ttFx ujzT7 (by decide) (by decide) rfl rfl rfl]
      refine q_il (pc := 26) (i := 1) (x := k) rfl rfl ?_
      refine q_ic (pc := 27) (v := 1) rfl ?_
      refine q_ia (pc := 28) rfl (by omega) (by omega) ?_
      refine q_ic (pc := 29) (v := 1) rfl ?_
      refine q_si (pc := 30) rfl (by decide) (ttKc ujzT7 (a := 189) (κ := 20) (len := 196) ⟨rfl, rfl⟩ (by decide) (by decide)).1 (by omega) (by rw [(ttKc ujzT7 (a := 189) (κ := 20) (len := 196) ⟨rfl, rfl⟩ (by decide) (by decide)).2]; omega) ?_
      have ujzc8 := ttPuT ujzT7 ujzF7 (a := 189) (j := (k + 1)) (x := 1) (by decide) (fun _ _ => by rw [show ttRo 189 = 189 from rfl, show (k + 1) = 20 + 8 * m + ((1 : Nat) : Int) from by omega, ty_fp m0 m1 1 (by decide)]; exact (show (0 : Int) ≤ 1 ∧ 1 ≤ 2 from ⟨by omega, by omega⟩)) ⟨(189, 1, 195), by simp [yyEF], ⟨⟨by decide, rfl⟩, by show (1 : Int) ≤ (k + 1); omega, by show (k + 1) ≤ (195 : Int); omega⟩⟩
      obtain ⟨ujZ8, ujzk8⟩ : ∃ X : xH, X = (xUp ujK7.1 189 (k + 1) 1, ujK7.2) := ⟨_, rfl⟩
      rw [← ujzk8] at ujzc8 ⊢
      have ujzo8 : (∀ j : Int, ¬ (20 ≤ j ∧ j ≤ 83) → ujZ8.1 189 j = H.1 189 j) := fun j hj => by rw [ujzk8]; exact (show xUp ujK7.1 189 (k + 1) 1 189 j = _ from up_ne (by omega)).trans (ujzo7 j hj)
      refine q_al (pc := 31) (i := 0) (x := 183) rfl rfl ?_
      refine q_gf (pc := 32) (m := 12142) (t := 2) (c := 14) rfl (ttKc ujzc8.1 (a := 183) (κ := 12) (len := 0) ⟨rfl, rfl⟩ (by decide) (by decide)).1 rfl rfl ?_
      rw [show ujZ8.1 183 14 = 189 from ttFx ujzc8.1 (by decide) (by decide) rfl rfl rfl]
      refine q_il (pc := 33) (i := 1) (x := k) rfl rfl ?_
      refine q_ic (pc := 34) (v := 2) rfl ?_
      refine q_ia (pc := 35) rfl (by omega) (by omega) ?_
      refine q_al (pc := 36) (i := 0) (x := 183) rfl rfl ?_
      refine q_ic (pc := 37) (v := 0) rfl ?_
      refine q_ic (pc := 38) (v := 999) rfl ?_
      refine q_iv (pc := 39) (q := 1752972) rfl rfl rfl (ttKc ujzc8.1 (a := 183) (κ := 12) (len := 0) ⟨rfl, rfl⟩ (by decide) (by decide)).1 ?_
      refine lf_number (by omega) ujzc8.1 (xx_fr ujzc8.2 rfl (by decide) (by decide) hX) (fun ujr9 ujK9 ujzT9 ujzF9 ujzg9 ujzr9 => ?_)
      have ujzo9 : (∀ j : Int, ¬ (20 ≤ j ∧ j ≤ 83) → ujK9.1 189 j = H.1 189 j) := fun j hj => (fr_no ujzF9 189 (by have := ujzc8.1.1; omega) rfl rfl).trans (ujzo8 j hj)
      replace ujzF9 := ttFr_tr ujzc8.2 ujzF9 (fun _ => rfl) (by decide)
      refine q_si (pc := 40) rfl (by decide) (ttKc ujzT9 (a := 189) (κ := 20) (len := 196) ⟨rfl, rfl⟩ (by decide) (by decide)).1 (by omega) (by rw [(ttKc ujzT9 (a := 189) (κ := 20) (len := 196) ⟨rfl, rfl⟩ (by decide) (by decide)).2]; omega) ?_
      have ujzc10 := ttPuT ujzT9 ujzF9 (a := 189) (j := (k + 2)) (x := ujr9) (by decide) (fun _ _ => by rw [show ttRo 189 = 189 from rfl, show (k + 2) = 20 + 8 * m + ((2 : Nat) : Int) from by omega, ty_fp m0 m1 2 (by decide)]; exact (show (0 : Int) ≤ ujr9 ∧ ujr9 ≤ 999 from ⟨by omega, by omega⟩)) ⟨(189, 1, 195), by simp [yyEF], ⟨⟨by decide, rfl⟩, by show (1 : Int) ≤ (k + 2); omega, by show (k + 2) ≤ (195 : Int); omega⟩⟩
      obtain ⟨ujZ10, ujzk10⟩ : ∃ X : xH, X = (xUp ujK9.1 189 (k + 2) ujr9, ujK9.2) := ⟨_, rfl⟩
      rw [← ujzk10] at ujzc10 ⊢
      have ujzo10 : (∀ j : Int, ¬ (20 ≤ j ∧ j ≤ 83) → ujZ10.1 189 j = H.1 189 j) := fun j hj => by rw [ujzk10]; exact (show xUp ujK9.1 189 (k + 2) ujr9 189 j = _ from up_ne (by omega)).trans (ujzo9 j hj)
      refine q_go (pc := 41) rfl ?_
      exact h67 ujZ10 ujzc10.1 ujzc10.2 ujzo10
  · skip
    refine q_if (pc := 23) rfl (fun h23 => ?_) (fun h23 => ?_)
    · replace h23 : (0 : Int) = 0 := h23
      refine q_al (pc := 42) (i := 0) (x := 183) rfl rfl ?_
      refine q_sc (pc := 43) (j := 12) rfl ?_
      refine q_iv (pc := 44) (q := 1728968) rfl rfl rfl ⟨by omega, (ttKc ujzc6.1 (a := 183) (κ := 12) (len := 0) ⟨rfl, rfl⟩ (by decide) (by decide)).1⟩ ?_
      refine lf_is (by decide) (by decide) (by omega) ujzc6.1 (fun ji44 => ?_) (fun ji44 => ?_)
      · skip
        refine q_if (pc := 45) rfl (fun h45 => ?_) (fun h45 => ?_)
        · replace h45 : (1 : Int) = 0 := h45
          omega
        · replace h45 : (1 : Int) ≠ 0 := h45
          refine q_al (pc := 46) (i := 0) (x := 183) rfl rfl ?_
          refine q_gf (pc := 47) (m := 12150) (t := 0) (c := 15) rfl (ttKc ujzc6.1 (a := 183) (κ := 12) (len := 0) ⟨rfl, rfl⟩ (by decide) (by decide)).1 rfl rfl ?_
          refine q_if (pc := 48) rfl (fun h48 => ?_) (fun h48 => ?_)
          · replace h48 : (ujZ6.1 183 15) = 0 := h48
            exact h52 ujZ6 ujzc6.1 ujzc6.2 ujzo6
          · replace h48 : (ujZ6.1 183 15) ≠ 0 := h48
            refine q_al (pc := 49) (i := 0) (x := 183) rfl rfl ?_
            refine q_ic (pc := 50) (v := 2) rfl ?_
            refine q_iv (pc := 51) (q := 1720971) rfl rfl rfl (ttKc ujzc6.1 (a := 183) (κ := 12) (len := 0) ⟨rfl, rfl⟩ (by decide) (by decide)).1 ?_
            refine lf_errs (by omega) ujzc6.1 (by decide) (by decide) (fun ujK11 ujzT11 ujzF11 ujzn11 => ?_)
            have ujzo11 : (∀ j : Int, ¬ (20 ≤ j ∧ j ≤ 83) → ujK11.1 189 j = H.1 189 j) := fun j hj => (fr_no ujzF11 189 (by have := ujzc6.1.1; omega) rfl rfl).trans (ujzo6 j hj)
            replace ujzF11 := ttFr_tr ujzc6.2 ujzF11 (fun _ => rfl) (by decide)
            exact h52 ujK11 ujzT11 ujzF11 ujzo11
      · skip
        refine q_if (pc := 45) rfl (fun h45 => ?_) (fun h45 => ?_)
        · replace h45 : (0 : Int) = 0 := h45
          exact h67 ujZ6 ujzc6.1 ujzc6.2 ujzo6
        · replace h45 : (0 : Int) ≠ 0 := h45
          omega
    · replace h23 : (0 : Int) ≠ 0 := h23
      omega
theorem lf_readLeg {dd : Nat} (hd : 10 ≤ dd) {H : xH} (hT : ttTI H) (hX : ttXX YY H) (l1 : H.1 189 2 ≤ 9) {Q : Int → xH → Prop} (hQ : ∀ K, ttTI K → ttFr yyEF H K → (K.1 183 12 = 0 → yyI H.1 → yyI K.1) → Q 0 K) : xCall dd 225 [(2, 183)] H Q := by
  obtain ⟨e, rfl, he⟩ := ttRun0 (n := 9) hd
  have he : 9 ≤ e := he
  have hn : 210 ≤ (H.2.2.2.1 : Int) := by have := hT.1; omega
  have l0 : 0 ≤ H.1 189 2 := (ttMc hT (a := 189) (j := 2) (by decide) (by decide) (by decide) (by decide)).1
  obtain ⟨l, jl⟩ : ∃ m, m = H.1 189 2 := ⟨_, rfl⟩
  rw [← jl] at l0 l1
  obtain ⟨k, jk⟩ : ∃ k, k = 84 + 6 * l := ⟨_, rfl⟩
  have h91 : ∀ (a b : Int) (K : xH), ttTI K → ttFr yyEF H K → (∀ j : Int, ¬ (84 + 6 * l ≤ j ∧ j ≤ 89 + 6 * l) → K.1 189 j = H.1 189 j) → K.1 189 (84 + 6 * l) = a → K.1 189 (85 + 6 * l) = b → (K.1 183 12 = 0 → a < H.1 189 1 ∧ b < H.1 189 1) → xW e cd_225 Q (91, [(2, 183), (0, k)], [], K) := by
    intro a b K kT kF kO ka kb kg
    refine q_al (pc := 91) (i := 0) (x := 183) rfl rfl ?_
    refine q_gf (pc := 92) (m := 12142) (t := 2) (c := 14) rfl (ttKc kT (a := 183) (κ := 12) (len := 0) ⟨rfl, rfl⟩ (by decide) (by decide)).1 rfl rfl ?_
    rw [show K.1 183 14 = 189 from ttFx kT (by decide) (by decide) rfl rfl rfl]
    refine q_ic (pc := 93) (v := 2) rfl ?_
    refine q_dd (pc := 94) rfl ?_
    refine q_ai (pc := 95) rfl (ttKc kT (a := 189) (κ := 20) (len := 196) ⟨rfl, rfl⟩ (by decide) (by decide)).1 (by omega) (by rw [(ttKc kT (a := 189) (κ := 20) (len := 196) ⟨rfl, rfl⟩ (by decide) (by decide)).2]; omega) ?_
    rw [show K.1 189 2 = l from (kO 2 (by omega)).trans jl.symm]
    refine q_ic (pc := 96) (v := 1) rfl ?_
    refine q_ia (pc := 97) rfl (by omega) (by omega) ?_
    refine q_si (pc := 98) rfl (by decide) (ttKc kT (a := 189) (κ := 20) (len := 196) ⟨rfl, rfl⟩ (by decide) (by decide)).1 (by omega) (by rw [(ttKc kT (a := 189) (κ := 20) (len := 196) ⟨rfl, rfl⟩ (by decide) (by decide)).2]; omega) ?_
    have ujzc12 := ttPuT kT kF (a := 189) (j := 2) (x := (l + 1)) (by decide) (fun _ _ => show (0 : Int) ≤ (l + 1) ∧ (l + 1) ≤ 10 from ⟨by omega, by omega⟩) ⟨(189, 1, 195), by simp [yyEF], ⟨⟨by decide, rfl⟩, by show (1 : Int) ≤ 2; omega, by show 2 ≤ (195 : Int); omega⟩⟩
    obtain ⟨ujZ12, ujzk12⟩ : ∃ X : xH, X = (xUp K.1 189 2 (l + 1), K.2) := ⟨_, rfl⟩
    rw [← ujzk12] at ujzc12 ⊢
    refine q_rv (pc := 99) rfl ?_
    refine hQ _ ujzc12.1 ujzc12.2 (fun zz y => ?_)
    obtain ⟨y1, y2, y3, y4⟩ := y
    have gk := kg ((show ujZ12.1 183 12 = K.1 183 12 from by rw [ujzk12]; exact up_12 K.1 2 (l + 1)).symm.trans zz)
    have e : ∀ j : Int, j ≠ 2 → ujZ12.1 189 j = K.1 189 j := fun j ujj1 => by rw [ujzk12]; exact (show xUp K.1 189 2 (l + 1) 189 j = _ from up_ne (by omega))
    have e1 : ujZ12.1 189 2 = l + 1 := by rw [ujzk12]; exact up_eq (D := K.1) (a := 189) (j := 2) (x := l + 1)
    rw [← jl] at y1
    refine ⟨fun m m0 m1 m2 => ?_, by rw [e 15 (by decide), kO 15 (by omega)]; exact y2, by rw [e 12 (by decide), e 1 (by decide), kO 12 (by omega), kO 1 (by omega)]; exact y3, by rw [e 7 (by decide), kO 7 (by omega)]; exact y4⟩
    rw [e1] at m2
    rw [e (84 + 6 * m) (by omega), e (85 + 6 * m) (by omega), e 1 (by decide), kO 1 (by omega)]
    by_cases z : m = l
    · subst z
      rw [ka, kb]
      exact gk
    · rw [kO (84 + 6 * m) (by omega), kO (85 + 6 * m) (by omega)]
      exact y1 m m0 m1 (by omega)
  have h32 : ∀ (a : Int) (K : xH), ttTI K → ttFr yyEF H K → (∀ j : Int, ¬ (84 + 6 * l ≤ j ∧ j ≤ 89 + 6 * l) → K.1 189 j = H.1 189 j) → K.1 189 (84 + 6 * l) = a → (K.1 183 12 = 0 → a < H.1 189 1) → xW e cd_225 Q (32, [(2, 183), (0, k)], [], K) := by
    intro a K kT kF kO ka kg
    refine q_al (pc := 32) (i := 0) (x := 183) rfl rfl ?_
    refine q_gf (pc := 33) (m := 12142) (t := 2) (c := 14) rfl (ttKc kT (a := 183) (κ := 12) (len := 0) ⟨rfl, rfl⟩ (by decide) (by decide)).1 rfl rfl ?_
    rw [show K.1 183 14 = 189 from ttFx kT (by decide) (by decide) rfl rfl rfl]
    refine q_il (pc := 34) (i := 1) (x := k) rfl rfl ?_
    refine q_ic (pc := 35) (v := 1) rfl ?_
    refine q_ia (pc := 36) rfl (by omega) (by omega) ?_
    refine q_al (pc := 37) (i := 0) (x := 183) rfl rfl ?_
    refine q_iv (pc := 38) (q := 1776964) rfl rfl rfl (ttKc kT (a := 183) (κ := 12) (len := 0) ⟨rfl, rfl⟩ (by decide) (by decide)).1 ?_
    refine lf_place (by omega) kT (xx_fr kF rfl (by decide) (by decide) hX) (fun ujr13 ujK13 ujzT13 ujzF13 ujzg13 ujzr13 ujzs13 => ?_)
    have ujzo13 : (∀ j : Int, ¬ (84 + 6 * l ≤ j ∧ j ≤ 89 + 6 * l) → ujK13.1 189 j = H.1 189 j) := fun j hj => (fr_no ujzF13 189 (by have := kT.1; omega) rfl rfl).trans (kO j hj)
    rw [show K.1 189 1 = H.1 189 1 from kO 1 (by omega)] at ujzg13
    have ujzta13 := (fr_no ujzF13 189 (by have := kT.1; omega) rfl rfl : ujK13.1 189 (84 + 6 * l) = _).trans ka
    have ujzh13 : ujK13.1 183 12 = 0 → a < H.1 189 1 ∧ ujr13 < H.1 189 1 := fun z => ⟨kg (ujzg13 z).1, (ujzg13 z).2⟩
    replace ujzF13 := ttFr_tr kF ujzF13 (fun _ => rfl) (by decide)
    refine q_si (pc := 39) rfl (by decide) (ttKc ujzT13 (a := 189) (κ := 20) (len := 196) ⟨rfl, rfl⟩ (by decide) (by decide)).1 (by omega) (by rw [(ttKc ujzT13 (a := 189) (κ := 20) (len := 196) ⟨rfl, rfl⟩ (by decide) (by decide)).2]; omega) ?_
    have ujzc14 := ttPuT ujzT13 ujzF13 (a := 189) (j := (k + 1)) (x := ujr13) (by decide) (fun _ _ => by rw [show ttRo 189 = 189 from rfl, show (k + 1) = 84 + 6 * l + ((1 : Nat) : Int) from by omega, ty_fl l0 l1 1 (by decide)]; exact (show (0 : Int) ≤ ujr13 ∧ ujr13 ≤ 7 from ⟨by omega, by omega⟩)) ⟨(189, 1, 195), by simp [yyEF], ⟨⟨by decide, rfl⟩, by show (1 : Int) ≤ (k + 1); omega, by show (k + 1) ≤ (195 : Int); omega⟩⟩
    obtain ⟨ujZ14, ujzk14⟩ : ∃ X : xH, X = (xUp ujK13.1 189 (k + 1) ujr13, ujK13.2) := ⟨_, rfl⟩
    rw [← ujzk14] at ujzc14 ⊢
    have ujzo14 : (∀ j : Int, ¬ (84 + 6 * l ≤ j ∧ j ≤ 89 + 6 * l) → ujZ14.1 189 j = H.1 189 j) := fun j hj => by rw [ujzk14]; exact (show xUp ujK13.1 189 (k + 1) ujr13 189 j = _ from up_ne (by omega)).trans (ujzo13 j hj)
    have ujzh14 := fun z => ujzh13 ((show ujZ14.1 183 12 = ujK13.1 183 12 from by rw [ujzk14]; exact up_12 ujK13.1 (k + 1) ujr13).symm.trans z)
    have ujzta14 := (show ujZ14.1 189 (84 + 6 * l) = ujK13.1 189 (84 + 6 * l) from by rw [ujzk14]; exact up_ne (by omega)).trans ujzta13
    have ujztb14 : ujZ14.1 189 (85 + 6 * l) = ujr13 := by rw [ujzk14, show (k + 1) = 85 + 6 * l from by omega]; exact up_eq
    refine q_al (pc := 40) (i := 0) (x := 183) rfl rfl ?_
    refine q_sc (pc := 41) (j := 14) rfl ?_
    refine q_iv (pc := 42) (q := 1744971) rfl rfl rfl ⟨by omega, (ttKc ujzc14.1 (a := 183) (κ := 12) (len := 0) ⟨rfl, rfl⟩ (by decide) (by decide)).1⟩ ?_
    refine lf_needs (by decide) (by decide) (by omega) ujzc14.1 (xx_fr ujzc14.2 rfl (by decide) (by decide) hX) (fun ujK15 ujzT15 ujzF15 ujzg15 => ?_)
    have ujzo15 : (∀ j : Int, ¬ (84 + 6 * l ≤ j ∧ j ≤ 89 + 6 * l) → ujK15.1 189 j = H.1 189 j) := fun j hj => (fr_no ujzF15 189 (by have := ujzc14.1.1; omega) rfl rfl).trans (ujzo14 j hj)
    have ujzh15 := fun z => ujzh14 (ujzg15 z)
    have ujzta15 := (fr_no ujzF15 189 (by have := ujzc14.1.1; omega) rfl rfl : ujK15.1 189 (84 + 6 * l) = _).trans ujzta14
    have ujztb15 := (fr_no ujzF15 189 (by have := ujzc14.1.1; omega) rfl rfl : ujK15.1 189 (85 + 6 * l) = _).trans ujztb14
    replace ujzF15 := ttFr_tr ujzc14.2 ujzF15 (fun _ => rfl) (by decide)
    refine q_al (pc := 43) (i := 0) (x := 183) rfl rfl ?_
    refine q_gf (pc := 44) (m := 12142) (t := 2) (c := 14) rfl (ttKc ujzT15 (a := 183) (κ := 12) (len := 0) ⟨rfl, rfl⟩ (by decide) (by decide)).1 rfl rfl ?_
    rw [show ujK15.1 183 14 = 189 from ttFx ujzT15 (by decide) (by decide) rfl rfl rfl]
    refine q_il (pc := 45) (i := 1) (x := k) rfl rfl ?_
    refine q_ic (pc := 46) (v := 2) rfl ?_
    refine q_ia (pc := 47) rfl (by omega) (by omega) ?_
    refine q_al (pc := 48) (i := 0) (x := 183) rfl rfl ?_
    refine q_ic (pc := 49) (v := 1) rfl ?_
    refine q_ic (pc := 50) (v := 60) rfl ?_
    refine q_iv (pc := 51) (q := 1752972) rfl rfl rfl (ttKc ujzT15 (a := 183) (κ := 12) (len := 0) ⟨rfl, rfl⟩ (by decide) (by decide)).1 ?_
    refine lf_number (by omega) ujzT15 (xx_fr ujzF15 rfl (by decide) (by decide) hX) (fun ujr16 ujK16 ujzT16 ujzF16 ujzg16 ujzr16 => ?_)
    have ujzo16 : (∀ j : Int, ¬ (84 + 6 * l ≤ j ∧ j ≤ 89 + 6 * l) → ujK16.1 189 j = H.1 189 j) := fun j hj => (fr_no ujzF16 189 (by have := ujzT15.1; omega) rfl rfl).trans (ujzo15 j hj)
    have ujzh16 := fun z => ujzh15 (ujzg16 z).1
    have ujzta16 := (fr_no ujzF16 189 (by have := ujzT15.1; omega) rfl rfl : ujK16.1 189 (84 + 6 * l) = _).trans ujzta15
    have ujztb16 := (fr_no ujzF16 189 (by have := ujzT15.1; omega) rfl rfl : ujK16.1 189 (85 + 6 * l) = _).trans ujztb15
    replace ujzF16 := ttFr_tr ujzF15 ujzF16 (fun _ => rfl) (by decide)
    refine q_si (pc := 52) rfl (by decide) (ttKc ujzT16 (a := 189) (κ := 20) (len := 196) ⟨rfl, rfl⟩ (by decide) (by decide)).1 (by omega) (by rw [(ttKc ujzT16 (a := 189) (κ := 20) (len := 196) ⟨rfl, rfl⟩ (by decide) (by decide)).2]; omega) ?_
    have ujzc17 := ttPuT ujzT16 ujzF16 (a := 189) (j := (k + 2)) (x := ujr16) (by decide) (fun _ _ => by rw [show ttRo 189 = 189 from rfl, show (k + 2) = 84 + 6 * l + ((2 : Nat) : Int) from by omega, ty_fl l0 l1 2 (by decide)]; exact (show (0 : Int) ≤ ujr16 ∧ ujr16 ≤ 60 from ⟨by omega, by omega⟩)) ⟨(189, 1, 195), by simp [yyEF], ⟨⟨by decide, rfl⟩, by show (1 : Int) ≤ (k + 2); omega, by show (k + 2) ≤ (195 : Int); omega⟩⟩
    obtain ⟨ujZ17, ujzk17⟩ : ∃ X : xH, X = (xUp ujK16.1 189 (k + 2) ujr16, ujK16.2) := ⟨_, rfl⟩
    rw [← ujzk17] at ujzc17 ⊢
    have ujzo17 : (∀ j : Int, ¬ (84 + 6 * l ≤ j ∧ j ≤ 89 + 6 * l) → ujZ17.1 189 j = H.1 189 j) := fun j hj => by rw [ujzk17]; exact (show xUp ujK16.1 189 (k + 2) ujr16 189 j = _ from up_ne (by omega)).trans (ujzo16 j hj)
    have ujzh17 := fun z => ujzh16 ((show ujZ17.1 183 12 = ujK16.1 183 12 from by rw [ujzk17]; exact up_12 ujK16.1 (k + 2) ujr16).symm.trans z)
    have ujzta17 := (show ujZ17.1 189 (84 + 6 * l) = ujK16.1 189 (84 + 6 * l) from by rw [ujzk17]; exact up_ne (by omega)).trans ujzta16
    have ujztb17 := (show ujZ17.1 189 (85 + 6 * l) = ujK16.1 189 (85 + 6 * l) from by rw [ujzk17]; exact up_ne (by omega)).trans ujztb16
    refine q_al (pc := 53) (i := 0) (x := 183) rfl rfl ?_
    refine q_sc (pc := 54) (j := 15) rfl ?_
    refine q_iv (pc := 55) (q := 1744971) rfl rfl rfl ⟨by omega, (ttKc ujzc17.1 (a := 183) (κ := 12) (len := 0) ⟨rfl, rfl⟩ (by decide) (by decide)).1⟩ ?_
    refine lf_needs (by decide) (by decide) (by omega) ujzc17.1 (xx_fr ujzc17.2 rfl (by decide) (by decide) hX) (fun ujK18 ujzT18 ujzF18 ujzg18 => ?_)
    have ujzo18 : (∀ j : Int, ¬ (84 + 6 * l ≤ j ∧ j ≤ 89 + 6 * l) → ujK18.1 189 j = H.1 189 j) := fun j hj => (fr_no ujzF18 189 (by have := ujzc17.1.1; omega) rfl rfl).trans (ujzo17 j hj)
    have ujzh18 := fun z => ujzh17 (ujzg18 z)
    have ujzta18 := (fr_no ujzF18 189 (by have := ujzc17.1.1; omega) rfl rfl : ujK18.1 189 (84 + 6 * l) = _).trans ujzta17
    have ujztb18 := (fr_no ujzF18 189 (by have := ujzc17.1.1; omega) rfl rfl : ujK18.1 189 (85 + 6 * l) = _).trans ujztb17
    replace ujzF18 := ttFr_tr ujzc17.2 ujzF18 (fun _ => rfl) (by decide)
    refine q_al (pc := 56) (i := 0) (x := 183) rfl rfl ?_
    refine q_gf (pc := 57) (m := 12142) (t := 2) (c := 14) rfl (ttKc ujzT18 (a := 183) (κ := 12) (len := 0) ⟨rfl, rfl⟩ (by decide) (by decide)).1 rfl rfl ?_
    rw [show ujK18.1 183 14 = 189 from ttFx ujzT18 (by decide) (by decide) rfl rfl rfl]
    refine q_il (pc := 58) (i := 1) (x := k) rfl rfl ?_
    refine q_ic (pc := 59) (v := 3) rfl ?_
    refine q_ia (pc := 60) rfl (by omega) (by omega) ?_
    refine q_al (pc := 61) (i := 0) (x := 183) rfl rfl ?_
    refine q_ic (pc := 62) (v := 999) rfl ?_
    refine q_iv (pc := 63) (q := 1784968) rfl rfl rfl (ttKc ujzT18 (a := 183) (κ := 12) (len := 0) ⟨rfl, rfl⟩ (by decide) (by decide)).1 ?_
    refine lf_signed (by omega) ujzT18 (xx_fr ujzF18 rfl (by decide) (by decide) hX) (by decide) (by decide) (fun ujr19 ujK19 ujzT19 ujzF19 ujzg19 ujzr19 ujzs19 => ?_)
    have ujzo19 : (∀ j : Int, ¬ (84 + 6 * l ≤ j ∧ j ≤ 89 + 6 * l) → ujK19.1 189 j = H.1 189 j) := fun j hj => (fr_no ujzF19 189 (by have := ujzT18.1; omega) rfl rfl).trans (ujzo18 j hj)
    have ujzh19 := fun z => ujzh18 (ujzg19 z)
    have ujzta19 := (fr_no ujzF19 189 (by have := ujzT18.1; omega) rfl rfl : ujK19.1 189 (84 + 6 * l) = _).trans ujzta18
    have ujztb19 := (fr_no ujzF19 189 (by have := ujzT18.1; omega) rfl rfl : ujK19.1 189 (85 + 6 * l) = _).trans ujztb18
    replace ujzF19 := ttFr_tr ujzF18 ujzF19 (fun _ => rfl) (by decide)
    refine q_si (pc := 64) rfl (by decide) (ttKc ujzT19 (a := 189) (κ := 20) (len := 196) ⟨rfl, rfl⟩ (by decide) (by decide)).1 (by omega) (by rw [(ttKc ujzT19 (a := 189) (κ := 20) (len := 196) ⟨rfl, rfl⟩ (by decide) (by decide)).2]; omega) ?_
    have ujzc20 := ttPuT ujzT19 ujzF19 (a := 189) (j := (k + 3)) (x := ujr19) (by decide) (fun _ _ => by rw [show ttRo 189 = 189 from rfl, show (k + 3) = 84 + 6 * l + ((3 : Nat) : Int) from by omega, ty_fl l0 l1 3 (by decide)]; exact (show ((-999) : Int) ≤ ujr19 ∧ ujr19 ≤ 999 from ⟨by omega, by omega⟩)) ⟨(189, 1, 195), by simp [yyEF], ⟨⟨by decide, rfl⟩, by show (1 : Int) ≤ (k + 3); omega, by show (k + 3) ≤ (195 : Int); omega⟩⟩
    obtain ⟨ujZ20, ujzk20⟩ : ∃ X : xH, X = (xUp ujK19.1 189 (k + 3) ujr19, ujK19.2) := ⟨_, rfl⟩
    rw [← ujzk20] at ujzc20 ⊢
    have ujzo20 : (∀ j : Int, ¬ (84 + 6 * l ≤ j ∧ j ≤ 89 + 6 * l) → ujZ20.1 189 j = H.1 189 j) := fun j hj => by rw [ujzk20]; exact (show xUp ujK19.1 189 (k + 3) ujr19 189 j = _ from up_ne (by omega)).trans (ujzo19 j hj)
    have ujzh20 := fun z => ujzh19 ((show ujZ20.1 183 12 = ujK19.1 183 12 from by rw [ujzk20]; exact up_12 ujK19.1 (k + 3) ujr19).symm.trans z)
    have ujzta20 := (show ujZ20.1 189 (84 + 6 * l) = ujK19.1 189 (84 + 6 * l) from by rw [ujzk20]; exact up_ne (by omega)).trans ujzta19
    have ujztb20 := (show ujZ20.1 189 (85 + 6 * l) = ujK19.1 189 (85 + 6 * l) from by rw [ujzk20]; exact up_ne (by omega)).trans ujztb19
    refine q_al (pc := 65) (i := 0) (x := 183) rfl rfl ?_
    refine q_sc (pc := 66) (j := 17) rfl ?_
    refine q_iv (pc := 67) (q := 1744971) rfl rfl rfl ⟨by omega, (ttKc ujzc20.1 (a := 183) (κ := 12) (len := 0) ⟨rfl, rfl⟩ (by decide) (by decide)).1⟩ ?_
    refine lf_needs (by decide) (by decide) (by omega) ujzc20.1 (xx_fr ujzc20.2 rfl (by decide) (by decide) hX) (fun ujK21 ujzT21 ujzF21 ujzg21 => ?_)
    have ujzo21 : (∀ j : Int, ¬ (84 + 6 * l ≤ j ∧ j ≤ 89 + 6 * l) → ujK21.1 189 j = H.1 189 j) := fun j hj => (fr_no ujzF21 189 (by have := ujzc20.1.1; omega) rfl rfl).trans (ujzo20 j hj)
    have ujzh21 := fun z => ujzh20 (ujzg21 z)
    have ujzta21 := (fr_no ujzF21 189 (by have := ujzc20.1.1; omega) rfl rfl : ujK21.1 189 (84 + 6 * l) = _).trans ujzta20
    have ujztb21 := (fr_no ujzF21 189 (by have := ujzc20.1.1; omega) rfl rfl : ujK21.1 189 (85 + 6 * l) = _).trans ujztb20
    replace ujzF21 := ttFr_tr ujzc20.2 ujzF21 (fun _ => rfl) (by decide)
    refine q_al (pc := 68) (i := 0) (x := 183) rfl rfl ?_
    refine q_gf (pc := 69) (m := 12142) (t := 2) (c := 14) rfl (ttKc ujzT21 (a := 183) (κ := 12) (len := 0) ⟨rfl, rfl⟩ (by decide) (by decide)).1 rfl rfl ?_
    rw [show ujK21.1 183 14 = 189 from ttFx ujzT21 (by decide) (by decide) rfl rfl rfl]
    refine q_il (pc := 70) (i := 1) (x := k) rfl rfl ?_
    refine q_ic (pc := 71) (v := 4) rfl ?_
    refine q_ia (pc := 72) rfl (by omega) (by omega) ?_
    refine q_al (pc := 73) (i := 0) (x := 183) rfl rfl ?_
    refine q_ic (pc := 74) (v := 60) rfl ?_
    refine q_iv (pc := 75) (q := 1784968) rfl rfl rfl (ttKc ujzT21 (a := 183) (κ := 12) (len := 0) ⟨rfl, rfl⟩ (by decide) (by decide)).1 ?_
    refine lf_signed (by omega) ujzT21 (xx_fr ujzF21 rfl (by decide) (by decide) hX) (by decide) (by decide) (fun ujr22 ujK22 ujzT22 ujzF22 ujzg22 ujzr22 ujzs22 => ?_)
    have ujzo22 : (∀ j : Int, ¬ (84 + 6 * l ≤ j ∧ j ≤ 89 + 6 * l) → ujK22.1 189 j = H.1 189 j) := fun j hj => (fr_no ujzF22 189 (by have := ujzT21.1; omega) rfl rfl).trans (ujzo21 j hj)
    have ujzh22 := fun z => ujzh21 (ujzg22 z)
    have ujzta22 := (fr_no ujzF22 189 (by have := ujzT21.1; omega) rfl rfl : ujK22.1 189 (84 + 6 * l) = _).trans ujzta21
    have ujztb22 := (fr_no ujzF22 189 (by have := ujzT21.1; omega) rfl rfl : ujK22.1 189 (85 + 6 * l) = _).trans ujztb21
    replace ujzF22 := ttFr_tr ujzF21 ujzF22 (fun _ => rfl) (by decide)
    refine q_si (pc := 76) rfl (by decide) (ttKc ujzT22 (a := 189) (κ := 20) (len := 196) ⟨rfl, rfl⟩ (by decide) (by decide)).1 (by omega) (by rw [(ttKc ujzT22 (a := 189) (κ := 20) (len := 196) ⟨rfl, rfl⟩ (by decide) (by decide)).2]; omega) ?_
    have ujzc23 := ttPuT ujzT22 ujzF22 (a := 189) (j := (k + 4)) (x := ujr22) (by decide) (fun _ _ => by rw [show ttRo 189 = 189 from rfl, show (k + 4) = 84 + 6 * l + ((4 : Nat) : Int) from by omega, ty_fl l0 l1 4 (by decide)]; exact (show ((-60) : Int) ≤ ujr22 ∧ ujr22 ≤ 60 from ⟨by omega, by omega⟩)) ⟨(189, 1, 195), by simp [yyEF], ⟨⟨by decide, rfl⟩, by show (1 : Int) ≤ (k + 4); omega, by show (k + 4) ≤ (195 : Int); omega⟩⟩
    obtain ⟨ujZ23, ujzk23⟩ : ∃ X : xH, X = (xUp ujK22.1 189 (k + 4) ujr22, ujK22.2) := ⟨_, rfl⟩
    rw [← ujzk23] at ujzc23 ⊢
    have ujzo23 : (∀ j : Int, ¬ (84 + 6 * l ≤ j ∧ j ≤ 89 + 6 * l) → ujZ23.1 189 j = H.1 189 j) := fun j hj => by rw [ujzk23]; exact (show xUp ujK22.1 189 (k + 4) ujr22 189 j = _ from up_ne (by omega)).trans (ujzo22 j hj)
    have ujzh23 := fun z => ujzh22 ((show ujZ23.1 183 12 = ujK22.1 183 12 from by rw [ujzk23]; exact up_12 ujK22.1 (k + 4) ujr22).symm.trans z)
    have ujzta23 := (show ujZ23.1 189 (84 + 6 * l) = ujK22.1 189 (84 + 6 * l) from by rw [ujzk23]; exact up_ne (by omega)).trans ujzta22
    have ujztb23 := (show ujZ23.1 189 (85 + 6 * l) = ujK22.1 189 (85 + 6 * l) from by rw [ujzk23]; exact up_ne (by omega)).trans ujztb22
    refine q_al (pc := 77) (i := 0) (x := 183) rfl rfl ?_
    refine q_sc (pc := 78) (j := 18) rfl ?_
    refine q_iv (pc := 79) (q := 1736968) rfl rfl rfl ⟨by omega, (ttKc ujzc23.1 (a := 183) (κ := 12) (len := 0) ⟨rfl, rfl⟩ (by decide) (by decide)).1⟩ ?_
    refine lf_takes (by decide) (by decide) (by omega) ujzc23.1 (xx_fr ujzc23.2 rfl (by decide) (by decide) hX) (fun ji24 ujK24 ujzT24 ujzF24 ujzg24 => ?_) (fun ji24 => ?_)
    · have ujzo24 : (∀ j : Int, ¬ (84 + 6 * l ≤ j ∧ j ≤ 89 + 6 * l) → ujK24.1 189 j = H.1 189 j) := fun j hj => (fr_no ujzF24 189 (by have := ujzc23.1.1; omega) rfl rfl).trans (ujzo23 j hj)
      have ujzh24 := fun (_ : ujK24.1 183 12 = 0) => ujzh23 ji24.1
      have ujzta24 := (fr_no ujzF24 189 (by have := ujzc23.1.1; omega) rfl rfl : ujK24.1 189 (84 + 6 * l) = _).trans ujzta23
      have ujztb24 := (fr_no ujzF24 189 (by have := ujzc23.1.1; omega) rfl rfl : ujK24.1 189 (85 + 6 * l) = _).trans ujztb23
      replace ujzF24 := ttFr_tr ujzc23.2 ujzF24 (fun _ => rfl) (by decide)
      refine q_if (pc := 80) rfl (fun h80 => ?_) (fun h80 => ?_)
      · replace h80 : (1 : Int) = 0 := h80
        omega
      · replace h80 : (1 : Int) ≠ 0 := h80
        refine q_al (pc := 81) (i := 0) (x := 183) rfl rfl ?_
        refine q_gf (pc := 82) (m := 12142) (t := 2) (c := 14) rfl (ttKc ujzT24 (a := 183) (κ := 12) (len := 0) ⟨rfl, rfl⟩ (by decide) (by decide)).1 rfl rfl ?_
        rw [show ujK24.1 183 14 = 189 from ttFx ujzT24 (by decide) (by decide) rfl rfl rfl]
        refine q_il (pc := 83) (i := 1) (x := k) rfl rfl ?_
        refine q_ic (pc := 84) (v := 5) rfl ?_
        refine q_ia (pc := 85) rfl (by omega) (by omega) ?_
        refine q_al (pc := 86) (i := 0) (x := 183) rfl rfl ?_
        refine q_ic (pc := 87) (v := 0) rfl ?_
        refine q_ic (pc := 88) (v := 40) rfl ?_
        refine q_iv (pc := 89) (q := 1752972) rfl rfl rfl (ttKc ujzT24 (a := 183) (κ := 12) (len := 0) ⟨rfl, rfl⟩ (by decide) (by decide)).1 ?_
        refine lf_number (by omega) ujzT24 (xx_fr ujzF24 rfl (by decide) (by decide) hX) (fun ujr25 ujK25 ujzT25 ujzF25 ujzg25 ujzr25 => ?_)
        have ujzo25 : (∀ j : Int, ¬ (84 + 6 * l ≤ j ∧ j ≤ 89 + 6 * l) → ujK25.1 189 j = H.1 189 j) := fun j hj => (fr_no ujzF25 189 (by have := ujzT24.1; omega) rfl rfl).trans (ujzo24 j hj)
        have ujzh25 := fun z => ujzh24 (ujzg25 z).1
        have ujzta25 := (fr_no ujzF25 189 (by have := ujzT24.1; omega) rfl rfl : ujK25.1 189 (84 + 6 * l) = _).trans ujzta24
        have ujztb25 := (fr_no ujzF25 189 (by have := ujzT24.1; omega) rfl rfl : ujK25.1 189 (85 + 6 * l) = _).trans ujztb24
        replace ujzF25 := ttFr_tr ujzF24 ujzF25 (fun _ => rfl) (by decide)
        refine q_si (pc := 90) rfl (by decide) (ttKc ujzT25 (a := 189) (κ := 20) (len := 196) ⟨rfl, rfl⟩ (by decide) (by decide)).1 (by omega) (by rw [(ttKc ujzT25 (a := 189) (κ := 20) (len := 196) ⟨rfl, rfl⟩ (by decide) (by decide)).2]; omega) ?_
        have ujzc26 := ttPuT ujzT25 ujzF25 (a := 189) (j := (k + 5)) (x := ujr25) (by decide) (fun _ _ => by rw [show ttRo 189 = 189 from rfl, show (k + 5) = 84 + 6 * l + ((5 : Nat) : Int) from by omega, ty_fl l0 l1 5 (by decide)]; exact (show (0 : Int) ≤ ujr25 ∧ ujr25 ≤ 40 from ⟨by omega, by omega⟩)) ⟨(189, 1, 195), by simp [yyEF], ⟨⟨by decide, rfl⟩, by show (1 : Int) ≤ (k + 5); omega, by show (k + 5) ≤ (195 : Int); omega⟩⟩
        obtain ⟨ujZ26, ujzk26⟩ : ∃ X : xH, X = (xUp ujK25.1 189 (k + 5) ujr25, ujK25.2) := ⟨_, rfl⟩
        rw [← ujzk26] at ujzc26 ⊢
        have ujzo26 : (∀ j : Int, ¬ (84 + 6 * l ≤ j ∧ j ≤ 89 + 6 * l) → ujZ26.1 189 j = H.1 189 j) := fun j hj => by rw [ujzk26]; exact (show xUp ujK25.1 189 (k + 5) ujr25 189 j = _ from up_ne (by omega)).trans (ujzo25 j hj)
        have ujzh26 := fun z => ujzh25 ((show ujZ26.1 183 12 = ujK25.1 183 12 from by rw [ujzk26]; exact up_12 ujK25.1 (k + 5) ujr25).symm.trans z)
        have ujzta26 := (show ujZ26.1 189 (84 + 6 * l) = ujK25.1 189 (84 + 6 * l) from by rw [ujzk26]; exact up_ne (by omega)).trans ujzta25
        have ujztb26 := (show ujZ26.1 189 (85 + 6 * l) = ujK25.1 189 (85 + 6 * l) from by rw [ujzk26]; exact up_ne (by omega)).trans ujztb25
        exact h91 _ _ ujZ26 ujzc26.1 ujzc26.2 ujzo26 ujzta26 ujztb26 ujzh26
    · skip
      refine q_if (pc := 80) rfl (fun h80 => ?_) (fun h80 => ?_)
      · replace h80 : (0 : Int) = 0 := h80
        exact h91 _ _ ujZ23 ujzc23.1 ujzc23.2 ujzo23 ujzta23 ujztb23 ujzh23
      · replace h80 : (0 : Int) ≠ 0 := h80
        omega
  refine xC_of (L := [(2, 183), (9, 0)]) (cd := cd_225) rfl rfl rfl ?_
  refine q_ic (pc := 0) (v := 84) rfl ?_
  refine q_ic (pc := 1) (v := 6) rfl ?_
  refine q_al (pc := 2) (i := 0) (x := 183) rfl rfl ?_
  refine q_gf (pc := 3) (m := 12142) (t := 2) (c := 14) rfl (ttKc hT (a := 183) (κ := 12) (len := 0) ⟨rfl, rfl⟩ (by decide) (by decide)).1 rfl rfl ?_
  rw [show H.1 183 14 = 189 from ttFx hT (by decide) (by decide) rfl rfl rfl]
  refine q_ic (pc := 4) (v := 2) rfl ?_
  refine q_ai (pc := 5) rfl (ttKc hT (a := 189) (κ := 20) (len := 196) ⟨rfl, rfl⟩ (by decide) (by decide)).1 (by omega) (by rw [(ttKc hT (a := 189) (κ := 20) (len := 196) ⟨rfl, rfl⟩ (by decide) (by decide)).2]; omega) ?_
  rw [← jl]
  refine q_im (pc := 6) rfl (by omega) (by omega) ?_
  refine q_ia (pc := 7) rfl (by omega) (by omega) ?_
  rw [show (84 + (6 * l)) = k from by omega]
  refine q_is (pc := 8) (i := 1) (L' := [(2, 183), (0, k)]) rfl rfl rfl ?_
  refine q_al (pc := 9) (i := 0) (x := 183) rfl rfl ?_
  refine q_gf (pc := 10) (m := 12142) (t := 2) (c := 14) rfl (ttKc hT (a := 183) (κ := 12) (len := 0) ⟨rfl, rfl⟩ (by decide) (by decide)).1 rfl rfl ?_
  rw [show H.1 183 14 = 189 from ttFx hT (by decide) (by decide) rfl rfl rfl]
  refine q_il (pc := 11) (i := 1) (x := k) rfl rfl ?_
  refine q_al (pc := 12) (i := 0) (x := 183) rfl rfl ?_
  refine q_iv (pc := 13) (q := 1776964) rfl rfl rfl (ttKc hT (a := 183) (κ := 12) (len := 0) ⟨rfl, rfl⟩ (by decide) (by decide)).1 ?_
  refine lf_place (by omega) hT (xx_fr (ttFr_rf yyEF H) rfl (by decide) (by decide) hX) (fun ujr27 ujK27 ujzT27 ujzF27 ujzg27 ujzr27 ujzs27 => ?_)
  have ujzo27 : (∀ j : Int, ¬ (84 + 6 * l ≤ j ∧ j ≤ 89 + 6 * l) → ujK27.1 189 j = H.1 189 j) := fun j hj => (fr_no ujzF27 189 (by have := hT.1; omega) rfl rfl).trans ((fun _ _ => rfl) j hj)
  rw [show H.1 189 1 = H.1 189 1 from rfl] at ujzg27
  have ujzh27 : ujK27.1 183 12 = 0 → ujr27 < H.1 189 1 := fun z => (ujzg27 z).2
  replace ujzF27 := ttFr_tr (ttFr_rf yyEF H) ujzF27 (fun _ => rfl) (by decide)
  refine q_si (pc := 14) rfl (by decide) (ttKc ujzT27 (a := 189) (κ := 20) (len := 196) ⟨rfl, rfl⟩ (by decide) (by decide)).1 (by omega) (by rw [(ttKc ujzT27 (a := 189) (κ := 20) (len := 196) ⟨rfl, rfl⟩ (by decide) (by decide)).2]; omega) ?_
  have ujzc28 := ttPuT ujzT27 ujzF27 (a := 189) (j := k) (x := ujr27) (by decide) (fun _ _ => by rw [show ttRo 189 = 189 from rfl, show k = 84 + 6 * l + ((0 : Nat) : Int) from by omega, ty_fl l0 l1 0 (by decide)]; exact (show (0 : Int) ≤ ujr27 ∧ ujr27 ≤ 7 from ⟨by omega, by omega⟩)) ⟨(189, 1, 195), by simp [yyEF], ⟨⟨by decide, rfl⟩, by show (1 : Int) ≤ k; omega, by show k ≤ (195 : Int); omega⟩⟩
  obtain ⟨ujZ28, ujzk28⟩ : ∃ X : xH, X = (xUp ujK27.1 189 k ujr27, ujK27.2) := ⟨_, rfl⟩
  rw [← ujzk28] at ujzc28 ⊢
  have ujzo28 : (∀ j : Int, ¬ (84 + 6 * l ≤ j ∧ j ≤ 89 + 6 * l) → ujZ28.1 189 j = H.1 189 j) := fun j hj => by rw [ujzk28]; exact (show xUp ujK27.1 189 k ujr27 189 j = _ from up_ne (by omega)).trans (ujzo27 j hj)
  have ujzh28 := fun z => ujzh27 ((show ujZ28.1 183 12 = ujK27.1 183 12 from by rw [ujzk28]; exact up_12 ujK27.1 k ujr27).symm.trans z)
  have ujzta28 : ujZ28.1 189 (84 + 6 * l) = ujr27 := by rw [ujzk28, show k = 84 + 6 * l from by omega]; exact up_eq
  refine q_al (pc := 15) (i := 0) (x := 183) rfl rfl ?_
  refine q_iv (pc := 16) (q := 1712964) rfl rfl rfl (ttKc ujzc28.1 (a := 183) (κ := 12) (len := 0) ⟨rfl, rfl⟩ (by decide) (by decide)).1 ?_
  refine lf_good (by omega) ujzc28.1 (fun jg16 => ?_) (fun jg16 => ?_)
  · skip
    refine q_if (pc := 17) rfl (fun h17 => ?_) (fun h17 => ?_)
    · replace h17 : (1 : Int) = 0 := h17
      omega
    · replace h17 : (1 : Int) ≠ 0 := h17
      refine q_al (pc := 18) (i := 0) (x := 183) rfl rfl ?_
      refine q_gf (pc := 19) (m := 12100) (t := 0) (c := 10) rfl (ttKc ujzc28.1 (a := 183) (κ := 12) (len := 0) ⟨rfl, rfl⟩ (by decide) (by decide)).1 rfl rfl ?_
      refine q_ic (pc := 20) (v := 2) rfl ?_
      refine q_i2 (pc := 21) rfl (fun h21 => ?_) (fun h21 => ?_)
      · replace h21 : (ujZ28.1 183 10) ≠ 2 := h21
        exact h32 _ ujZ28 ujzc28.1 ujzc28.2 ujzo28 ujzta28 ujzh28
      · replace h21 : (ujZ28.1 183 10) = 2 := h21
        refine q_al (pc := 22) (i := 0) (x := 183) rfl rfl ?_
        refine q_gf (pc := 23) (m := 12110) (t := 0) (c := 11) rfl (ttKc ujzc28.1 (a := 183) (κ := 12) (len := 0) ⟨rfl, rfl⟩ (by decide) (by decide)).1 rfl rfl ?_
        refine q_al (pc := 24) (i := 0) (x := 183) rfl rfl ?_
        refine q_gf (pc := 25) (m := 12142) (t := 2) (c := 14) rfl (ttKc ujzc28.1 (a := 183) (κ := 12) (len := 0) ⟨rfl, rfl⟩ (by decide) (by decide)).1 rfl rfl ?_
        rw [show ujZ28.1 183 14 = 189 from ttFx ujzc28.1 (by decide) (by decide) rfl rfl rfl]
        refine q_il (pc := 26) (i := 1) (x := k) rfl rfl ?_
        refine q_ai (pc := 27) rfl (ttKc ujzc28.1 (a := 189) (κ := 20) (len := 196) ⟨rfl, rfl⟩ (by decide) (by decide)).1 (by omega) (by rw [(ttKc ujzc28.1 (a := 189) (κ := 20) (len := 196) ⟨rfl, rfl⟩ (by decide) (by decide)).2]; omega) ?_
        refine q_i2 (pc := 28) rfl (fun h28 => ?_) (fun h28 => ?_)
        · replace h28 : (ujZ28.1 183 11) ≠ (ujZ28.1 189 k) := h28
          exact h32 _ ujZ28 ujzc28.1 ujzc28.2 ujzo28 ujzta28 ujzh28
        · replace h28 : (ujZ28.1 183 11) = (ujZ28.1 189 k) := h28
          refine q_al (pc := 29) (i := 0) (x := 183) rfl rfl ?_
          refine q_ic (pc := 30) (v := 2) rfl ?_
          refine q_iv (pc := 31) (q := 1720971) rfl rfl rfl (ttKc ujzc28.1 (a := 183) (κ := 12) (len := 0) ⟨rfl, rfl⟩ (by decide) (by decide)).1 ?_
          refine lf_errs (by omega) ujzc28.1 (by decide) (by decide) (fun ujK29 ujzT29 ujzF29 ujzn29 => ?_)
          have ujzo29 : (∀ j : Int, ¬ (84 + 6 * l ≤ j ∧ j ≤ 89 + 6 * l) → ujK29.1 189 j = H.1 189 j) := fun j hj => (fr_no ujzF29 189 (by have := ujzc28.1.1; omega) rfl rfl).trans (ujzo28 j hj)
          have ujzta29 := (fr_no ujzF29 189 (by have := ujzc28.1.1; omega) rfl rfl : ujK29.1 189 (84 + 6 * l) = _).trans ujzta28
          replace ujzF29 := ttFr_tr ujzc28.2 ujzF29 (fun _ => rfl) (by decide)
          exact h32 _ ujK29 ujzT29 ujzF29 ujzo29 ujzta29 (fun z => absurd z ujzn29)
  · skip
    refine q_if (pc := 17) rfl (fun h17 => ?_) (fun h17 => ?_)
    · replace h17 : (0 : Int) = 0 := h17
      exact h32 _ ujZ28 ujzc28.1 ujzc28.2 ujzo28 ujzta28 ujzh28
    · replace h17 : (0 : Int) ≠ 0 := h17
      omega
theorem lf_readLift {dd : Nat} (hd : 10 ≤ dd) {H : xH} (hT : ttTI H) (hX : ttXX YY H) {Q : Int → xH → Prop} (hQ : ∀ K, ttTI K → ttFr yyEF H K → (K.1 183 12 = 0 → yyI H.1 → yyI K.1) → Q 0 K) : xCall dd 226 [(2, 183)] H Q := by
  obtain ⟨e, rfl, he⟩ := ttRun0 (n := 9) hd
  have he : 9 ≤ e := he
  have hn : 210 ≤ (H.2.2.2.1 : Int) := by have := hT.1; omega
  have h36 : ∀ (K : xH), ttTI K → ttFr yyEF H K → (∀ j : Int, ¬ (20 ≤ j ∧ j ≤ 83) → K.1 189 j = H.1 189 j) → xW e cd_226 Q (36, [(2, 183), (9, 0), (9, 0), (9, 0)], [], K) := by
    intro K kT kF kO
    refine q_ic (pc := 36) (v := 20) rfl ?_
    refine q_ic (pc := 37) (v := 8) rfl ?_
    refine q_al (pc := 38) (i := 0) (x := 183) rfl rfl ?_
    refine q_iv (pc := 39) (q := 1776964) rfl rfl rfl (ttKc kT (a := 183) (κ := 12) (len := 0) ⟨rfl, rfl⟩ (by decide) (by decide)).1 ?_
    refine lf_place (by omega) kT (xx_fr kF rfl (by decide) (by decide) hX) (fun ujr30 ujK30 ujzT30 ujzF30 ujzg30 ujzr30 ujzs30 => ?_)
    have ujzo30 : (∀ j : Int, ¬ (20 ≤ j ∧ j ≤ 83) → ujK30.1 189 j = H.1 189 j) := fun j hj => (fr_no ujzF30 189 (by have := kT.1; omega) rfl rfl).trans (kO j hj)
    rw [show K.1 189 1 = H.1 189 1 from kO 1 (by omega)] at ujzg30
    replace ujzF30 := ttFr_tr kF ujzF30 (fun _ => rfl) (by decide)
    refine q_im (pc := 40) rfl (by omega) (by omega) ?_
    refine q_ia (pc := 41) rfl (by omega) (by omega) ?_
    obtain ⟨k, jk⟩ : ∃ k, k = (20 + (8 * ujr30)) := ⟨_, rfl⟩
    rw [← jk]
    obtain ⟨p, jp⟩ : ∃ p, p = ujr30 := ⟨_, rfl⟩
    rw [← jp] at jk ujzr30 ujzs30
    have p0 : 0 ≤ p := ujzr30
    have p1 : p ≤ 7 := ujzs30
    clear jp
    refine q_is (pc := 42) (i := 1) (L' := [(2, 183), (0, k), (9, 0), (9, 0)]) rfl rfl rfl ?_
    refine q_al (pc := 43) (i := 0) (x := 183) rfl rfl ?_
    refine q_sc (pc := 44) (j := 19) rfl ?_
    refine q_ic (pc := 45) (v := 0) rfl ?_
    refine q_ic (pc := 46) (v := 100) rfl ?_
    refine q_iv (pc := 47) (q := 1760976) rfl rfl rfl ⟨by omega, (ttKc ujzT30 (a := 183) (κ := 12) (len := 0) ⟨rfl, rfl⟩ (by decide) (by decide)).1⟩ ?_
    refine lf_told (by decide) (by decide) (by omega) ujzT30 (xx_fr ujzF30 rfl (by decide) (by decide) hX) (fun ujr31 ujK31 ujzT31 ujzF31 ujzg31 ujzr31 => ?_)
    have ujzo31 : (∀ j : Int, ¬ (20 ≤ j ∧ j ≤ 83) → ujK31.1 189 j = H.1 189 j) := fun j hj => (fr_no ujzF31 189 (by have := ujzT30.1; omega) rfl rfl).trans (ujzo30 j hj)
    replace ujzF31 := ttFr_tr ujzF30 ujzF31 (fun _ => rfl) (by decide)
    refine q_is (pc := 48) (i := 2) (L' := [(2, 183), (0, k), (0, ujr31), (9, 0)]) rfl rfl rfl ?_
    refine q_al (pc := 49) (i := 0) (x := 183) rfl rfl ?_
    refine q_sc (pc := 50) (j := 20) rfl ?_
    refine q_ic (pc := 51) (v := 0) rfl ?_
    refine q_ic (pc := 52) (v := 2000) rfl ?_
    refine q_iv (pc := 53) (q := 1760976) rfl rfl rfl ⟨by omega, (ttKc ujzT31 (a := 183) (κ := 12) (len := 0) ⟨rfl, rfl⟩ (by decide) (by decide)).1⟩ ?_
    refine lf_told (by decide) (by decide) (by omega) ujzT31 (xx_fr ujzF31 rfl (by decide) (by decide) hX) (fun ujr32 ujK32 ujzT32 ujzF32 ujzg32 ujzr32 => ?_)
    have ujzo32 : (∀ j : Int, ¬ (20 ≤ j ∧ j ≤ 83) → ujK32.1 189 j = H.1 189 j) := fun j hj => (fr_no ujzF32 189 (by have := ujzT31.1; omega) rfl rfl).trans (ujzo31 j hj)
    replace ujzF32 := ttFr_tr ujzF31 ujzF32 (fun _ => rfl) (by decide)
    refine q_is (pc := 54) (i := 3) (L' := [(2, 183), (0, k), (0, ujr31), (0, ujr32)]) rfl rfl rfl ?_
    refine q_al (pc := 55) (i := 0) (x := 183) rfl rfl ?_
    refine q_iv (pc := 56) (q := 1712964) rfl rfl rfl (ttKc ujzT32 (a := 183) (κ := 12) (len := 0) ⟨rfl, rfl⟩ (by decide) (by decide)).1 ?_
    refine lf_good (by omega) ujzT32 (fun jg56 => ?_) (fun jg56 => ?_)
    · skip
      refine q_if (pc := 57) rfl (fun h57 => ?_) (fun h57 => ?_)
      · replace h57 : (1 : Int) ≠ 0 := h57
        refine q_al (pc := 59) (i := 0) (x := 183) rfl rfl ?_
        refine q_gf (pc := 60) (m := 12142) (t := 2) (c := 14) rfl (ttKc ujzT32 (a := 183) (κ := 12) (len := 0) ⟨rfl, rfl⟩ (by decide) (by decide)).1 rfl rfl ?_
        rw [show ujK32.1 183 14 = 189 from ttFx ujzT32 (by decide) (by decide) rfl rfl rfl]
        refine q_il (pc := 61) (i := 1) (x := k) rfl rfl ?_
        refine q_ic (pc := 62) (v := 3) rfl ?_
        refine q_ia (pc := 63) rfl (by omega) (by omega) ?_
        refine q_ic (pc := 64) (v := 1) rfl ?_
        refine q_si (pc := 65) rfl (by decide) (ttKc ujzT32 (a := 189) (κ := 20) (len := 196) ⟨rfl, rfl⟩ (by decide) (by decide)).1 (by omega) (by rw [(ttKc ujzT32 (a := 189) (κ := 20) (len := 196) ⟨rfl, rfl⟩ (by decide) (by decide)).2]; omega) ?_
        have ujzc33 := ttPuT ujzT32 ujzF32 (a := 189) (j := (k + 3)) (x := 1) (by decide) (fun _ _ => by rw [show ttRo 189 = 189 from rfl, show (k + 3) = 20 + 8 * p + ((3 : Nat) : Int) from by omega, ty_fp p0 p1 3 (by decide)]; exact (show (0 : Int) ≤ 1 ∧ 1 ≤ 1 from ⟨by omega, by omega⟩)) ⟨(189, 1, 195), by simp [yyEF], ⟨⟨by decide, rfl⟩, by show (1 : Int) ≤ (k + 3); omega, by show (k + 3) ≤ (195 : Int); omega⟩⟩
        obtain ⟨ujZ33, ujzk33⟩ : ∃ X : xH, X = (xUp ujK32.1 189 (k + 3) 1, ujK32.2) := ⟨_, rfl⟩
        rw [← ujzk33] at ujzc33 ⊢
        have ujzo33 : (∀ j : Int, ¬ (20 ≤ j ∧ j ≤ 83) → ujZ33.1 189 j = H.1 189 j) := fun j hj => by rw [ujzk33]; exact (show xUp ujK32.1 189 (k + 3) 1 189 j = _ from up_ne (by omega)).trans (ujzo32 j hj)
        refine q_al (pc := 66) (i := 0) (x := 183) rfl rfl ?_
        refine q_gf (pc := 67) (m := 12142) (t := 2) (c := 14) rfl (ttKc ujzc33.1 (a := 183) (κ := 12) (len := 0) ⟨rfl, rfl⟩ (by decide) (by decide)).1 rfl rfl ?_
        rw [show ujZ33.1 183 14 = 189 from ttFx ujzc33.1 (by decide) (by decide) rfl rfl rfl]
        refine q_il (pc := 68) (i := 1) (x := k) rfl rfl ?_
        refine q_ic (pc := 69) (v := 4) rfl ?_
        refine q_ia (pc := 70) rfl (by omega) (by omega) ?_
        refine q_il (pc := 71) (i := 2) (x := ujr31) rfl rfl ?_
        refine q_si (pc := 72) rfl (by decide) (ttKc ujzc33.1 (a := 189) (κ := 20) (len := 196) ⟨rfl, rfl⟩ (by decide) (by decide)).1 (by omega) (by rw [(ttKc ujzc33.1 (a := 189) (κ := 20) (len := 196) ⟨rfl, rfl⟩ (by decide) (by decide)).2]; omega) ?_
        have ujzc34 := ttPuT ujzc33.1 ujzc33.2 (a := 189) (j := (k + 4)) (x := ujr31) (by decide) (fun _ _ => by rw [show ttRo 189 = 189 from rfl, show (k + 4) = 20 + 8 * p + ((4 : Nat) : Int) from by omega, ty_fp p0 p1 4 (by decide)]; exact (show (0 : Int) ≤ ujr31 ∧ ujr31 ≤ 100 from ⟨by omega, by omega⟩)) ⟨(189, 1, 195), by simp [yyEF], ⟨⟨by decide, rfl⟩, by show (1 : Int) ≤ (k + 4); omega, by show (k + 4) ≤ (195 : Int); omega⟩⟩
        obtain ⟨ujZ34, ujzk34⟩ : ∃ X : xH, X = (xUp ujZ33.1 189 (k + 4) ujr31, ujZ33.2) := ⟨_, rfl⟩
        rw [← ujzk34] at ujzc34 ⊢
        have ujzo34 : (∀ j : Int, ¬ (20 ≤ j ∧ j ≤ 83) → ujZ34.1 189 j = H.1 189 j) := fun j hj => by rw [ujzk34]; exact (show xUp ujZ33.1 189 (k + 4) ujr31 189 j = _ from up_ne (by omega)).trans (ujzo33 j hj)
        refine q_al (pc := 73) (i := 0) (x := 183) rfl rfl ?_
        refine q_gf (pc := 74) (m := 12142) (t := 2) (c := 14) rfl (ttKc ujzc34.1 (a := 183) (κ := 12) (len := 0) ⟨rfl, rfl⟩ (by decide) (by decide)).1 rfl rfl ?_
        rw [show ujZ34.1 183 14 = 189 from ttFx ujzc34.1 (by decide) (by decide) rfl rfl rfl]
        refine q_il (pc := 75) (i := 1) (x := k) rfl rfl ?_
        refine q_ic (pc := 76) (v := 5) rfl ?_
        refine q_ia (pc := 77) rfl (by omega) (by omega) ?_
        refine q_il (pc := 78) (i := 3) (x := ujr32) rfl rfl ?_
        refine q_si (pc := 79) rfl (by decide) (ttKc ujzc34.1 (a := 189) (κ := 20) (len := 196) ⟨rfl, rfl⟩ (by decide) (by decide)).1 (by omega) (by rw [(ttKc ujzc34.1 (a := 189) (κ := 20) (len := 196) ⟨rfl, rfl⟩ (by decide) (by decide)).2]; omega) ?_
        have ujzc35 := ttPuT ujzc34.1 ujzc34.2 (a := 189) (j := (k + 5)) (x := ujr32) (by decide) (fun _ _ => by rw [show ttRo 189 = 189 from rfl, show (k + 5) = 20 + 8 * p + ((5 : Nat) : Int) from by omega, ty_fp p0 p1 5 (by decide)]; exact (show (0 : Int) ≤ ujr32 ∧ ujr32 ≤ 2000 from ⟨by omega, by omega⟩)) ⟨(189, 1, 195), by simp [yyEF], ⟨⟨by decide, rfl⟩, by show (1 : Int) ≤ (k + 5); omega, by show (k + 5) ≤ (195 : Int); omega⟩⟩
        obtain ⟨ujZ35, ujzk35⟩ : ∃ X : xH, X = (xUp ujZ34.1 189 (k + 5) ujr32, ujZ34.2) := ⟨_, rfl⟩
        rw [← ujzk35] at ujzc35 ⊢
        have ujzo35 : (∀ j : Int, ¬ (20 ≤ j ∧ j ≤ 83) → ujZ35.1 189 j = H.1 189 j) := fun j hj => by rw [ujzk35]; exact (show xUp ujZ34.1 189 (k + 5) ujr32 189 j = _ from up_ne (by omega)).trans (ujzo34 j hj)
        refine q_al (pc := 80) (i := 0) (x := 183) rfl rfl ?_
        refine q_sc (pc := 81) (j := 21) rfl ?_
        refine q_iv (pc := 82) (q := 1736968) rfl rfl rfl ⟨by omega, (ttKc ujzc35.1 (a := 183) (κ := 12) (len := 0) ⟨rfl, rfl⟩ (by decide) (by decide)).1⟩ ?_
        refine lf_takes (by decide) (by decide) (by omega) ujzc35.1 (xx_fr ujzc35.2 rfl (by decide) (by decide) hX) (fun ji36 ujK36 ujzT36 ujzF36 ujzg36 => ?_) (fun ji36 => ?_)
        · have ujzo36 : (∀ j : Int, ¬ (20 ≤ j ∧ j ≤ 83) → ujK36.1 189 j = H.1 189 j) := fun j hj => (fr_no ujzF36 189 (by have := ujzc35.1.1; omega) rfl rfl).trans (ujzo35 j hj)
          replace ujzF36 := ttFr_tr ujzc35.2 ujzF36 (fun _ => rfl) (by decide)
          refine q_if (pc := 83) rfl (fun h83 => ?_) (fun h83 => ?_)
          · replace h83 : (1 : Int) ≠ 0 := h83
            refine q_al (pc := 85) (i := 0) (x := 183) rfl rfl ?_
            refine q_gf (pc := 86) (m := 12142) (t := 2) (c := 14) rfl (ttKc ujzT36 (a := 183) (κ := 12) (len := 0) ⟨rfl, rfl⟩ (by decide) (by decide)).1 rfl rfl ?_
            rw [show ujK36.1 183 14 = 189 from ttFx ujzT36 (by decide) (by decide) rfl rfl rfl]
            refine q_il (pc := 87) (i := 1) (x := k) rfl rfl ?_
            refine q_ic (pc := 88) (v := 6) rfl ?_
            refine q_ia (pc := 89) rfl (by omega) (by omega) ?_
            refine q_al (pc := 90) (i := 0) (x := 183) rfl rfl ?_
            refine q_ic (pc := 91) (v := 0) rfl ?_
            refine q_ic (pc := 92) (v := 100) rfl ?_
            refine q_iv (pc := 93) (q := 1752972) rfl rfl rfl (ttKc ujzT36 (a := 183) (κ := 12) (len := 0) ⟨rfl, rfl⟩ (by decide) (by decide)).1 ?_
            refine lf_number (by omega) ujzT36 (xx_fr ujzF36 rfl (by decide) (by decide) hX) (fun ujr37 ujK37 ujzT37 ujzF37 ujzg37 ujzr37 => ?_)
            have ujzo37 : (∀ j : Int, ¬ (20 ≤ j ∧ j ≤ 83) → ujK37.1 189 j = H.1 189 j) := fun j hj => (fr_no ujzF37 189 (by have := ujzT36.1; omega) rfl rfl).trans (ujzo36 j hj)
            replace ujzF37 := ttFr_tr ujzF36 ujzF37 (fun _ => rfl) (by decide)
            refine q_si (pc := 94) rfl (by decide) (ttKc ujzT37 (a := 189) (κ := 20) (len := 196) ⟨rfl, rfl⟩ (by decide) (by decide)).1 (by omega) (by rw [(ttKc ujzT37 (a := 189) (κ := 20) (len := 196) ⟨rfl, rfl⟩ (by decide) (by decide)).2]; omega) ?_
            have ujzc38 := ttPuT ujzT37 ujzF37 (a := 189) (j := (k + 6)) (x := ujr37) (by decide) (fun _ _ => by rw [show ttRo 189 = 189 from rfl, show (k + 6) = 20 + 8 * p + ((6 : Nat) : Int) from by omega, ty_fp p0 p1 6 (by decide)]; exact (show (0 : Int) ≤ ujr37 ∧ ujr37 ≤ 100 from ⟨by omega, by omega⟩)) ⟨(189, 1, 195), by simp [yyEF], ⟨⟨by decide, rfl⟩, by show (1 : Int) ≤ (k + 6); omega, by show (k + 6) ≤ (195 : Int); omega⟩⟩
            obtain ⟨ujZ38, ujzk38⟩ : ∃ X : xH, X = (xUp ujK37.1 189 (k + 6) ujr37, ujK37.2) := ⟨_, rfl⟩
            rw [← ujzk38] at ujzc38 ⊢
            have ujzo38 : (∀ j : Int, ¬ (20 ≤ j ∧ j ≤ 83) → ujZ38.1 189 j = H.1 189 j) := fun j hj => by rw [ujzk38]; exact (show xUp ujK37.1 189 (k + 6) ujr37 189 j = _ from up_ne (by omega)).trans (ujzo37 j hj)
            refine q_al (pc := 95) (i := 0) (x := 183) rfl rfl ?_
            refine q_gf (pc := 96) (m := 12142) (t := 2) (c := 14) rfl (ttKc ujzc38.1 (a := 183) (κ := 12) (len := 0) ⟨rfl, rfl⟩ (by decide) (by decide)).1 rfl rfl ?_
            rw [show ujZ38.1 183 14 = 189 from ttFx ujzc38.1 (by decide) (by decide) rfl rfl rfl]
            refine q_il (pc := 97) (i := 1) (x := k) rfl rfl ?_
            refine q_ic (pc := 98) (v := 7) rfl ?_
            refine q_ia (pc := 99) rfl (by omega) (by omega) ?_
            refine q_al (pc := 100) (i := 0) (x := 183) rfl rfl ?_
            refine q_ic (pc := 101) (v := 0) rfl ?_
            refine q_ic (pc := 102) (v := 100) rfl ?_
            refine q_iv (pc := 103) (q := 1752972) rfl rfl rfl (ttKc ujzc38.1 (a := 183) (κ := 12) (len := 0) ⟨rfl, rfl⟩ (by decide) (by decide)).1 ?_
            refine lf_number (by omega) ujzc38.1 (xx_fr ujzc38.2 rfl (by decide) (by decide) hX) (fun ujr39 ujK39 ujzT39 ujzF39 ujzg39 ujzr39 => ?_)
            have ujzo39 : (∀ j : Int, ¬ (20 ≤ j ∧ j ≤ 83) → ujK39.1 189 j = H.1 189 j) := fun j hj => (fr_no ujzF39 189 (by have := ujzc38.1.1; omega) rfl rfl).trans (ujzo38 j hj)
            replace ujzF39 := ttFr_tr ujzc38.2 ujzF39 (fun _ => rfl) (by decide)
            refine q_si (pc := 104) rfl (by decide) (ttKc ujzT39 (a := 189) (κ := 20) (len := 196) ⟨rfl, rfl⟩ (by decide) (by decide)).1 (by omega) (by rw [(ttKc ujzT39 (a := 189) (κ := 20) (len := 196) ⟨rfl, rfl⟩ (by decide) (by decide)).2]; omega) ?_
            have ujzc40 := ttPuT ujzT39 ujzF39 (a := 189) (j := (k + 7)) (x := ujr39) (by decide) (fun _ _ => by rw [show ttRo 189 = 189 from rfl, show (k + 7) = 20 + 8 * p + ((7 : Nat) : Int) from by omega, ty_fp p0 p1 7 (by decide)]; exact (show (0 : Int) ≤ ujr39 ∧ ujr39 ≤ 100 from ⟨by omega, by omega⟩)) ⟨(189, 1, 195), by simp [yyEF], ⟨⟨by decide, rfl⟩, by show (1 : Int) ≤ (k + 7); omega, by show (k + 7) ≤ (195 : Int); omega⟩⟩
            obtain ⟨ujZ40, ujzk40⟩ : ∃ X : xH, X = (xUp ujK39.1 189 (k + 7) ujr39, ujK39.2) := ⟨_, rfl⟩
            rw [← ujzk40] at ujzc40 ⊢
            have ujzo40 : (∀ j : Int, ¬ (20 ≤ j ∧ j ≤ 83) → ujZ40.1 189 j = H.1 189 j) := fun j hj => by rw [ujzk40]; exact (show xUp ujK39.1 189 (k + 7) ujr39 189 j = _ from up_ne (by omega)).trans (ujzo39 j hj)
            refine q_rv (pc := 105) rfl ?_
            exact hQ ujZ40 ujzc40.1 ujzc40.2 (fun _ y => yyI_eq (fun j _ _ hj => ujzo40 j hj) y)
          · replace h83 : (1 : Int) = 0 := h83
            omega
        · skip
          refine q_if (pc := 83) rfl (fun h83 => ?_) (fun h83 => ?_)
          · replace h83 : (0 : Int) ≠ 0 := h83
            omega
          · replace h83 : (0 : Int) = 0 := h83
            refine q_rv (pc := 84) rfl ?_
            exact hQ ujZ35 ujzc35.1 ujzc35.2 (fun _ y => yyI_eq (fun j _ _ hj => ujzo35 j hj) y)
      · replace h57 : (1 : Int) = 0 := h57
        omega
    · skip
      refine q_if (pc := 57) rfl (fun h57 => ?_) (fun h57 => ?_)
      · replace h57 : (0 : Int) ≠ 0 := h57
        omega
      · replace h57 : (0 : Int) = 0 := h57
        refine q_rv (pc := 58) rfl ?_
        exact hQ ujK32 ujzT32 ujzF32 (fun _ y => yyI_eq (fun j _ _ hj => ujzo32 j hj) y)
  have zm : 0 ≤ H.1 189 1 ∧ H.1 189 1 ≤ 8 := ttMc hT (a := 189) (j := 1) (by decide) (by decide) (by decide) (by decide)
  have zv := (i183 hT).2.2
  refine xC_of (L := [(2, 183), (9, 0), (9, 0), (9, 0)]) (cd := cd_226) rfl rfl rfl ?_
  refine q_al (pc := 0) (i := 0) (x := 183) rfl rfl ?_
  refine q_iv (pc := 1) (q := 1712964) rfl rfl rfl (ttKc hT (a := 183) (κ := 12) (len := 0) ⟨rfl, rfl⟩ (by decide) (by decide)).1 ?_
  refine lf_good (by omega) hT (fun jg1 => ?_) (fun jg1 => ?_)
  · skip
    refine q_if (pc := 2) rfl (fun h2 => ?_) (fun h2 => ?_)
    · replace h2 : (1 : Int) = 0 := h2
      omega
    · replace h2 : (1 : Int) ≠ 0 := h2
      refine q_al (pc := 3) (i := 0) (x := 183) rfl rfl ?_
      refine q_gf (pc := 4) (m := 12100) (t := 0) (c := 10) rfl (ttKc hT (a := 183) (κ := 12) (len := 0) ⟨rfl, rfl⟩ (by decide) (by decide)).1 rfl rfl ?_
      refine q_ic (pc := 5) (v := 2) rfl ?_
      refine q_i2 (pc := 6) rfl (fun h6 => ?_) (fun h6 => ?_)
      · replace h6 : (H.1 183 10) ≠ 2 := h6
        exact h36 H hT (ttFr_rf yyEF H) (fun _ _ => rfl)
      · replace h6 : (H.1 183 10) = 2 := h6
        refine q_al (pc := 7) (i := 0) (x := 183) rfl rfl ?_
        refine q_gf (pc := 8) (m := 12110) (t := 0) (c := 11) rfl (ttKc hT (a := 183) (κ := 12) (len := 0) ⟨rfl, rfl⟩ (by decide) (by decide)).1 rfl rfl ?_
        refine q_2l (pc := 9) rfl ?_
        refine q_lc (pc := 10) (v := 0) rfl ?_
        refine q_al (pc := 11) (i := 0) (x := 183) rfl rfl ?_
        refine q_gf (pc := 12) (m := 12142) (t := 2) (c := 14) rfl (ttKc hT (a := 183) (κ := 12) (len := 0) ⟨rfl, rfl⟩ (by decide) (by decide)).1 rfl rfl ?_
        rw [show H.1 183 14 = 189 from ttFx hT (by decide) (by decide) rfl rfl rfl]
        refine q_ic (pc := 13) (v := 1) rfl ?_
        refine q_ai (pc := 14) rfl (ttKc hT (a := 189) (κ := 20) (len := 196) ⟨rfl, rfl⟩ (by decide) (by decide)).1 (by omega) (by rw [(ttKc hT (a := 189) (κ := 20) (len := 196) ⟨rfl, rfl⟩ (by decide) (by decide)).2]; omega) ?_
        refine q_ic (pc := 15) (v := 1) rfl ?_
        refine q_ib (pc := 16) rfl (by omega) (by omega) ?_
        refine q_2l (pc := 17) rfl ?_
        refine q_ij (pc := 18) (q := 1615932) rfl rfl rfl trivial ?_
        refine lf_in (by omega) (fun jn18 => ?_) (fun jn18 => ?_)
        · skip
          refine q_if (pc := 19) rfl (fun h19 => ?_) (fun h19 => ?_)
          · replace h19 : (1 : Int) = 0 := h19
            omega
          · replace h19 : (1 : Int) ≠ 0 := h19
            refine q_al (pc := 20) (i := 0) (x := 183) rfl rfl ?_
            refine q_gf (pc := 21) (m := 12142) (t := 2) (c := 14) rfl (ttKc hT (a := 183) (κ := 12) (len := 0) ⟨rfl, rfl⟩ (by decide) (by decide)).1 rfl rfl ?_
            rw [show H.1 183 14 = 189 from ttFx hT (by decide) (by decide) rfl rfl rfl]
            refine q_ic (pc := 22) (v := 20) rfl ?_
            refine q_ic (pc := 23) (v := 8) rfl ?_
            refine q_al (pc := 24) (i := 0) (x := 183) rfl rfl ?_
            refine q_gf (pc := 25) (m := 12110) (t := 0) (c := 11) rfl (ttKc hT (a := 183) (κ := 12) (len := 0) ⟨rfl, rfl⟩ (by decide) (by decide)).1 rfl rfl ?_
            refine q_im (pc := 26) rfl (by omega) (by omega) ?_
            refine q_ia (pc := 27) rfl (by omega) (by omega) ?_
            refine q_ic (pc := 28) (v := 3) rfl ?_
            refine q_ia (pc := 29) rfl (by omega) (by omega) ?_
            refine q_ai (pc := 30) rfl (ttKc hT (a := 189) (κ := 20) (len := 196) ⟨rfl, rfl⟩ (by decide) (by decide)).1 (by omega) (by rw [(ttKc hT (a := 189) (κ := 20) (len := 196) ⟨rfl, rfl⟩ (by decide) (by decide)).2]; omega) ?_
            refine q_ic (pc := 31) (v := 1) rfl ?_
            refine q_i2 (pc := 32) rfl (fun h32 => ?_) (fun h32 => ?_)
            · replace h32 : (H.1 189 ((20 + (8 * (H.1 183 11))) + 3)) ≠ 1 := h32
              exact h36 H hT (ttFr_rf yyEF H) (fun _ _ => rfl)
            · replace h32 : (H.1 189 ((20 + (8 * (H.1 183 11))) + 3)) = 1 := h32
              refine q_al (pc := 33) (i := 0) (x := 183) rfl rfl ?_
              refine q_ic (pc := 34) (v := 2) rfl ?_
              refine q_iv (pc := 35) (q := 1720971) rfl rfl rfl (ttKc hT (a := 183) (κ := 12) (len := 0) ⟨rfl, rfl⟩ (by decide) (by decide)).1 ?_
              refine lf_errs (by omega) hT (by decide) (by decide) (fun ujK41 ujzT41 ujzF41 ujzn41 => ?_)
              have ujzo41 : (∀ j : Int, ¬ (20 ≤ j ∧ j ≤ 83) → ujK41.1 189 j = H.1 189 j) := fun j hj => (fr_no ujzF41 189 (by have := hT.1; omega) rfl rfl).trans ((fun _ _ => rfl) j hj)
              replace ujzF41 := ttFr_tr (ttFr_rf yyEF H) ujzF41 (fun _ => rfl) (by decide)
              exact h36 ujK41 ujzT41 ujzF41 ujzo41
        · skip
          refine q_if (pc := 19) rfl (fun h19 => ?_) (fun h19 => ?_)
          · replace h19 : (0 : Int) = 0 := h19
            exact h36 H hT (ttFr_rf yyEF H) (fun _ _ => rfl)
          · replace h19 : (0 : Int) ≠ 0 := h19
            omega
  · skip
    refine q_if (pc := 2) rfl (fun h2 => ?_) (fun h2 => ?_)
    · replace h2 : (0 : Int) = 0 := h2
      exact h36 H hT (ttFr_rf yyEF H) (fun _ _ => rfl)
    · replace h2 : (0 : Int) ≠ 0 := h2
      omega
theorem pt_or : ∀ R : Nat, R < 256 → ∀ p : Nat, p < 8 → 0 ≤ xOr (R : Int) (xShl 1 (p : Int)) ∧ xOr (R : Int) (xShl 1 (p : Int)) ≤ 255 ∧ yyP (xOr (R : Int) (xShl 1 (p : Int))) ≤ yyP (R : Int) + 1 := by decide +kernel
theorem pt_or2 {R p : Int} (ujr0 : 0 ≤ R) (ujr1 : R ≤ 255) (p0 : 0 ≤ p) (p1 : p ≤ 7) : 0 ≤ xOr R (xShl 1 p) ∧ xOr R (xShl 1 p) ≤ 255 ∧ yyP (xOr R (xShl 1 p)) ≤ yyP R + 1 := by
  have k := pt_or R.toNat (by omega) p.toNat (by omega)
  rw [Int.toNat_of_nonneg ujr0, Int.toNat_of_nonneg p0] at k
  exact k
theorem lf_readPoint {dd : Nat} (hd : 10 ≤ dd) {H : xH} (hT : ttTI H) (hX : ttXX YY H) (hp : yyP (H.1 189 15) ≤ 2) {Q : Int → xH → Prop} (hQ : ∀ K, ttTI K → ttFr yyEF H K → (K.1 183 12 = 0 → yyI H.1 → yyI K.1) → Q 0 K) : xCall dd 227 [(2, 183)] H Q := by
  obtain ⟨e, rfl, he⟩ := ttRun0 (n := 9) hd
  have he : 9 ≤ e := he
  have hn : 210 ≤ (H.2.2.2.1 : Int) := by have := hT.1; omega
  have zr : 0 ≤ H.1 189 15 ∧ H.1 189 15 ≤ 255 := ttMc hT (a := 189) (j := 15) (by decide) (by decide) (by decide) (by decide)
  have h31 : ∀ (K : xH), ttTI K → ttFr yyEF H K → (∀ j : Int, j ≠ 15 → K.1 189 j = H.1 189 j) → K.1 189 15 = H.1 189 15 → xW e cd_227 Q (31, [(2, 183), (9, 0)], [], K) := by
    intro K kT kF kO k15
    refine q_al (pc := 31) (i := 0) (x := 183) rfl rfl ?_
    refine q_iv (pc := 32) (q := 1776964) rfl rfl rfl (ttKc kT (a := 183) (κ := 12) (len := 0) ⟨rfl, rfl⟩ (by decide) (by decide)).1 ?_
    refine lf_place (by omega) kT (xx_fr kF rfl (by decide) (by decide) hX) (fun ujr42 ujK42 ujzT42 ujzF42 ujzg42 ujzr42 ujzs42 => ?_)
    have ujzo42 : (∀ j : Int, j ≠ 15 → ujK42.1 189 j = H.1 189 j) := fun j hj => (fr_no ujzF42 189 (by have := kT.1; omega) rfl rfl).trans (kO j hj)
    rw [show K.1 189 1 = H.1 189 1 from kO 1 (by omega)] at ujzg42
    have z15 : ujK42.1 189 15 = H.1 189 15 := (fr_no ujzF42 189 (by have := kT.1; omega) rfl rfl).trans k15
    replace ujzF42 := ttFr_tr kF ujzF42 (fun _ => rfl) (by decide)
    have po := pt_or2 zr.1 zr.2 ujzr42 ujzs42
    refine q_is (pc := 33) (i := 1) (L' := [(2, 183), (0, ujr42)]) rfl rfl rfl ?_
    refine q_al (pc := 34) (i := 0) (x := 183) rfl rfl ?_
    refine q_iv (pc := 35) (q := 1712964) rfl rfl rfl (ttKc ujzT42 (a := 183) (κ := 12) (len := 0) ⟨rfl, rfl⟩ (by decide) (by decide)).1 ?_
    refine lf_good (by omega) ujzT42 (fun jg35 => ?_) (fun jg35 => ?_)
    · skip
      refine q_if (pc := 36) rfl (fun h36 => ?_) (fun h36 => ?_)
      · replace h36 : (1 : Int) = 0 := h36
        omega
      · replace h36 : (1 : Int) ≠ 0 := h36
        refine q_al (pc := 37) (i := 0) (x := 183) rfl rfl ?_
        refine q_gf (pc := 38) (m := 12142) (t := 2) (c := 14) rfl (ttKc ujzT42 (a := 183) (κ := 12) (len := 0) ⟨rfl, rfl⟩ (by decide) (by decide)).1 rfl rfl ?_
        rw [show ujK42.1 183 14 = 189 from ttFx ujzT42 (by decide) (by decide) rfl rfl rfl]
        refine q_ic (pc := 39) (v := 15) rfl ?_
        refine q_dd (pc := 40) rfl ?_
        refine q_ai (pc := 41) rfl (ttKc ujzT42 (a := 189) (κ := 20) (len := 196) ⟨rfl, rfl⟩ (by decide) (by decide)).1 (by omega) (by rw [(ttKc ujzT42 (a := 189) (κ := 20) (len := 196) ⟨rfl, rfl⟩ (by decide) (by decide)).2]; omega) ?_
        rw [z15]
        refine q_ic (pc := 42) (v := 1) rfl ?_
        refine q_il (pc := 43) (i := 1) (x := ujr42) rfl rfl ?_
        refine q_sl (pc := 44) rfl ?_
        refine q_or (pc := 45) rfl ?_
        refine q_si (pc := 46) rfl (by decide) (ttKc ujzT42 (a := 189) (κ := 20) (len := 196) ⟨rfl, rfl⟩ (by decide) (by decide)).1 (by omega) (by rw [(ttKc ujzT42 (a := 189) (κ := 20) (len := 196) ⟨rfl, rfl⟩ (by decide) (by decide)).2]; omega) ?_
        have ujzc43 := ttPuT ujzT42 ujzF42 (a := 189) (j := 15) (x := (xOr (H.1 189 15) (xShl 1 ujr42))) (by decide) (fun _ _ => show (0 : Int) ≤ (xOr (H.1 189 15) (xShl 1 ujr42)) ∧ (xOr (H.1 189 15) (xShl 1 ujr42)) ≤ 255 from ⟨by omega, by omega⟩) ⟨(189, 1, 195), by simp [yyEF], ⟨⟨by decide, rfl⟩, by show (1 : Int) ≤ 15; omega, by show 15 ≤ (195 : Int); omega⟩⟩
        obtain ⟨ujZ43, ujzk43⟩ : ∃ X : xH, X = (xUp ujK42.1 189 15 (xOr (H.1 189 15) (xShl 1 ujr42)), ujK42.2) := ⟨_, rfl⟩
        rw [← ujzk43] at ujzc43 ⊢
        refine q_rv (pc := 47) rfl ?_
        refine hQ ujZ43 ujzc43.1 ujzc43.2 (fun _ y => ?_)
        obtain ⟨y1, y2, y3, y4⟩ := y
        have e : ∀ j : Int, j ≠ 15 → ujZ43.1 189 j = H.1 189 j := fun j hj => by rw [ujzk43]; exact (up_ne (by omega)).trans (ujzo42 j hj)
        have e15 : ujZ43.1 189 15 = (xOr (H.1 189 15) (xShl 1 ujr42)) := by rw [ujzk43]; exact up_eq (D := ujK42.1) (a := 189) (j := 15) (x := (xOr (H.1 189 15) (xShl 1 ujr42)))
        refine ⟨fun l l0 l1 l2 => ?_, by rw [e15]; omega, by rw [e 12 (by decide), e 1 (by decide)]; exact y3, by rw [e 7 (by decide)]; exact y4⟩
        rw [e 2 (by decide)] at l2
        rw [e (84 + 6 * l) (by omega), e (85 + 6 * l) (by omega), e 1 (by decide)]
        exact y1 l l0 l1 l2
    · skip
      refine q_if (pc := 36) rfl (fun h36 => ?_) (fun h36 => ?_)
      · replace h36 : (0 : Int) = 0 := h36
        refine q_rv (pc := 47) rfl ?_
        exact hQ ujK42 ujzT42 ujzF42 (fun _ y => yyI_eq (fun j _ _ _ => (Classical.em (j = 15)).elim (fun z => by rw [z]; exact z15) (fun z => ujzo42 j z)) y)
      · replace h36 : (0 : Int) ≠ 0 := h36
        omega
  have zm : 0 ≤ H.1 189 1 ∧ H.1 189 1 ≤ 8 := ttMc hT (a := 189) (j := 1) (by decide) (by decide) (by decide) (by decide)
  refine xC_of (L := [(2, 183), (9, 0)]) (cd := cd_227) rfl rfl rfl ?_
  refine q_al (pc := 0) (i := 0) (x := 183) rfl rfl ?_
  refine q_iv (pc := 1) (q := 1712964) rfl rfl rfl (ttKc hT (a := 183) (κ := 12) (len := 0) ⟨rfl, rfl⟩ (by decide) (by decide)).1 ?_
  refine lf_good (by omega) hT (fun jg1 => ?_) (fun jg1 => ?_)
  · skip
    refine q_if (pc := 2) rfl (fun h2 => ?_) (fun h2 => ?_)
    · replace h2 : (1 : Int) = 0 := h2
      omega
    · replace h2 : (1 : Int) ≠ 0 := h2
      refine q_al (pc := 3) (i := 0) (x := 183) rfl rfl ?_
      refine q_gf (pc := 4) (m := 12100) (t := 0) (c := 10) rfl (ttKc hT (a := 183) (κ := 12) (len := 0) ⟨rfl, rfl⟩ (by decide) (by decide)).1 rfl rfl ?_
      refine q_ic (pc := 5) (v := 2) rfl ?_
      refine q_i2 (pc := 6) rfl (fun h6 => ?_) (fun h6 => ?_)
      · replace h6 : (H.1 183 10) ≠ 2 := h6
        exact h31 H hT (ttFr_rf yyEF H) (fun _ _ => rfl) rfl
      · replace h6 : (H.1 183 10) = 2 := h6
        refine q_al (pc := 7) (i := 0) (x := 183) rfl rfl ?_
        refine q_gf (pc := 8) (m := 12110) (t := 0) (c := 11) rfl (ttKc hT (a := 183) (κ := 12) (len := 0) ⟨rfl, rfl⟩ (by decide) (by decide)).1 rfl rfl ?_
        refine q_2l (pc := 9) rfl ?_
        refine q_lc (pc := 10) (v := 0) rfl ?_
        refine q_al (pc := 11) (i := 0) (x := 183) rfl rfl ?_
        refine q_gf (pc := 12) (m := 12142) (t := 2) (c := 14) rfl (ttKc hT (a := 183) (κ := 12) (len := 0) ⟨rfl, rfl⟩ (by decide) (by decide)).1 rfl rfl ?_
        rw [show H.1 183 14 = 189 from ttFx hT (by decide) (by decide) rfl rfl rfl]
        refine q_ic (pc := 13) (v := 1) rfl ?_
        refine q_ai (pc := 14) rfl (ttKc hT (a := 189) (κ := 20) (len := 196) ⟨rfl, rfl⟩ (by decide) (by decide)).1 (by omega) (by rw [(ttKc hT (a := 189) (κ := 20) (len := 196) ⟨rfl, rfl⟩ (by decide) (by decide)).2]; omega) ?_
        refine q_ic (pc := 15) (v := 1) rfl ?_
        refine q_ib (pc := 16) rfl (by omega) (by omega) ?_
        refine q_2l (pc := 17) rfl ?_
        refine q_ij (pc := 18) (q := 1615932) rfl rfl rfl trivial ?_
        refine lf_in (by omega) (fun jn18 => ?_) (fun jn18 => ?_)
        · skip
          refine q_if (pc := 19) rfl (fun h19 => ?_) (fun h19 => ?_)
          · replace h19 : (1 : Int) = 0 := h19
            omega
          · replace h19 : (1 : Int) ≠ 0 := h19
            refine q_al (pc := 20) (i := 0) (x := 183) rfl rfl ?_
            refine q_gf (pc := 21) (m := 12142) (t := 2) (c := 14) rfl (ttKc hT (a := 183) (κ := 12) (len := 0) ⟨rfl, rfl⟩ (by decide) (by decide)).1 rfl rfl ?_
            rw [show H.1 183 14 = 189 from ttFx hT (by decide) (by decide) rfl rfl rfl]
            refine q_ic (pc := 22) (v := 15) rfl ?_
            refine q_ai (pc := 23) rfl (ttKc hT (a := 189) (κ := 20) (len := 196) ⟨rfl, rfl⟩ (by decide) (by decide)).1 (by omega) (by rw [(ttKc hT (a := 189) (κ := 20) (len := 196) ⟨rfl, rfl⟩ (by decide) (by decide)).2]; omega) ?_
            refine q_al (pc := 24) (i := 0) (x := 183) rfl rfl ?_
            refine q_gf (pc := 25) (m := 12110) (t := 0) (c := 11) rfl (ttKc hT (a := 183) (κ := 12) (len := 0) ⟨rfl, rfl⟩ (by decide) (by decide)).1 rfl rfl ?_
            refine q_ij (pc := 26) (q := 1623928) rfl rfl rfl trivial ?_
            refine lf_holds (by omega) (fun _ => ?_) (fun _ => ?_)
            · skip
              refine q_if (pc := 27) rfl (fun h27 => ?_) (fun h27 => ?_)
              · replace h27 : (1 : Int) = 0 := h27
                omega
              · replace h27 : (1 : Int) ≠ 0 := h27
                refine q_al (pc := 28) (i := 0) (x := 183) rfl rfl ?_
                refine q_ic (pc := 29) (v := 2) rfl ?_
                refine q_iv (pc := 30) (q := 1720971) rfl rfl rfl (ttKc hT (a := 183) (κ := 12) (len := 0) ⟨rfl, rfl⟩ (by decide) (by decide)).1 ?_
                refine lf_errs (by omega) hT (by decide) (by decide) (fun ujK44 ujzT44 ujzF44 ujzn44 => ?_)
                have ujzo44 : (∀ j : Int, j ≠ 15 → ujK44.1 189 j = H.1 189 j) := fun j hj => (fr_no ujzF44 189 (by have := hT.1; omega) rfl rfl).trans ((fun _ _ => rfl) j hj)
                have z15 : ujK44.1 189 15 = H.1 189 15 := fr_no ujzF44 189 (by have := hT.1; omega) rfl rfl
                replace ujzF44 := ttFr_tr (ttFr_rf yyEF H) ujzF44 (fun _ => rfl) (by decide)
                exact h31 ujK44 ujzT44 ujzF44 ujzo44 z15
            · skip
              refine q_if (pc := 27) rfl (fun h27 => ?_) (fun h27 => ?_)
              · replace h27 : (0 : Int) = 0 := h27
                exact h31 H hT (ttFr_rf yyEF H) (fun _ _ => rfl) rfl
              · replace h27 : (0 : Int) ≠ 0 := h27
                omega
        · skip
          refine q_if (pc := 19) rfl (fun h19 => ?_) (fun h19 => ?_)
          · replace h19 : (0 : Int) = 0 := h19
            exact h31 H hT (ttFr_rf yyEF H) (fun _ _ => rfl) rfl
          · replace h19 : (0 : Int) ≠ 0 := h19
            omega
  · skip
    refine q_if (pc := 2) rfl (fun h2 => ?_) (fun h2 => ?_)
    · replace h2 : (0 : Int) = 0 := h2
      exact h31 H hT (ttFr_rf yyEF H) (fun _ _ => rfl) rfl
    · replace h2 : (0 : Int) ≠ 0 := h2
      omega
theorem lf_readStart {dd : Nat} (hd : 10 ≤ dd) {H : xH} (hT : ttTI H) (hX : ttXX YY H) {Q : Int → xH → Prop} (hQ : ∀ K, ttTI K → ttFr yyEF H K → (K.1 183 12 = 0 → yyI H.1 → yyI K.1) → Q 0 K) : xCall dd 228 [(2, 183)] H Q := by
  obtain ⟨e, rfl, he⟩ := ttRun0 (n := 9) hd
  have he : 9 ≤ e := he
  have hn : 210 ≤ (H.2.2.2.1 : Int) := by have := hT.1; omega
  have h19 : ∀ (p h : Int) (K : xH), ttTI K → ttFr yyEF H K → (∀ j : Int, (j ≠ 12 ∧ j ≠ 13 ∧ j ≠ 14) → K.1 189 j = H.1 189 j) → 0 ≤ p → p ≤ 7 → 0 ≤ h → h ≤ 60 → (K.1 183 12 = 0 → p < H.1 189 1) → xW e cd_228 Q (20, [(2, 183), (0, p), (0, h)], [], K) := by
    intro p h K kT kF kO p0 p1 h0 h1 kg
    refine q_al (pc := 20) (i := 0) (x := 183) rfl rfl ?_
    refine q_iv (pc := 21) (q := 1712964) rfl rfl rfl (ttKc kT (a := 183) (κ := 12) (len := 0) ⟨rfl, rfl⟩ (by decide) (by decide)).1 ?_
    refine lf_good (by omega) kT (fun jg21 => ?_) (fun jg21 => ?_)
    · skip
      refine q_if (pc := 22) rfl (fun h22 => ?_) (fun h22 => ?_)
      · replace h22 : (1 : Int) ≠ 0 := h22
        refine q_al (pc := 24) (i := 0) (x := 183) rfl rfl ?_
        refine q_gf (pc := 25) (m := 12142) (t := 2) (c := 14) rfl (ttKc kT (a := 183) (κ := 12) (len := 0) ⟨rfl, rfl⟩ (by decide) (by decide)).1 rfl rfl ?_
        rw [show K.1 183 14 = 189 from ttFx kT (by decide) (by decide) rfl rfl rfl]
        refine q_ic (pc := 26) (v := 12) rfl ?_
        refine q_il (pc := 27) (i := 1) (x := p) rfl rfl ?_
        refine q_si (pc := 28) rfl (by decide) (ttKc kT (a := 189) (κ := 20) (len := 196) ⟨rfl, rfl⟩ (by decide) (by decide)).1 (by omega) (by rw [(ttKc kT (a := 189) (κ := 20) (len := 196) ⟨rfl, rfl⟩ (by decide) (by decide)).2]; omega) ?_
        have ujzc45 := ttPuT kT kF (a := 189) (j := 12) (x := p) (by decide) (fun _ _ => show ((-1) : Int) ≤ p ∧ p ≤ 7 from ⟨by omega, by omega⟩) ⟨(189, 1, 195), by simp [yyEF], ⟨⟨by decide, rfl⟩, by show (1 : Int) ≤ 12; omega, by show 12 ≤ (195 : Int); omega⟩⟩
        obtain ⟨ujZ45, ujzk45⟩ : ∃ X : xH, X = (xUp K.1 189 12 p, K.2) := ⟨_, rfl⟩
        rw [← ujzk45] at ujzc45 ⊢
        have ujzo45 : (∀ j : Int, (j ≠ 12 ∧ j ≠ 13 ∧ j ≠ 14) → ujZ45.1 189 j = H.1 189 j) := fun j hj => by rw [ujzk45]; exact (show xUp K.1 189 12 p 189 j = _ from up_ne (by omega)).trans (kO j hj)
        have ujzh45 := fun z => kg ((show ujZ45.1 183 12 = K.1 183 12 from by rw [ujzk45]; exact up_12 K.1 12 p).symm.trans z)
        have ujzw45 : ujZ45.1 189 12 = p := by rw [ujzk45]; exact up_eq (D := K.1) (a := 189) (j := 12) (x := p)
        refine q_al (pc := 29) (i := 0) (x := 183) rfl rfl ?_
        refine q_gf (pc := 30) (m := 12142) (t := 2) (c := 14) rfl (ttKc ujzc45.1 (a := 183) (κ := 12) (len := 0) ⟨rfl, rfl⟩ (by decide) (by decide)).1 rfl rfl ?_
        rw [show ujZ45.1 183 14 = 189 from ttFx ujzc45.1 (by decide) (by decide) rfl rfl rfl]
        refine q_ic (pc := 31) (v := 13) rfl ?_
        refine q_il (pc := 32) (i := 2) (x := h) rfl rfl ?_
        refine q_si (pc := 33) rfl (by decide) (ttKc ujzc45.1 (a := 189) (κ := 20) (len := 196) ⟨rfl, rfl⟩ (by decide) (by decide)).1 (by omega) (by rw [(ttKc ujzc45.1 (a := 189) (κ := 20) (len := 196) ⟨rfl, rfl⟩ (by decide) (by decide)).2]; omega) ?_
        have ujzc46 := ttPuT ujzc45.1 ujzc45.2 (a := 189) (j := 13) (x := h) (by decide) (fun _ _ => show (0 : Int) ≤ h ∧ h ≤ 60 from ⟨by omega, by omega⟩) ⟨(189, 1, 195), by simp [yyEF], ⟨⟨by decide, rfl⟩, by show (1 : Int) ≤ 13; omega, by show 13 ≤ (195 : Int); omega⟩⟩
        obtain ⟨ujZ46, ujzk46⟩ : ∃ X : xH, X = (xUp ujZ45.1 189 13 h, ujZ45.2) := ⟨_, rfl⟩
        rw [← ujzk46] at ujzc46 ⊢
        have ujzo46 : (∀ j : Int, (j ≠ 12 ∧ j ≠ 13 ∧ j ≠ 14) → ujZ46.1 189 j = H.1 189 j) := fun j hj => by rw [ujzk46]; exact (show xUp ujZ45.1 189 13 h 189 j = _ from up_ne (by omega)).trans (ujzo45 j hj)
        have ujzh46 := fun z => ujzh45 ((show ujZ46.1 183 12 = ujZ45.1 183 12 from by rw [ujzk46]; exact up_12 ujZ45.1 13 h).symm.trans z)
        refine q_rv (pc := 34) rfl ?_
        refine hQ ujZ46 ujzc46.1 ujzc46.2 (fun zz y => ?_)
        obtain ⟨y1, y2, y3, y4⟩ := y
        have e := ujzo46
        have e12 : ujZ46.1 189 12 = p := by rw [ujzk46]; exact (up_j (D := ujZ45.1) (a := 189) (j := 13) (x := h) (k := 12) (by decide)).trans ujzw45
        have gp := ujzh46 zz
        refine ⟨fun l l0 l1 l2 => ?_, by rw [e 15 (by decide)]; exact y2, by rw [e12, e 1 (by decide)]; exact fun _ => ⟨p0, p1, gp⟩, by rw [e 7 (by decide)]; exact y4⟩
        rw [e 2 (by decide)] at l2
        rw [e (84 + 6 * l) (by omega), e (85 + 6 * l) (by omega), e 1 (by decide)]
        exact y1 l l0 l1 l2
      · replace h22 : (1 : Int) = 0 := h22
        omega
    · skip
      refine q_if (pc := 22) rfl (fun h22 => ?_) (fun h22 => ?_)
      · replace h22 : (0 : Int) ≠ 0 := h22
        omega
      · replace h22 : (0 : Int) = 0 := h22
        refine q_rv (pc := 23) rfl ?_
        exact hQ K kT kF (fun z => absurd z jg21)
  refine xC_of (L := [(2, 183), (9, 0), (9, 0)]) (cd := cd_228) rfl rfl rfl ?_
  refine q_al (pc := 0) (i := 0) (x := 183) rfl rfl ?_
  refine q_iv (pc := 1) (q := 1776964) rfl rfl rfl (ttKc hT (a := 183) (κ := 12) (len := 0) ⟨rfl, rfl⟩ (by decide) (by decide)).1 ?_
  refine lf_place (by omega) hT (xx_fr (ttFr_rf yyEF H) rfl (by decide) (by decide) hX) (fun ujr47 ujK47 ujzT47 ujzF47 ujzg47 ujzr47 ujzs47 => ?_)
  have ujzo47 : (∀ j : Int, (j ≠ 12 ∧ j ≠ 13 ∧ j ≠ 14) → ujK47.1 189 j = H.1 189 j) := fun j hj => (fr_no ujzF47 189 (by have := hT.1; omega) rfl rfl).trans ((fun _ _ => rfl) j hj)
  rw [show H.1 189 1 = H.1 189 1 from rfl] at ujzg47
  have ujzh47 : ujK47.1 183 12 = 0 → ujr47 < H.1 189 1 := fun z => (ujzg47 z).2
  replace ujzF47 := ttFr_tr (ttFr_rf yyEF H) ujzF47 (fun _ => rfl) (by decide)
  refine q_is (pc := 2) (i := 1) (L' := [(2, 183), (0, ujr47), (9, 0)]) rfl rfl rfl ?_
  refine q_al (pc := 3) (i := 0) (x := 183) rfl rfl ?_
  refine q_sc (pc := 4) (j := 25) rfl ?_
  refine q_ic (pc := 5) (v := 0) rfl ?_
  refine q_ic (pc := 6) (v := 60) rfl ?_
  refine q_iv (pc := 7) (q := 1760976) rfl rfl rfl ⟨by omega, (ttKc ujzT47 (a := 183) (κ := 12) (len := 0) ⟨rfl, rfl⟩ (by decide) (by decide)).1⟩ ?_
  refine lf_told (by decide) (by decide) (by omega) ujzT47 (xx_fr ujzF47 rfl (by decide) (by decide) hX) (fun ujr48 ujK48 ujzT48 ujzF48 ujzg48 ujzr48 => ?_)
  have ujzo48 : (∀ j : Int, (j ≠ 12 ∧ j ≠ 13 ∧ j ≠ 14) → ujK48.1 189 j = H.1 189 j) := fun j hj => (fr_no ujzF48 189 (by have := ujzT47.1; omega) rfl rfl).trans (ujzo47 j hj)
  have ujzh48 := fun z => ujzh47 (ujzg48 z).1
  replace ujzF48 := ttFr_tr ujzF47 ujzF48 (fun _ => rfl) (by decide)
  refine q_is (pc := 8) (i := 2) (L' := [(2, 183), (0, ujr47), (0, ujr48)]) rfl rfl rfl ?_
  refine q_al (pc := 9) (i := 0) (x := 183) rfl rfl ?_
  refine q_gf (pc := 10) (m := 12142) (t := 2) (c := 14) rfl (ttKc ujzT48 (a := 183) (κ := 12) (len := 0) ⟨rfl, rfl⟩ (by decide) (by decide)).1 rfl rfl ?_
  rw [show ujK48.1 183 14 = 189 from ttFx ujzT48 (by decide) (by decide) rfl rfl rfl]
  refine q_ic (pc := 11) (v := 14) rfl ?_
  refine q_al (pc := 12) (i := 0) (x := 183) rfl rfl ?_
  refine q_sc (pc := 13) (j := 26) rfl ?_
  refine q_iv (pc := 14) (q := 1736968) rfl rfl rfl ⟨by omega, (ttKc ujzT48 (a := 183) (κ := 12) (len := 0) ⟨rfl, rfl⟩ (by decide) (by decide)).1⟩ ?_
  refine lf_takes (by decide) (by decide) (by omega) ujzT48 (xx_fr ujzF48 rfl (by decide) (by decide) hX) (fun ji49 ujK49 ujzT49 ujzF49 ujzg49 => ?_) (fun ji49 => ?_)
  · have ujzo49 : (∀ j : Int, (j ≠ 12 ∧ j ≠ 13 ∧ j ≠ 14) → ujK49.1 189 j = H.1 189 j) := fun j hj => (fr_no ujzF49 189 (by have := ujzT48.1; omega) rfl rfl).trans (ujzo48 j hj)
    have ujzh49 := fun (_ : ujK49.1 183 12 = 0) => ujzh48 ji49.1
    replace ujzF49 := ttFr_tr ujzF48 ujzF49 (fun _ => rfl) (by decide)
    refine q_if (pc := 15) rfl (fun h15 => ?_) (fun h15 => ?_)
    · replace h15 : (1 : Int) = 0 := h15
      omega
    · replace h15 : (1 : Int) ≠ 0 := h15
      refine q_ic (pc := 16) (v := 1) rfl ?_
      refine q_go (pc := 17) rfl ?_
      refine q_si (pc := 19) rfl (by decide) (ttKc ujzT49 (a := 189) (κ := 20) (len := 196) ⟨rfl, rfl⟩ (by decide) (by decide)).1 (by omega) (by rw [(ttKc ujzT49 (a := 189) (κ := 20) (len := 196) ⟨rfl, rfl⟩ (by decide) (by decide)).2]; omega) ?_
      have ujzc50 := ttPuT ujzT49 ujzF49 (a := 189) (j := 14) (x := 1) (by decide) (fun _ _ => show (0 : Int) ≤ 1 ∧ 1 ≤ 1 from ⟨by omega, by omega⟩) ⟨(189, 1, 195), by simp [yyEF], ⟨⟨by decide, rfl⟩, by show (1 : Int) ≤ 14; omega, by show 14 ≤ (195 : Int); omega⟩⟩
      obtain ⟨ujZ50, ujzk50⟩ : ∃ X : xH, X = (xUp ujK49.1 189 14 1, ujK49.2) := ⟨_, rfl⟩
      rw [← ujzk50] at ujzc50 ⊢
      have ujzo50 : (∀ j : Int, (j ≠ 12 ∧ j ≠ 13 ∧ j ≠ 14) → ujZ50.1 189 j = H.1 189 j) := fun j hj => by rw [ujzk50]; exact (show xUp ujK49.1 189 14 1 189 j = _ from up_ne (by omega)).trans (ujzo49 j hj)
      have ujzh50 := fun z => ujzh49 ((show ujZ50.1 183 12 = ujK49.1 183 12 from by rw [ujzk50]; exact up_12 ujK49.1 14 1).symm.trans z)
      exact h19 _ _ ujZ50 ujzc50.1 ujzc50.2 ujzo50 ujzr47 ujzs47 (by omega) (by omega) ujzh50
  · skip
    refine q_if (pc := 15) rfl (fun h15 => ?_) (fun h15 => ?_)
    · replace h15 : (0 : Int) = 0 := h15
      refine q_ic (pc := 18) (v := 0) rfl ?_
      refine q_si (pc := 19) rfl (by decide) (ttKc ujzT48 (a := 189) (κ := 20) (len := 196) ⟨rfl, rfl⟩ (by decide) (by decide)).1 (by omega) (by rw [(ttKc ujzT48 (a := 189) (κ := 20) (len := 196) ⟨rfl, rfl⟩ (by decide) (by decide)).2]; omega) ?_
      have ujzc51 := ttPuT ujzT48 ujzF48 (a := 189) (j := 14) (x := 0) (by decide) (fun _ _ => show (0 : Int) ≤ 0 ∧ 0 ≤ 1 from ⟨by omega, by omega⟩) ⟨(189, 1, 195), by simp [yyEF], ⟨⟨by decide, rfl⟩, by show (1 : Int) ≤ 14; omega, by show 14 ≤ (195 : Int); omega⟩⟩
      obtain ⟨ujZ51, ujzk51⟩ : ∃ X : xH, X = (xUp ujK48.1 189 14 0, ujK48.2) := ⟨_, rfl⟩
      rw [← ujzk51] at ujzc51 ⊢
      have ujzo51 : (∀ j : Int, (j ≠ 12 ∧ j ≠ 13 ∧ j ≠ 14) → ujZ51.1 189 j = H.1 189 j) := fun j hj => by rw [ujzk51]; exact (show xUp ujK48.1 189 14 0 189 j = _ from up_ne (by omega)).trans (ujzo48 j hj)
      have ujzh51 := fun z => ujzh48 ((show ujZ51.1 183 12 = ujK48.1 183 12 from by rw [ujzk51]; exact up_12 ujK48.1 14 0).symm.trans z)
      exact h19 _ _ ujZ51 ujzc51.1 ujzc51.2 ujzo51 ujzr47 ujzs47 (by omega) (by omega) ujzh51
    · replace h15 : (0 : Int) ≠ 0 := h15
      omega
theorem od_or : ∀ R : Nat, R < 64 → ∀ p : Nat, p < 6 → 0 ≤ xOr (R : Int) (xShl 1 (p : Int)) ∧ xOr (R : Int) (xShl 1 (p : Int)) ≤ 63 := by decide +kernel
theorem od_or2 {R p : Int} (ujr0 : 0 ≤ R) (ujr1 : R ≤ 63) (p0 : 0 ≤ p) (p1 : p ≤ 5) : 0 ≤ xOr R (xShl 1 p) ∧ xOr R (xShl 1 p) ≤ 63 := by
  have k := od_or R.toNat (by omega) p.toNat (by omega)
  rw [Int.toNat_of_nonneg ujr0, Int.toNat_of_nonneg p0] at k
  exact k
theorem lf_readOnce {dd : Nat} {k : Int} (hd : 11 ≤ dd) {H : xH} (hT : ttTI H) (hX : ttXX YY H) (k0 : 0 ≤ k) (k5 : k ≤ 5) {Q : Int → xH → Prop} (hQ : ∀ K, ttTI K → ttFr yyEF H K → (K.1 183 12 = 0 → yyI H.1 → yyI K.1) → Q 0 K) : xCall dd 231 [(2, 183), (0, k)] H Q := by
  obtain ⟨e, rfl, he⟩ := ttRun0 (n := 10) hd
  have he : 10 ≤ e := he
  have hn : 210 ≤ (H.2.2.2.1 : Int) := by have := hT.1; omega
  obtain rfl | rfl | rfl | rfl | rfl | rfl : k = 0 ∨ k = 1 ∨ k = 2 ∨ k = 3 ∨ k = 4 ∨ k = 5 := by omega
  · refine xC_of (L := [(2, 183), (0, 0)]) (cd := cd_231) rfl rfl rfl ?_
    refine q_al (pc := 0) (i := 0) (x := 183) rfl rfl ?_
    refine q_iv (pc := 1) (q := 1704967) rfl rfl rfl (ttKc hT (a := 183) (κ := 12) (len := 0) ⟨rfl, rfl⟩ (by decide) (by decide)).1 ?_
    refine lf_advance (by omega) hT (fun ujK52 ujzT52 ujzF52 => ?_)
    have ujzo52 : (∀ j : Int, (j < 5 ∨ j = 7 ∨ 11 < j ∧ j ≠ 16) → ujK52.1 189 j = H.1 189 j) := fun j hj => (fr_no ujzF52 189 (by have := hT.1; omega) rfl rfl).trans ((fun _ _ => rfl) j hj)
    replace ujzF52 := ttFr_tr (ttFr_rf yyEF H) ujzF52 (fun _ => rfl) (by decide)
    refine q_al (pc := 2) (i := 0) (x := 183) rfl rfl ?_
    refine q_gf (pc := 3) (m := 12142) (t := 2) (c := 14) rfl (ttKc ujzT52 (a := 183) (κ := 12) (len := 0) ⟨rfl, rfl⟩ (by decide) (by decide)).1 rfl rfl ?_
    rw [show ujK52.1 183 14 = 189 from ttFx ujzT52 (by decide) (by decide) rfl rfl rfl]
    refine q_ic (pc := 4) (v := 16) rfl ?_
    refine q_dd (pc := 5) rfl ?_
    refine q_ai (pc := 6) rfl (ttKc ujzT52 (a := 189) (κ := 20) (len := 196) ⟨rfl, rfl⟩ (by decide) (by decide)).1 (by omega) (by rw [(ttKc ujzT52 (a := 189) (κ := 20) (len := 196) ⟨rfl, rfl⟩ (by decide) (by decide)).2]; omega) ?_
    have zx : 0 ≤ ujK52.1 189 16 ∧ ujK52.1 189 16 ≤ 63 := ttMc ujzT52 (a := 189) (j := 16) (by decide) (by decide) (by decide) (by decide)
    have zy := od_or2 (p := 0) zx.1 zx.2 (by decide) (by decide)
    refine q_ic (pc := 7) (v := 1) rfl ?_
    refine q_il (pc := 8) (i := 1) (x := 0) rfl rfl ?_
    refine q_sl (pc := 9) rfl ?_
    refine q_or (pc := 10) rfl ?_
    refine q_si (pc := 11) rfl (by decide) (ttKc ujzT52 (a := 189) (κ := 20) (len := 196) ⟨rfl, rfl⟩ (by decide) (by decide)).1 (by omega) (by rw [(ttKc ujzT52 (a := 189) (κ := 20) (len := 196) ⟨rfl, rfl⟩ (by decide) (by decide)).2]; omega) ?_
    have ujzc53 := ttPuT ujzT52 ujzF52 (a := 189) (j := 16) (x := (xOr (ujK52.1 189 16) (xShl 1 0))) (by decide) (fun _ _ => show (0 : Int) ≤ (xOr (ujK52.1 189 16) (xShl 1 0)) ∧ (xOr (ujK52.1 189 16) (xShl 1 0)) ≤ 63 from ⟨by omega, by omega⟩) ⟨(189, 1, 195), by simp [yyEF], ⟨⟨by decide, rfl⟩, by show (1 : Int) ≤ 16; omega, by show 16 ≤ (195 : Int); omega⟩⟩
    obtain ⟨ujZ53, ujzk53⟩ : ∃ X : xH, X = (xUp ujK52.1 189 16 (xOr (ujK52.1 189 16) (xShl 1 0)), ujK52.2) := ⟨_, rfl⟩
    rw [← ujzk53] at ujzc53 ⊢
    have ujzo53 : (∀ j : Int, (j < 5 ∨ j = 7 ∨ 11 < j ∧ j ≠ 16) → ujZ53.1 189 j = H.1 189 j) := fun j hj => by rw [ujzk53]; exact (show xUp ujK52.1 189 16 (xOr (ujK52.1 189 16) (xShl 1 0)) 189 j = _ from up_ne (by omega)).trans (ujzo52 j hj)
    refine q_il (pc := 12) (i := 1) (x := 0) rfl rfl ?_
    refine q_if (pc := 13) rfl (fun h13 => ?_) (fun h13 => ?_)
    · replace h13 : (0 : Int) ≠ 0 := h13
      omega
    · replace h13 : (0 : Int) = 0 := h13
      refine q_al (pc := 14) (i := 0) (x := 183) rfl rfl ?_
      refine q_gf (pc := 15) (m := 12142) (t := 2) (c := 14) rfl (ttKc ujzc53.1 (a := 183) (κ := 12) (len := 0) ⟨rfl, rfl⟩ (by decide) (by decide)).1 rfl rfl ?_
      rw [show ujZ53.1 183 14 = 189 from ttFx ujzc53.1 (by decide) (by decide) rfl rfl rfl]
      refine q_ic (pc := 16) (v := 5) rfl ?_
      refine q_al (pc := 17) (i := 0) (x := 183) rfl rfl ?_
      refine q_ic (pc := 18) (v := 0) rfl ?_
      refine q_ic (pc := 19) (v := 999) rfl ?_
      refine q_iv (pc := 20) (q := 1752972) rfl rfl rfl (ttKc ujzc53.1 (a := 183) (κ := 12) (len := 0) ⟨rfl, rfl⟩ (by decide) (by decide)).1 ?_
      refine lf_number (by omega) ujzc53.1 (xx_fr ujzc53.2 rfl (by decide) (by decide) hX) (fun ujr54 ujK54 ujzT54 ujzF54 ujzg54 ujzr54 => ?_)
      have ujzo54 : (∀ j : Int, (j < 5 ∨ j = 7 ∨ 11 < j ∧ j ≠ 16) → ujK54.1 189 j = H.1 189 j) := fun j hj => (fr_no ujzF54 189 (by have := ujzc53.1.1; omega) rfl rfl).trans (ujzo53 j hj)
      replace ujzF54 := ttFr_tr ujzc53.2 ujzF54 (fun _ => rfl) (by decide)
      refine q_si (pc := 21) rfl (by decide) (ttKc ujzT54 (a := 189) (κ := 20) (len := 196) ⟨rfl, rfl⟩ (by decide) (by decide)).1 (by omega) (by rw [(ttKc ujzT54 (a := 189) (κ := 20) (len := 196) ⟨rfl, rfl⟩ (by decide) (by decide)).2]; omega) ?_
      have ujzc55 := ttPuT ujzT54 ujzF54 (a := 189) (j := 5) (x := ujr54) (by decide) (fun _ _ => show (0 : Int) ≤ ujr54 ∧ ujr54 ≤ 999 from ⟨by omega, by omega⟩) ⟨(189, 1, 195), by simp [yyEF], ⟨⟨by decide, rfl⟩, by show (1 : Int) ≤ 5; omega, by show 5 ≤ (195 : Int); omega⟩⟩
      obtain ⟨ujZ55, ujzk55⟩ : ∃ X : xH, X = (xUp ujK54.1 189 5 ujr54, ujK54.2) := ⟨_, rfl⟩
      rw [← ujzk55] at ujzc55 ⊢
      have ujzo55 : (∀ j : Int, (j < 5 ∨ j = 7 ∨ 11 < j ∧ j ≠ 16) → ujZ55.1 189 j = H.1 189 j) := fun j hj => by rw [ujzk55]; exact (show xUp ujK54.1 189 5 ujr54 189 j = _ from up_ne (by omega)).trans (ujzo54 j hj)
      refine q_il (pc := 22) (i := 1) (x := 0) rfl rfl ?_
      refine q_ic (pc := 23) (v := 1) rfl ?_
      refine q_i2 (pc := 24) rfl (fun h24 => ?_) (fun h24 => ?_)
      · replace h24 : (0 : Int) ≠ 1 := h24
        refine q_il (pc := 33) (i := 1) (x := 0) rfl rfl ?_
        refine q_ic (pc := 34) (v := 2) rfl ?_
        refine q_i2 (pc := 35) rfl (fun h35 => ?_) (fun h35 => ?_)
        · replace h35 : (0 : Int) ≠ 2 := h35
          refine q_il (pc := 44) (i := 1) (x := 0) rfl rfl ?_
          refine q_ic (pc := 45) (v := 3) rfl ?_
          refine q_i2 (pc := 46) rfl (fun h46 => ?_) (fun h46 => ?_)
          · replace h46 : (0 : Int) ≠ 3 := h46
            refine q_il (pc := 55) (i := 1) (x := 0) rfl rfl ?_
            refine q_ic (pc := 56) (v := 4) rfl ?_
            refine q_i2 (pc := 57) rfl (fun h57 => ?_) (fun h57 => ?_)
            · replace h57 : (0 : Int) ≠ 4 := h57
              refine q_il (pc := 85) (i := 1) (x := 0) rfl rfl ?_
              refine q_ic (pc := 86) (v := 5) rfl ?_
              refine q_i2 (pc := 87) rfl (fun h87 => ?_) (fun h87 => ?_)
              · replace h87 : (0 : Int) ≠ 5 := h87
                refine q_rv (pc := 90) rfl ?_
                exact hQ ujZ55 ujzc55.1 ujzc55.2 (fun _ y => yyI_eqO ujzo55 y)
              · replace h87 : (0 : Int) = 5 := h87
                omega
            · replace h57 : (0 : Int) = 4 := h57
              omega
          · replace h46 : (0 : Int) = 3 := h46
            omega
        · replace h35 : (0 : Int) = 2 := h35
          omega
      · replace h24 : (0 : Int) = 1 := h24
        omega
  · refine xC_of (L := [(2, 183), (0, 1)]) (cd := cd_231) rfl rfl rfl ?_
    refine q_al (pc := 0) (i := 0) (x := 183) rfl rfl ?_
    refine q_iv (pc := 1) (q := 1704967) rfl rfl rfl (ttKc hT (a := 183) (κ := 12) (len := 0) ⟨rfl, rfl⟩ (by decide) (by decide)).1 ?_
    refine lf_advance (by omega) hT (fun ujK56 ujzT56 ujzF56 => ?_)
    have ujzo56 : (∀ j : Int, (j < 5 ∨ j = 7 ∨ 11 < j ∧ j ≠ 16) → ujK56.1 189 j = H.1 189 j) := fun j hj => (fr_no ujzF56 189 (by have := hT.1; omega) rfl rfl).trans ((fun _ _ => rfl) j hj)
    replace ujzF56 := ttFr_tr (ttFr_rf yyEF H) ujzF56 (fun _ => rfl) (by decide)
    refine q_al (pc := 2) (i := 0) (x := 183) rfl rfl ?_
    refine q_gf (pc := 3) (m := 12142) (t := 2) (c := 14) rfl (ttKc ujzT56 (a := 183) (κ := 12) (len := 0) ⟨rfl, rfl⟩ (by decide) (by decide)).1 rfl rfl ?_
    rw [show ujK56.1 183 14 = 189 from ttFx ujzT56 (by decide) (by decide) rfl rfl rfl]
    refine q_ic (pc := 4) (v := 16) rfl ?_
    refine q_dd (pc := 5) rfl ?_
    refine q_ai (pc := 6) rfl (ttKc ujzT56 (a := 189) (κ := 20) (len := 196) ⟨rfl, rfl⟩ (by decide) (by decide)).1 (by omega) (by rw [(ttKc ujzT56 (a := 189) (κ := 20) (len := 196) ⟨rfl, rfl⟩ (by decide) (by decide)).2]; omega) ?_
    have zx : 0 ≤ ujK56.1 189 16 ∧ ujK56.1 189 16 ≤ 63 := ttMc ujzT56 (a := 189) (j := 16) (by decide) (by decide) (by decide) (by decide)
    have zy := od_or2 (p := 1) zx.1 zx.2 (by decide) (by decide)
    refine q_ic (pc := 7) (v := 1) rfl ?_
    refine q_il (pc := 8) (i := 1) (x := 1) rfl rfl ?_
    refine q_sl (pc := 9) rfl ?_
    refine q_or (pc := 10) rfl ?_
    refine q_si (pc := 11) rfl (by decide) (ttKc ujzT56 (a := 189) (κ := 20) (len := 196) ⟨rfl, rfl⟩ (by decide) (by decide)).1 (by omega) (by rw [(ttKc ujzT56 (a := 189) (κ := 20) (len := 196) ⟨rfl, rfl⟩ (by decide) (by decide)).2]; omega) ?_
    have ujzc57 := ttPuT ujzT56 ujzF56 (a := 189) (j := 16) (x := (xOr (ujK56.1 189 16) (xShl 1 1))) (by decide) (fun _ _ => show (0 : Int) ≤ (xOr (ujK56.1 189 16) (xShl 1 1)) ∧ (xOr (ujK56.1 189 16) (xShl 1 1)) ≤ 63 from ⟨by omega, by omega⟩) ⟨(189, 1, 195), by simp [yyEF], ⟨⟨by decide, rfl⟩, by show (1 : Int) ≤ 16; omega, by show 16 ≤ (195 : Int); omega⟩⟩
    obtain ⟨ujZ57, ujzk57⟩ : ∃ X : xH, X = (xUp ujK56.1 189 16 (xOr (ujK56.1 189 16) (xShl 1 1)), ujK56.2) := ⟨_, rfl⟩
    rw [← ujzk57] at ujzc57 ⊢
    have ujzo57 : (∀ j : Int, (j < 5 ∨ j = 7 ∨ 11 < j ∧ j ≠ 16) → ujZ57.1 189 j = H.1 189 j) := fun j hj => by rw [ujzk57]; exact (show xUp ujK56.1 189 16 (xOr (ujK56.1 189 16) (xShl 1 1)) 189 j = _ from up_ne (by omega)).trans (ujzo56 j hj)
    refine q_il (pc := 12) (i := 1) (x := 1) rfl rfl ?_
    refine q_if (pc := 13) rfl (fun h13 => ?_) (fun h13 => ?_)
    · replace h13 : (1 : Int) ≠ 0 := h13
      refine q_il (pc := 22) (i := 1) (x := 1) rfl rfl ?_
      refine q_ic (pc := 23) (v := 1) rfl ?_
      refine q_i2 (pc := 24) rfl (fun h24 => ?_) (fun h24 => ?_)
      · replace h24 : (1 : Int) ≠ 1 := h24
        omega
      · replace h24 : (1 : Int) = 1 := h24
        refine q_al (pc := 25) (i := 0) (x := 183) rfl rfl ?_
        refine q_gf (pc := 26) (m := 12142) (t := 2) (c := 14) rfl (ttKc ujzc57.1 (a := 183) (κ := 12) (len := 0) ⟨rfl, rfl⟩ (by decide) (by decide)).1 rfl rfl ?_
        rw [show ujZ57.1 183 14 = 189 from ttFx ujzc57.1 (by decide) (by decide) rfl rfl rfl]
        refine q_ic (pc := 27) (v := 6) rfl ?_
        refine q_al (pc := 28) (i := 0) (x := 183) rfl rfl ?_
        refine q_ic (pc := 29) (v := 0) rfl ?_
        refine q_ic (pc := 30) (v := 50) rfl ?_
        refine q_iv (pc := 31) (q := 1752972) rfl rfl rfl (ttKc ujzc57.1 (a := 183) (κ := 12) (len := 0) ⟨rfl, rfl⟩ (by decide) (by decide)).1 ?_
        refine lf_number (by omega) ujzc57.1 (xx_fr ujzc57.2 rfl (by decide) (by decide) hX) (fun ujr58 ujK58 ujzT58 ujzF58 ujzg58 ujzr58 => ?_)
        have ujzo58 : (∀ j : Int, (j < 5 ∨ j = 7 ∨ 11 < j ∧ j ≠ 16) → ujK58.1 189 j = H.1 189 j) := fun j hj => (fr_no ujzF58 189 (by have := ujzc57.1.1; omega) rfl rfl).trans (ujzo57 j hj)
        replace ujzF58 := ttFr_tr ujzc57.2 ujzF58 (fun _ => rfl) (by decide)
        refine q_si (pc := 32) rfl (by decide) (ttKc ujzT58 (a := 189) (κ := 20) (len := 196) ⟨rfl, rfl⟩ (by decide) (by decide)).1 (by omega) (by rw [(ttKc ujzT58 (a := 189) (κ := 20) (len := 196) ⟨rfl, rfl⟩ (by decide) (by decide)).2]; omega) ?_
        have ujzc59 := ttPuT ujzT58 ujzF58 (a := 189) (j := 6) (x := ujr58) (by decide) (fun _ _ => show (0 : Int) ≤ ujr58 ∧ ujr58 ≤ 50 from ⟨by omega, by omega⟩) ⟨(189, 1, 195), by simp [yyEF], ⟨⟨by decide, rfl⟩, by show (1 : Int) ≤ 6; omega, by show 6 ≤ (195 : Int); omega⟩⟩
        obtain ⟨ujZ59, ujzk59⟩ : ∃ X : xH, X = (xUp ujK58.1 189 6 ujr58, ujK58.2) := ⟨_, rfl⟩
        rw [← ujzk59] at ujzc59 ⊢
        have ujzo59 : (∀ j : Int, (j < 5 ∨ j = 7 ∨ 11 < j ∧ j ≠ 16) → ujZ59.1 189 j = H.1 189 j) := fun j hj => by rw [ujzk59]; exact (show xUp ujK58.1 189 6 ujr58 189 j = _ from up_ne (by omega)).trans (ujzo58 j hj)
        refine q_il (pc := 33) (i := 1) (x := 1) rfl rfl ?_
        refine q_ic (pc := 34) (v := 2) rfl ?_
        refine q_i2 (pc := 35) rfl (fun h35 => ?_) (fun h35 => ?_)
        · replace h35 : (1 : Int) ≠ 2 := h35
          refine q_il (pc := 44) (i := 1) (x := 1) rfl rfl ?_
          refine q_ic (pc := 45) (v := 3) rfl ?_
          refine q_i2 (pc := 46) rfl (fun h46 => ?_) (fun h46 => ?_)
          · replace h46 : (1 : Int) ≠ 3 := h46
            refine q_il (pc := 55) (i := 1) (x := 1) rfl rfl ?_
            refine q_ic (pc := 56) (v := 4) rfl ?_
            refine q_i2 (pc := 57) rfl (fun h57 => ?_) (fun h57 => ?_)
            · replace h57 : (1 : Int) ≠ 4 := h57
              refine q_il (pc := 85) (i := 1) (x := 1) rfl rfl ?_
              refine q_ic (pc := 86) (v := 5) rfl ?_
              refine q_i2 (pc := 87) rfl (fun h87 => ?_) (fun h87 => ?_)
              · replace h87 : (1 : Int) ≠ 5 := h87
                refine q_rv (pc := 90) rfl ?_
                exact hQ ujZ59 ujzc59.1 ujzc59.2 (fun _ y => yyI_eqO ujzo59 y)
              · replace h87 : (1 : Int) = 5 := h87
                omega
            · replace h57 : (1 : Int) = 4 := h57
              omega
          · replace h46 : (1 : Int) = 3 := h46
            omega
        · replace h35 : (1 : Int) = 2 := h35
          omega
    · replace h13 : (1 : Int) = 0 := h13
      omega
  · refine xC_of (L := [(2, 183), (0, 2)]) (cd := cd_231) rfl rfl rfl ?_
    refine q_al (pc := 0) (i := 0) (x := 183) rfl rfl ?_
    refine q_iv (pc := 1) (q := 1704967) rfl rfl rfl (ttKc hT (a := 183) (κ := 12) (len := 0) ⟨rfl, rfl⟩ (by decide) (by decide)).1 ?_
    refine lf_advance (by omega) hT (fun ujK60 ujzT60 ujzF60 => ?_)
    have ujzo60 : (∀ j : Int, (j < 5 ∨ 11 < j ∧ j ≠ 16) → ujK60.1 189 j = H.1 189 j) := fun j hj => (fr_no ujzF60 189 (by have := hT.1; omega) rfl rfl).trans ((fun _ _ => rfl) j hj)
    have ujzh60 := fun (z : ujK60.1 183 12 = 0) => (fun z => z) ((fr_12 ujzF60 (by decide) (by have := hT.1; omega)).symm.trans z)
    replace ujzF60 := ttFr_tr (ttFr_rf yyEF H) ujzF60 (fun _ => rfl) (by decide)
    refine q_al (pc := 2) (i := 0) (x := 183) rfl rfl ?_
    refine q_gf (pc := 3) (m := 12142) (t := 2) (c := 14) rfl (ttKc ujzT60 (a := 183) (κ := 12) (len := 0) ⟨rfl, rfl⟩ (by decide) (by decide)).1 rfl rfl ?_
    rw [show ujK60.1 183 14 = 189 from ttFx ujzT60 (by decide) (by decide) rfl rfl rfl]
    refine q_ic (pc := 4) (v := 16) rfl ?_
    refine q_dd (pc := 5) rfl ?_
    refine q_ai (pc := 6) rfl (ttKc ujzT60 (a := 189) (κ := 20) (len := 196) ⟨rfl, rfl⟩ (by decide) (by decide)).1 (by omega) (by rw [(ttKc ujzT60 (a := 189) (κ := 20) (len := 196) ⟨rfl, rfl⟩ (by decide) (by decide)).2]; omega) ?_
    have zx : 0 ≤ ujK60.1 189 16 ∧ ujK60.1 189 16 ≤ 63 := ttMc ujzT60 (a := 189) (j := 16) (by decide) (by decide) (by decide) (by decide)
    have zy := od_or2 (p := 2) zx.1 zx.2 (by decide) (by decide)
    refine q_ic (pc := 7) (v := 1) rfl ?_
    refine q_il (pc := 8) (i := 1) (x := 2) rfl rfl ?_
    refine q_sl (pc := 9) rfl ?_
    refine q_or (pc := 10) rfl ?_
    refine q_si (pc := 11) rfl (by decide) (ttKc ujzT60 (a := 189) (κ := 20) (len := 196) ⟨rfl, rfl⟩ (by decide) (by decide)).1 (by omega) (by rw [(ttKc ujzT60 (a := 189) (κ := 20) (len := 196) ⟨rfl, rfl⟩ (by decide) (by decide)).2]; omega) ?_
    have ujzc61 := ttPuT ujzT60 ujzF60 (a := 189) (j := 16) (x := (xOr (ujK60.1 189 16) (xShl 1 2))) (by decide) (fun _ _ => show (0 : Int) ≤ (xOr (ujK60.1 189 16) (xShl 1 2)) ∧ (xOr (ujK60.1 189 16) (xShl 1 2)) ≤ 63 from ⟨by omega, by omega⟩) ⟨(189, 1, 195), by simp [yyEF], ⟨⟨by decide, rfl⟩, by show (1 : Int) ≤ 16; omega, by show 16 ≤ (195 : Int); omega⟩⟩
    obtain ⟨ujZ61, ujzk61⟩ : ∃ X : xH, X = (xUp ujK60.1 189 16 (xOr (ujK60.1 189 16) (xShl 1 2)), ujK60.2) := ⟨_, rfl⟩
    rw [← ujzk61] at ujzc61 ⊢
    have ujzo61 : (∀ j : Int, (j < 5 ∨ 11 < j ∧ j ≠ 16) → ujZ61.1 189 j = H.1 189 j) := fun j hj => by rw [ujzk61]; exact (show xUp ujK60.1 189 16 (xOr (ujK60.1 189 16) (xShl 1 2)) 189 j = _ from up_ne (by omega)).trans (ujzo60 j hj)
    have ujzh61 := fun z => ujzh60 ((show ujZ61.1 183 12 = ujK60.1 183 12 from by rw [ujzk61]; exact up_12 ujK60.1 16 (xOr (ujK60.1 189 16) (xShl 1 2))).symm.trans z)
    refine q_il (pc := 12) (i := 1) (x := 2) rfl rfl ?_
    refine q_if (pc := 13) rfl (fun h13 => ?_) (fun h13 => ?_)
    · replace h13 : (2 : Int) ≠ 0 := h13
      refine q_il (pc := 22) (i := 1) (x := 2) rfl rfl ?_
      refine q_ic (pc := 23) (v := 1) rfl ?_
      refine q_i2 (pc := 24) rfl (fun h24 => ?_) (fun h24 => ?_)
      · replace h24 : (2 : Int) ≠ 1 := h24
        refine q_il (pc := 33) (i := 1) (x := 2) rfl rfl ?_
        refine q_ic (pc := 34) (v := 2) rfl ?_
        refine q_i2 (pc := 35) rfl (fun h35 => ?_) (fun h35 => ?_)
        · replace h35 : (2 : Int) ≠ 2 := h35
          omega
        · replace h35 : (2 : Int) = 2 := h35
          refine q_al (pc := 36) (i := 0) (x := 183) rfl rfl ?_
          refine q_gf (pc := 37) (m := 12142) (t := 2) (c := 14) rfl (ttKc ujzc61.1 (a := 183) (κ := 12) (len := 0) ⟨rfl, rfl⟩ (by decide) (by decide)).1 rfl rfl ?_
          rw [show ujZ61.1 183 14 = 189 from ttFx ujzc61.1 (by decide) (by decide) rfl rfl rfl]
          refine q_ic (pc := 38) (v := 7) rfl ?_
          refine q_al (pc := 39) (i := 0) (x := 183) rfl rfl ?_
          refine q_ic (pc := 40) (v := 31) rfl ?_
          refine q_ic (pc := 41) (v := 60) rfl ?_
          refine q_iv (pc := 42) (q := 1752972) rfl rfl rfl (ttKc ujzc61.1 (a := 183) (κ := 12) (len := 0) ⟨rfl, rfl⟩ (by decide) (by decide)).1 ?_
          refine lf_number (by omega) ujzc61.1 (xx_fr ujzc61.2 rfl (by decide) (by decide) hX) (fun ujr62 ujK62 ujzT62 ujzF62 ujzg62 ujzr62 => ?_)
          have ujzo62 : (∀ j : Int, (j < 5 ∨ 11 < j ∧ j ≠ 16) → ujK62.1 189 j = H.1 189 j) := fun j hj => (fr_no ujzF62 189 (by have := ujzc61.1.1; omega) rfl rfl).trans (ujzo61 j hj)
          have ujzh62 : ujK62.1 183 12 = 0 → 31 ≤ ujr62 := fun z => (ujzg62 z).2.1
          replace ujzF62 := ttFr_tr ujzc61.2 ujzF62 (fun _ => rfl) (by decide)
          refine q_si (pc := 43) rfl (by decide) (ttKc ujzT62 (a := 189) (κ := 20) (len := 196) ⟨rfl, rfl⟩ (by decide) (by decide)).1 (by omega) (by rw [(ttKc ujzT62 (a := 189) (κ := 20) (len := 196) ⟨rfl, rfl⟩ (by decide) (by decide)).2]; omega) ?_
          have ujzc63 := ttPuT ujzT62 ujzF62 (a := 189) (j := 7) (x := ujr62) (by decide) (fun _ _ => show (0 : Int) ≤ ujr62 ∧ ujr62 ≤ 60 from ⟨by omega, by omega⟩) ⟨(189, 1, 195), by simp [yyEF], ⟨⟨by decide, rfl⟩, by show (1 : Int) ≤ 7; omega, by show 7 ≤ (195 : Int); omega⟩⟩
          obtain ⟨ujZ63, ujzk63⟩ : ∃ X : xH, X = (xUp ujK62.1 189 7 ujr62, ujK62.2) := ⟨_, rfl⟩
          rw [← ujzk63] at ujzc63 ⊢
          have ujzo63 : (∀ j : Int, (j < 5 ∨ 11 < j ∧ j ≠ 16) → ujZ63.1 189 j = H.1 189 j) := fun j hj => by rw [ujzk63]; exact (show xUp ujK62.1 189 7 ujr62 189 j = _ from up_ne (by omega)).trans (ujzo62 j hj)
          have ujzh63 := fun z => ujzh62 ((show ujZ63.1 183 12 = ujK62.1 183 12 from by rw [ujzk63]; exact up_12 ujK62.1 7 ujr62).symm.trans z)
          have ujzw63 : ujZ63.1 189 7 = ujr62 := by rw [ujzk63]; exact up_eq (D := ujK62.1) (a := 189) (j := 7) (x := ujr62)
          refine q_il (pc := 44) (i := 1) (x := 2) rfl rfl ?_
          refine q_ic (pc := 45) (v := 3) rfl ?_
          refine q_i2 (pc := 46) rfl (fun h46 => ?_) (fun h46 => ?_)
          · replace h46 : (2 : Int) ≠ 3 := h46
            refine q_il (pc := 55) (i := 1) (x := 2) rfl rfl ?_
            refine q_ic (pc := 56) (v := 4) rfl ?_
            refine q_i2 (pc := 57) rfl (fun h57 => ?_) (fun h57 => ?_)
            · replace h57 : (2 : Int) ≠ 4 := h57
              refine q_il (pc := 85) (i := 1) (x := 2) rfl rfl ?_
              refine q_ic (pc := 86) (v := 5) rfl ?_
              refine q_i2 (pc := 87) rfl (fun h87 => ?_) (fun h87 => ?_)
              · replace h87 : (2 : Int) ≠ 5 := h87
                refine q_rv (pc := 90) rfl ?_
                refine hQ ujZ63 ujzc63.1 ujzc63.2 (fun zz y => ?_)
                obtain ⟨y1, y2, y3, y4⟩ := y
                have e := ujzo63
                have gp := ujzh63 zz
                refine ⟨fun l l0 l1 l2 => ?_, by rw [e 15 (by decide)]; exact y2, by rw [e 12 (by decide), e 1 (by decide)]; exact y3, by rw [ujzw63]; exact gp⟩
                rw [e 2 (by decide)] at l2
                rw [e (84 + 6 * l) (by omega), e (85 + 6 * l) (by omega), e 1 (by decide)]
                exact y1 l l0 l1 l2
              · replace h87 : (2 : Int) = 5 := h87
                omega
            · replace h57 : (2 : Int) = 4 := h57
              omega
          · replace h46 : (2 : Int) = 3 := h46
            omega
      · replace h24 : (2 : Int) = 1 := h24
        omega
    · replace h13 : (2 : Int) = 0 := h13
      omega
  · refine xC_of (L := [(2, 183), (0, 3)]) (cd := cd_231) rfl rfl rfl ?_
    refine q_al (pc := 0) (i := 0) (x := 183) rfl rfl ?_
    refine q_iv (pc := 1) (q := 1704967) rfl rfl rfl (ttKc hT (a := 183) (κ := 12) (len := 0) ⟨rfl, rfl⟩ (by decide) (by decide)).1 ?_
    refine lf_advance (by omega) hT (fun ujK64 ujzT64 ujzF64 => ?_)
    have ujzo64 : (∀ j : Int, (j < 5 ∨ j = 7 ∨ 11 < j ∧ j ≠ 16) → ujK64.1 189 j = H.1 189 j) := fun j hj => (fr_no ujzF64 189 (by have := hT.1; omega) rfl rfl).trans ((fun _ _ => rfl) j hj)
    replace ujzF64 := ttFr_tr (ttFr_rf yyEF H) ujzF64 (fun _ => rfl) (by decide)
    refine q_al (pc := 2) (i := 0) (x := 183) rfl rfl ?_
    refine q_gf (pc := 3) (m := 12142) (t := 2) (c := 14) rfl (ttKc ujzT64 (a := 183) (κ := 12) (len := 0) ⟨rfl, rfl⟩ (by decide) (by decide)).1 rfl rfl ?_
    rw [show ujK64.1 183 14 = 189 from ttFx ujzT64 (by decide) (by decide) rfl rfl rfl]
    refine q_ic (pc := 4) (v := 16) rfl ?_
    refine q_dd (pc := 5) rfl ?_
    refine q_ai (pc := 6) rfl (ttKc ujzT64 (a := 189) (κ := 20) (len := 196) ⟨rfl, rfl⟩ (by decide) (by decide)).1 (by omega) (by rw [(ttKc ujzT64 (a := 189) (κ := 20) (len := 196) ⟨rfl, rfl⟩ (by decide) (by decide)).2]; omega) ?_
    have zx : 0 ≤ ujK64.1 189 16 ∧ ujK64.1 189 16 ≤ 63 := ttMc ujzT64 (a := 189) (j := 16) (by decide) (by decide) (by decide) (by decide)
    have zy := od_or2 (p := 3) zx.1 zx.2 (by decide) (by decide)
    refine q_ic (pc := 7) (v := 1) rfl ?_
    refine q_il (pc := 8) (i := 1) (x := 3) rfl rfl ?_
    refine q_sl (pc := 9) rfl ?_
    refine q_or (pc := 10) rfl ?_
    refine q_si (pc := 11) rfl (by decide) (ttKc ujzT64 (a := 189) (κ := 20) (len := 196) ⟨rfl, rfl⟩ (by decide) (by decide)).1 (by omega) (by rw [(ttKc ujzT64 (a := 189) (κ := 20) (len := 196) ⟨rfl, rfl⟩ (by decide) (by decide)).2]; omega) ?_
    have ujzc65 := ttPuT ujzT64 ujzF64 (a := 189) (j := 16) (x := (xOr (ujK64.1 189 16) (xShl 1 3))) (by decide) (fun _ _ => show (0 : Int) ≤ (xOr (ujK64.1 189 16) (xShl 1 3)) ∧ (xOr (ujK64.1 189 16) (xShl 1 3)) ≤ 63 from ⟨by omega, by omega⟩) ⟨(189, 1, 195), by simp [yyEF], ⟨⟨by decide, rfl⟩, by show (1 : Int) ≤ 16; omega, by show 16 ≤ (195 : Int); omega⟩⟩
    obtain ⟨ujZ65, ujzk65⟩ : ∃ X : xH, X = (xUp ujK64.1 189 16 (xOr (ujK64.1 189 16) (xShl 1 3)), ujK64.2) := ⟨_, rfl⟩
    rw [← ujzk65] at ujzc65 ⊢
    have ujzo65 : (∀ j : Int, (j < 5 ∨ j = 7 ∨ 11 < j ∧ j ≠ 16) → ujZ65.1 189 j = H.1 189 j) := fun j hj => by rw [ujzk65]; exact (show xUp ujK64.1 189 16 (xOr (ujK64.1 189 16) (xShl 1 3)) 189 j = _ from up_ne (by omega)).trans (ujzo64 j hj)
    refine q_il (pc := 12) (i := 1) (x := 3) rfl rfl ?_
    refine q_if (pc := 13) rfl (fun h13 => ?_) (fun h13 => ?_)
    · replace h13 : (3 : Int) ≠ 0 := h13
      refine q_il (pc := 22) (i := 1) (x := 3) rfl rfl ?_
      refine q_ic (pc := 23) (v := 1) rfl ?_
      refine q_i2 (pc := 24) rfl (fun h24 => ?_) (fun h24 => ?_)
      · replace h24 : (3 : Int) ≠ 1 := h24
        refine q_il (pc := 33) (i := 1) (x := 3) rfl rfl ?_
        refine q_ic (pc := 34) (v := 2) rfl ?_
        refine q_i2 (pc := 35) rfl (fun h35 => ?_) (fun h35 => ?_)
        · replace h35 : (3 : Int) ≠ 2 := h35
          refine q_il (pc := 44) (i := 1) (x := 3) rfl rfl ?_
          refine q_ic (pc := 45) (v := 3) rfl ?_
          refine q_i2 (pc := 46) rfl (fun h46 => ?_) (fun h46 => ?_)
          · replace h46 : (3 : Int) ≠ 3 := h46
            omega
          · replace h46 : (3 : Int) = 3 := h46
            refine q_al (pc := 47) (i := 0) (x := 183) rfl rfl ?_
            refine q_gf (pc := 48) (m := 12142) (t := 2) (c := 14) rfl (ttKc ujzc65.1 (a := 183) (κ := 12) (len := 0) ⟨rfl, rfl⟩ (by decide) (by decide)).1 rfl rfl ?_
            rw [show ujZ65.1 183 14 = 189 from ttFx ujzc65.1 (by decide) (by decide) rfl rfl rfl]
            refine q_ic (pc := 49) (v := 8) rfl ?_
            refine q_al (pc := 50) (i := 0) (x := 183) rfl rfl ?_
            refine q_ic (pc := 51) (v := 1) rfl ?_
            refine q_ic (pc := 52) (v := 47) rfl ?_
            refine q_iv (pc := 53) (q := 1752972) rfl rfl rfl (ttKc ujzc65.1 (a := 183) (κ := 12) (len := 0) ⟨rfl, rfl⟩ (by decide) (by decide)).1 ?_
            refine lf_number (by omega) ujzc65.1 (xx_fr ujzc65.2 rfl (by decide) (by decide) hX) (fun ujr66 ujK66 ujzT66 ujzF66 ujzg66 ujzr66 => ?_)
            have ujzo66 : (∀ j : Int, (j < 5 ∨ j = 7 ∨ 11 < j ∧ j ≠ 16) → ujK66.1 189 j = H.1 189 j) := fun j hj => (fr_no ujzF66 189 (by have := ujzc65.1.1; omega) rfl rfl).trans (ujzo65 j hj)
            replace ujzF66 := ttFr_tr ujzc65.2 ujzF66 (fun _ => rfl) (by decide)
            refine q_si (pc := 54) rfl (by decide) (ttKc ujzT66 (a := 189) (κ := 20) (len := 196) ⟨rfl, rfl⟩ (by decide) (by decide)).1 (by omega) (by rw [(ttKc ujzT66 (a := 189) (κ := 20) (len := 196) ⟨rfl, rfl⟩ (by decide) (by decide)).2]; omega) ?_
            have ujzc67 := ttPuT ujzT66 ujzF66 (a := 189) (j := 8) (x := ujr66) (by decide) (fun _ _ => show (0 : Int) ≤ ujr66 ∧ ujr66 ≤ 47 from ⟨by omega, by omega⟩) ⟨(189, 1, 195), by simp [yyEF], ⟨⟨by decide, rfl⟩, by show (1 : Int) ≤ 8; omega, by show 8 ≤ (195 : Int); omega⟩⟩
            obtain ⟨ujZ67, ujzk67⟩ : ∃ X : xH, X = (xUp ujK66.1 189 8 ujr66, ujK66.2) := ⟨_, rfl⟩
            rw [← ujzk67] at ujzc67 ⊢
            have ujzo67 : (∀ j : Int, (j < 5 ∨ j = 7 ∨ 11 < j ∧ j ≠ 16) → ujZ67.1 189 j = H.1 189 j) := fun j hj => by rw [ujzk67]; exact (show xUp ujK66.1 189 8 ujr66 189 j = _ from up_ne (by omega)).trans (ujzo66 j hj)
            refine q_il (pc := 55) (i := 1) (x := 3) rfl rfl ?_
            refine q_ic (pc := 56) (v := 4) rfl ?_
            refine q_i2 (pc := 57) rfl (fun h57 => ?_) (fun h57 => ?_)
            · replace h57 : (3 : Int) ≠ 4 := h57
              refine q_il (pc := 85) (i := 1) (x := 3) rfl rfl ?_
              refine q_ic (pc := 86) (v := 5) rfl ?_
              refine q_i2 (pc := 87) rfl (fun h87 => ?_) (fun h87 => ?_)
              · replace h87 : (3 : Int) ≠ 5 := h87
                refine q_rv (pc := 90) rfl ?_
                exact hQ ujZ67 ujzc67.1 ujzc67.2 (fun _ y => yyI_eqO ujzo67 y)
              · replace h87 : (3 : Int) = 5 := h87
                omega
            · replace h57 : (3 : Int) = 4 := h57
              omega
        · replace h35 : (3 : Int) = 2 := h35
          omega
      · replace h24 : (3 : Int) = 1 := h24
        omega
    · replace h13 : (3 : Int) = 0 := h13
      omega
  · refine xC_of (L := [(2, 183), (0, 4)]) (cd := cd_231) rfl rfl rfl ?_
    refine q_al (pc := 0) (i := 0) (x := 183) rfl rfl ?_
    refine q_iv (pc := 1) (q := 1704967) rfl rfl rfl (ttKc hT (a := 183) (κ := 12) (len := 0) ⟨rfl, rfl⟩ (by decide) (by decide)).1 ?_
    refine lf_advance (by omega) hT (fun ujK68 ujzT68 ujzF68 => ?_)
    have ujzo68 : (∀ j : Int, (j < 5 ∨ j = 7 ∨ 11 < j ∧ j ≠ 16) → ujK68.1 189 j = H.1 189 j) := fun j hj => (fr_no ujzF68 189 (by have := hT.1; omega) rfl rfl).trans ((fun _ _ => rfl) j hj)
    replace ujzF68 := ttFr_tr (ttFr_rf yyEF H) ujzF68 (fun _ => rfl) (by decide)
    refine q_al (pc := 2) (i := 0) (x := 183) rfl rfl ?_
    refine q_gf (pc := 3) (m := 12142) (t := 2) (c := 14) rfl (ttKc ujzT68 (a := 183) (κ := 12) (len := 0) ⟨rfl, rfl⟩ (by decide) (by decide)).1 rfl rfl ?_
    rw [show ujK68.1 183 14 = 189 from ttFx ujzT68 (by decide) (by decide) rfl rfl rfl]
    refine q_ic (pc := 4) (v := 16) rfl ?_
    refine q_dd (pc := 5) rfl ?_
    refine q_ai (pc := 6) rfl (ttKc ujzT68 (a := 189) (κ := 20) (len := 196) ⟨rfl, rfl⟩ (by decide) (by decide)).1 (by omega) (by rw [(ttKc ujzT68 (a := 189) (κ := 20) (len := 196) ⟨rfl, rfl⟩ (by decide) (by decide)).2]; omega) ?_
    have zx : 0 ≤ ujK68.1 189 16 ∧ ujK68.1 189 16 ≤ 63 := ttMc ujzT68 (a := 189) (j := 16) (by decide) (by decide) (by decide) (by decide)
    have zy := od_or2 (p := 4) zx.1 zx.2 (by decide) (by decide)
    refine q_ic (pc := 7) (v := 1) rfl ?_
    refine q_il (pc := 8) (i := 1) (x := 4) rfl rfl ?_
    refine q_sl (pc := 9) rfl ?_
    refine q_or (pc := 10) rfl ?_
    refine q_si (pc := 11) rfl (by decide) (ttKc ujzT68 (a := 189) (κ := 20) (len := 196) ⟨rfl, rfl⟩ (by decide) (by decide)).1 (by omega) (by rw [(ttKc ujzT68 (a := 189) (κ := 20) (len := 196) ⟨rfl, rfl⟩ (by decide) (by decide)).2]; omega) ?_
    have ujzc69 := ttPuT ujzT68 ujzF68 (a := 189) (j := 16) (x := (xOr (ujK68.1 189 16) (xShl 1 4))) (by decide) (fun _ _ => show (0 : Int) ≤ (xOr (ujK68.1 189 16) (xShl 1 4)) ∧ (xOr (ujK68.1 189 16) (xShl 1 4)) ≤ 63 from ⟨by omega, by omega⟩) ⟨(189, 1, 195), by simp [yyEF], ⟨⟨by decide, rfl⟩, by show (1 : Int) ≤ 16; omega, by show 16 ≤ (195 : Int); omega⟩⟩
    obtain ⟨ujZ69, ujzk69⟩ : ∃ X : xH, X = (xUp ujK68.1 189 16 (xOr (ujK68.1 189 16) (xShl 1 4)), ujK68.2) := ⟨_, rfl⟩
    rw [← ujzk69] at ujzc69 ⊢
    have ujzo69 : (∀ j : Int, (j < 5 ∨ j = 7 ∨ 11 < j ∧ j ≠ 16) → ujZ69.1 189 j = H.1 189 j) := fun j hj => by rw [ujzk69]; exact (show xUp ujK68.1 189 16 (xOr (ujK68.1 189 16) (xShl 1 4)) 189 j = _ from up_ne (by omega)).trans (ujzo68 j hj)
    refine q_il (pc := 12) (i := 1) (x := 4) rfl rfl ?_
    refine q_if (pc := 13) rfl (fun h13 => ?_) (fun h13 => ?_)
    · replace h13 : (4 : Int) ≠ 0 := h13
      refine q_il (pc := 22) (i := 1) (x := 4) rfl rfl ?_
      refine q_ic (pc := 23) (v := 1) rfl ?_
      refine q_i2 (pc := 24) rfl (fun h24 => ?_) (fun h24 => ?_)
      · replace h24 : (4 : Int) ≠ 1 := h24
        refine q_il (pc := 33) (i := 1) (x := 4) rfl rfl ?_
        refine q_ic (pc := 34) (v := 2) rfl ?_
        refine q_i2 (pc := 35) rfl (fun h35 => ?_) (fun h35 => ?_)
        · replace h35 : (4 : Int) ≠ 2 := h35
          refine q_il (pc := 44) (i := 1) (x := 4) rfl rfl ?_
          refine q_ic (pc := 45) (v := 3) rfl ?_
          refine q_i2 (pc := 46) rfl (fun h46 => ?_) (fun h46 => ?_)
          · replace h46 : (4 : Int) ≠ 3 := h46
            refine q_il (pc := 55) (i := 1) (x := 4) rfl rfl ?_
            refine q_ic (pc := 56) (v := 4) rfl ?_
            refine q_i2 (pc := 57) rfl (fun h57 => ?_) (fun h57 => ?_)
            · replace h57 : (4 : Int) ≠ 4 := h57
              omega
            · replace h57 : (4 : Int) = 4 := h57
              refine q_al (pc := 58) (i := 0) (x := 183) rfl rfl ?_
              refine q_gf (pc := 59) (m := 12142) (t := 2) (c := 14) rfl (ttKc ujzc69.1 (a := 183) (κ := 12) (len := 0) ⟨rfl, rfl⟩ (by decide) (by decide)).1 rfl rfl ?_
              rw [show ujZ69.1 183 14 = 189 from ttFx ujzc69.1 (by decide) (by decide) rfl rfl rfl]
              refine q_ic (pc := 60) (v := 9) rfl ?_
              refine q_al (pc := 61) (i := 0) (x := 183) rfl rfl ?_
              refine q_sc (pc := 62) (j := 12) rfl ?_
              refine q_ic (pc := 63) (v := 0) rfl ?_
              refine q_ic (pc := 64) (v := 9999) rfl ?_
              refine q_iv (pc := 65) (q := 1760976) rfl rfl rfl ⟨by omega, (ttKc ujzc69.1 (a := 183) (κ := 12) (len := 0) ⟨rfl, rfl⟩ (by decide) (by decide)).1⟩ ?_
              refine lf_told (by decide) (by decide) (by omega) ujzc69.1 (xx_fr ujzc69.2 rfl (by decide) (by decide) hX) (fun ujr70 ujK70 ujzT70 ujzF70 ujzg70 ujzr70 => ?_)
              have ujzo70 : (∀ j : Int, (j < 5 ∨ j = 7 ∨ 11 < j ∧ j ≠ 16) → ujK70.1 189 j = H.1 189 j) := fun j hj => (fr_no ujzF70 189 (by have := ujzc69.1.1; omega) rfl rfl).trans (ujzo69 j hj)
              replace ujzF70 := ttFr_tr ujzc69.2 ujzF70 (fun _ => rfl) (by decide)
              refine q_si (pc := 66) rfl (by decide) (ttKc ujzT70 (a := 189) (κ := 20) (len := 196) ⟨rfl, rfl⟩ (by decide) (by decide)).1 (by omega) (by rw [(ttKc ujzT70 (a := 189) (κ := 20) (len := 196) ⟨rfl, rfl⟩ (by decide) (by decide)).2]; omega) ?_
              have ujzc71 := ttPuT ujzT70 ujzF70 (a := 189) (j := 9) (x := ujr70) (by decide) (fun _ _ => show (0 : Int) ≤ ujr70 ∧ ujr70 ≤ 9999 from ⟨by omega, by omega⟩) ⟨(189, 1, 195), by simp [yyEF], ⟨⟨by decide, rfl⟩, by show (1 : Int) ≤ 9; omega, by show 9 ≤ (195 : Int); omega⟩⟩
              obtain ⟨ujZ71, ujzk71⟩ : ∃ X : xH, X = (xUp ujK70.1 189 9 ujr70, ujK70.2) := ⟨_, rfl⟩
              rw [← ujzk71] at ujzc71 ⊢
              have ujzo71 : (∀ j : Int, (j < 5 ∨ j = 7 ∨ 11 < j ∧ j ≠ 16) → ujZ71.1 189 j = H.1 189 j) := fun j hj => by rw [ujzk71]; exact (show xUp ujK70.1 189 9 ujr70 189 j = _ from up_ne (by omega)).trans (ujzo70 j hj)
              refine q_al (pc := 67) (i := 0) (x := 183) rfl rfl ?_
              refine q_gf (pc := 68) (m := 12142) (t := 2) (c := 14) rfl (ttKc ujzc71.1 (a := 183) (κ := 12) (len := 0) ⟨rfl, rfl⟩ (by decide) (by decide)).1 rfl rfl ?_
              rw [show ujZ71.1 183 14 = 189 from ttFx ujzc71.1 (by decide) (by decide) rfl rfl rfl]
              refine q_ic (pc := 69) (v := 10) rfl ?_
              refine q_al (pc := 70) (i := 0) (x := 183) rfl rfl ?_
              refine q_sc (pc := 71) (j := 23) rfl ?_
              refine q_ic (pc := 72) (v := 0) rfl ?_
              refine q_ic (pc := 73) (v := 99) rfl ?_
              refine q_iv (pc := 74) (q := 1760976) rfl rfl rfl ⟨by omega, (ttKc ujzc71.1 (a := 183) (κ := 12) (len := 0) ⟨rfl, rfl⟩ (by decide) (by decide)).1⟩ ?_
              refine lf_told (by decide) (by decide) (by omega) ujzc71.1 (xx_fr ujzc71.2 rfl (by decide) (by decide) hX) (fun ujr72 ujK72 ujzT72 ujzF72 ujzg72 ujzr72 => ?_)
              have ujzo72 : (∀ j : Int, (j < 5 ∨ j = 7 ∨ 11 < j ∧ j ≠ 16) → ujK72.1 189 j = H.1 189 j) := fun j hj => (fr_no ujzF72 189 (by have := ujzc71.1.1; omega) rfl rfl).trans (ujzo71 j hj)
              replace ujzF72 := ttFr_tr ujzc71.2 ujzF72 (fun _ => rfl) (by decide)
              refine q_si (pc := 75) rfl (by decide) (ttKc ujzT72 (a := 189) (κ := 20) (len := 196) ⟨rfl, rfl⟩ (by decide) (by decide)).1 (by omega) (by rw [(ttKc ujzT72 (a := 189) (κ := 20) (len := 196) ⟨rfl, rfl⟩ (by decide) (by decide)).2]; omega) ?_
              have ujzc73 := ttPuT ujzT72 ujzF72 (a := 189) (j := 10) (x := ujr72) (by decide) (fun _ _ => show (0 : Int) ≤ ujr72 ∧ ujr72 ≤ 99 from ⟨by omega, by omega⟩) ⟨(189, 1, 195), by simp [yyEF], ⟨⟨by decide, rfl⟩, by show (1 : Int) ≤ 10; omega, by show 10 ≤ (195 : Int); omega⟩⟩
              obtain ⟨ujZ73, ujzk73⟩ : ∃ X : xH, X = (xUp ujK72.1 189 10 ujr72, ujK72.2) := ⟨_, rfl⟩
              rw [← ujzk73] at ujzc73 ⊢
              have ujzo73 : (∀ j : Int, (j < 5 ∨ j = 7 ∨ 11 < j ∧ j ≠ 16) → ujZ73.1 189 j = H.1 189 j) := fun j hj => by rw [ujzk73]; exact (show xUp ujK72.1 189 10 ujr72 189 j = _ from up_ne (by omega)).trans (ujzo72 j hj)
              refine q_al (pc := 76) (i := 0) (x := 183) rfl rfl ?_
              refine q_gf (pc := 77) (m := 12142) (t := 2) (c := 14) rfl (ttKc ujzc73.1 (a := 183) (κ := 12) (len := 0) ⟨rfl, rfl⟩ (by decide) (by decide)).1 rfl rfl ?_
              rw [show ujZ73.1 183 14 = 189 from ttFx ujzc73.1 (by decide) (by decide) rfl rfl rfl]
              refine q_ic (pc := 78) (v := 11) rfl ?_
              refine q_al (pc := 79) (i := 0) (x := 183) rfl rfl ?_
              refine q_sc (pc := 80) (j := 24) rfl ?_
              refine q_ic (pc := 81) (v := 0) rfl ?_
              refine q_ic (pc := 82) (v := 9999) rfl ?_
              refine q_iv (pc := 83) (q := 1760976) rfl rfl rfl ⟨by omega, (ttKc ujzc73.1 (a := 183) (κ := 12) (len := 0) ⟨rfl, rfl⟩ (by decide) (by decide)).1⟩ ?_
              refine lf_told (by decide) (by decide) (by omega) ujzc73.1 (xx_fr ujzc73.2 rfl (by decide) (by decide) hX) (fun ujr74 ujK74 ujzT74 ujzF74 ujzg74 ujzr74 => ?_)
              have ujzo74 : (∀ j : Int, (j < 5 ∨ j = 7 ∨ 11 < j ∧ j ≠ 16) → ujK74.1 189 j = H.1 189 j) := fun j hj => (fr_no ujzF74 189 (by have := ujzc73.1.1; omega) rfl rfl).trans (ujzo73 j hj)
              replace ujzF74 := ttFr_tr ujzc73.2 ujzF74 (fun _ => rfl) (by decide)
              refine q_si (pc := 84) rfl (by decide) (ttKc ujzT74 (a := 189) (κ := 20) (len := 196) ⟨rfl, rfl⟩ (by decide) (by decide)).1 (by omega) (by rw [(ttKc ujzT74 (a := 189) (κ := 20) (len := 196) ⟨rfl, rfl⟩ (by decide) (by decide)).2]; omega) ?_
              have ujzc75 := ttPuT ujzT74 ujzF74 (a := 189) (j := 11) (x := ujr74) (by decide) (fun _ _ => show (0 : Int) ≤ ujr74 ∧ ujr74 ≤ 9999 from ⟨by omega, by omega⟩) ⟨(189, 1, 195), by simp [yyEF], ⟨⟨by decide, rfl⟩, by show (1 : Int) ≤ 11; omega, by show 11 ≤ (195 : Int); omega⟩⟩
              obtain ⟨ujZ75, ujzk75⟩ : ∃ X : xH, X = (xUp ujK74.1 189 11 ujr74, ujK74.2) := ⟨_, rfl⟩
              rw [← ujzk75] at ujzc75 ⊢
              have ujzo75 : (∀ j : Int, (j < 5 ∨ j = 7 ∨ 11 < j ∧ j ≠ 16) → ujZ75.1 189 j = H.1 189 j) := fun j hj => by rw [ujzk75]; exact (show xUp ujK74.1 189 11 ujr74 189 j = _ from up_ne (by omega)).trans (ujzo74 j hj)
              refine q_il (pc := 85) (i := 1) (x := 4) rfl rfl ?_
              refine q_ic (pc := 86) (v := 5) rfl ?_
              refine q_i2 (pc := 87) rfl (fun h87 => ?_) (fun h87 => ?_)
              · replace h87 : (4 : Int) ≠ 5 := h87
                refine q_rv (pc := 90) rfl ?_
                exact hQ ujZ75 ujzc75.1 ujzc75.2 (fun _ y => yyI_eqO ujzo75 y)
              · replace h87 : (4 : Int) = 5 := h87
                omega
          · replace h46 : (4 : Int) = 3 := h46
            omega
        · replace h35 : (4 : Int) = 2 := h35
          omega
      · replace h24 : (4 : Int) = 1 := h24
        omega
    · replace h13 : (4 : Int) = 0 := h13
      omega
  · refine xC_of (L := [(2, 183), (0, 5)]) (cd := cd_231) rfl rfl rfl ?_
    refine q_al (pc := 0) (i := 0) (x := 183) rfl rfl ?_
    refine q_iv (pc := 1) (q := 1704967) rfl rfl rfl (ttKc hT (a := 183) (κ := 12) (len := 0) ⟨rfl, rfl⟩ (by decide) (by decide)).1 ?_
    refine lf_advance (by omega) hT (fun ujK76 ujzT76 ujzF76 => ?_)
    have ujzo76 : (∀ j : Int, (j < 5 ∨ j = 7 ∨ 11 < j ∧ j ≠ 16) → ujK76.1 189 j = H.1 189 j) := fun j hj => (fr_no ujzF76 189 (by have := hT.1; omega) rfl rfl).trans ((fun _ _ => rfl) j hj)
    replace ujzF76 := ttFr_tr (ttFr_rf yyEF H) ujzF76 (fun _ => rfl) (by decide)
    refine q_al (pc := 2) (i := 0) (x := 183) rfl rfl ?_
    refine q_gf (pc := 3) (m := 12142) (t := 2) (c := 14) rfl (ttKc ujzT76 (a := 183) (κ := 12) (len := 0) ⟨rfl, rfl⟩ (by decide) (by decide)).1 rfl rfl ?_
    rw [show ujK76.1 183 14 = 189 from ttFx ujzT76 (by decide) (by decide) rfl rfl rfl]
    refine q_ic (pc := 4) (v := 16) rfl ?_
    refine q_dd (pc := 5) rfl ?_
    refine q_ai (pc := 6) rfl (ttKc ujzT76 (a := 189) (κ := 20) (len := 196) ⟨rfl, rfl⟩ (by decide) (by decide)).1 (by omega) (by rw [(ttKc ujzT76 (a := 189) (κ := 20) (len := 196) ⟨rfl, rfl⟩ (by decide) (by decide)).2]; omega) ?_
    have zx : 0 ≤ ujK76.1 189 16 ∧ ujK76.1 189 16 ≤ 63 := ttMc ujzT76 (a := 189) (j := 16) (by decide) (by decide) (by decide) (by decide)
    have zy := od_or2 (p := 5) zx.1 zx.2 (by decide) (by decide)
    refine q_ic (pc := 7) (v := 1) rfl ?_
    refine q_il (pc := 8) (i := 1) (x := 5) rfl rfl ?_
    refine q_sl (pc := 9) rfl ?_
    refine q_or (pc := 10) rfl ?_
    refine q_si (pc := 11) rfl (by decide) (ttKc ujzT76 (a := 189) (κ := 20) (len := 196) ⟨rfl, rfl⟩ (by decide) (by decide)).1 (by omega) (by rw [(ttKc ujzT76 (a := 189) (κ := 20) (len := 196) ⟨rfl, rfl⟩ (by decide) (by decide)).2]; omega) ?_
    have ujzc77 := ttPuT ujzT76 ujzF76 (a := 189) (j := 16) (x := (xOr (ujK76.1 189 16) (xShl 1 5))) (by decide) (fun _ _ => show (0 : Int) ≤ (xOr (ujK76.1 189 16) (xShl 1 5)) ∧ (xOr (ujK76.1 189 16) (xShl 1 5)) ≤ 63 from ⟨by omega, by omega⟩) ⟨(189, 1, 195), by simp [yyEF], ⟨⟨by decide, rfl⟩, by show (1 : Int) ≤ 16; omega, by show 16 ≤ (195 : Int); omega⟩⟩
    obtain ⟨ujZ77, ujzk77⟩ : ∃ X : xH, X = (xUp ujK76.1 189 16 (xOr (ujK76.1 189 16) (xShl 1 5)), ujK76.2) := ⟨_, rfl⟩
    rw [← ujzk77] at ujzc77 ⊢
    have ujzo77 : (∀ j : Int, (j < 5 ∨ j = 7 ∨ 11 < j ∧ j ≠ 16) → ujZ77.1 189 j = H.1 189 j) := fun j hj => by rw [ujzk77]; exact (show xUp ujK76.1 189 16 (xOr (ujK76.1 189 16) (xShl 1 5)) 189 j = _ from up_ne (by omega)).trans (ujzo76 j hj)
    refine q_il (pc := 12) (i := 1) (x := 5) rfl rfl ?_
    refine q_if (pc := 13) rfl (fun h13 => ?_) (fun h13 => ?_)
    · replace h13 : (5 : Int) ≠ 0 := h13
      refine q_il (pc := 22) (i := 1) (x := 5) rfl rfl ?_
      refine q_ic (pc := 23) (v := 1) rfl ?_
      refine q_i2 (pc := 24) rfl (fun h24 => ?_) (fun h24 => ?_)
      · replace h24 : (5 : Int) ≠ 1 := h24
        refine q_il (pc := 33) (i := 1) (x := 5) rfl rfl ?_
        refine q_ic (pc := 34) (v := 2) rfl ?_
        refine q_i2 (pc := 35) rfl (fun h35 => ?_) (fun h35 => ?_)
        · replace h35 : (5 : Int) ≠ 2 := h35
          refine q_il (pc := 44) (i := 1) (x := 5) rfl rfl ?_
          refine q_ic (pc := 45) (v := 3) rfl ?_
          refine q_i2 (pc := 46) rfl (fun h46 => ?_) (fun h46 => ?_)
          · replace h46 : (5 : Int) ≠ 3 := h46
            refine q_il (pc := 55) (i := 1) (x := 5) rfl rfl ?_
            refine q_ic (pc := 56) (v := 4) rfl ?_
            refine q_i2 (pc := 57) rfl (fun h57 => ?_) (fun h57 => ?_)
            · replace h57 : (5 : Int) ≠ 4 := h57
              refine q_il (pc := 85) (i := 1) (x := 5) rfl rfl ?_
              refine q_ic (pc := 86) (v := 5) rfl ?_
              refine q_i2 (pc := 87) rfl (fun h87 => ?_) (fun h87 => ?_)
              · replace h87 : (5 : Int) ≠ 5 := h87
                omega
              · replace h87 : (5 : Int) = 5 := h87
                refine q_al (pc := 88) (i := 0) (x := 183) rfl rfl ?_
                refine q_iv (pc := 89) (q := 1824967) rfl rfl rfl (ttKc ujzc77.1 (a := 183) (κ := 12) (len := 0) ⟨rfl, rfl⟩ (by decide) (by decide)).1 ?_
                refine lf_readStart (by omega) ujzc77.1 (xx_fr ujzc77.2 rfl (by decide) (by decide) hX) (fun K kT kF kI => ?_)
                refine q_rv (pc := 90) rfl ?_
                exact hQ K kT (ttFr_tr ujzc77.2 kF (fun _ => rfl) (by decide)) (fun z y => kI z (yyI_eqO ujzo77 y))
            · replace h57 : (5 : Int) = 4 := h57
              omega
          · replace h46 : (5 : Int) = 3 := h46
            omega
        · replace h35 : (5 : Int) = 2 := h35
          omega
      · replace h24 : (5 : Int) = 1 := h24
        omega
    · replace h13 : (5 : Int) = 0 := h13
      omega
