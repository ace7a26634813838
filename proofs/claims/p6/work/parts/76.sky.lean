/-! the reference reads a sky -/
theorem ty_w9 (j : Int) : ttTy (ttTb 184) j = ttTy (ttTb 189) j := rfl
def yySk : ttEf := (true, [(183, 5, 5), (183, 7, 13), (183, 15, 15), (189, 0, 195)])
theorem ty_0 {j N : Int} (ujj0 : 0 ≤ j) (ujj1 : j < 196) : ttM N (ttTy (ttTb (ttRo 189)) j) 0 := by
  have e : ∀ n : Nat, n < 196 → (ttTy (ttTb 189) (n : Int)).1 = 0 ∧ (ttTy (ttTb 189) (n : Int)).2.1 ≤ 0 ∧ 0 ≤ (ttTy (ttTb 189) (n : Int)).2.2 := by decide +kernel
  have k := e j.toNat (by omega)
  rw [Int.toNat_of_nonneg ujj0] at k
  rw [show ttRo 189 = 189 from rfl]
  revert k
  generalize ttTy (ttTb 189) j = T
  obtain ⟨a, b, c⟩ := T
  rintro ⟨k1, k2, k3⟩
  have k1 : a = 0 := k1
  subst k1
  exact ⟨k2, k3⟩
theorem lf_empties {dd : Nat} (hd : 1 ≤ dd) {H : xH} (hT : ttTI H) {Q : Int → xH → Prop} (hQ : ∀ K, ttTI K → ttFr (true, [(189, 0, 195)]) H K → (∀ j : Int, 0 ≤ j → j < 196 → j ≠ 7 → j ≠ 8 → j ≠ 9 → j ≠ 12 → K.1 189 j = 0) → K.1 189 7 = 40 → K.1 189 12 = -1 → Q 0 K) : xCall dd 204 [(2, 189)] H Q := by
  obtain ⟨e, rfl, he⟩ := ttRun0 (n := 0) hd
  have hl : ∀ n : Nat, ∀ (K : xH) (i : Int), 0 ≤ i → i ≤ 196 → 196 - i ≤ (n : Int) → ttTI K → ttFr (true, [(189, 0, 195)]) H K → (∀ j : Int, 0 ≤ j → j < i → K.1 189 j = 0) → xW e cd_204 Q (2, [(2, 189), (0, i)], [], K) := by
    intro n
    induction n with
    | zero =>
      intro K i i0 i1 hn2 kT kF kz
      refine q_il (pc := 2) (i := 1) (x := i) rfl rfl ?_
      refine q_ic (pc := 3) (v := 196) rfl ?_
      refine q_i2 (pc := 4) rfl (fun h4 => ?_) (fun h4 => ?_)
      · replace h4 : 196 ≤ i := h4
        refine q_al (pc := 11) (i := 0) (x := 189) rfl rfl ?_
        refine q_ic (pc := 12) (v := 7) rfl ?_
        refine q_ic (pc := 13) (v := 40) rfl ?_
        refine q_si (pc := 14) rfl (by decide) (ttKc kT (a := 189) (κ := 20) (len := 196) ⟨rfl, rfl⟩ (by decide) (by decide)).1 (by omega) (by rw [(ttKc kT (a := 189) (κ := 20) (len := 196) ⟨rfl, rfl⟩ (by decide) (by decide)).2]; omega) ?_
        have ujzc1 := ttPuT kT kF (a := 189) (j := 7) (x := 40) (by decide) (fun _ _ => show (0 : Int) ≤ 40 ∧ 40 ≤ 60 from by decide) ⟨(189, 0, 195), by simp, ⟨⟨by decide, rfl⟩, by show (0 : Int) ≤ 7; omega, by show 7 ≤ (195 : Int); omega⟩⟩
        obtain ⟨ujZ1, ujzk1⟩ : ∃ X : xH, X = (xUp K.1 189 7 40, K.2) := ⟨_, rfl⟩
        rw [← ujzk1] at ujzc1 ⊢
        have ujzo1 : ∀ j : Int, j ≠ 7 → ujZ1.1 189 j = K.1 189 j := fun j hj => by rw [ujzk1]; exact (show xUp K.1 189 7 40 189 j = _ from up_ne (by omega))
        have ze1 : ujZ1.1 189 7 = 40 := by rw [ujzk1]; exact up_eq (D := K.1) (a := 189) (j := 7) (x := 40)
        refine q_al (pc := 15) (i := 0) (x := 189) rfl rfl ?_
        refine q_ic (pc := 16) (v := 8) rfl ?_
        refine q_ic (pc := 17) (v := 40) rfl ?_
        refine q_si (pc := 18) rfl (by decide) (ttKc ujzc1.1 (a := 189) (κ := 20) (len := 196) ⟨rfl, rfl⟩ (by decide) (by decide)).1 (by omega) (by rw [(ttKc ujzc1.1 (a := 189) (κ := 20) (len := 196) ⟨rfl, rfl⟩ (by decide) (by decide)).2]; omega) ?_
        have ujzc2 := ttPuT ujzc1.1 ujzc1.2 (a := 189) (j := 8) (x := 40) (by decide) (fun _ _ => show (0 : Int) ≤ 40 ∧ 40 ≤ 47 from by decide) ⟨(189, 0, 195), by simp, ⟨⟨by decide, rfl⟩, by show (0 : Int) ≤ 8; omega, by show 8 ≤ (195 : Int); omega⟩⟩
        obtain ⟨ujZ2, ujzk2⟩ : ∃ X : xH, X = (xUp ujZ1.1 189 8 40, ujZ1.2) := ⟨_, rfl⟩
        rw [← ujzk2] at ujzc2 ⊢
        have ujzo2 : ∀ j : Int, j ≠ 8 → ujZ2.1 189 j = ujZ1.1 189 j := fun j hj => by rw [ujzk2]; exact (show xUp ujZ1.1 189 8 40 189 j = _ from up_ne (by omega))
        have ze2 : ujZ2.1 189 8 = 40 := by rw [ujzk2]; exact up_eq (D := ujZ1.1) (a := 189) (j := 8) (x := 40)
        refine q_al (pc := 19) (i := 0) (x := 189) rfl rfl ?_
        refine q_ic (pc := 20) (v := 9) rfl ?_
        refine q_ic (pc := 21) (v := 1000) rfl ?_
        refine q_si (pc := 22) rfl (by decide) (ttKc ujzc2.1 (a := 189) (κ := 20) (len := 196) ⟨rfl, rfl⟩ (by decide) (by decide)).1 (by omega) (by rw [(ttKc ujzc2.1 (a := 189) (κ := 20) (len := 196) ⟨rfl, rfl⟩ (by decide) (by decide)).2]; omega) ?_
        have ujzc3 := ttPuT ujzc2.1 ujzc2.2 (a := 189) (j := 9) (x := 1000) (by decide) (fun _ _ => show (0 : Int) ≤ 1000 ∧ 1000 ≤ 9999 from by decide) ⟨(189, 0, 195), by simp, ⟨⟨by decide, rfl⟩, by show (0 : Int) ≤ 9; omega, by show 9 ≤ (195 : Int); omega⟩⟩
        obtain ⟨ujZ3, ujzk3⟩ : ∃ X : xH, X = (xUp ujZ2.1 189 9 1000, ujZ2.2) := ⟨_, rfl⟩
        rw [← ujzk3] at ujzc3 ⊢
        have ujzo3 : ∀ j : Int, j ≠ 9 → ujZ3.1 189 j = ujZ2.1 189 j := fun j hj => by rw [ujzk3]; exact (show xUp ujZ2.1 189 9 1000 189 j = _ from up_ne (by omega))
        have ze3 : ujZ3.1 189 9 = 1000 := by rw [ujzk3]; exact up_eq (D := ujZ2.1) (a := 189) (j := 9) (x := 1000)
        refine q_al (pc := 23) (i := 0) (x := 189) rfl rfl ?_
        refine q_ic (pc := 24) (v := 12) rfl ?_
        refine q_ic (pc := 25) (v := (-1)) rfl ?_
        refine q_si (pc := 26) rfl (by decide) (ttKc ujzc3.1 (a := 189) (κ := 20) (len := 196) ⟨rfl, rfl⟩ (by decide) (by decide)).1 (by omega) (by rw [(ttKc ujzc3.1 (a := 189) (κ := 20) (len := 196) ⟨rfl, rfl⟩ (by decide) (by decide)).2]; omega) ?_
        have ujzc4 := ttPuT ujzc3.1 ujzc3.2 (a := 189) (j := 12) (x := (-1)) (by decide) (fun _ _ => show (-1 : Int) ≤ (-1) ∧ (-1) ≤ 7 from by decide) ⟨(189, 0, 195), by simp, ⟨⟨by decide, rfl⟩, by show (0 : Int) ≤ 12; omega, by show 12 ≤ (195 : Int); omega⟩⟩
        obtain ⟨ujZ4, ujzk4⟩ : ∃ X : xH, X = (xUp ujZ3.1 189 12 (-1), ujZ3.2) := ⟨_, rfl⟩
        rw [← ujzk4] at ujzc4 ⊢
        have ujzo4 : ∀ j : Int, j ≠ 12 → ujZ4.1 189 j = ujZ3.1 189 j := fun j hj => by rw [ujzk4]; exact (show xUp ujZ3.1 189 12 (-1) 189 j = _ from up_ne (by omega))
        have ze4 : ujZ4.1 189 12 = (-1) := by rw [ujzk4]; exact up_eq (D := ujZ3.1) (a := 189) (j := 12) (x := (-1))
        refine q_rv (pc := 27) rfl ?_
        exact hQ ujZ4 ujzc4.1 ujzc4.2 (fun j ujj0 ujj1 ujj7 ujj8 ujj9 jc => (ujzo4 j jc).trans ((ujzo3 j ujj9).trans ((ujzo2 j ujj8).trans ((ujzo1 j ujj7).trans (kz j ujj0 (by omega)))))) ((ujzo4 7 (by decide)).trans ((ujzo3 7 (by decide)).trans ((ujzo2 7 (by decide)).trans ze1))) ze4
      · replace h4 : i < 196 := h4
        omega
    | succ n ih =>
      intro K i i0 i1 hn2 kT kF kz
      refine q_il (pc := 2) (i := 1) (x := i) rfl rfl ?_
      refine q_ic (pc := 3) (v := 196) rfl ?_
      refine q_i2 (pc := 4) rfl (fun h4 => ?_) (fun h4 => ?_)
      · replace h4 : 196 ≤ i := h4
        refine q_al (pc := 11) (i := 0) (x := 189) rfl rfl ?_
        refine q_ic (pc := 12) (v := 7) rfl ?_
        refine q_ic (pc := 13) (v := 40) rfl ?_
        refine q_si (pc := 14) rfl (by decide) (ttKc kT (a := 189) (κ := 20) (len := 196) ⟨rfl, rfl⟩ (by decide) (by decide)).1 (by omega) (by rw [(ttKc kT (a := 189) (κ := 20) (len := 196) ⟨rfl, rfl⟩ (by decide) (by decide)).2]; omega) ?_
        have ujzc5 := ttPuT kT kF (a := 189) (j := 7) (x := 40) (by decide) (fun _ _ => show (0 : Int) ≤ 40 ∧ 40 ≤ 60 from by decide) ⟨(189, 0, 195), by simp, ⟨⟨by decide, rfl⟩, by show (0 : Int) ≤ 7; omega, by show 7 ≤ (195 : Int); omega⟩⟩
        obtain ⟨ujZ5, ujzk5⟩ : ∃ X : xH, X = (xUp K.1 189 7 40, K.2) := ⟨_, rfl⟩
        rw [← ujzk5] at ujzc5 ⊢
        have ujzo5 : ∀ j : Int, j ≠ 7 → ujZ5.1 189 j = K.1 189 j := fun j hj => by rw [ujzk5]; exact (show xUp K.1 189 7 40 189 j = _ from up_ne (by omega))
        have ze5 : ujZ5.1 189 7 = 40 := by rw [ujzk5]; exact up_eq (D := K.1) (a := 189) (j := 7) (x := 40)
        refine q_al (pc := 15) (i := 0) (x := 189) rfl rfl ?_
        refine q_ic (pc := 16) (v := 8) rfl ?_
        refine q_ic (pc := 17) (v := 40) rfl ?_
        refine q_si (pc := 18) rfl (by decide) (ttKc ujzc5.1 (a := 189) (κ := 20) (len := 196) ⟨rfl, rfl⟩ (by decide) (by decide)).1 (by omega) (by rw [(ttKc ujzc5.1 (a := 189) (κ := 20) (len := 196) ⟨rfl, rfl⟩ (by decide) (by decide)).2]; omega) ?_
        have ujzc6 := ttPuT ujzc5.1 ujzc5.2 (a := 189) (j := 8) (x := 40) (by decide) (fun _ _ => show (0 : Int) ≤ 40 ∧ 40 ≤ 47 from by decide) ⟨(189, 0, 195), by simp, ⟨⟨by decide, rfl⟩, by show (0 : Int) ≤ 8; omega, by show 8 ≤ (195 : Int); omega⟩⟩
        obtain ⟨ujZ6, ujzk6⟩ : ∃ X : xH, X = (xUp ujZ5.1 189 8 40, ujZ5.2) := ⟨_, rfl⟩
        rw [← ujzk6] at ujzc6 ⊢
        have ujzo6 : ∀ j : Int, j ≠ 8 → ujZ6.1 189 j = ujZ5.1 189 j := fun j hj => by rw [ujzk6]; exact (show xUp ujZ5.1 189 8 40 189 j = _ from up_ne (by omega))
        have ze6 : ujZ6.1 189 8 = 40 := by rw [ujzk6]; exact up_eq (D := ujZ5.1) (a := 189) (j := 8) (x := 40)
        refine q_al (pc := 19) (i := 0) (x := 189) rfl rfl ?_
        refine q_ic (pc := 20) (v := 9) rfl ?_
        refine q_ic (pc := 21) (v := 1000) rfl ?_
        refine q_si (pc := 22) rfl (by decide) (ttKc ujzc6.1 (a := 189) (κ := 20) (len := 196) ⟨rfl, rfl⟩ (by decide) (by decide)).1 (by omega) (by rw [(ttKc ujzc6.1 (a := 189) (κ := 20) (len := 196) ⟨rfl, rfl⟩ (by decide) (by decide)).2]; omega) ?_
        have ujzc7 := ttPuT ujzc6.1 ujzc6.2 (a := 189) (j := 9) (x := 1000) (by decide) (fun _ _ => show (0 : Int) ≤ 1000 ∧ 1000 ≤ 9999 from by decide) ⟨(189, 0, 195), by simp, ⟨⟨by decide, rfl⟩, by show (0 : Int) ≤ 9; omega, by show 9 ≤ (195 : Int); omega⟩⟩
        obtain ⟨ujZ7, ujzk7⟩ : ∃ X : xH, X = (xUp ujZ6.1 189 9 1000, ujZ6.2) := ⟨_, rfl⟩
        rw [← ujzk7] at ujzc7 ⊢
        have ujzo7 : ∀ j : Int, j ≠ 9 → ujZ7.1 189 j = ujZ6.1 189 j := fun j hj => by rw [ujzk7]; exact (show xUp ujZ6.1 189 9 1000 189 j = _ from up_ne (by omega))
        have ze7 : ujZ7.1 189 9 = 1000 := by rw [ujzk7]; exact up_eq (D := ujZ6.1) (a := 189) (j := 9) (x := 1000)
        refine q_al (pc := 23) (i := 0) (x := 189) rfl rfl ?_
        refine q_ic (pc := 24) (v := 12) rfl ?_
        refine q_ic (pc := 25) (v := (-1)) rfl ?_
        refine q_si (pc := 26) rfl (by decide) (ttKc ujzc7.1 (a := 189) (κ := 20) (len := 196) ⟨rfl, rfl⟩ (by decide) (by decide)).1 (by omega) (by rw [(ttKc ujzc7.1 (a := 189) (κ := 20) (len := 196) ⟨rfl, rfl⟩ (by decide) (by decide)).2]; omega) ?_
        have ujzc8 := ttPuT ujzc7.1 ujzc7.2 (a := 189) (j := 12) (x := (-1)) (by decide) (fun _ _ => show (-1 : Int) ≤ (-1) ∧ (-1) ≤ 7 from by decide) ⟨(189, 0, 195), by simp, ⟨⟨by decide, rfl⟩, by show (0 : Int) ≤ 12; omega, by show 12 ≤ (195 : Int); omega⟩⟩
        obtain ⟨ujZ8, ujzk8⟩ : ∃ X : xH, X = (xUp ujZ7.1 189 12 (-1), ujZ7.2) := ⟨_, rfl⟩
        rw [← ujzk8] at ujzc8 ⊢
        have ujzo8 : ∀ j : Int, j ≠ 12 → ujZ8.1 189 j = ujZ7.1 189 j := fun j hj => by rw [ujzk8]; exact (show xUp ujZ7.1 189 12 (-1) 189 j = _ from up_ne (by omega))
        have ze8 : ujZ8.1 189 12 = (-1) := by rw [ujzk8]; exact up_eq (D := ujZ7.1) (a := 189) (j := 12) (x := (-1))
        refine q_rv (pc := 27) rfl ?_
        exact hQ ujZ8 ujzc8.1 ujzc8.2 (fun j ujj0 ujj1 ujj7 ujj8 ujj9 jc => (ujzo8 j jc).trans ((ujzo7 j ujj9).trans ((ujzo6 j ujj8).trans ((ujzo5 j ujj7).trans (kz j ujj0 (by omega)))))) ((ujzo8 7 (by decide)).trans ((ujzo7 7 (by decide)).trans ((ujzo6 7 (by decide)).trans ze5))) ze8
      · replace h4 : i < 196 := h4
        refine q_al (pc := 5) (i := 0) (x := 189) rfl rfl ?_
        refine q_il (pc := 6) (i := 1) (x := i) rfl rfl ?_
        refine q_ic (pc := 7) (v := 0) rfl ?_
        refine q_si (pc := 8) rfl (by decide) (ttKc kT (a := 189) (κ := 20) (len := 196) ⟨rfl, rfl⟩ (by decide) (by decide)).1 (by omega) (by rw [(ttKc kT (a := 189) (κ := 20) (len := 196) ⟨rfl, rfl⟩ (by decide) (by decide)).2]; omega) ?_
        have ujzc9 := ttPuT kT kF (a := 189) (j := i) (x := 0) (by decide) (fun _ _ => ty_0 (by omega) (by omega)) ⟨(189, 0, 195), by simp, ⟨⟨by decide, rfl⟩, by show (0 : Int) ≤ i; omega, by show i ≤ (195 : Int); omega⟩⟩
        obtain ⟨ujZ9, ujzk9⟩ : ∃ X : xH, X = (xUp K.1 189 i 0, K.2) := ⟨_, rfl⟩
        rw [← ujzk9] at ujzc9 ⊢
        have ujzo9 : ∀ j : Int, j ≠ i → ujZ9.1 189 j = K.1 189 j := fun j hj => by rw [ujzk9]; exact (show xUp K.1 189 i 0 189 j = _ from up_ne (by omega))
        have ze9 : ujZ9.1 189 i = 0 := by rw [ujzk9]; exact up_eq (D := K.1) (a := 189) (j := i) (x := 0)
        refine q_ii (pc := 9) (i := 1) (c := 1) (x := i) (L' := [(2, 189), (0, (i + 1))]) rfl rfl rfl (by omega) (by omega) rfl ?_
        refine q_go (pc := 10) rfl ?_
        exact ih ujZ9 (i + 1) (by omega) (by omega) (by omega) ujzc9.1 ujzc9.2 (fun j ujj0 ujj1 => by
          by_cases z : j = i
          · rw [z]; exact ze9
          · exact (ujzo9 j z).trans (kz j ujj0 (by omega)))
  refine xC_of (L := [(2, 189), (9, 0)]) (cd := cd_204) rfl rfl rfl ?_
  refine q_ic (pc := 0) (v := 0) rfl ?_
  refine q_is (pc := 1) (i := 1) (L' := [(2, 189), (0, 0)]) rfl rfl rfl ?_
  exact hl 196 H 0 (by decide) (by decide) (by decide) hT (ttFr_rf _ H) (fun j ujj0 ujj1 => by omega)
def m_sky : ttCon := (233, 14, [(2, (0, 183, (9, 0, 0)))], [], [(1, 0, (0, (-4), 60))], [], true, [(183, 5, 5), (183, 7, 13), (183, 15, 15), (189, 0, 195), (184, 0, 195), (193, 0, 975), (183, 22, 22), (183, 29, 29)])
theorem hm_sky : ttHas (ttXX YY) m_sky := by
  intro dd hdd vs H hT hX hargs hcells Q hQ
  obtain ⟨v0, vs, rfl, p0, hargs⟩ := ttV1 hargs
  cases ttV0 hargs
  cases ttPk p0
  obtain ⟨e, rfl, he⟩ := ttRun0 (n := 13) hdd
  have he : 13 ≤ e := he
  have hn : 210 ≤ (H.2.2.2.1 : Int) := by have := hT.1; omega
  have hq : ∀ r K, (-4 ≤ r ∧ r ≤ 60) → ttTI K → ttXX YY K → ttFr (true, [(183, 5, 5), (183, 7, 13), (183, 15, 15), (189, 0, 195), (184, 0, 195), (193, 0, 975), (183, 22, 22), (183, 29, 29)]) H K → Q r K := fun r K hr a b c => hQ r K a b c ⟨_, List.mem_singleton.mpr rfl, ttPi_of hr.1 hr.2⟩ (fun q hq => absurd hq List.not_mem_nil)
  have h53 : ∀ (G K : xH) (x1 : xV), ttTI G → ttFr yySk H G → yyI G.1 → ttTI K → ttFr (true, [(184, 0, 195)]) G K → (∀ j : Int, 0 ≤ j → j < 196 → K.1 184 j = G.1 189 j) → xW e cd_233 Q (53, [(2, 183), x1], [], K) := by
    intro G K x1 gT gF gI kT kF kj
    have gn : 210 ≤ (G.2.2.2.1 : Int) := by have := gT.1; omega
    obtain ⟨i1, i2, i3, i4⟩ := gI
    rw [← kj 12 (by decide) (by decide), ← kj 1 (by decide) (by decide)] at i3
    rw [← kj 7 (by decide) (by decide)] at i4
    rw [← kj 15 (by decide) (by decide)] at i2
    have i1 : ∀ l : Int, 0 ≤ l → l < 10 → l < K.1 184 2 → K.1 184 (84 + 6 * l) < K.1 184 1 ∧ K.1 184 (85 + 6 * l) < K.1 184 1 := fun l l0 l1 l2 => by
      rw [kj 2 (by decide) (by decide)] at l2
      rw [kj 1 (by decide) (by decide), kj (84 + 6 * l) (by omega) (by omega), kj (85 + 6 * l) (by omega) (by omega)]
      exact i1 l l0 l1 l2
    have kF : ttFr (true, [(183, 5, 5), (183, 7, 13), (183, 15, 15), (189, 0, 195), (184, 0, 195), (193, 0, 975), (183, 22, 22), (183, 29, 29)]) H K := ttFr_tr (ttFr_tr (ttFr_rf _ H) gF (fun _ => rfl) (by decide)) kF (fun _ => rfl) (by decide)
    have hf : ∀ J : xH, ttTI J → ttFr (true, [(183, 5, 5), (183, 7, 13), (183, 15, 15), (189, 0, 195), (184, 0, 195), (193, 0, 975), (183, 22, 22), (183, 29, 29)]) H J → yyR J.1 184 0 → xW e cd_233 Q (80, [(2, 183), x1], [], J) := by
      intro J jT jF jR
      have jn : 210 ≤ (J.2.2.2.1 : Int) := by have := jT.1; omega
      refine q_al (pc := 80) (i := 0) (x := 183) rfl rfl ?_
      refine q_iv (pc := 81) (q := 2128967) rfl rfl rfl (ttKc jT (a := 183) (κ := 12) (len := 0) ⟨rfl, rfl⟩ (by decide) (by decide)).1 ?_
      refine lf_forgets (by omega) jT (fun M mT mF m22 m29 => ?_)
      have mA : ttFr (true, [(183, 5, 5), (183, 7, 13), (183, 15, 15), (189, 0, 195), (184, 0, 195), (193, 0, 975), (183, 22, 22), (183, 29, 29)]) H M := ttFr_tr jF mF (fun _ => rfl) (by decide)
      have m4 : ∀ j : Int, M.1 184 j = J.1 184 j := fun j => fr_no mF 184 (by omega) rfl (by decide)
      have mX : ttXX YY M := by
        refine ⟨rm_fr mA rfl hn (by decide) hX.1, by have := mT.1; omega, yyR_eq (fun j _ _ _ => m4 _) jR, fun k k0 k1 k2 => ?_, fun z => ?_, fun z => absurd m29 z⟩
        · rw [fr_no mA 186 (by omega) rfl (by decide)] at k2
          exact yyR_eq (fun j _ _ _ => fr_no mA 185 (by omega) rfl (by decide)) (hX.2.2.2.1 k k0 k1 k2)
        · rw [m22] at z; cases z
      have ml : 0 ≤ M.1 184 0 ∧ M.1 184 0 ≤ 60 := ttMc mT (a := 184) (j := 0) (by decide) (by decide) (by decide) (by decide)
      refine q_al (pc := 82) (i := 0) (x := 183) rfl rfl ?_
      refine q_gf (pc := 83) (m := 12012) (t := 2) (c := 1) rfl (ttKc mT (a := 183) (κ := 12) (len := 0) ⟨rfl, rfl⟩ (by decide) (by decide)).1 rfl rfl ?_
      rw [show M.1 183 1 = 184 from ttFx mT (by decide) (by decide) rfl rfl rfl]
      refine q_ic (pc := 84) (v := 0) rfl ?_
      refine q_ai (pc := 85) rfl (ttKc mT (a := 184) (κ := 20) (len := 196) ⟨rfl, rfl⟩ (by decide) (by decide)).1 (by omega) (by rw [(ttKc mT (a := 184) (κ := 20) (len := 196) ⟨rfl, rfl⟩ (by decide) (by decide)).2]; omega) ?_
      refine q_ri (pc := 86) rfl ?_
      exact hq _ M (by omega) mT mX mA
    have zs : -1 ≤ K.1 184 12 ∧ K.1 184 12 ≤ 7 := ttMc kT (a := 184) (j := 12) (by decide) (by decide) (by decide) (by decide)
    have zh : 0 ≤ K.1 184 13 ∧ K.1 184 13 ≤ 60 := ttMc kT (a := 184) (j := 13) (by decide) (by decide) (by decide) (by decide)
    have zc : 0 ≤ K.1 184 7 ∧ K.1 184 7 ≤ 60 := ttMc kT (a := 184) (j := 7) (by decide) (by decide) (by decide) (by decide)
    refine q_al (pc := 53) (i := 0) (x := 183) rfl rfl ?_
    refine q_gf (pc := 54) (m := 12012) (t := 2) (c := 1) rfl (ttKc kT (a := 183) (κ := 12) (len := 0) ⟨rfl, rfl⟩ (by decide) (by decide)).1 rfl rfl ?_
    rw [show K.1 183 1 = 184 from ttFx kT (by decide) (by decide) rfl rfl rfl]
    refine q_ic (pc := 55) (v := 12) rfl ?_
    refine q_ai (pc := 56) rfl (ttKc kT (a := 184) (κ := 20) (len := 196) ⟨rfl, rfl⟩ (by decide) (by decide)).1 (by omega) (by rw [(ttKc kT (a := 184) (κ := 20) (len := 196) ⟨rfl, rfl⟩ (by decide) (by decide)).2]; omega) ?_
    refine q_ic (pc := 57) (v := (-1)) rfl ?_
    refine q_i2 (pc := 58) rfl (fun h58 => ?_) (fun h58 => ?_)
    · replace h58 : (K.1 184 12) = (-1) := h58
      refine hf K kT kF ?_
      have ez : ∀ j : Int, (0 : Int) + j = j := fun j => Int.zero_add j
      unfold yyR
      refine ⟨fun l l0 l1 l2 => ?_, ?_, fun z => ?_⟩
      · rw [ez] at l2
        rw [ez, ez, ez]
        exact i1 l l0 l1 l2
      · rw [ez]; exact i2
      · rw [ez] at z
        exact absurd h58 z
    · replace h58 : (K.1 184 12) ≠ (-1) := h58
      refine q_al (pc := 59) (i := 0) (x := 183) rfl rfl ?_
      refine q_gf (pc := 60) (m := 12012) (t := 2) (c := 1) rfl (ttKc kT (a := 183) (κ := 12) (len := 0) ⟨rfl, rfl⟩ (by decide) (by decide)).1 rfl rfl ?_
      rw [show K.1 183 1 = 184 from ttFx kT (by decide) (by decide) rfl rfl rfl]
      refine q_ic (pc := 61) (v := 13) rfl ?_
      refine q_al (pc := 62) (i := 0) (x := 183) rfl rfl ?_
      refine q_al (pc := 63) (i := 0) (x := 183) rfl rfl ?_
      refine q_gf (pc := 64) (m := 12012) (t := 2) (c := 1) rfl (ttKc kT (a := 183) (κ := 12) (len := 0) ⟨rfl, rfl⟩ (by decide) (by decide)).1 rfl rfl ?_
      rw [show K.1 183 1 = 184 from ttFx kT (by decide) (by decide) rfl rfl rfl]
      refine q_ic (pc := 65) (v := 12) rfl ?_
      refine q_ai (pc := 66) rfl (ttKc kT (a := 184) (κ := 20) (len := 196) ⟨rfl, rfl⟩ (by decide) (by decide)).1 (by omega) (by rw [(ttKc kT (a := 184) (κ := 20) (len := 196) ⟨rfl, rfl⟩ (by decide) (by decide)).2]; omega) ?_
      refine q_ic (pc := 67) (v := 0) rfl ?_
      refine q_iv (pc := 68) (q := 1664972) rfl rfl rfl (ttKc kT (a := 183) (κ := 12) (len := 0) ⟨rfl, rfl⟩ (by decide) (by decide)).1 ?_
      refine lf_ofPlace (j := (20 + 8 * (K.1 184 12))) (by omega) (by omega) kT (by omega) (by omega) (by omega) (by omega) ?_
      have zg := pl_ty kT (p := K.1 184 12) (by omega) (by omega)
      refine q_al (pc := 69) (i := 0) (x := 183) rfl rfl ?_
      refine q_gf (pc := 70) (m := 12012) (t := 2) (c := 1) rfl (ttKc kT (a := 183) (κ := 12) (len := 0) ⟨rfl, rfl⟩ (by decide) (by decide)).1 rfl rfl ?_
      rw [show K.1 183 1 = 184 from ttFx kT (by decide) (by decide) rfl rfl rfl]
      refine q_ic (pc := 71) (v := 7) rfl ?_
      refine q_ai (pc := 72) rfl (ttKc kT (a := 184) (κ := 20) (len := 196) ⟨rfl, rfl⟩ (by decide) (by decide)).1 (by omega) (by rw [(ttKc kT (a := 184) (κ := 20) (len := 196) ⟨rfl, rfl⟩ (by decide) (by decide)).2]; omega) ?_
      refine q_al (pc := 73) (i := 0) (x := 183) rfl rfl ?_
      refine q_gf (pc := 74) (m := 12012) (t := 2) (c := 1) rfl (ttKc kT (a := 183) (κ := 12) (len := 0) ⟨rfl, rfl⟩ (by decide) (by decide)).1 rfl rfl ?_
      rw [show K.1 183 1 = 184 from ttFx kT (by decide) (by decide) rfl rfl rfl]
      refine q_ic (pc := 75) (v := 13) rfl ?_
      refine q_ai (pc := 76) rfl (ttKc kT (a := 184) (κ := 20) (len := 196) ⟨rfl, rfl⟩ (by decide) (by decide)).1 (by omega) (by rw [(ttKc kT (a := 184) (κ := 20) (len := 196) ⟨rfl, rfl⟩ (by decide) (by decide)).2]; omega) ?_
      refine q_mn (pc := 77) rfl rfl (by omega) ?_
      refine q_mx (pc := 78) rfl rfl (by omega) ?_
      refine q_si (pc := 79) rfl (by decide) (ttKc kT (a := 184) (κ := 20) (len := 196) ⟨rfl, rfl⟩ (by decide) (by decide)).1 (by omega) (by rw [(ttKc kT (a := 184) (κ := 20) (len := 196) ⟨rfl, rfl⟩ (by decide) (by decide)).2]; omega) ?_
      have zv : 0 ≤ (max (K.1 184 (20 + 8 * (K.1 184 12))) (min (K.1 184 7) (K.1 184 13))) ∧ (max (K.1 184 (20 + 8 * (K.1 184 12))) (min (K.1 184 7) (K.1 184 13))) ≤ 60 := by omega
      have yc := ttPuT kT kF (a := 184) (j := 13) (x := (max (K.1 184 (20 + 8 * (K.1 184 12))) (min (K.1 184 7) (K.1 184 13)))) (by decide) (fun _ _ => show (0 : Int) ≤ (max (K.1 184 (20 + 8 * (K.1 184 12))) (min (K.1 184 7) (K.1 184 13))) ∧ (max (K.1 184 (20 + 8 * (K.1 184 12))) (min (K.1 184 7) (K.1 184 13))) ≤ 60 from zv) ⟨(184, 0, 195), by simp, ⟨⟨by decide, rfl⟩, by decide, by decide⟩⟩
      obtain ⟨Y, jY⟩ : ∃ X : xH, X = (xUp K.1 184 13 (max (K.1 184 (20 + 8 * (K.1 184 12))) (min (K.1 184 7) (K.1 184 13))), K.2) := ⟨_, rfl⟩
      rw [← jY] at yc ⊢
      have ye : Y.1 184 13 = (max (K.1 184 (20 + 8 * (K.1 184 12))) (min (K.1 184 7) (K.1 184 13))) := by rw [jY]; exact up_eq (D := K.1) (a := 184) (j := 13) (x := (max (K.1 184 (20 + 8 * (K.1 184 12))) (min (K.1 184 7) (K.1 184 13))))
      have yo : ∀ j : Int, j ≠ 13 → Y.1 184 j = K.1 184 j := fun j hj => by rw [jY]; exact (show xUp K.1 184 13 (max (K.1 184 (20 + 8 * (K.1 184 12))) (min (K.1 184 7) (K.1 184 13))) 184 j = _ from up_ne (by omega))
      refine hf Y yc.1 yc.2 ?_
      have ez : ∀ j : Int, (0 : Int) + j = j := fun j => Int.zero_add j
      obtain ⟨s1, s2, s3⟩ := i3 h58
      unfold yyR
      refine ⟨fun l l0 l1 l2 => ?_, ?_, fun z => ?_⟩
      · rw [ez, yo 2 (by decide)] at l2
        rw [ez, ez, ez, yo (84 + 6 * l) (by omega), yo (85 + 6 * l) (by omega), yo 1 (by decide)]
        exact i1 l l0 l1 l2
      · rw [ez, yo 15 (by decide)]; exact i2
      · rw [ez 12, ez 1, ez 13, ez 7, ez (20 + 8 * Y.1 184 12), yo 12 (by decide), yo 1 (by decide), yo 7 (by decide), yo (20 + 8 * K.1 184 12) (by omega), ye]
        omega
  have h40 : ∀ G : xH, ttTI G → ttFr yySk H G → yyI G.1 → ∀ n : Nat, ∀ (K : xH) (i : Int), 0 ≤ i → i ≤ 196 → 196 - i ≤ (n : Int) → ttTI K → ttFr (true, [(184, 0, 195)]) G K → (∀ j : Int, 0 ≤ j → j < i → K.1 184 j = G.1 189 j) → xW e cd_233 Q (40, [(2, 183), (0, i)], [], K) := by
    intro G gT gF gI n
    have gn : 210 ≤ (G.2.2.2.1 : Int) := by have := gT.1; omega
    induction n with
    | zero =>
      intro K i i0 i1 hn2 kT kF kj
      refine q_il (pc := 40) (i := 1) (x := i) rfl rfl ?_
      refine q_ic (pc := 41) (v := 196) rfl ?_
      refine q_i2 (pc := 42) rfl (fun h42 => ?_) (fun h42 => ?_)
      · replace h42 : 196 ≤ i := h42
        exact h53 G K _ gT gF gI kT kF (fun j ujj0 ujj1 => kj j ujj0 (by omega))
      · replace h42 : i < 196 := h42
        omega
    | succ n ih =>
      intro K i i0 i1 hn2 kT kF kj
      refine q_il (pc := 40) (i := 1) (x := i) rfl rfl ?_
      refine q_ic (pc := 41) (v := 196) rfl ?_
      refine q_i2 (pc := 42) rfl (fun h42 => ?_) (fun h42 => ?_)
      · replace h42 : 196 ≤ i := h42
        exact h53 G K _ gT gF gI kT kF (fun j ujj0 ujj1 => kj j ujj0 (by omega))
      · replace h42 : i < 196 := h42
        refine q_al (pc := 43) (i := 0) (x := 183) rfl rfl ?_
        refine q_gf (pc := 44) (m := 12012) (t := 2) (c := 1) rfl (ttKc kT (a := 183) (κ := 12) (len := 0) ⟨rfl, rfl⟩ (by decide) (by decide)).1 rfl rfl ?_
        rw [show K.1 183 1 = 184 from ttFx kT (by decide) (by decide) rfl rfl rfl]
        refine q_il (pc := 45) (i := 1) (x := i) rfl rfl ?_
        refine q_al (pc := 46) (i := 0) (x := 183) rfl rfl ?_
        refine q_gf (pc := 47) (m := 12142) (t := 2) (c := 14) rfl (ttKc kT (a := 183) (κ := 12) (len := 0) ⟨rfl, rfl⟩ (by decide) (by decide)).1 rfl rfl ?_
        rw [show K.1 183 14 = 189 from ttFx kT (by decide) (by decide) rfl rfl rfl]
        refine q_il (pc := 48) (i := 1) (x := i) rfl rfl ?_
        refine q_ai (pc := 49) rfl (ttKc kT (a := 189) (κ := 20) (len := 196) ⟨rfl, rfl⟩ (by decide) (by decide)).1 (by omega) (by rw [(ttKc kT (a := 189) (κ := 20) (len := 196) ⟨rfl, rfl⟩ (by decide) (by decide)).2]; omega) ?_
        refine q_si (pc := 50) rfl (by decide) (ttKc kT (a := 184) (κ := 20) (len := 196) ⟨rfl, rfl⟩ (by decide) (by decide)).1 (by omega) (by rw [(ttKc kT (a := 184) (κ := 20) (len := 196) ⟨rfl, rfl⟩ (by decide) (by decide)).2]; omega) ?_
        have k := ttMc kT (a := 189) (j := i) (by decide) (by decide) i0 (by show i < 196; omega)
        have c := ttPuT kT kF (a := 184) (j := i) (x := K.1 189 i) (by decide) (fun _ _ => by rw [show ttRo 184 = 184 from rfl, ty_w9 i]; exact k) ⟨(184, 0, 195), by simp, ⟨⟨by decide, rfl⟩, by show (0 : Int) ≤ i; omega, by show i ≤ (195 : Int); omega⟩⟩
        refine q_ii (pc := 51) (i := 1) (c := 1) (x := i) (L' := [(2, 183), (0, (i + 1))]) rfl rfl rfl (by omega) (by omega) rfl ?_
        refine q_go (pc := 52) rfl ?_
        exact ih _ (i + 1) (by omega) (by omega) (by omega) c.1 c.2 (fun j ujj0 ujj1 => by
          by_cases z : j = i
          · subst z
            exact (show xUp K.1 184 j (K.1 189 j) 184 j = _ from up_eq).trans (fr_no kF 189 (by omega) rfl (by decide))
          · exact (show xUp K.1 184 i (K.1 189 i) 184 j = _ from up_ne (by omega)).trans (kj j ujj0 (by omega)))
  have h24 : ∀ n : Nat, ∀ (K : xH) (x1 : xV), ttTI K → ttFr yySk H K → (K.1 183 12 = 0 → yyI K.1 ∧ 61 - K.1 189 0 ≤ (n : Int)) → xW e cd_233 Q (24, [(2, 183), x1], [], K) := by
    intro n
    induction n with
    | zero =>
      intro K x1 kT kF kg
      have zl : 0 ≤ K.1 189 0 ∧ K.1 189 0 ≤ 60 := ttMc kT (a := 189) (j := 0) (by decide) (by decide) (by decide) (by decide)
      refine q_al (pc := 24) (i := 0) (x := 183) rfl rfl ?_
      refine q_iv (pc := 25) (q := 1712964) rfl rfl rfl (ttKc kT (a := 183) (κ := 12) (len := 0) ⟨rfl, rfl⟩ (by decide) (by decide)).1 ?_
      refine lf_good (by omega) kT (fun jg25 => ?_) (fun jg25 => ?_)
      · skip
        refine q_if (pc := 26) rfl (fun h26 => ?_) (fun h26 => ?_)
        · replace h26 : (1 : Int) = 0 := h26
          omega
        · replace h26 : (1 : Int) ≠ 0 := h26
          have := (kg jg25).2
          omega
      · skip
        refine q_if (pc := 26) rfl (fun h26 => ?_) (fun h26 => ?_)
        · replace h26 : (0 : Int) = 0 := h26
          refine q_al (pc := 33) (i := 0) (x := 183) rfl rfl ?_
          refine q_iv (pc := 34) (q := 1712964) rfl rfl rfl (ttKc kT (a := 183) (κ := 12) (len := 0) ⟨rfl, rfl⟩ (by decide) (by decide)).1 ?_
          refine lf_good (by omega) kT (fun jg34 => ?_) (fun jg34 => ?_)
          · skip
            refine q_if (pc := 35) rfl (fun h35 => ?_) (fun h35 => ?_)
            · replace h35 : (1 : Int) ≠ 0 := h35
              refine q_ic (pc := 38) (v := 0) rfl ?_
              refine q_is (pc := 39) (i := 1) (L' := [(2, 183), (0, 0)]) rfl rfl rfl ?_
              exact h40 K kT kF (kg jg34).1 196 K 0 (by decide) (by decide) (by decide) kT (ttFr_rf _ K) (fun j ujj0 ujj1 => by omega)
            · replace h35 : (1 : Int) = 0 := h35
              omega
          · skip
            refine q_if (pc := 35) rfl (fun h35 => ?_) (fun h35 => ?_)
            · replace h35 : (0 : Int) ≠ 0 := h35
              omega
            · replace h35 : (0 : Int) = 0 := h35
              refine q_ic (pc := 36) (v := (-4)) rfl ?_
              refine q_ri (pc := 37) rfl ?_
              exact hq _ K (by decide) kT (xx_fr kF rfl (by decide) (by decide) hX) (ttFr_tr (ttFr_rf _ H) kF (fun _ => rfl) (by decide))
        · replace h26 : (0 : Int) ≠ 0 := h26
          omega
    | succ n ih =>
      intro K x1 kT kF kg
      have zl : 0 ≤ K.1 189 0 ∧ K.1 189 0 ≤ 60 := ttMc kT (a := 189) (j := 0) (by decide) (by decide) (by decide) (by decide)
      refine q_al (pc := 24) (i := 0) (x := 183) rfl rfl ?_
      refine q_iv (pc := 25) (q := 1712964) rfl rfl rfl (ttKc kT (a := 183) (κ := 12) (len := 0) ⟨rfl, rfl⟩ (by decide) (by decide)).1 ?_
      refine lf_good (by omega) kT (fun jg25 => ?_) (fun jg25 => ?_)
      · skip
        refine q_if (pc := 26) rfl (fun h26 => ?_) (fun h26 => ?_)
        · replace h26 : (1 : Int) = 0 := h26
          omega
        · replace h26 : (1 : Int) ≠ 0 := h26
          refine q_al (pc := 27) (i := 0) (x := 183) rfl rfl ?_
          refine q_gf (pc := 28) (m := 12100) (t := 0) (c := 10) rfl (ttKc kT (a := 183) (κ := 12) (len := 0) ⟨rfl, rfl⟩ (by decide) (by decide)).1 rfl rfl ?_
          refine q_if (pc := 29) rfl (fun h29 => ?_) (fun h29 => ?_)
          · replace h29 : (K.1 183 10) = 0 := h29
            refine q_al (pc := 33) (i := 0) (x := 183) rfl rfl ?_
            refine q_iv (pc := 34) (q := 1712964) rfl rfl rfl (ttKc kT (a := 183) (κ := 12) (len := 0) ⟨rfl, rfl⟩ (by decide) (by decide)).1 ?_
            refine lf_good (by omega) kT (fun jg34 => ?_) (fun jg34 => ?_)
            · skip
              refine q_if (pc := 35) rfl (fun h35 => ?_) (fun h35 => ?_)
              · replace h35 : (1 : Int) ≠ 0 := h35
                refine q_ic (pc := 38) (v := 0) rfl ?_
                refine q_is (pc := 39) (i := 1) (L' := [(2, 183), (0, 0)]) rfl rfl rfl ?_
                exact h40 K kT kF (kg jg34).1 196 K 0 (by decide) (by decide) (by decide) kT (ttFr_rf _ K) (fun j ujj0 ujj1 => by omega)
              · replace h35 : (1 : Int) = 0 := h35
                omega
            · skip
              refine q_if (pc := 35) rfl (fun h35 => ?_) (fun h35 => ?_)
              · replace h35 : (0 : Int) ≠ 0 := h35
                omega
              · replace h35 : (0 : Int) = 0 := h35
                refine q_ic (pc := 36) (v := (-4)) rfl ?_
                refine q_ri (pc := 37) rfl ?_
                exact hq _ K (by decide) kT (xx_fr kF rfl (by decide) (by decide) hX) (ttFr_tr (ttFr_rf _ H) kF (fun _ => rfl) (by decide))
          · replace h29 : (K.1 183 10) ≠ 0 := h29
            refine q_al (pc := 30) (i := 0) (x := 183) rfl rfl ?_
            refine q_iv (pc := 31) (q := 1856967) rfl rfl rfl (ttKc kT (a := 183) (κ := 12) (len := 0) ⟨rfl, rfl⟩ (by decide) (by decide)).1 ?_
            refine lf_readLine (by omega) kT (xx_fr kF rfl (by decide) (by decide) hX) jg25 (kg jg25).1 (fun J jT jF jI => ?_)
            refine q_go (pc := 32) rfl ?_
            exact ih J _ jT (ttFr_tr kF jF (fun _ => rfl) (by decide)) (fun z => ⟨(jI z).1, by have := (jI z).2; have := (kg jg25).2; omega⟩)
      · skip
        refine q_if (pc := 26) rfl (fun h26 => ?_) (fun h26 => ?_)
        · replace h26 : (0 : Int) = 0 := h26
          refine q_al (pc := 33) (i := 0) (x := 183) rfl rfl ?_
          refine q_iv (pc := 34) (q := 1712964) rfl rfl rfl (ttKc kT (a := 183) (κ := 12) (len := 0) ⟨rfl, rfl⟩ (by decide) (by decide)).1 ?_
          refine lf_good (by omega) kT (fun jg34 => ?_) (fun jg34 => ?_)
          · skip
            refine q_if (pc := 35) rfl (fun h35 => ?_) (fun h35 => ?_)
            · replace h35 : (1 : Int) ≠ 0 := h35
              refine q_ic (pc := 38) (v := 0) rfl ?_
              refine q_is (pc := 39) (i := 1) (L' := [(2, 183), (0, 0)]) rfl rfl rfl ?_
              exact h40 K kT kF (kg jg34).1 196 K 0 (by decide) (by decide) (by decide) kT (ttFr_rf _ K) (fun j ujj0 ujj1 => by omega)
            · replace h35 : (1 : Int) = 0 := h35
              omega
          · skip
            refine q_if (pc := 35) rfl (fun h35 => ?_) (fun h35 => ?_)
            · replace h35 : (0 : Int) ≠ 0 := h35
              omega
            · replace h35 : (0 : Int) = 0 := h35
              refine q_ic (pc := 36) (v := (-4)) rfl ?_
              refine q_ri (pc := 37) rfl ?_
              exact hq _ K (by decide) kT (xx_fr kF rfl (by decide) (by decide) hX) (ttFr_tr (ttFr_rf _ H) kF (fun _ => rfl) (by decide))
        · replace h26 : (0 : Int) ≠ 0 := h26
          omega
  have ujzt5 : 0 ≤ H.1 183 5 ∧ H.1 183 5 ≤ 1600 := ttMc hT (a := 183) (j := 5) (by decide) (by decide) (by decide) (by decide)
  refine xC_of (L := [(2, 183), (9, 0)]) (cd := cd_233) rfl rfl rfl ?_
  refine q_al (pc := 0) (i := 0) (x := 183) rfl rfl ?_
  refine q_al (pc := 1) (i := 0) (x := 183) rfl rfl ?_
  refine q_gf (pc := 2) (m := 12050) (t := 0) (c := 5) rfl (ttKc hT (a := 183) (κ := 12) (len := 0) ⟨rfl, rfl⟩ (by decide) (by decide)).1 rfl rfl ?_
  refine q_pf (pc := 3) (m := 12070) (c := 7) rfl (show xPt 0 0 _ _ from (ttKc hT (a := 183) (κ := 12) (len := 0) ⟨rfl, rfl⟩ (by decide) (by decide)).1) rfl ?_
  have ujzc10 := ttPuT hT (ttFr_rf yySk H) (a := 183) (j := 7) (x := (H.1 183 5)) (by decide) (fun _ _ => show (0 : Int) ≤ (H.1 183 5) ∧ (H.1 183 5) ≤ 1600 from by omega) ⟨(183, 7, 13), by simp [yySk], ⟨⟨by decide, rfl⟩, by decide, by decide⟩⟩
  obtain ⟨ujZ10, ujzk10⟩ : ∃ X : xH, X = (xUp H.1 183 7 (H.1 183 5), H.2) := ⟨_, rfl⟩
  rw [← ujzk10] at ujzc10 ⊢
  refine q_al (pc := 4) (i := 0) (x := 183) rfl rfl ?_
  refine q_ic (pc := 5) (v := 0) rfl ?_
  refine q_pf (pc := 6) (m := 12050) (c := 5) rfl (show xPt 0 0 _ _ from (ttKc ujzc10.1 (a := 183) (κ := 12) (len := 0) ⟨rfl, rfl⟩ (by decide) (by decide)).1) rfl ?_
  have ujzc11 := ttPuT ujzc10.1 ujzc10.2 (a := 183) (j := 5) (x := 0) (by decide) (fun _ _ => show (0 : Int) ≤ (0 : Int) ∧ 0 ≤ 1600 from by decide) ⟨(183, 5, 5), by simp [yySk], ⟨⟨by decide, rfl⟩, by decide, by decide⟩⟩
  obtain ⟨ujZ11, ujzk11⟩ : ∃ X : xH, X = (xUp ujZ10.1 183 5 0, ujZ10.2) := ⟨_, rfl⟩
  rw [← ujzk11] at ujzc11 ⊢
  refine q_al (pc := 7) (i := 0) (x := 183) rfl rfl ?_
  refine q_ic (pc := 8) (v := 0) rfl ?_
  refine q_pf (pc := 9) (m := 12080) (c := 8) rfl (show xPt 0 0 _ _ from (ttKc ujzc11.1 (a := 183) (κ := 12) (len := 0) ⟨rfl, rfl⟩ (by decide) (by decide)).1) rfl ?_
  have ujzc12 := ttPuT ujzc11.1 ujzc11.2 (a := 183) (j := 8) (x := 0) (by decide) (fun _ _ => show (0 : Int) ≤ (0 : Int) ∧ 0 ≤ 1600 from by decide) ⟨(183, 7, 13), by simp [yySk], ⟨⟨by decide, rfl⟩, by decide, by decide⟩⟩
  obtain ⟨ujZ12, ujzk12⟩ : ∃ X : xH, X = (xUp ujZ11.1 183 8 0, ujZ11.2) := ⟨_, rfl⟩
  rw [← ujzk12] at ujzc12 ⊢
  refine q_al (pc := 10) (i := 0) (x := 183) rfl rfl ?_
  refine q_ic (pc := 11) (v := 0) rfl ?_
  refine q_pf (pc := 12) (m := 12120) (c := 12) rfl (show xPt 0 0 _ _ from (ttKc ujzc12.1 (a := 183) (κ := 12) (len := 0) ⟨rfl, rfl⟩ (by decide) (by decide)).1) rfl ?_
  have ujzc13 := ttPuT ujzc12.1 ujzc12.2 (a := 183) (j := 12) (x := 0) (by decide) (fun _ _ => show ((-2147483648) : Int) ≤ (0 : Int) ∧ 0 ≤ 2147483647 from by decide) ⟨(183, 7, 13), by simp [yySk], ⟨⟨by decide, rfl⟩, by decide, by decide⟩⟩
  obtain ⟨ujZ13, ujzk13⟩ : ∃ X : xH, X = (xUp ujZ12.1 183 12 0, ujZ12.2) := ⟨_, rfl⟩
  rw [← ujzk13] at ujzc13 ⊢
  have ujzg13 : ujZ13.1 183 12 = 0 := by rw [ujzk13]; exact up_eq (D := ujZ12.1) (a := 183) (j := 12) (x := 0)
  refine q_al (pc := 13) (i := 0) (x := 183) rfl rfl ?_
  refine q_ic (pc := 14) (v := (-1)) rfl ?_
  refine q_pf (pc := 15) (m := 12130) (c := 13) rfl (show xPt 0 0 _ _ from (ttKc ujzc13.1 (a := 183) (κ := 12) (len := 0) ⟨rfl, rfl⟩ (by decide) (by decide)).1) rfl ?_
  have ujzc14 := ttPuT ujzc13.1 ujzc13.2 (a := 183) (j := 13) (x := (-1)) (by decide) (fun _ _ => show ((-2147483648) : Int) ≤ ((-1) : Int) ∧ (-1) ≤ 2147483647 from by decide) ⟨(183, 7, 13), by simp [yySk], ⟨⟨by decide, rfl⟩, by decide, by decide⟩⟩
  obtain ⟨ujZ14, ujzk14⟩ : ∃ X : xH, X = (xUp ujZ13.1 183 13 (-1), ujZ13.2) := ⟨_, rfl⟩
  rw [← ujzk14] at ujzc14 ⊢
  have ujzg14 : ujZ14.1 183 12 = 0 := by rw [ujzk14]; exact (up_j (D := ujZ13.1) (a := 183) (j := 13) (x := (-1)) (k := 12) (by decide)).trans ujzg13
  refine q_al (pc := 16) (i := 0) (x := 183) rfl rfl ?_
  refine q_gf (pc := 17) (m := 12142) (t := 2) (c := 14) rfl (ttKc ujzc14.1 (a := 183) (κ := 12) (len := 0) ⟨rfl, rfl⟩ (by decide) (by decide)).1 rfl rfl ?_
  rw [show ujZ14.1 183 14 = 189 from ttFx ujzc14.1 (by decide) (by decide) rfl rfl rfl]
  refine q_ij (pc := 18) (q := 1639927) rfl rfl rfl ⟨by decide, trivial⟩ ?_
  refine lf_empties (by omega) ujzc14.1 (fun ujK9 kT9 kF9 k90 k97 k9c => ?_)
  have ujzg99 : ujK9.1 183 12 = 0 := (fr_no kF9 183 (by have := ujzc14.1.1; omega) rfl (by decide)).trans ujzg14
  replace kF9 := ttFr_tr ujzc14.2 kF9 (fun _ => rfl) (by decide)
  refine q_al (pc := 19) (i := 0) (x := 183) rfl rfl ?_
  refine q_ic (pc := 20) (v := 0) rfl ?_
  refine q_pf (pc := 21) (m := 12153) (c := 15) rfl (show xPt 3 0 _ _ from ⟨(ttKc kT9 (a := 183) (κ := 12) (len := 0) ⟨rfl, rfl⟩ (by decide) (by decide)).1, by omega⟩) rfl ?_
  have ujzc15 := ttPuT kT9 kF9 (a := 183) (j := 15) (x := 0) (by decide) (fun _ _ => show (0 : Int) ≤ (0 : Int) ∧ 0 ≤ 1 from by decide) ⟨(183, 15, 15), by simp [yySk], ⟨⟨by decide, rfl⟩, by decide, by decide⟩⟩
  obtain ⟨ujZ15, ujzk15⟩ : ∃ X : xH, X = (xUp ujK9.1 183 15 0, ujK9.2) := ⟨_, rfl⟩
  rw [← ujzk15] at ujzc15 ⊢
  have ujzg15 : ujZ15.1 183 12 = 0 := by rw [ujzk15]; exact (up_j (D := ujK9.1) (a := 183) (j := 15) (x := 0) (k := 12) (by decide)).trans ujzg99
  have z9 : ∀ j : Int, ujZ15.1 189 j = ujK9.1 189 j := fun j => by rw [ujzk15]; exact up_na (D := ujK9.1) (a := 183) (j := 15) (x := 0) (b := 189) (k := j) (by decide)
  refine q_al (pc := 22) (i := 0) (x := 183) rfl rfl ?_
  refine q_iv (pc := 23) (q := 1704967) rfl rfl rfl (ttKc ujzc15.1 (a := 183) (κ := 12) (len := 0) ⟨rfl, rfl⟩ (by decide) (by decide)).1 ?_
  refine lf_advance (by omega) ujzc15.1 (fun J jT jA => ?_)
  have ujj9 : ∀ j : Int, J.1 189 j = ujK9.1 189 j := fun j => (fr_no jA 189 (by have := ujzc15.1.1; omega) rfl (by decide)).trans (z9 j)
  have jF := ttFr_tr ujzc15.2 jA (fun _ => rfl) (by decide)
  refine h24 61 J _ jT jF (fun _ => ⟨⟨fun l l0 l1 l2 => ?_, ?_, ?_, ?_⟩, ?_⟩)
  · rw [ujj9, k90 2 (by decide) (by decide) (by decide) (by decide) (by decide) (by decide)] at l2
    omega
  · rw [ujj9, k90 15 (by decide) (by decide) (by decide) (by decide) (by decide) (by decide)]
    decide
  · intro z
    rw [ujj9, k9c] at z
    exact absurd rfl z
  · rw [ujj9, k97]; decide
  · rw [ujj9, k90 0 (by decide) (by decide) (by decide) (by decide) (by decide) (by decide)]
    decide
