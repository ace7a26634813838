/-! the second reader: its sky -/
def zE0 : Int → Int := fun j => if j = 7 then 40 else if j = 8 then 40 else if j = 9 then 1000 else if j = 12 then -1 else 0
def zZ0 : tZ := ((0, 0, -1), zE0, 0)
/-- the world that is told -/
def zWd (E : tZ) : Int → Int := if E.2.1 12 = -1 then E.2.1 else sUp E.2.1 13 (max (E.2.1 (20 + 8 * E.2.1 12)) (min (E.2.1 7) (E.2.1 13)))
theorem zWd_n {E : tZ} {j : Int} (h : j ≠ 13) : zWd E j = E.2.1 j := by
  unfold zWd
  split
  · rfl
  · exact sUp_ne h
/-- what the second object has when its sky is read -/
def r2W (T : tSm) (E : tZ) (r : Int) (K : xH) : Prop := (K.1 183 12 = E.1.2.1 ∧ K.1 183 13 = E.1.2.2) ∧ (E.1.2.1 ≠ 0 → r = -4) ∧ (E.1.2.1 = 0 → r = E.2.1 0 ∧ ∀ j : Int, 0 ≤ j → j < 196 → K.1 184 j = zWd E j)
/-- a text of n signs has n + 1 tokens at most -/
theorem sOk_m {T : tSm} {n : Int} (h : sOk T n) : T.2.2.2.2 ≤ 1601 := by
  obtain ⟨h0, m1, h1, h2⟩ := h
  have key : ∀ k : Nat, (k : Int) < T.2.2.2.2 - 1 → (k : Int) + 1 ≤ T.2.2.2.1 (k : Int) ∧ T.2.2.2.1 (k : Int) ≤ n := by
    intro k
    induction k with
    | zero =>
      intro hk
      have w := h1 0 (by decide) (by omega)
      rw [show tPv T.2.2.2.1 0 = 0 from if_pos rfl] at w
      obtain ⟨⟨⟨a1, a2, -⟩, a⟩, nz⟩ := w
      have nz := nz (by omega)
      rcases a with ⟨-, b, -⟩ | ⟨-, ⟨b1, b2⟩, -⟩
      · exact absurd b nz
      · exact ⟨by show (0 : Int) + 1 ≤ T.2.2.2.1 0; omega, b2⟩
    | succ k ih =>
      intro hk
      have hk : (k : Int) + 1 < T.2.2.2.2 - 1 := by omega
      have i := ih (by omega)
      have w := h1 ((k : Int) + 1) (by omega) (by omega)
      rw [show tPv T.2.2.2.1 ((k : Int) + 1) = T.2.2.2.1 (k : Int) from by unfold tPv; rw [if_neg (by omega), show (k : Int) + 1 - 1 = (k : Int) by omega]] at w
      obtain ⟨⟨⟨a1, a2, -⟩, a⟩, nz⟩ := w
      have nz := nz (by omega)
      rw [show ((k + 1 : Nat) : Int) = (k : Int) + 1 from by omega]
      rcases a with ⟨-, b, -⟩ | ⟨-, ⟨b1, b2⟩, -⟩
      · exact absurd b nz
      · exact ⟨by omega, b2⟩
  by_cases z : T.2.2.2.2 ≤ 1601
  · exact z
  · have w := key 1600 (by omega)
    omega
theorem lf_empties2 {dd : Nat} (hd : 1 ≤ dd) {H : xH} (hT : ttTI H) {Q : Int → xH → Prop} (hQ : ∀ K, ttTI K → ttFr (true, [(189, 0, 195)]) H K → (∀ j : Int, 0 ≤ j → j < 196 → j ≠ 7 → j ≠ 8 → j ≠ 9 → j ≠ 12 → K.1 189 j = 0) → K.1 189 7 = 40 → K.1 189 12 = -1 → K.1 189 8 = 40 → K.1 189 9 = 1000 → Q 0 K) : xCall dd 204 [(2, 189)] H Q := by
  obtain ⟨e, rfl, he⟩ := ttRun0 (n := 0) hd
  have hl : ∀ n : Nat, ∀ (K : xH) (i : Int), 0 ≤ i → i ≤ 196 → 196 - i ≤ (n : Int) → ttTI K → ttFr (true, [(189, 0, 195)]) H K → (∀ j : Int, 0 ≤ j → j < i → K.1 189 j = 0) → xW e cd_204 Q (2, [(2, 189), (0, i)], [], K) := by
    intro n
    induction n with
    | zero =>
      intro K i i0 i1 hn2 kT kF kz
      refine q_il (pc := 2) (i := 1) (x := i) rfl rfl ?_
      refine q_ic (pc := 3) (v := 196) rfl ?_
      refine q_i2 (pc := 4) rfl (fun h4 => ?_) (fun h4 => ?_)
      · replace h4 : 196 ≤ i := h4
        refine q_al (pc := 11) (i := 0) (x := 189) rfl rfl ?_
        refine q_ic (pc := 12) (v := 7) rfl ?_
        refine q_ic (pc := 13) (v := 40) rfl ?_
        refine q_si (pc := 14) rfl (by decide) (ttKc kT (a := 189) (κ := 20) (len := 196) ⟨rfl, rfl⟩ (by decide) (by decide)).1 (by omega) (by rw [(ttKc kT (a := 189) (κ := 20) (len := 196) ⟨rfl, rfl⟩ (by decide) (by decide)).2]; omega) ?_
        have ujzc1 := ttPuT kT kF (a := 189) (j := 7) (x := 40) (by decide) (fun _ _ => show (0 : Int) ≤ 40 ∧ 40 ≤ 60 from by decide) ⟨(189, 0, 195), by simp, ⟨⟨by decide, rfl⟩, by show (0 : Int) ≤ 7; omega, by show 7 ≤ (195 : Int); omega⟩⟩
        obtain ⟨ujZ1, ujzk1⟩ : ∃ X : xH, X = (xUp K.1 189 7 40, K.2) := ⟨_, rfl⟩
        rw [← ujzk1] at ujzc1 ⊢
        have ujzo1 : ∀ j : Int, j ≠ 7 → ujZ1.1 189 j = K.1 189 j := fun j hj => by rw [ujzk1]; exact (show xUp K.1 189 7 40 189 j = _ from up_ne (by omega))
        have ujze1 : ujZ1.1 189 7 = 40 := by rw [ujzk1]; exact up_eq (D := K.1) (a := 189) (j := 7) (x := 40)
        refine q_al (pc := 15) (i := 0) (x := 189) rfl rfl ?_
        refine q_ic (pc := 16) (v := 8) rfl ?_
        refine q_ic (pc := 17) (v := 40) rfl ?_
        refine q_si (pc := 18) rfl (by decide) (ttKc ujzc1.1 (a := 189) (κ := 20) (len := 196) ⟨rfl, rfl⟩ (by decide) (by decide)).1 (by omega) (by rw [(ttKc ujzc1.1 (a := 189) (κ := 20) (len := 196) ⟨rfl, rfl⟩ (by decide) (by decide)).2]; omega) ?_
        have ujzc2 := ttPuT ujzc1.1 ujzc1.2 (a := 189) (j := 8) (x := 40) (by decide) (fun _ _ => show (0 : Int) ≤ 40 ∧ 40 ≤ 47 from by decide) ⟨(189, 0, 195), by simp, ⟨⟨by decide, rfl⟩, by show (0 : Int) ≤ 8; omega, by show 8 ≤ (195 : Int); omega⟩⟩
        obtain ⟨ujZ2, ujzk2⟩ : ∃ X : xH, X = (xUp ujZ1.1 189 8 40, ujZ1.2) := ⟨_, rfl⟩
        rw [← ujzk2] at ujzc2 ⊢
        have ujzo2 : ∀ j : Int, j ≠ 8 → ujZ2.1 189 j = ujZ1.1 189 j := fun j hj => by rw [ujzk2]; exact (show xUp ujZ1.1 189 8 40 189 j = _ from up_ne (by omega))
        have ujze2 : ujZ2.1 189 8 = 40 := by rw [ujzk2]; exact up_eq (D := ujZ1.1) (a := 189) (j := 8) (x := 40)
        refine q_al (pc := 19) (i := 0) (x := 189) rfl rfl ?_
        refine q_ic (pc := 20) (v := 9) rfl ?_
        refine q_ic (pc := 21) (v := 1000) rfl ?_
        refine q_si (pc := 22) rfl (by decide) (ttKc ujzc2.1 (a := 189) (κ := 20) (len := 196) ⟨rfl, rfl⟩ (by decide) (by decide)).1 (by omega) (by rw [(ttKc ujzc2.1 (a := 189) (κ := 20) (len := 196) ⟨rfl, rfl⟩ (by decide) (by decide)).2]; omega) ?_
        have ujzc3 := ttPuT ujzc2.1 ujzc2.2 (a := 189) (j := 9) (x := 1000) (by decide) (fun _ _ => show (0 : Int) ≤ 1000 ∧ 1000 ≤ 9999 from by decide) ⟨(189, 0, 195), by simp, ⟨⟨by decide, rfl⟩, by show (0 : Int) ≤ 9; omega, by show 9 ≤ (195 : Int); omega⟩⟩
        obtain ⟨ujZ3, ujzk3⟩ : ∃ X : xH, X = (xUp ujZ2.1 189 9 1000, ujZ2.2) := ⟨_, rfl⟩
        rw [← ujzk3] at ujzc3 ⊢
        have ujzo3 : ∀ j : Int, j ≠ 9 → ujZ3.1 189 j = ujZ2.1 189 j := fun j hj => by rw [ujzk3]; exact (show xUp ujZ2.1 189 9 1000 189 j = _ from up_ne (by omega))
        have ujze3 : ujZ3.1 189 9 = 1000 := by rw [ujzk3]; exact up_eq (D := ujZ2.1) (a := 189) (j := 9) (x := 1000)
        refine q_al (pc := 23) (i := 0) (x := 189) rfl rfl ?_
        refine q_ic (pc := 24) (v := 12) rfl ?_
        refine q_ic (pc := 25) (v := (-1)) rfl ?_
        refine q_si (pc := 26) rfl (by decide) (ttKc ujzc3.1 (a := 189) (κ := 20) (len := 196) ⟨rfl, rfl⟩ (by decide) (by decide)).1 (by omega) (by rw [(ttKc ujzc3.1 (a := 189) (κ := 20) (len := 196) ⟨rfl, rfl⟩ (by decide) (by decide)).2]; omega) ?_
        have ujzc4 := ttPuT ujzc3.1 ujzc3.2 (a := 189) (j := 12) (x := (-1)) (by decide) (fun _ _ => show (-1 : Int) ≤ (-1) ∧ (-1) ≤ 7 from by decide) ⟨(189, 0, 195), by simp, ⟨⟨by decide, rfl⟩, by show (0 : Int) ≤ 12; omega, by show 12 ≤ (195 : Int); omega⟩⟩
        obtain ⟨ujZ4, ujzk4⟩ : ∃ X : xH, X = (xUp ujZ3.1 189 12 (-1), ujZ3.2) := ⟨_, rfl⟩
        rw [← ujzk4] at ujzc4 ⊢
        have ujzo4 : ∀ j : Int, j ≠ 12 → ujZ4.1 189 j = ujZ3.1 189 j := fun j hj => by rw [ujzk4]; exact (show xUp ujZ3.1 189 12 (-1) 189 j = _ from up_ne (by omega))
        have ujze4 : ujZ4.1 189 12 = (-1) := by rw [ujzk4]; exact up_eq (D := ujZ3.1) (a := 189) (j := 12) (x := (-1))
        refine q_rv (pc := 27) rfl ?_
        exact hQ ujZ4 ujzc4.1 ujzc4.2 (fun j ujj0 ujj1 ujj7 ujj8 ujj9 jc => (ujzo4 j jc).trans ((ujzo3 j ujj9).trans ((ujzo2 j ujj8).trans ((ujzo1 j ujj7).trans (kz j ujj0 (by omega)))))) ((ujzo4 7 (by decide)).trans ((ujzo3 7 (by decide)).trans ((ujzo2 7 (by decide)).trans ujze1))) ujze4 ((ujzo4 8 (by decide)).trans ((ujzo3 8 (by decide)).trans ujze2)) ((ujzo4 9 (by decide)).trans ujze3)
      · replace h4 : i < 196 := h4
        omega
    | succ n ih =>
      intro K i i0 i1 hn2 kT kF kz
      refine q_il (pc := 2) (i := 1) (x := i) rfl rfl ?_
      refine q_ic (pc := 3) (v := 196) rfl ?_
      refine q_i2 (pc := 4) rfl (fun h4 => ?_) (fun h4 => ?_)
      · replace h4 : 196 ≤ i := h4
        refine q_al (pc := 11) (i := 0) (x := 189) rfl rfl ?_
        refine q_ic (pc := 12) (v := 7) rfl ?_
        refine q_ic (pc := 13) (v := 40) rfl ?_
        refine q_si (pc := 14) rfl (by decide) (ttKc kT (a := 189) (κ := 20) (len := 196) ⟨rfl, rfl⟩ (by decide) (by decide)).1 (by omega) (by rw [(ttKc kT (a := 189) (κ := 20) (len := 196) ⟨rfl, rfl⟩ (by decide) (by decide)).2]; omega) ?_
        have ujzc5 := ttPuT kT kF (a := 189) (j := 7) (x := 40) (by decide) (fun _ _ => show (0 : Int) ≤ 40 ∧ 40 ≤ 60 from by decide) ⟨(189, 0, 195), by simp, ⟨⟨by decide, rfl⟩, by show (0 : Int) ≤ 7; omega, by show 7 ≤ (195 : Int); omega⟩⟩
        obtain ⟨ujZ5, ujzk5⟩ : ∃ X : xH, X = (xUp K.1 189 7 40, K.2) := ⟨_, rfl⟩
        rw [← ujzk5] at ujzc5 ⊢
        have ujzo5 : ∀ j : Int, j ≠ 7 → ujZ5.1 189 j = K.1 189 j := fun j hj => by rw [ujzk5]; exact (show xUp K.1 189 7 40 189 j = _ from up_ne (by omega))
        have ujze5 : ujZ5.1 189 7 = 40 := by rw [ujzk5]; exact up_eq (D := K.1) (a := 189) (j := 7) (x := 40)
        refine q_al (pc := 15) (i := 0) (x := 189) rfl rfl ?_
        refine q_ic (pc := 16) (v := 8) rfl ?_
        refine q_ic (pc := 17) (v := 40) rfl ?_
        refine q_si (pc := 18) rfl (by decide) (ttKc ujzc5.1 (a := 189) (κ := 20) (len := 196) ⟨rfl, rfl⟩ (by decide) (by decide)).1 (by omega) (by rw [(ttKc ujzc5.1 (a := 189) (κ := 20) (len := 196) ⟨rfl, rfl⟩ (by decide) (by decide)).2]; omega) ?_
        have ujzc6 := ttPuT ujzc5.1 ujzc5.2 (a := 189) (j := 8) (x := 40) (by decide) (fun _ _ => show (0 : Int) ≤ 40 ∧ 40 ≤ 47 from by decide) ⟨(189, 0, 195), by simp, ⟨⟨by decide, rfl⟩, by show (0 : Int) ≤ 8; omega, by show 8 ≤ (195 : Int); omega⟩⟩
        obtain ⟨ujZ6, ujzk6⟩ : ∃ X : xH, X = (xUp ujZ5.1 189 8 40, ujZ5.2) := ⟨_, rfl⟩
        rw [← ujzk6] at ujzc6 ⊢
        have ujzo6 : ∀ j : Int, j ≠ 8 → ujZ6.1 189 j = ujZ5.1 189 j := fun j hj => by rw [ujzk6]; exact (show xUp ujZ5.1 189 8 40 189 j = _ from up_ne (by omega))
        have ujze6 : ujZ6.1 189 8 = 40 := by rw [ujzk6]; exact up_eq (D := ujZ5.1) (a := 189) (j := 8) (x := 40)
        refine q_al (pc := 19) (i := 0) (x := 189) rfl rfl ?_
        refine q_ic (pc := 20) (v := 9) rfl ?_
        refine q_ic (pc := 21) (v := 1000) rfl ?_
        refine q_si (pc := 22) rfl (by decide) (ttKc ujzc6.1 (a := 189) (κ := 20) (len := 196) ⟨rfl, rfl⟩ (by decide) (by decide)).1 (by omega) (by rw [(ttKc ujzc6.1 (a := 189) (κ := 20) (len := 196) ⟨rfl, rfl⟩ (by decide) (by decide)).2]; omega) ?_
        have ujzc7 := ttPuT ujzc6.1 ujzc6.2 (a := 189) (j := 9) (x := 1000) (by decide) (fun _ _ => show (0 : Int) ≤ 1000 ∧ 1000 ≤ 9999 from by decide) ⟨(189, 0, 195), by simp, ⟨⟨by decide, rfl⟩, by show (0 : Int) ≤ 9; omega, by show 9 ≤ (195 : Int); omega⟩⟩
        obtain ⟨ujZ7, ujzk7⟩ : ∃ X : xH, X = (xUp ujZ6.1 189 9 1000, ujZ6.2) := ⟨_, rfl⟩
        rw [← ujzk7] at ujzc7 ⊢
        have ujzo7 : ∀ j : Int, j ≠ 9 → ujZ7.1 189 j = ujZ6.1 189 j := fun j hj => by rw [ujzk7]; exact (show xUp ujZ6.1 189 9 1000 189 j = _ from up_ne (by omega))
        have ujze7 : ujZ7.1 189 9 = 1000 := by rw [ujzk7]; exact up_eq (D := ujZ6.1) (a := 189) (j := 9) (x := 1000)
        refine q_al (pc := 23) (i := 0) (x := 189) rfl rfl ?_
        refine q_ic (pc := 24) (v := 12) rfl ?_
        refine q_ic (pc := 25) (v := (-1)) rfl ?_
        refine q_si (pc := 26) rfl (by decide) (ttKc ujzc7.1 (a := 189) (κ := 20) (len := 196) ⟨rfl, rfl⟩ (by decide) (by decide)).1 (by omega) (by rw [(ttKc ujzc7.1 (a := 189) (κ := 20) (len := 196) ⟨rfl, rfl⟩ (by decide) (by decide)).2]; omega) ?_
        have ujzc8 := ttPuT ujzc7.1 ujzc7.2 (a := 189) (j := 12) (x := (-1)) (by decide) (fun _ _ => show (-1 : Int) ≤ (-1) ∧ (-1) ≤ 7 from by decide) ⟨(189, 0, 195), by simp, ⟨⟨by decide, rfl⟩, by show (0 : Int) ≤ 12; omega, by show 12 ≤ (195 : Int); omega⟩⟩
        obtain ⟨ujZ8, ujzk8⟩ : ∃ X : xH, X = (xUp ujZ7.1 189 12 (-1), ujZ7.2) := ⟨_, rfl⟩
        rw [← ujzk8] at ujzc8 ⊢
        have ujzo8 : ∀ j : Int, j ≠ 12 → ujZ8.1 189 j = ujZ7.1 189 j := fun j hj => by rw [ujzk8]; exact (show xUp ujZ7.1 189 12 (-1) 189 j = _ from up_ne (by omega))
        have ujze8 : ujZ8.1 189 12 = (-1) := by rw [ujzk8]; exact up_eq (D := ujZ7.1) (a := 189) (j := 12) (x := (-1))
        refine q_rv (pc := 27) rfl ?_
        exact hQ ujZ8 ujzc8.1 ujzc8.2 (fun j ujj0 ujj1 ujj7 ujj8 ujj9 jc => (ujzo8 j jc).trans ((ujzo7 j ujj9).trans ((ujzo6 j ujj8).trans ((ujzo5 j ujj7).trans (kz j ujj0 (by omega)))))) ((ujzo8 7 (by decide)).trans ((ujzo7 7 (by decide)).trans ((ujzo6 7 (by decide)).trans ujze5))) ujze8 ((ujzo8 8 (by decide)).trans ((ujzo7 8 (by decide)).trans ujze6)) ((ujzo8 9 (by decide)).trans ujze7)
      · replace h4 : i < 196 := h4
        refine q_al (pc := 5) (i := 0) (x := 189) rfl rfl ?_
        refine q_il (pc := 6) (i := 1) (x := i) rfl rfl ?_
        refine q_ic (pc := 7) (v := 0) rfl ?_
        refine q_si (pc := 8) rfl (by decide) (ttKc kT (a := 189) (κ := 20) (len := 196) ⟨rfl, rfl⟩ (by decide) (by decide)).1 (by omega) (by rw [(ttKc kT (a := 189) (κ := 20) (len := 196) ⟨rfl, rfl⟩ (by decide) (by decide)).2]; omega) ?_
        have ujzc9 := ttPuT kT kF (a := 189) (j := i) (x := 0) (by decide) (fun _ _ => ty_0 (by omega) (by omega)) ⟨(189, 0, 195), by simp, ⟨⟨by decide, rfl⟩, by show (0 : Int) ≤ i; omega, by show i ≤ (195 : Int); omega⟩⟩
        obtain ⟨ujZ9, ujzk9⟩ : ∃ X : xH, X = (xUp K.1 189 i 0, K.2) := ⟨_, rfl⟩
        rw [← ujzk9] at ujzc9 ⊢
        have ujzo9 : ∀ j : Int, j ≠ i → ujZ9.1 189 j = K.1 189 j := fun j hj => by rw [ujzk9]; exact (show xUp K.1 189 i 0 189 j = _ from up_ne (by omega))
        have ujze9 : ujZ9.1 189 i = 0 := by rw [ujzk9]; exact up_eq (D := K.1) (a := 189) (j := i) (x := 0)
        refine q_ii (pc := 9) (i := 1) (c := 1) (x := i) (L' := [(2, 189), (0, (i + 1))]) rfl rfl rfl (by omega) (by omega) rfl ?_
        refine q_go (pc := 10) rfl ?_
        exact ih ujZ9 (i + 1) (by omega) (by omega) (by omega) ujzc9.1 ujzc9.2 (fun j ujj0 ujj1 => by
          by_cases z : j = i
          · rw [z]; exact ujze9
          · exact (ujzo9 j z).trans (kz j ujj0 (by omega)))
  refine xC_of (L := [(2, 189), (9, 0)]) (cd := cd_204) rfl rfl rfl ?_
  refine q_ic (pc := 0) (v := 0) rfl ?_
  refine q_is (pc := 1) (i := 1) (L' := [(2, 189), (0, 0)]) rfl rfl rfl ?_
  exact hl 196 H 0 (by decide) (by decide) (by decide) hT (ttFr_rf _ H) (fun j ujj0 ujj1 => by omega)
theorem s2_80 {e : Nat} (he : 13 ≤ e) {T : tSm} {E : tZ} {J : xH} {x1 : xV} (jT : ttTI J) (jf : J.1 183 12 = E.1.2.1 ∧ J.1 183 13 = E.1.2.2) (f0 : E.1.2.1 = 0) (jw : ∀ j : Int, 0 ≤ j → j < 196 → J.1 184 j = zWd E j) {Q : Int → xH → Prop} (hq : ∀ r K, r2W T E r K → Q r K) : xW e cd_233 Q (80, [(2, 183), x1], [], J) := by
  have jn : 210 ≤ (J.2.2.2.1 : Int) := by have := jT.1; omega
  refine q_al (pc := 80) (i := 0) (x := 183) rfl rfl ?_
  refine q_iv (pc := 81) (q := 2128967) rfl rfl rfl (ttKc jT (a := 183) (κ := 12) (len := 0) ⟨rfl, rfl⟩ (by decide) (by decide)).1 ?_
  refine lf_forgets (by omega) jT (fun M mT mF m22 m29 => ?_)
  have m4 : ∀ j : Int, M.1 184 j = J.1 184 j := fun j => fr_no mF 184 (by omega) rfl (by decide)
  refine q_al (pc := 82) (i := 0) (x := 183) rfl rfl ?_
  refine q_gf (pc := 83) (m := 12012) (t := 2) (c := 1) rfl (ttKc mT (a := 183) (κ := 12) (len := 0) ⟨rfl, rfl⟩ (by decide) (by decide)).1 rfl rfl ?_
  rw [show M.1 183 1 = 184 from ttFx mT (by decide) (by decide) rfl rfl rfl]
  refine q_ic (pc := 84) (v := 0) rfl ?_
  refine q_ai (pc := 85) rfl (ttKc mT (a := 184) (κ := 20) (len := 196) ⟨rfl, rfl⟩ (by decide) (by decide)).1 (by omega) (by rw [(ttKc mT (a := 184) (κ := 20) (len := 196) ⟨rfl, rfl⟩ (by decide) (by decide)).2]; omega) ?_
  refine q_ri (pc := 86) rfl ?_
  refine hq _ M ⟨⟨(fr_cl mF (a := 183) (j := 12) (by omega) (by decide)).trans jf.1, (fr_cl mF (a := 183) (j := 13) (by omega) (by decide)).trans jf.2⟩, fun y => absurd f0 y, fun _ => ⟨?_, fun j ujj0 ujj1 => (m4 j).trans (jw j ujj0 ujj1)⟩⟩
  rw [m4 0, jw 0 (by decide) (by decide)]
  exact zWd_n (by decide)
theorem s2_53 {e : Nat} (he : 13 ≤ e) {T : tSm} {E : tZ} {K : xH} {x1 : xV} (kT : ttTI K) (kf : K.1 183 12 = E.1.2.1 ∧ K.1 183 13 = E.1.2.2) (f0 : E.1.2.1 = 0) (kw : ∀ j : Int, 0 ≤ j → j < 196 → K.1 184 j = E.2.1 j) {Q : Int → xH → Prop} (hq : ∀ r K, r2W T E r K → Q r K) : xW e cd_233 Q (53, [(2, 183), x1], [], K) := by
  have zs : -1 ≤ K.1 184 12 ∧ K.1 184 12 ≤ 7 := ttMc kT (a := 184) (j := 12) (by decide) (by decide) (by decide) (by decide)
  have zh : 0 ≤ K.1 184 13 ∧ K.1 184 13 ≤ 60 := ttMc kT (a := 184) (j := 13) (by decide) (by decide) (by decide) (by decide)
  have zc : 0 ≤ K.1 184 7 ∧ K.1 184 7 ≤ 60 := ttMc kT (a := 184) (j := 7) (by decide) (by decide) (by decide) (by decide)
  refine q_al (pc := 53) (i := 0) (x := 183) rfl rfl ?_
  refine q_gf (pc := 54) (m := 12012) (t := 2) (c := 1) rfl (ttKc kT (a := 183) (κ := 12) (len := 0) ⟨rfl, rfl⟩ (by decide) (by decide)).1 rfl rfl ?_
  rw [show K.1 183 1 = 184 from ttFx kT (by decide) (by decide) rfl rfl rfl]
  refine q_ic (pc := 55) (v := 12) rfl ?_
  refine q_ai (pc := 56) rfl (ttKc kT (a := 184) (κ := 20) (len := 196) ⟨rfl, rfl⟩ (by decide) (by decide)).1 (by omega) (by rw [(ttKc kT (a := 184) (κ := 20) (len := 196) ⟨rfl, rfl⟩ (by decide) (by decide)).2]; omega) ?_
  refine q_ic (pc := 57) (v := (-1)) rfl ?_
  refine q_i2 (pc := 58) rfl (fun h58 => ?_) (fun h58 => ?_)
  · replace h58 : (K.1 184 12) = (-1) := h58
    refine s2_80 he kT kf f0 (fun j ujj0 ujj1 => ?_) hq
    rw [kw j ujj0 ujj1]
    unfold zWd
    rw [if_pos (by rw [← kw 12 (by decide) (by decide)]; exact h58)]
  · replace h58 : (K.1 184 12) ≠ (-1) := h58
    refine q_al (pc := 59) (i := 0) (x := 183) rfl rfl ?_
    refine q_gf (pc := 60) (m := 12012) (t := 2) (c := 1) rfl (ttKc kT (a := 183) (κ := 12) (len := 0) ⟨rfl, rfl⟩ (by decide) (by decide)).1 rfl rfl ?_
    rw [show K.1 183 1 = 184 from ttFx kT (by decide) (by decide) rfl rfl rfl]
    refine q_ic (pc := 61) (v := 13) rfl ?_
    refine q_al (pc := 62) (i := 0) (x := 183) rfl rfl ?_
    refine q_al (pc := 63) (i := 0) (x := 183) rfl rfl ?_
    refine q_gf (pc := 64) (m := 12012) (t := 2) (c := 1) rfl (ttKc kT (a := 183) (κ := 12) (len := 0) ⟨rfl, rfl⟩ (by decide) (by decide)).1 rfl rfl ?_
    rw [show K.1 183 1 = 184 from ttFx kT (by decide) (by decide) rfl rfl rfl]
    refine q_ic (pc := 65) (v := 12) rfl ?_
    refine q_ai (pc := 66) rfl (ttKc kT (a := 184) (κ := 20) (len := 196) ⟨rfl, rfl⟩ (by decide) (by decide)).1 (by omega) (by rw [(ttKc kT (a := 184) (κ := 20) (len := 196) ⟨rfl, rfl⟩ (by decide) (by decide)).2]; omega) ?_
    refine q_ic (pc := 67) (v := 0) rfl ?_
    refine q_iv (pc := 68) (q := 1664972) rfl rfl rfl (ttKc kT (a := 183) (κ := 12) (len := 0) ⟨rfl, rfl⟩ (by decide) (by decide)).1 ?_
    refine lf_ofPlace (j := (20 + 8 * (K.1 184 12))) (by omega) (by omega) kT (by omega) (by omega) (by omega) (by omega) ?_
    have zg := pl_ty kT (p := K.1 184 12) (by omega) (by omega)
    refine q_al (pc := 69) (i := 0) (x := 183) rfl rfl ?_
    refine q_gf (pc := 70) (m := 12012) (t := 2) (c := 1) rfl (ttKc kT (a := 183) (κ := 12) (len := 0) ⟨rfl, rfl⟩ (by decide) (by decide)).1 rfl rfl ?_
    rw [show K.1 183 1 = 184 from ttFx kT (by decide) (by decide) rfl rfl rfl]
    refine q_ic (pc := 71) (v := 7) rfl ?_
    refine q_ai (pc := 72) rfl (ttKc kT (a := 184) (κ := 20) (len := 196) ⟨rfl, rfl⟩ (by decide) (by decide)).1 (by omega) (by rw [(ttKc kT (a := 184) (κ := 20) (len := 196) ⟨rfl, rfl⟩ (by decide) (by decide)).2]; omega) ?_
    refine q_al (pc := 73) (i := 0) (x := 183) rfl rfl ?_
    refine q_gf (pc := 74) (m := 12012) (t := 2) (c := 1) rfl (ttKc kT (a := 183) (κ := 12) (len := 0) ⟨rfl, rfl⟩ (by decide) (by decide)).1 rfl rfl ?_
    rw [show K.1 183 1 = 184 from ttFx kT (by decide) (by decide) rfl rfl rfl]
    refine q_ic (pc := 75) (v := 13) rfl ?_
    refine q_ai (pc := 76) rfl (ttKc kT (a := 184) (κ := 20) (len := 196) ⟨rfl, rfl⟩ (by decide) (by decide)).1 (by omega) (by rw [(ttKc kT (a := 184) (κ := 20) (len := 196) ⟨rfl, rfl⟩ (by decide) (by decide)).2]; omega) ?_
    refine q_mn (pc := 77) rfl rfl (by omega) ?_
    refine q_mx (pc := 78) rfl rfl (by omega) ?_
    refine q_si (pc := 79) rfl (by decide) (ttKc kT (a := 184) (κ := 20) (len := 196) ⟨rfl, rfl⟩ (by decide) (by decide)).1 (by omega) (by rw [(ttKc kT (a := 184) (κ := 20) (len := 196) ⟨rfl, rfl⟩ (by decide) (by decide)).2]; omega) ?_
    have zv : 0 ≤ (max (K.1 184 (20 + 8 * (K.1 184 12))) (min (K.1 184 7) (K.1 184 13))) ∧ (max (K.1 184 (20 + 8 * (K.1 184 12))) (min (K.1 184 7) (K.1 184 13))) ≤ 60 := by omega
    have yc := ttPuT kT (ttFr_rf (true, [(184, 0, 195)]) K) (a := 184) (j := 13) (x := (max (K.1 184 (20 + 8 * (K.1 184 12))) (min (K.1 184 7) (K.1 184 13)))) (by decide) (fun _ _ => show (0 : Int) ≤ (max (K.1 184 (20 + 8 * (K.1 184 12))) (min (K.1 184 7) (K.1 184 13))) ∧ (max (K.1 184 (20 + 8 * (K.1 184 12))) (min (K.1 184 7) (K.1 184 13))) ≤ 60 from zv) ⟨(184, 0, 195), by simp, ⟨⟨by decide, rfl⟩, by decide, by decide⟩⟩
    obtain ⟨Y, jY⟩ : ∃ X : xH, X = (xUp K.1 184 13 (max (K.1 184 (20 + 8 * (K.1 184 12))) (min (K.1 184 7) (K.1 184 13))), K.2) := ⟨_, rfl⟩
    rw [← jY] at yc ⊢
    have ye : Y.1 184 13 = (max (K.1 184 (20 + 8 * (K.1 184 12))) (min (K.1 184 7) (K.1 184 13))) := by rw [jY]; exact up_eq (D := K.1) (a := 184) (j := 13) (x := (max (K.1 184 (20 + 8 * (K.1 184 12))) (min (K.1 184 7) (K.1 184 13))))
    have yo : ∀ j : Int, j ≠ 13 → Y.1 184 j = K.1 184 j := fun j hj => by rw [jY]; exact (show xUp K.1 184 13 (max (K.1 184 (20 + 8 * (K.1 184 12))) (min (K.1 184 7) (K.1 184 13))) 184 j = _ from up_ne (by omega))
    have yf : Y.1 183 12 = K.1 183 12 ∧ Y.1 183 13 = K.1 183 13 := by rw [jY]; exact ⟨up_na (D := K.1) (a := 184) (j := 13) (x := (max (K.1 184 (20 + 8 * (K.1 184 12))) (min (K.1 184 7) (K.1 184 13)))) (b := 183) (k := 12) (by decide), up_na (D := K.1) (a := 184) (j := 13) (x := (max (K.1 184 (20 + 8 * (K.1 184 12))) (min (K.1 184 7) (K.1 184 13)))) (b := 183) (k := 13) (by decide)⟩
    refine s2_80 he yc.1 ⟨yf.1.trans kf.1, yf.2.trans kf.2⟩ f0 (fun j ujj0 ujj1 => ?_) hq
    have e12 := kw 12 (by decide) (by decide)
    unfold zWd
    rw [if_neg (by rw [← e12]; exact h58)]
    by_cases z : j = 13
    · rw [z, ye, sUp_eq, ← kw 7 (by decide) (by decide), ← kw 13 (by decide) (by decide), ← kw (20 + 8 * E.2.1 12) (by omega) (by omega), ← e12]
    · rw [yo j z, sUp_ne z]; exact kw j ujj0 ujj1
theorem s2_40 {e : Nat} (he : 13 ≤ e) {T : tSm} {E : tZ} {G : xH} (gT : ttTI G) (gf : G.1 183 12 = E.1.2.1 ∧ G.1 183 13 = E.1.2.2) (f0 : E.1.2.1 = 0) (gw : ∀ j : Int, 0 ≤ j → j < 196 → G.1 189 j = E.2.1 j) {Q : Int → xH → Prop} (hq : ∀ r K, r2W T E r K → Q r K) : ∀ n : Nat, ∀ (K : xH) (i : Int), 0 ≤ i → i ≤ 196 → 196 - i ≤ (n : Int) → ttTI K → ttFr (true, [(184, 0, 195)]) G K → (∀ j : Int, 0 ≤ j → j < i → K.1 184 j = E.2.1 j) → xW e cd_233 Q (40, [(2, 183), (0, i)], [], K) := by
  have gn : 210 ≤ (G.2.2.2.1 : Int) := by have := gT.1; omega
  intro n
  induction n with
  | zero =>
    intro K i i0 i1 hn2 kT kF kj
    refine q_il (pc := 40) (i := 1) (x := i) rfl rfl ?_
    refine q_ic (pc := 41) (v := 196) rfl ?_
    refine q_i2 (pc := 42) rfl (fun h42 => ?_) (fun h42 => ?_)
    · replace h42 : 196 ≤ i := h42
      exact s2_53 he kT ⟨(fr_no kF 183 (by omega) rfl (by decide)).trans gf.1, (fr_no kF 183 (by omega) rfl (by decide)).trans gf.2⟩ f0 (fun j ujj0 ujj1 => kj j ujj0 (by omega)) hq
    · replace h42 : i < 196 := h42
      omega
  | succ n ih =>
    intro K i i0 i1 hn2 kT kF kj
    refine q_il (pc := 40) (i := 1) (x := i) rfl rfl ?_
    refine q_ic (pc := 41) (v := 196) rfl ?_
    refine q_i2 (pc := 42) rfl (fun h42 => ?_) (fun h42 => ?_)
    · replace h42 : 196 ≤ i := h42
      exact s2_53 he kT ⟨(fr_no kF 183 (by omega) rfl (by decide)).trans gf.1, (fr_no kF 183 (by omega) rfl (by decide)).trans gf.2⟩ f0 (fun j ujj0 ujj1 => kj j ujj0 (by omega)) hq
    · replace h42 : i < 196 := h42
      refine q_al (pc := 43) (i := 0) (x := 183) rfl rfl ?_
      refine q_gf (pc := 44) (m := 12012) (t := 2) (c := 1) rfl (ttKc kT (a := 183) (κ := 12) (len := 0) ⟨rfl, rfl⟩ (by decide) (by decide)).1 rfl rfl ?_
      rw [show K.1 183 1 = 184 from ttFx kT (by decide) (by decide) rfl rfl rfl]
      refine q_il (pc := 45) (i := 1) (x := i) rfl rfl ?_
      refine q_al (pc := 46) (i := 0) (x := 183) rfl rfl ?_
      refine q_gf (pc := 47) (m := 12142) (t := 2) (c := 14) rfl (ttKc kT (a := 183) (κ := 12) (len := 0) ⟨rfl, rfl⟩ (by decide) (by decide)).1 rfl rfl ?_
      rw [show K.1 183 14 = 189 from ttFx kT (by decide) (by decide) rfl rfl rfl]
      refine q_il (pc := 48) (i := 1) (x := i) rfl rfl ?_
      refine q_ai (pc := 49) rfl (ttKc kT (a := 189) (κ := 20) (len := 196) ⟨rfl, rfl⟩ (by decide) (by decide)).1 (by omega) (by rw [(ttKc kT (a := 189) (κ := 20) (len := 196) ⟨rfl, rfl⟩ (by decide) (by decide)).2]; omega) ?_
      refine q_si (pc := 50) rfl (by decide) (ttKc kT (a := 184) (κ := 20) (len := 196) ⟨rfl, rfl⟩ (by decide) (by decide)).1 (by omega) (by rw [(ttKc kT (a := 184) (κ := 20) (len := 196) ⟨rfl, rfl⟩ (by decide) (by decide)).2]; omega) ?_
      have k := ttMc kT (a := 189) (j := i) (by decide) (by decide) i0 (by show i < 196; omega)
      have c := ttPuT kT kF (a := 184) (j := i) (x := K.1 189 i) (by decide) (fun _ _ => by rw [show ttRo 184 = 184 from rfl, ty_w9 i]; exact k) ⟨(184, 0, 195), by simp, ⟨⟨by decide, rfl⟩, by show (0 : Int) ≤ i; omega, by show i ≤ (195 : Int); omega⟩⟩
      refine q_ii (pc := 51) (i := 1) (c := 1) (x := i) (L' := [(2, 183), (0, (i + 1))]) rfl rfl rfl (by omega) (by omega) rfl ?_
      refine q_go (pc := 52) rfl ?_
      exact ih _ (i + 1) (by omega) (by omega) (by omega) c.1 c.2 (fun j ujj0 ujj1 => by
        by_cases z : j = i
        · subst z
          exact (show xUp K.1 184 j (K.1 189 j) 184 j = _ from up_eq).trans ((fr_no kF 189 (by omega) rfl (by decide)).trans (gw j ujj0 (by omega)))
        · exact (show xUp K.1 184 i (K.1 189 i) 184 j = _ from up_ne (by omega)).trans (kj j ujj0 (by omega)))
theorem s2_24 {e : Nat} (he : 13 ≤ e) {I : xH} {T : tSm} {n : Int} (hO : sOk T n) {Q : Int → xH → Prop} : ∀ k : Nat, ∀ (K : xH) (Z : tZ) (x1 : xV), rA T n I K Z → (Z.1.2.1 = 0 → T.2.2.2.2 - Z.1.1 ≤ (k : Int)) → (∀ r M E, zEnd T Z E → r2W T E r M → (E.1.2.1 ≠ 0 → ∀ j : Int, M.1 184 j = I.1 184 j) → Q r M) → xW e cd_233 Q (24, [(2, 183), x1], [], K) := by
  intro k
  induction k with
  | zero =>
    intro K Z x1 zA hk hq
    have kT := zA.1
    have zi := zA.2.2.1.1.1
    refine q_al (pc := 24) (i := 0) (x := 183) rfl rfl ?_
    refine q_iv (pc := 25) (q := 1712964) rfl rfl rfl (ttKc kT (a := 183) (κ := 12) (len := 0) ⟨rfl, rfl⟩ (by decide) (by decide)).1 ?_
    refine la_good (by omega) zA (fun jg25 => ?_) (fun jg25 => ?_)
    · skip
      refine q_if (pc := 26) rfl (fun h26 => ?_) (fun h26 => ?_)
      · replace h26 : (1 : Int) = 0 := h26
        omega
      · replace h26 : (1 : Int) ≠ 0 := h26
        refine q_al (pc := 27) (i := 0) (x := 183) rfl rfl ?_
        refine q_gf (pc := 28) (m := 12100) (t := 0) (c := 10) rfl (ttKc kT (a := 183) (κ := 12) (len := 0) ⟨rfl, rfl⟩ (by decide) (by decide)).1 rfl rfl ?_
        rw [zA.2.2.1.1.2.2.2.1.1]
        refine q_if (pc := 29) rfl (fun h29 => ?_) (fun h29 => ?_)
        · replace h29 : (T.2.1 Z.1.1) = 0 := h29
          refine q_al (pc := 33) (i := 0) (x := 183) rfl rfl ?_
          refine q_iv (pc := 34) (q := 1712964) rfl rfl rfl (ttKc kT (a := 183) (κ := 12) (len := 0) ⟨rfl, rfl⟩ (by decide) (by decide)).1 ?_
          refine la_good (by omega) zA (fun jg34 => ?_) (fun jg34 => ?_)
          · skip
            refine q_if (pc := 35) rfl (fun h35 => ?_) (fun h35 => ?_)
            · replace h35 : (1 : Int) ≠ 0 := h35
              refine q_ic (pc := 38) (v := 0) rfl ?_
              refine q_is (pc := 39) (i := 1) (L' := [(2, 183), (0, 0)]) rfl rfl rfl ?_
              have zS : K.1 183 12 = Z.1.2.1 ∧ K.1 183 13 = Z.1.2.2 := by
                have w : (rS K Z.1.1).2 = Z.1.2 := by rw [zA.2.2.1.2]
                exact ⟨congrArg Prod.fst w, congrArg Prod.snd w⟩
              exact s2_40 he kT zS jg34 (fun j ujj0 ujj1 => zA.2.2.2.1 j ujj0 (by omega)) (fun r M hM => hq r M Z (zEnd_0 (fun y => y.2 h29)) hM (fun f => absurd jg34 f)) 196 K 0 (by decide) (by decide) (by decide) kT (ttFr_rf _ K) (fun j ujj0 ujj1 => by omega)
            · replace h35 : (1 : Int) = 0 := h35
              omega
          · skip
            refine q_if (pc := 35) rfl (fun h35 => ?_) (fun h35 => ?_)
            · replace h35 : (0 : Int) ≠ 0 := h35
              omega
            · replace h35 : (0 : Int) = 0 := h35
              refine q_ic (pc := 36) (v := (-4)) rfl ?_
              refine q_ri (pc := 37) rfl ?_
              have f : Z.1.2.1 ≠ 0 := jg34
              have zS : K.1 183 12 = Z.1.2.1 ∧ K.1 183 13 = Z.1.2.2 := by
                have w : (rS K Z.1.1).2 = Z.1.2 := by rw [zA.2.2.1.2]
                exact ⟨congrArg Prod.fst w, congrArg Prod.snd w⟩
              exact hq _ K Z (zEnd_0 (fun y => f y.1)) ⟨zS, fun _ => rfl, fun y => absurd y f⟩ (fun _ j => fr_no zA.2.1 184 (by have k := zA.1.1; rw [zA.2.1.1 rfl] at k; omega) rfl (by decide))
        · replace h29 : (T.2.1 Z.1.1) ≠ 0 := h29
          have := hk jg25
          omega
    · skip
      refine q_if (pc := 26) rfl (fun h26 => ?_) (fun h26 => ?_)
      · replace h26 : (0 : Int) = 0 := h26
        refine q_al (pc := 33) (i := 0) (x := 183) rfl rfl ?_
        refine q_iv (pc := 34) (q := 1712964) rfl rfl rfl (ttKc kT (a := 183) (κ := 12) (len := 0) ⟨rfl, rfl⟩ (by decide) (by decide)).1 ?_
        refine la_good (by omega) zA (fun jg34 => ?_) (fun jg34 => ?_)
        · skip
          refine q_if (pc := 35) rfl (fun h35 => ?_) (fun h35 => ?_)
          · replace h35 : (1 : Int) ≠ 0 := h35
            refine q_ic (pc := 38) (v := 0) rfl ?_
            refine q_is (pc := 39) (i := 1) (L' := [(2, 183), (0, 0)]) rfl rfl rfl ?_
            have zS : K.1 183 12 = Z.1.2.1 ∧ K.1 183 13 = Z.1.2.2 := by
              have w : (rS K Z.1.1).2 = Z.1.2 := by rw [zA.2.2.1.2]
              exact ⟨congrArg Prod.fst w, congrArg Prod.snd w⟩
            exact s2_40 he kT zS jg34 (fun j ujj0 ujj1 => zA.2.2.2.1 j ujj0 (by omega)) (fun r M hM => hq r M Z (zEnd_0 (fun y => jg25 y.1)) hM (fun f => absurd jg34 f)) 196 K 0 (by decide) (by decide) (by decide) kT (ttFr_rf _ K) (fun j ujj0 ujj1 => by omega)
          · replace h35 : (1 : Int) = 0 := h35
            omega
        · skip
          refine q_if (pc := 35) rfl (fun h35 => ?_) (fun h35 => ?_)
          · replace h35 : (0 : Int) ≠ 0 := h35
            omega
          · replace h35 : (0 : Int) = 0 := h35
            refine q_ic (pc := 36) (v := (-4)) rfl ?_
            refine q_ri (pc := 37) rfl ?_
            have f : Z.1.2.1 ≠ 0 := jg34
            have zS : K.1 183 12 = Z.1.2.1 ∧ K.1 183 13 = Z.1.2.2 := by
              have w : (rS K Z.1.1).2 = Z.1.2 := by rw [zA.2.2.1.2]
              exact ⟨congrArg Prod.fst w, congrArg Prod.snd w⟩
            exact hq _ K Z (zEnd_0 (fun y => f y.1)) ⟨zS, fun _ => rfl, fun y => absurd y f⟩ (fun _ j => fr_no zA.2.1 184 (by have k := zA.1.1; rw [zA.2.1.1 rfl] at k; omega) rfl (by decide))
      · replace h26 : (0 : Int) ≠ 0 := h26
        omega
  | succ k ih =>
    intro K Z x1 zA hk hq
    have kT := zA.1
    have zi := zA.2.2.1.1.1
    refine q_al (pc := 24) (i := 0) (x := 183) rfl rfl ?_
    refine q_iv (pc := 25) (q := 1712964) rfl rfl rfl (ttKc kT (a := 183) (κ := 12) (len := 0) ⟨rfl, rfl⟩ (by decide) (by decide)).1 ?_
    refine la_good (by omega) zA (fun jg25 => ?_) (fun jg25 => ?_)
    · skip
      refine q_if (pc := 26) rfl (fun h26 => ?_) (fun h26 => ?_)
      · replace h26 : (1 : Int) = 0 := h26
        omega
      · replace h26 : (1 : Int) ≠ 0 := h26
        refine q_al (pc := 27) (i := 0) (x := 183) rfl rfl ?_
        refine q_gf (pc := 28) (m := 12100) (t := 0) (c := 10) rfl (ttKc kT (a := 183) (κ := 12) (len := 0) ⟨rfl, rfl⟩ (by decide) (by decide)).1 rfl rfl ?_
        rw [zA.2.2.1.1.2.2.2.1.1]
        refine q_if (pc := 29) rfl (fun h29 => ?_) (fun h29 => ?_)
        · replace h29 : (T.2.1 Z.1.1) = 0 := h29
          refine q_al (pc := 33) (i := 0) (x := 183) rfl rfl ?_
          refine q_iv (pc := 34) (q := 1712964) rfl rfl rfl (ttKc kT (a := 183) (κ := 12) (len := 0) ⟨rfl, rfl⟩ (by decide) (by decide)).1 ?_
          refine la_good (by omega) zA (fun jg34 => ?_) (fun jg34 => ?_)
          · skip
            refine q_if (pc := 35) rfl (fun h35 => ?_) (fun h35 => ?_)
            · replace h35 : (1 : Int) ≠ 0 := h35
              refine q_ic (pc := 38) (v := 0) rfl ?_
              refine q_is (pc := 39) (i := 1) (L' := [(2, 183), (0, 0)]) rfl rfl rfl ?_
              have zS : K.1 183 12 = Z.1.2.1 ∧ K.1 183 13 = Z.1.2.2 := by
                have w : (rS K Z.1.1).2 = Z.1.2 := by rw [zA.2.2.1.2]
                exact ⟨congrArg Prod.fst w, congrArg Prod.snd w⟩
              exact s2_40 he kT zS jg34 (fun j ujj0 ujj1 => zA.2.2.2.1 j ujj0 (by omega)) (fun r M hM => hq r M Z (zEnd_0 (fun y => y.2 h29)) hM (fun f => absurd jg34 f)) 196 K 0 (by decide) (by decide) (by decide) kT (ttFr_rf _ K) (fun j ujj0 ujj1 => by omega)
            · replace h35 : (1 : Int) = 0 := h35
              omega
          · skip
            refine q_if (pc := 35) rfl (fun h35 => ?_) (fun h35 => ?_)
            · replace h35 : (0 : Int) ≠ 0 := h35
              omega
            · replace h35 : (0 : Int) = 0 := h35
              refine q_ic (pc := 36) (v := (-4)) rfl ?_
              refine q_ri (pc := 37) rfl ?_
              have f : Z.1.2.1 ≠ 0 := jg34
              have zS : K.1 183 12 = Z.1.2.1 ∧ K.1 183 13 = Z.1.2.2 := by
                have w : (rS K Z.1.1).2 = Z.1.2 := by rw [zA.2.2.1.2]
                exact ⟨congrArg Prod.fst w, congrArg Prod.snd w⟩
              exact hq _ K Z (zEnd_0 (fun y => f y.1)) ⟨zS, fun _ => rfl, fun y => absurd y f⟩ (fun _ j => fr_no zA.2.1 184 (by have k := zA.1.1; rw [zA.2.1.1 rfl] at k; omega) rfl (by decide))
        · replace h29 : (T.2.1 Z.1.1) ≠ 0 := h29
          refine q_al (pc := 30) (i := 0) (x := 183) rfl rfl ?_
          refine q_iv (pc := 31) (q := 1856967) rfl rfl rfl (ttKc kT (a := 183) (κ := 12) (len := 0) ⟨rfl, rfl⟩ (by decide) (by decide)).1 ?_
          refine la_readLine (by omega) hO zA jg25 (fun J jA => ?_)
          refine q_go (pc := 32) rfl ?_
          refine ih J _ _ jA (fun f => ?_) (fun r M E hE => hq r M E (zEnd_s ⟨jg25, h29⟩ hE))
          have u := zLn_m hO zi.2 h29 f
          have v := hk jg25
          omega
    · skip
      refine q_if (pc := 26) rfl (fun h26 => ?_) (fun h26 => ?_)
      · replace h26 : (0 : Int) = 0 := h26
        refine q_al (pc := 33) (i := 0) (x := 183) rfl rfl ?_
        refine q_iv (pc := 34) (q := 1712964) rfl rfl rfl (ttKc kT (a := 183) (κ := 12) (len := 0) ⟨rfl, rfl⟩ (by decide) (by decide)).1 ?_
        refine la_good (by omega) zA (fun jg34 => ?_) (fun jg34 => ?_)
        · skip
          refine q_if (pc := 35) rfl (fun h35 => ?_) (fun h35 => ?_)
          · replace h35 : (1 : Int) ≠ 0 := h35
            refine q_ic (pc := 38) (v := 0) rfl ?_
            refine q_is (pc := 39) (i := 1) (L' := [(2, 183), (0, 0)]) rfl rfl rfl ?_
            have zS : K.1 183 12 = Z.1.2.1 ∧ K.1 183 13 = Z.1.2.2 := by
              have w : (rS K Z.1.1).2 = Z.1.2 := by rw [zA.2.2.1.2]
              exact ⟨congrArg Prod.fst w, congrArg Prod.snd w⟩
            exact s2_40 he kT zS jg34 (fun j ujj0 ujj1 => zA.2.2.2.1 j ujj0 (by omega)) (fun r M hM => hq r M Z (zEnd_0 (fun y => jg25 y.1)) hM (fun f => absurd jg34 f)) 196 K 0 (by decide) (by decide) (by decide) kT (ttFr_rf _ K) (fun j ujj0 ujj1 => by omega)
          · replace h35 : (1 : Int) = 0 := h35
            omega
        · skip
          refine q_if (pc := 35) rfl (fun h35 => ?_) (fun h35 => ?_)
          · replace h35 : (0 : Int) ≠ 0 := h35
            omega
          · replace h35 : (0 : Int) = 0 := h35
            refine q_ic (pc := 36) (v := (-4)) rfl ?_
            refine q_ri (pc := 37) rfl ?_
            have f : Z.1.2.1 ≠ 0 := jg34
            have zS : K.1 183 12 = Z.1.2.1 ∧ K.1 183 13 = Z.1.2.2 := by
              have w : (rS K Z.1.1).2 = Z.1.2 := by rw [zA.2.2.1.2]
              exact ⟨congrArg Prod.fst w, congrArg Prod.snd w⟩
            exact hq _ K Z (zEnd_0 (fun y => f y.1)) ⟨zS, fun _ => rfl, fun y => absurd y f⟩ (fun _ j => fr_no zA.2.1 184 (by have k := zA.1.1; rw [zA.2.1.1 rfl] at k; omega) rfl (by decide))
      · replace h26 : (0 : Int) ≠ 0 := h26
        omega
theorem ly_sky {dd : Nat} (hd : 14 ≤ dd) {H : xH} (hT : ttTI H) {T : tSm} {n : Int} (hO : sOk T n) (en : H.1 183 5 = n) (ht : ∀ j : Int, 0 ≤ j → j < n → H.1 187 j = T.1 j) {Q : Int → xH → Prop} (hq : ∀ r K E, zEnd T zZ0 E → r2W T E r K → (E.1.2.1 ≠ 0 → ∀ j : Int, K.1 184 j = H.1 184 j) → Q r K) : xCall dd 233 [(2, 183)] H Q := by
  obtain ⟨e, rfl, he⟩ := ttRun0 (n := 13) hd
  have he : 13 ≤ e := he
  have n0 := hO.1
  have zr : ∀ j : Int, H.1 187 j = H.1 187 j := fun _ => rfl
  have zr4 : ∀ j : Int, H.1 184 j = H.1 184 j := fun _ => rfl
  refine xC_of (L := [(2, 183), (9, 0)]) (cd := cd_233) rfl rfl rfl ?_
  refine q_al (pc := 0) (i := 0) (x := 183) rfl rfl ?_
  refine q_al (pc := 1) (i := 0) (x := 183) rfl rfl ?_
  refine q_gf (pc := 2) (m := 12050) (t := 0) (c := 5) rfl (ttKc hT (a := 183) (κ := 12) (len := 0) ⟨rfl, rfl⟩ (by decide) (by decide)).1 rfl rfl ?_
  rw [en]
  refine q_pf (pc := 3) (m := 12070) (c := 7) rfl (show xPt 0 0 _ _ from (ttKc hT (a := 183) (κ := 12) (len := 0) ⟨rfl, rfl⟩ (by decide) (by decide)).1) rfl ?_
  have ujzc1 := ttPuT hT (ttFr_rf (true, [(183, 7, 7)]) H) (a := 183) (j := 7) (x := n) (by decide) (fun _ _ => show (0 : Int) ≤ n ∧ n ≤ 1600 from by omega) ⟨(183, 7, 7), by simp, ⟨⟨by decide, rfl⟩, by decide, by decide⟩⟩
  obtain ⟨ujZ1, ujzk1⟩ : ∃ X : xH, X = (xUp H.1 183 7 n, H.2) := ⟨_, rfl⟩
  rw [← ujzk1] at ujzc1 ⊢
  have zg1_7 : ujZ1.1 183 7 = n := by rw [ujzk1]; exact up_eq (D := H.1) (a := 183) (j := 7) (x := n)
  have za1_187 : ∀ j : Int, ujZ1.1 187 j = H.1 187 j := fun j => by rw [ujzk1]; exact (up_na (D := H.1) (a := 183) (j := 7) (x := n) (b := 187) (k := j) (by decide)).trans (zr j)
  have za1_184 : ∀ j : Int, ujZ1.1 184 j = H.1 184 j := fun j => by rw [ujzk1]; exact (up_na (D := H.1) (a := 183) (j := 7) (x := n) (b := 184) (k := j) (by decide)).trans (zr4 j)
  refine q_al (pc := 4) (i := 0) (x := 183) rfl rfl ?_
  refine q_ic (pc := 5) (v := 0) rfl ?_
  refine q_pf (pc := 6) (m := 12050) (c := 5) rfl (show xPt 0 0 _ _ from (ttKc ujzc1.1 (a := 183) (κ := 12) (len := 0) ⟨rfl, rfl⟩ (by decide) (by decide)).1) rfl ?_
  have ujzc2 := ttPuT ujzc1.1 (ttFr_rf (true, [(183, 5, 5)]) ujZ1) (a := 183) (j := 5) (x := 0) (by decide) (fun _ _ => show (0 : Int) ≤ 0 ∧ 0 ≤ 1600 from by decide) ⟨(183, 5, 5), by simp, ⟨⟨by decide, rfl⟩, by decide, by decide⟩⟩
  obtain ⟨ujZ2, ujzk2⟩ : ∃ X : xH, X = (xUp ujZ1.1 183 5 0, ujZ1.2) := ⟨_, rfl⟩
  rw [← ujzk2] at ujzc2 ⊢
  have zg2_7 : ujZ2.1 183 7 = n := by rw [ujzk2]; exact (up_j (D := ujZ1.1) (a := 183) (j := 5) (x := 0) (k := 7) (by decide)).trans zg1_7
  have zg2_5 : ujZ2.1 183 5 = 0 := by rw [ujzk2]; exact up_eq (D := ujZ1.1) (a := 183) (j := 5) (x := 0)
  have za2_187 : ∀ j : Int, ujZ2.1 187 j = H.1 187 j := fun j => by rw [ujzk2]; exact (up_na (D := ujZ1.1) (a := 183) (j := 5) (x := 0) (b := 187) (k := j) (by decide)).trans (za1_187 j)
  have za2_184 : ∀ j : Int, ujZ2.1 184 j = H.1 184 j := fun j => by rw [ujzk2]; exact (up_na (D := ujZ1.1) (a := 183) (j := 5) (x := 0) (b := 184) (k := j) (by decide)).trans (za1_184 j)
  refine q_al (pc := 7) (i := 0) (x := 183) rfl rfl ?_
  refine q_ic (pc := 8) (v := 0) rfl ?_
  refine q_pf (pc := 9) (m := 12080) (c := 8) rfl (show xPt 0 0 _ _ from (ttKc ujzc2.1 (a := 183) (κ := 12) (len := 0) ⟨rfl, rfl⟩ (by decide) (by decide)).1) rfl ?_
  have ujzc3 := ttPuT ujzc2.1 (ttFr_rf (true, [(183, 8, 8)]) ujZ2) (a := 183) (j := 8) (x := 0) (by decide) (fun _ _ => show (0 : Int) ≤ 0 ∧ 0 ≤ 1600 from by decide) ⟨(183, 8, 8), by simp, ⟨⟨by decide, rfl⟩, by decide, by decide⟩⟩
  obtain ⟨ujZ3, ujzk3⟩ : ∃ X : xH, X = (xUp ujZ2.1 183 8 0, ujZ2.2) := ⟨_, rfl⟩
  rw [← ujzk3] at ujzc3 ⊢
  have zg3_7 : ujZ3.1 183 7 = n := by rw [ujzk3]; exact (up_j (D := ujZ2.1) (a := 183) (j := 8) (x := 0) (k := 7) (by decide)).trans zg2_7
  have zg3_5 : ujZ3.1 183 5 = 0 := by rw [ujzk3]; exact (up_j (D := ujZ2.1) (a := 183) (j := 8) (x := 0) (k := 5) (by decide)).trans zg2_5
  have zg3_8 : ujZ3.1 183 8 = 0 := by rw [ujzk3]; exact up_eq (D := ujZ2.1) (a := 183) (j := 8) (x := 0)
  have za3_187 : ∀ j : Int, ujZ3.1 187 j = H.1 187 j := fun j => by rw [ujzk3]; exact (up_na (D := ujZ2.1) (a := 183) (j := 8) (x := 0) (b := 187) (k := j) (by decide)).trans (za2_187 j)
  have za3_184 : ∀ j : Int, ujZ3.1 184 j = H.1 184 j := fun j => by rw [ujzk3]; exact (up_na (D := ujZ2.1) (a := 183) (j := 8) (x := 0) (b := 184) (k := j) (by decide)).trans (za2_184 j)
  refine q_al (pc := 10) (i := 0) (x := 183) rfl rfl ?_
  refine q_ic (pc := 11) (v := 0) rfl ?_
  refine q_pf (pc := 12) (m := 12120) (c := 12) rfl (show xPt 0 0 _ _ from (ttKc ujzc3.1 (a := 183) (κ := 12) (len := 0) ⟨rfl, rfl⟩ (by decide) (by decide)).1) rfl ?_
  have ujzc4 := ttPuT ujzc3.1 (ttFr_rf (true, [(183, 12, 12)]) ujZ3) (a := 183) (j := 12) (x := 0) (by decide) (fun _ _ => show ((-2147483648) : Int) ≤ 0 ∧ 0 ≤ 2147483647 from by decide) ⟨(183, 12, 12), by simp, ⟨⟨by decide, rfl⟩, by decide, by decide⟩⟩
  obtain ⟨ujZ4, ujzk4⟩ : ∃ X : xH, X = (xUp ujZ3.1 183 12 0, ujZ3.2) := ⟨_, rfl⟩
  rw [← ujzk4] at ujzc4 ⊢
  have zg4_7 : ujZ4.1 183 7 = n := by rw [ujzk4]; exact (up_j (D := ujZ3.1) (a := 183) (j := 12) (x := 0) (k := 7) (by decide)).trans zg3_7
  have zg4_5 : ujZ4.1 183 5 = 0 := by rw [ujzk4]; exact (up_j (D := ujZ3.1) (a := 183) (j := 12) (x := 0) (k := 5) (by decide)).trans zg3_5
  have zg4_8 : ujZ4.1 183 8 = 0 := by rw [ujzk4]; exact (up_j (D := ujZ3.1) (a := 183) (j := 12) (x := 0) (k := 8) (by decide)).trans zg3_8
  have zg4_12 : ujZ4.1 183 12 = 0 := by rw [ujzk4]; exact up_eq (D := ujZ3.1) (a := 183) (j := 12) (x := 0)
  have za4_187 : ∀ j : Int, ujZ4.1 187 j = H.1 187 j := fun j => by rw [ujzk4]; exact (up_na (D := ujZ3.1) (a := 183) (j := 12) (x := 0) (b := 187) (k := j) (by decide)).trans (za3_187 j)
  have za4_184 : ∀ j : Int, ujZ4.1 184 j = H.1 184 j := fun j => by rw [ujzk4]; exact (up_na (D := ujZ3.1) (a := 183) (j := 12) (x := 0) (b := 184) (k := j) (by decide)).trans (za3_184 j)
  refine q_al (pc := 13) (i := 0) (x := 183) rfl rfl ?_
  refine q_ic (pc := 14) (v := (-1)) rfl ?_
  refine q_pf (pc := 15) (m := 12130) (c := 13) rfl (show xPt 0 0 _ _ from (ttKc ujzc4.1 (a := 183) (κ := 12) (len := 0) ⟨rfl, rfl⟩ (by decide) (by decide)).1) rfl ?_
  have ujzc5 := ttPuT ujzc4.1 (ttFr_rf (true, [(183, 13, 13)]) ujZ4) (a := 183) (j := 13) (x := (-1)) (by decide) (fun _ _ => show ((-2147483648) : Int) ≤ (-1) ∧ (-1) ≤ 2147483647 from by decide) ⟨(183, 13, 13), by simp, ⟨⟨by decide, rfl⟩, by decide, by decide⟩⟩
  obtain ⟨ujZ5, ujzk5⟩ : ∃ X : xH, X = (xUp ujZ4.1 183 13 (-1), ujZ4.2) := ⟨_, rfl⟩
  rw [← ujzk5] at ujzc5 ⊢
  have zg5_7 : ujZ5.1 183 7 = n := by rw [ujzk5]; exact (up_j (D := ujZ4.1) (a := 183) (j := 13) (x := (-1)) (k := 7) (by decide)).trans zg4_7
  have zg5_5 : ujZ5.1 183 5 = 0 := by rw [ujzk5]; exact (up_j (D := ujZ4.1) (a := 183) (j := 13) (x := (-1)) (k := 5) (by decide)).trans zg4_5
  have zg5_8 : ujZ5.1 183 8 = 0 := by rw [ujzk5]; exact (up_j (D := ujZ4.1) (a := 183) (j := 13) (x := (-1)) (k := 8) (by decide)).trans zg4_8
  have zg5_12 : ujZ5.1 183 12 = 0 := by rw [ujzk5]; exact (up_j (D := ujZ4.1) (a := 183) (j := 13) (x := (-1)) (k := 12) (by decide)).trans zg4_12
  have zg5_13 : ujZ5.1 183 13 = (-1) := by rw [ujzk5]; exact up_eq (D := ujZ4.1) (a := 183) (j := 13) (x := (-1))
  have za5_187 : ∀ j : Int, ujZ5.1 187 j = H.1 187 j := fun j => by rw [ujzk5]; exact (up_na (D := ujZ4.1) (a := 183) (j := 13) (x := (-1)) (b := 187) (k := j) (by decide)).trans (za4_187 j)
  have za5_184 : ∀ j : Int, ujZ5.1 184 j = H.1 184 j := fun j => by rw [ujzk5]; exact (up_na (D := ujZ4.1) (a := 183) (j := 13) (x := (-1)) (b := 184) (k := j) (by decide)).trans (za4_184 j)
  refine q_al (pc := 16) (i := 0) (x := 183) rfl rfl ?_
  refine q_gf (pc := 17) (m := 12142) (t := 2) (c := 14) rfl (ttKc ujzc5.1 (a := 183) (κ := 12) (len := 0) ⟨rfl, rfl⟩ (by decide) (by decide)).1 rfl rfl ?_
  rw [show ujZ5.1 183 14 = 189 from ttFx ujzc5.1 (by decide) (by decide) rfl rfl rfl]
  refine q_ij (pc := 18) (q := 1639927) rfl rfl rfl ⟨by decide, trivial⟩ ?_
  refine lf_empties2 (by omega) ujzc5.1 (fun ujK9 kT9 kF9 k90 k97 k9c k98 k99 => ?_)
  have hn9 : 210 ≤ (ujZ5.2.2.2.1 : Int) := by have := ujzc5.1.1; omega
  have zg99_7 : ujK9.1 183 7 = n := (fr_no kF9 183 (by omega) rfl (by decide)).trans zg5_7
  have zg99_5 : ujK9.1 183 5 = 0 := (fr_no kF9 183 (by omega) rfl (by decide)).trans zg5_5
  have zg99_8 : ujK9.1 183 8 = 0 := (fr_no kF9 183 (by omega) rfl (by decide)).trans zg5_8
  have zg99_12 : ujK9.1 183 12 = 0 := (fr_no kF9 183 (by omega) rfl (by decide)).trans zg5_12
  have zg99_13 : ujK9.1 183 13 = (-1) := (fr_no kF9 183 (by omega) rfl (by decide)).trans zg5_13
  have za99_187 : ∀ j : Int, ujK9.1 187 j = H.1 187 j := fun j => (fr_no kF9 187 (by omega) rfl (by decide)).trans (za5_187 j)
  have za99_184 : ∀ j : Int, ujK9.1 184 j = H.1 184 j := fun j => (fr_no kF9 184 (by omega) rfl (by decide)).trans (za5_184 j)
  have ujzs9 : ∀ j : Int, ujK9.1 189 j = ujK9.1 189 j := fun _ => rfl
  refine q_al (pc := 19) (i := 0) (x := 183) rfl rfl ?_
  refine q_ic (pc := 20) (v := 0) rfl ?_
  refine q_pf (pc := 21) (m := 12153) (c := 15) rfl (show xPt 3 0 _ _ from ⟨(ttKc kT9 (a := 183) (κ := 12) (len := 0) ⟨rfl, rfl⟩ (by decide) (by decide)).1, by omega⟩) rfl ?_
  have ujzc6 := ttPuT kT9 (ttFr_rf (true, [(183, 15, 15)]) ujK9) (a := 183) (j := 15) (x := 0) (by decide) (fun _ _ => show (0 : Int) ≤ 0 ∧ 0 ≤ 1 from by decide) ⟨(183, 15, 15), by simp, ⟨⟨by decide, rfl⟩, by decide, by decide⟩⟩
  obtain ⟨ujZ6, ujzk6⟩ : ∃ X : xH, X = (xUp ujK9.1 183 15 0, ujK9.2) := ⟨_, rfl⟩
  rw [← ujzk6] at ujzc6 ⊢
  have zg6_7 : ujZ6.1 183 7 = n := by rw [ujzk6]; exact (up_j (D := ujK9.1) (a := 183) (j := 15) (x := 0) (k := 7) (by decide)).trans zg99_7
  have zg6_5 : ujZ6.1 183 5 = 0 := by rw [ujzk6]; exact (up_j (D := ujK9.1) (a := 183) (j := 15) (x := 0) (k := 5) (by decide)).trans zg99_5
  have zg6_8 : ujZ6.1 183 8 = 0 := by rw [ujzk6]; exact (up_j (D := ujK9.1) (a := 183) (j := 15) (x := 0) (k := 8) (by decide)).trans zg99_8
  have zg6_12 : ujZ6.1 183 12 = 0 := by rw [ujzk6]; exact (up_j (D := ujK9.1) (a := 183) (j := 15) (x := 0) (k := 12) (by decide)).trans zg99_12
  have zg6_13 : ujZ6.1 183 13 = (-1) := by rw [ujzk6]; exact (up_j (D := ujK9.1) (a := 183) (j := 15) (x := 0) (k := 13) (by decide)).trans zg99_13
  have zg6_15 : ujZ6.1 183 15 = 0 := by rw [ujzk6]; exact up_eq (D := ujK9.1) (a := 183) (j := 15) (x := 0)
  have za6_187 : ∀ j : Int, ujZ6.1 187 j = H.1 187 j := fun j => by rw [ujzk6]; exact (up_na (D := ujK9.1) (a := 183) (j := 15) (x := 0) (b := 187) (k := j) (by decide)).trans (za99_187 j)
  have za6_184 : ∀ j : Int, ujZ6.1 184 j = H.1 184 j := fun j => by rw [ujzk6]; exact (up_na (D := ujK9.1) (a := 183) (j := 15) (x := 0) (b := 184) (k := j) (by decide)).trans (za99_184 j)
  have za6_189 : ∀ j : Int, ujZ6.1 189 j = ujK9.1 189 j := fun j => by rw [ujzk6]; exact (up_na (D := ujK9.1) (a := 183) (j := 15) (x := 0) (b := 189) (k := j) (by decide)).trans (ujzs9 j)
  refine q_al (pc := 22) (i := 0) (x := 183) rfl rfl ?_
  refine q_iv (pc := 23) (q := 1704967) rfl rfl rfl (ttKc ujzc6.1 (a := 183) (κ := 12) (len := 0) ⟨rfl, rfl⟩ (by decide) (by decide)).1 ?_
  have hm : 210 ≤ (ujZ6.2.2.2.1 : Int) := by have := ujzc6.1.1; omega
  refine lx_adv (by omega) ujzc6.1 zg6_7 zg6_8 (by decide) n0.1 (fun J jT jA jt jv => ?_)
  have e7 : ∀ j : Int, 0 ≤ j → j < n → ujZ6.1 187 j = T.1 j := fun j ujj0 ujj1 => (za6_187 j).trans (ht j ujj0 ujj1)
  have t2 := tTk_c (by decide) e7 jt
  have w := (hO.2.2.1 0 (by decide) (by have := hO.2.1; omega)).1
  rw [show tPv T.2.2.2.1 0 = 0 from if_pos rfl] at w
  obtain ⟨e1, e2, e3⟩ := tTk_u t2 w
  have jr : rR T n J 0 := by
    refine ⟨⟨by decide, by have := hO.2.1; omega⟩, (fr_cl jA (a := 183) (j := 7) (by omega) (by decide)).trans zg6_7, fun j ujj0 ujj1 => (fr_no jA 187 (by omega) rfl (by decide)).trans (e7 j ujj0 ujj1), ⟨e1, e2, e3⟩, fun z => ?_⟩
    rw [jv (e1.trans z), e2, e3]
    unfold sVt
    obtain ⟨⟨g0, g1, g2⟩, -⟩ := sOk_in hO (i := 0) (by decide) (by have := hO.2.1; omega)
    rw [sVl_c (x' := T.1) (T.2.2.2.1 0 - T.2.2.1 0).toNat (fun j ujj0 ujj1 => e7 j (by omega) (by omega))]
  have ujj9 : ∀ j : Int, 0 ≤ j → j ≤ 195 → J.1 189 j = zE0 j := fun j ujj0 ujj1 => by
    rw [fr_no jA 189 (by omega) rfl (by decide), za6_189 j]
    unfold zE0
    (repeat' split) <;> rename_i z
    · rw [z]; exact k97
    · rw [z]; exact k98
    · rw [z]; exact k99
    · rw [z]; exact k9c
    · exact k90 j ujj0 (by omega) (by omega) (by omega) (by omega) (by omega)
  have f12 : J.1 183 12 = 0 := (fr_cl jA (a := 183) (j := 12) (by omega) (by decide)).trans zg6_12
  have f13 : J.1 183 13 = -1 := (fr_cl jA (a := 183) (j := 13) (by omega) (by decide)).trans zg6_13
  have f15 : J.1 183 15 = 0 := (fr_cl jA (a := 183) (j := 15) (by omega) (by decide)).trans zg6_15
  have zA : rA T n J J zZ0 := ⟨jT, ttFr_rf _ J, ⟨jr, by unfold rS; rw [f12, f13]; rfl⟩, ujj9, f15⟩
  exact s2_24 he hO 1601 J zZ0 _ zA (fun _ => by have := sOk_m hO; show T.2.2.2.2 - 0 ≤ ((1601 : Nat) : Int); omega) (fun r M E a1 a2 a3 => hq r M E a1 a2 (fun f j => (a3 f j).trans ((fr_no jA 184 (by omega) rfl (by decide)).trans (za6_184 j))))
