/-! texts and their tokens -/
def tkd (c : Int) : Int := if 97 ≤ c ∧ c ≤ 122 then 1 else if 48 ≤ c ∧ c ≤ 57 then 2 else if c = 59 then 3 else 4
def tbl (c : Int) : Prop := c = 32 ∨ c = 10
theorem tkd_in (c : Int) : 1 ≤ tkd c ∧ tkd c ≤ 4 := by unfold tkd; (repeat' split) <;> decide
theorem tkd_bl {c : Int} (h : tbl c) : tkd c = 4 := by
  rcases h with rfl | rfl <;> decide
/-- the token from place p on: its kind, where it begins, where it ends -/
def tTk (x : Int → Int) (n p k f b : Int) : Prop := (p ≤ f ∧ f ≤ n ∧ ∀ j : Int, p ≤ j → j < f → tbl (x j)) ∧ ((f = n ∧ k = 0 ∧ b = n) ∨ ((f < n ∧ ¬ tbl (x f) ∧ k = tkd (x f)) ∧ (f < b ∧ b ≤ n) ∧ ((k = 1 ∨ k = 2) → (∀ j : Int, f ≤ j → j < b → tkd (x j) = k) ∧ (b < n → tkd (x b) ≠ k)) ∧ ((k = 3 ∨ k = 4) → b = f + 1)))
theorem tTk_u {x : Int → Int} {n p k f b k' f' b' : Int} (h : tTk x n p k f b) (h' : tTk x n p k' f' b') : k = k' ∧ f = f' ∧ b = b' := by
  obtain ⟨⟨a1, a2, a3⟩, a⟩ := h
  obtain ⟨⟨c1, c2, c3⟩, c⟩ := h'
  have ef : f = f' := by
    rcases Int.lt_trichotomy f f' with z | z | z
    · rcases a with ⟨a4, -, -⟩ | ⟨⟨-, a4, -⟩, -⟩
      · omega
      · exact absurd (c3 f a1 z) a4
    · exact z
    · rcases c with ⟨c4, -, -⟩ | ⟨⟨-, c4, -⟩, -⟩
      · omega
      · exact absurd (a3 f' c1 z) c4
  subst ef
  rcases a with ⟨a4, a5, a6⟩ | ⟨⟨a4, a5, a6⟩, ⟨a7, a8⟩, a9, aa⟩
  · rcases c with ⟨c4, c5, c6⟩ | ⟨⟨c4, c5, c6⟩, -⟩
    · exact ⟨by omega, rfl, by omega⟩
    · omega
  · rcases c with ⟨c4, c5, c6⟩ | ⟨⟨c4, c5, c6⟩, ⟨c7, c8⟩, c9, ca⟩
    · omega
    · have ek : k = k' := a6.trans c6.symm
      subst ek
      have kr := tkd_in (x f)
      rw [← a6] at kr
      refine ⟨rfl, rfl, ?_⟩
      by_cases z : k = 1 ∨ k = 2
      · obtain ⟨d1, d2⟩ := a9 z
        obtain ⟨d3, d4⟩ := c9 z
        rcases Int.lt_trichotomy b b' with y | y | y
        · exact absurd (d3 b (by omega) y) (d2 (by omega))
        · exact y
        · exact absurd (d1 b' (by omega) y) (d4 (by omega))
      · rw [aa (by omega), ca (by omega)]
def tPv (B : Int → Int) (i : Int) : Int := if i = 0 then 0 else B (i - 1)
/-- c tokens are found, up to place p -/
def tCh (x : Int → Int) (n : Int) (K F B : Int → Int) (c p : Int) : Prop := (∀ i : Int, 0 ≤ i → i < c → K i ≠ 0 ∧ tTk x n (tPv B i) (K i) (F i) (B i)) ∧ (0 ≤ tPv B c ∧ tPv B c ≤ p ∧ ∀ j : Int, tPv B c ≤ j → j < p → tbl (x j))
theorem tCh_eq {x : Int → Int} {n : Int} {K F B K' F' B' : Int → Int} {c p : Int} (h : ∀ j : Int, j < c → K' j = K j ∧ F' j = F j ∧ B' j = B j) (y : tCh x n K F B c p) (c0 : 0 ≤ c) : tCh x n K' F' B' c p := by
  have e : ∀ i : Int, 0 ≤ i → i ≤ c → tPv B' i = tPv B i := fun i i0 i1 => by
    unfold tPv
    by_cases z : i = 0
    · rw [if_pos z, if_pos z]
    · rw [if_neg z, if_neg z, (h (i - 1) (by omega)).2.2]
  obtain ⟨y1, y2⟩ := y
  refine ⟨fun i i0 i1 => ?_, ?_⟩
  · obtain ⟨a, b, d⟩ := h i i1
    rw [a, b, d, e i i0 (by omega)]
    exact y1 i i0 i1
  · rw [e c c0 (Int.le_refl _)]
    exact y2
theorem tCh_bl {x : Int → Int} {n : Int} {K F B : Int → Int} {c p : Int} (y : tCh x n K F B c p) (h : tbl (x p)) : tCh x n K F B c (p + 1) := by
  obtain ⟨y1, y2, y3, y4⟩ := y
  refine ⟨y1, y2, by omega, fun j ujj0 ujj1 => ?_⟩
  by_cases z : j = p
  · rw [z]; exact h
  · exact y4 j ujj0 (by omega)
theorem tCh_ad {x : Int → Int} {n : Int} {K F B : Int → Int} {c p b : Int} (y : tCh x n K F B c p) (c0 : 0 ≤ c) (hk : K c ≠ 0) (hF : F c = p) (hB : B c = b) (hp : p ≤ b) (h : tTk x n p (K c) p b) : tCh x n K F B (c + 1) b := by
  obtain ⟨y1, y2, y3, y4⟩ := y
  have e : tPv B (c + 1) = b := by
    unfold tPv
    rw [if_neg (by omega), show c + 1 - 1 = c by omega, hB]
  refine ⟨fun i i0 i1 => ?_, by rw [e]; omega, by rw [e]; exact Int.le_refl _, fun j ujj0 ujj1 => by rw [e] at ujj0; omega⟩
  by_cases z : i = c
  · subst z
    rw [hF, hB]
    obtain ⟨⟨a1, a2, a3⟩, a4⟩ := h
    exact ⟨hk, ⟨y3, a2, y4⟩, a4⟩
  · exact y1 i i0 (by omega)
/-- a whole text's tokens: the last one is its end -/
def tSt (x : Int → Int) (n : Int) (K F B : Int → Int) (m : Int) : Prop := 1 ≤ m ∧ (∀ i : Int, 0 ≤ i → i < m → tTk x n (tPv B i) (K i) (F i) (B i) ∧ (i < m - 1 → K i ≠ 0)) ∧ K (m - 1) = 0
theorem tCh_end {x : Int → Int} {n : Int} {K F B : Int → Int} {c : Int} (y : tCh x n K F B c n) (c0 : 0 ≤ c) (hk : K c = 0) (hF : F c = n) (hB : B c = n) : tSt x n K F B (c + 1) := by
  obtain ⟨y1, y2, y3, y4⟩ := y
  refine ⟨by omega, fun i i0 i1 => ?_, by rw [show c + 1 - 1 = c by omega]; exact hk⟩
  by_cases z : i = c
  · subst z
    exact ⟨⟨⟨by rw [hF]; exact y3, by rw [hF]; exact Int.le_refl _, by rw [hF]; exact y4⟩, Or.inl ⟨hF, hk, hB⟩⟩, fun w => by omega⟩
  · exact ⟨(y1 i i0 (by omega)).2, fun _ => (y1 i i0 (by omega)).1⟩
theorem rd_ty {H : xH} (hT : ttTI H) : (0 ≤ H.1 3 4 ∧ H.1 3 4 ≤ 1601) ∧ (0 ≤ H.1 3 5 ∧ H.1 3 5 ≤ 1600) := ⟨ttMc hT (a := 3) (j := 4) (by decide) (by decide) (by decide) (by decide), ttMc hT (a := 3) (j := 5) (by decide) (by decide) (by decide) (by decide)⟩
theorem lx_kindOf {dd : Nat} {c : Int} (hd : 1 ≤ dd) {H : xH} {Q : Int → xH → Prop} (hq : Q (tkd c) H) : xCall dd 74 [(0, c)] H Q := by
  obtain ⟨e, rfl, he⟩ := ttRun0 (n := 0) hd
  refine xC_of (L := [(0, c)]) (cd := cd_74) rfl rfl rfl ?_
  refine q_il (pc := 0) (i := 0) (x := c) rfl rfl ?_
  refine q_ic (pc := 1) (v := 97) rfl ?_
  refine q_i2 (pc := 2) rfl (fun h2 => ?_) (fun h2 => ?_)
  · replace h2 : c < 97 := h2
    refine q_il (pc := 8) (i := 0) (x := c) rfl rfl ?_
    refine q_ic (pc := 9) (v := 48) rfl ?_
    refine q_i2 (pc := 10) rfl (fun h10 => ?_) (fun h10 => ?_)
    · replace h10 : c < 48 := h10
      refine q_il (pc := 16) (i := 0) (x := c) rfl rfl ?_
      refine q_ic (pc := 17) (v := 59) rfl ?_
      refine q_i2 (pc := 18) rfl (fun h18 => ?_) (fun h18 => ?_)
      · replace h18 : c ≠ 59 := h18
        refine q_ic (pc := 21) (v := 4) rfl ?_
        refine q_ri (pc := 22) rfl ?_
        rw [show tkd c = 4 from by unfold tkd; (repeat' split) <;> omega] at hq
        exact hq
      · replace h18 : c = 59 := h18
        refine q_ic (pc := 19) (v := 3) rfl ?_
        refine q_go (pc := 20) rfl ?_
        refine q_ri (pc := 22) rfl ?_
        rw [show tkd c = 3 from by unfold tkd; (repeat' split) <;> omega] at hq
        exact hq
    · replace h10 : 48 ≤ c := h10
      refine q_il (pc := 11) (i := 0) (x := c) rfl rfl ?_
      refine q_ic (pc := 12) (v := 57) rfl ?_
      refine q_i2 (pc := 13) rfl (fun h13 => ?_) (fun h13 => ?_)
      · replace h13 : 57 < c := h13
        refine q_il (pc := 16) (i := 0) (x := c) rfl rfl ?_
        refine q_ic (pc := 17) (v := 59) rfl ?_
        refine q_i2 (pc := 18) rfl (fun h18 => ?_) (fun h18 => ?_)
        · replace h18 : c ≠ 59 := h18
          refine q_ic (pc := 21) (v := 4) rfl ?_
          refine q_ri (pc := 22) rfl ?_
          rw [show tkd c = 4 from by unfold tkd; (repeat' split) <;> omega] at hq
          exact hq
        · replace h18 : c = 59 := h18
          refine q_ic (pc := 19) (v := 3) rfl ?_
          refine q_go (pc := 20) rfl ?_
          refine q_ri (pc := 22) rfl ?_
          rw [show tkd c = 3 from by unfold tkd; (repeat' split) <;> omega] at hq
          exact hq
      · replace h13 : c ≤ 57 := h13
        refine q_ic (pc := 14) (v := 2) rfl ?_
        refine q_ri (pc := 15) rfl ?_
        rw [show tkd c = 2 from by unfold tkd; (repeat' split) <;> omega] at hq
        exact hq
  · replace h2 : 97 ≤ c := h2
    refine q_il (pc := 3) (i := 0) (x := c) rfl rfl ?_
    refine q_ic (pc := 4) (v := 122) rfl ?_
    refine q_i2 (pc := 5) rfl (fun h5 => ?_) (fun h5 => ?_)
    · replace h5 : 122 < c := h5
      refine q_il (pc := 8) (i := 0) (x := c) rfl rfl ?_
      refine q_ic (pc := 9) (v := 48) rfl ?_
      refine q_i2 (pc := 10) rfl (fun h10 => ?_) (fun h10 => ?_)
      · replace h10 : c < 48 := h10
        refine q_il (pc := 16) (i := 0) (x := c) rfl rfl ?_
        refine q_ic (pc := 17) (v := 59) rfl ?_
        refine q_i2 (pc := 18) rfl (fun h18 => ?_) (fun h18 => ?_)
        · replace h18 : c ≠ 59 := h18
          refine q_ic (pc := 21) (v := 4) rfl ?_
          refine q_ri (pc := 22) rfl ?_
          rw [show tkd c = 4 from by unfold tkd; (repeat' split) <;> omega] at hq
          exact hq
        · replace h18 : c = 59 := h18
          refine q_ic (pc := 19) (v := 3) rfl ?_
          refine q_go (pc := 20) rfl ?_
          refine q_ri (pc := 22) rfl ?_
          rw [show tkd c = 3 from by unfold tkd; (repeat' split) <;> omega] at hq
          exact hq
      · replace h10 : 48 ≤ c := h10
        refine q_il (pc := 11) (i := 0) (x := c) rfl rfl ?_
        refine q_ic (pc := 12) (v := 57) rfl ?_
        refine q_i2 (pc := 13) rfl (fun h13 => ?_) (fun h13 => ?_)
        · replace h13 : 57 < c := h13
          refine q_il (pc := 16) (i := 0) (x := c) rfl rfl ?_
          refine q_ic (pc := 17) (v := 59) rfl ?_
          refine q_i2 (pc := 18) rfl (fun h18 => ?_) (fun h18 => ?_)
          · replace h18 : c ≠ 59 := h18
            refine q_ic (pc := 21) (v := 4) rfl ?_
            refine q_ri (pc := 22) rfl ?_
            rw [show tkd c = 4 from by unfold tkd; (repeat' split) <;> omega] at hq
            exact hq
          · replace h18 : c = 59 := h18
            refine q_ic (pc := 19) (v := 3) rfl ?_
            refine q_go (pc := 20) rfl ?_
            refine q_ri (pc := 22) rfl ?_
            rw [show tkd c = 3 from by unfold tkd; (repeat' split) <;> omega] at hq
            exact hq
        · replace h13 : c ≤ 57 := h13
          refine q_ic (pc := 14) (v := 2) rfl ?_
          refine q_ri (pc := 15) rfl ?_
          rw [show tkd c = 2 from by unfold tkd; (repeat' split) <;> omega] at hq
          exact hq
    · replace h5 : c ≤ 122 := h5
      refine q_ic (pc := 6) (v := 1) rfl ?_
      refine q_ri (pc := 7) rfl ?_
      rw [show tkd c = 1 from by unfold tkd; (repeat' split) <;> omega] at hq
      exact hq
theorem lx_addToken {dd : Nat} {c k f b : Int} (hd : 1 ≤ dd) {H : xH} (hT : ttTI H) (hX : ttXX YY H) (jc : H.1 3 4 = c) (c1 : c ≤ 1600) (k0 : -2147483648 ≤ k) (k1 : k ≤ 2147483647) (f0 : 0 ≤ f) (f1 : f ≤ 1600) (b0 : 0 ≤ b) (b1 : b ≤ 1600) {Q : Int → xH → Prop} (hq : ∀ K, ttTI K → ttXX YY K → ttFr (true, [(3, 4, 4), (4, 0, 1600), (5, 0, 1600), (6, 0, 1600)]) H K → K.1 3 4 = c + 1 → (K.1 4 c = k ∧ K.1 5 c = f ∧ K.1 6 c = b) → (∀ j : Int, j < c → K.1 4 j = H.1 4 j ∧ K.1 5 j = H.1 5 j ∧ K.1 6 j = H.1 6 j) → Q 0 K) : xCall dd 73 [(2, 3), (0, k), (0, f), (0, b)] H Q := by
  obtain ⟨e, rfl, he⟩ := ttRun0 (n := 0) hd
  have zc := (rd_ty hT).1
  rw [jc] at zc
  refine xC_of (L := [(2, 3), (0, k), (0, f), (0, b)]) (cd := cd_73) rfl rfl rfl ?_
  refine q_al (pc := 0) (i := 0) (x := 3) rfl rfl ?_
  refine q_gf (pc := 1) (m := 7040) (t := 0) (c := 4) rfl (ttKc hT (a := 3) (κ := 7) (len := 0) ⟨rfl, rfl⟩ (by decide) (by decide)).1 rfl rfl ?_
  rw [jc]
  refine q_ic (pc := 2) (v := 1600) rfl ?_
  refine q_i2 (pc := 3) rfl (fun h3 => ?_) (fun h3 => ?_)
  · replace h3 : 1600 < c := h3
    omega
  · replace h3 : c ≤ 1600 := h3
    refine q_al (pc := 4) (i := 0) (x := 3) rfl rfl ?_
    refine q_gf (pc := 5) (m := 7012) (t := 2) (c := 1) rfl (ttKc hT (a := 3) (κ := 7) (len := 0) ⟨rfl, rfl⟩ (by decide) (by decide)).1 rfl rfl ?_
    rw [show H.1 3 1 = 4 from ttFx hT (by decide) (by decide) rfl rfl rfl]
    refine q_al (pc := 6) (i := 0) (x := 3) rfl rfl ?_
    refine q_gf (pc := 7) (m := 7040) (t := 0) (c := 4) rfl (ttKc hT (a := 3) (κ := 7) (len := 0) ⟨rfl, rfl⟩ (by decide) (by decide)).1 rfl rfl ?_
    rw [jc]
    refine q_il (pc := 8) (i := 1) (x := k) rfl rfl ?_
    refine q_si (pc := 9) rfl (by decide) (ttKc hT (a := 4) (κ := 20) (len := 1601) ⟨rfl, rfl⟩ (by decide) (by decide)).1 (by omega) (by rw [(ttKc hT (a := 4) (κ := 20) (len := 1601) ⟨rfl, rfl⟩ (by decide) (by decide)).2]; omega) ?_
    have ujzc1 := ttPut (ttXX_out yyStab (fun _ _ => trivial)) hT hX (ttFr_rf (true, [(3, 4, 4), (4, 0, 1600), (5, 0, 1600), (6, 0, 1600)]) H) (a := 4) (j := c) (x := k) (by decide) (fun _ _ => ttTyr rfl (by omega) (by omega)) ⟨(4, 0, 1600), by simp, ⟨⟨by decide, rfl⟩, by show (0 : Int) ≤ c; omega, by show c ≤ 1600; omega⟩⟩ (ttMay_no (r := 4) rfl (by decide))
    obtain ⟨ujZ1, ujzk1⟩ : ∃ X : xH, X = (xUp H.1 4 c k, H.2) := ⟨_, rfl⟩
    rw [← ujzk1] at ujzc1 ⊢
    have ujzo1 : ∀ a j : Int, ¬ (a = 4 ∧ j = c) → ujZ1.1 a j = H.1 a j := fun a j hj => by rw [ujzk1]; exact (show xUp H.1 4 c k a j = _ from up_ne hj)
    have ujze1 : ujZ1.1 4 c = k := by rw [ujzk1]; exact up_eq (D := H.1) (a := 4) (j := c) (x := k)
    have ujzn1 : ujZ1.1 3 4 = c := (ujzo1 3 4 (fun z => absurd z.1 (by decide))).trans jc
    refine q_al (pc := 10) (i := 0) (x := 3) rfl rfl ?_
    refine q_gf (pc := 11) (m := 7022) (t := 2) (c := 2) rfl (ttKc ujzc1.1 (a := 3) (κ := 7) (len := 0) ⟨rfl, rfl⟩ (by decide) (by decide)).1 rfl rfl ?_
    rw [show ujZ1.1 3 2 = 5 from ttFx ujzc1.1 (by decide) (by decide) rfl rfl rfl]
    refine q_al (pc := 12) (i := 0) (x := 3) rfl rfl ?_
    refine q_gf (pc := 13) (m := 7040) (t := 0) (c := 4) rfl (ttKc ujzc1.1 (a := 3) (κ := 7) (len := 0) ⟨rfl, rfl⟩ (by decide) (by decide)).1 rfl rfl ?_
    rw [ujzn1]
    refine q_il (pc := 14) (i := 2) (x := f) rfl rfl ?_
    refine q_si (pc := 15) rfl (by decide) (ttKc ujzc1.1 (a := 5) (κ := 20) (len := 1601) ⟨rfl, rfl⟩ (by decide) (by decide)).1 (by omega) (by rw [(ttKc ujzc1.1 (a := 5) (κ := 20) (len := 1601) ⟨rfl, rfl⟩ (by decide) (by decide)).2]; omega) ?_
    have ujzc2 := ttPut (ttXX_out yyStab (fun _ _ => trivial)) ujzc1.1 ujzc1.2.1 ujzc1.2.2 (a := 5) (j := c) (x := f) (by decide) (fun _ _ => ttTyr rfl (by omega) (by omega)) ⟨(5, 0, 1600), by simp, ⟨⟨by decide, rfl⟩, by show (0 : Int) ≤ c; omega, by show c ≤ 1600; omega⟩⟩ (ttMay_no (r := 5) rfl (by decide))
    obtain ⟨ujZ2, ujzk2⟩ : ∃ X : xH, X = (xUp ujZ1.1 5 c f, ujZ1.2) := ⟨_, rfl⟩
    rw [← ujzk2] at ujzc2 ⊢
    have ujzo2 : ∀ a j : Int, ¬ (a = 5 ∧ j = c) → ujZ2.1 a j = ujZ1.1 a j := fun a j hj => by rw [ujzk2]; exact (show xUp ujZ1.1 5 c f a j = _ from up_ne hj)
    have ujze2 : ujZ2.1 5 c = f := by rw [ujzk2]; exact up_eq (D := ujZ1.1) (a := 5) (j := c) (x := f)
    have ujzn2 : ujZ2.1 3 4 = c := (ujzo2 3 4 (fun z => absurd z.1 (by decide))).trans ujzn1
    refine q_al (pc := 16) (i := 0) (x := 3) rfl rfl ?_
    refine q_gf (pc := 17) (m := 7032) (t := 2) (c := 3) rfl (ttKc ujzc2.1 (a := 3) (κ := 7) (len := 0) ⟨rfl, rfl⟩ (by decide) (by decide)).1 rfl rfl ?_
    rw [show ujZ2.1 3 3 = 6 from ttFx ujzc2.1 (by decide) (by decide) rfl rfl rfl]
    refine q_al (pc := 18) (i := 0) (x := 3) rfl rfl ?_
    refine q_gf (pc := 19) (m := 7040) (t := 0) (c := 4) rfl (ttKc ujzc2.1 (a := 3) (κ := 7) (len := 0) ⟨rfl, rfl⟩ (by decide) (by decide)).1 rfl rfl ?_
    rw [ujzn2]
    refine q_il (pc := 20) (i := 3) (x := b) rfl rfl ?_
    refine q_si (pc := 21) rfl (by decide) (ttKc ujzc2.1 (a := 6) (κ := 20) (len := 1601) ⟨rfl, rfl⟩ (by decide) (by decide)).1 (by omega) (by rw [(ttKc ujzc2.1 (a := 6) (κ := 20) (len := 1601) ⟨rfl, rfl⟩ (by decide) (by decide)).2]; omega) ?_
    have ujzc3 := ttPut (ttXX_out yyStab (fun _ _ => trivial)) ujzc2.1 ujzc2.2.1 ujzc2.2.2 (a := 6) (j := c) (x := b) (by decide) (fun _ _ => ttTyr rfl (by omega) (by omega)) ⟨(6, 0, 1600), by simp, ⟨⟨by decide, rfl⟩, by show (0 : Int) ≤ c; omega, by show c ≤ 1600; omega⟩⟩ (ttMay_no (r := 6) rfl (by decide))
    obtain ⟨ujZ3, ujzk3⟩ : ∃ X : xH, X = (xUp ujZ2.1 6 c b, ujZ2.2) := ⟨_, rfl⟩
    rw [← ujzk3] at ujzc3 ⊢
    have ujzo3 : ∀ a j : Int, ¬ (a = 6 ∧ j = c) → ujZ3.1 a j = ujZ2.1 a j := fun a j hj => by rw [ujzk3]; exact (show xUp ujZ2.1 6 c b a j = _ from up_ne hj)
    have ujze3 : ujZ3.1 6 c = b := by rw [ujzk3]; exact up_eq (D := ujZ2.1) (a := 6) (j := c) (x := b)
    have ujzn3 : ujZ3.1 3 4 = c := (ujzo3 3 4 (fun z => absurd z.1 (by decide))).trans ujzn2
    refine q_al (pc := 22) (i := 0) (x := 3) rfl rfl ?_
    refine q_d2 (pc := 23) rfl ?_
    refine q_gf (pc := 24) (m := 7040) (t := 0) (c := 4) rfl (ttKc ujzc3.1 (a := 3) (κ := 7) (len := 0) ⟨rfl, rfl⟩ (by decide) (by decide)).1 rfl rfl ?_
    rw [ujzn3]
    refine q_ic (pc := 25) (v := 1) rfl ?_
    refine q_ia (pc := 26) rfl (by omega) (by omega) ?_
    refine q_pf (pc := 27) (m := 7040) (c := 4) rfl (show xPt 0 0 _ _ from (ttKc ujzc3.1 (a := 3) (κ := 7) (len := 0) ⟨rfl, rfl⟩ (by decide) (by decide)).1) rfl ?_
    have ujzc4 := ttPut (ttXX_out yyStab (fun _ _ => trivial)) ujzc3.1 ujzc3.2.1 ujzc3.2.2 (a := 3) (j := 4) (x := (c + 1)) (by decide) (fun _ _ => show (0 : Int) ≤ (c + 1) ∧ (c + 1) ≤ 1601 from by omega) ⟨(3, 4, 4), by simp, ⟨⟨by decide, rfl⟩, by decide, by decide⟩⟩ (ttMay_no (r := 3) rfl (by decide))
    obtain ⟨ujZ4, ujzk4⟩ : ∃ X : xH, X = (xUp ujZ3.1 3 4 (c + 1), ujZ3.2) := ⟨_, rfl⟩
    rw [← ujzk4] at ujzc4 ⊢
    have ujzo4 : ∀ a j : Int, ¬ (a = 3 ∧ j = 4) → ujZ4.1 a j = ujZ3.1 a j := fun a j hj => by rw [ujzk4]; exact (show xUp ujZ3.1 3 4 (c + 1) a j = _ from up_ne hj)
    have ujze4 : ujZ4.1 3 4 = c + 1 := by rw [ujzk4]; exact up_eq (D := ujZ3.1) (a := 3) (j := 4) (x := c + 1)
    refine q_rv (pc := 28) rfl ?_
    refine hq ujZ4 ujzc4.1 ujzc4.2.1 ujzc4.2.2 ujze4 ⟨?_, ?_, ?_⟩ (fun j hj => ⟨?_, ?_, ?_⟩)
    · rw [ujzo4 4 c (fun z => absurd z.1 (by decide)), ujzo3 4 c (fun z => absurd z.1 (by decide)), ujzo2 4 c (fun z => absurd z.1 (by decide))]; exact ujze1
    · rw [ujzo4 5 c (fun z => absurd z.1 (by decide)), ujzo3 5 c (fun z => absurd z.1 (by decide))]; exact ujze2
    · rw [ujzo4 6 c (fun z => absurd z.1 (by decide))]; exact ujze3
    · rw [ujzo4 4 j (fun z => absurd z.1 (by decide)), ujzo3 4 j (fun z => absurd z.1 (by decide)), ujzo2 4 j (fun z => absurd z.1 (by decide)), ujzo1 4 j (fun z => by omega)]
    · rw [ujzo4 5 j (fun z => absurd z.1 (by decide)), ujzo3 5 j (fun z => absurd z.1 (by decide)), ujzo2 5 j (fun z => by omega), ujzo1 5 j (fun z => absurd z.1 (by decide))]
    · rw [ujzo4 6 j (fun z => absurd z.1 (by decide)), ujzo3 6 j (fun z => by omega), ujzo2 6 j (fun z => absurd z.1 (by decide)), ujzo1 6 j (fun z => absurd z.1 (by decide))]
theorem lx_split {dd : Nat} {n : Int} (hd : 2 ≤ dd) {H : xH} (hT : ttTI H) (hX : ttXX YY H) (n0 : 0 ≤ n) (n1 : n ≤ 1600) {Q : Int → xH → Prop} (hq : ∀ K, ttTI K → ttXX YY K → ttFr (true, [(3, 4, 4), (4, 0, 1600), (5, 0, 1600), (6, 0, 1600)]) H K → tSt (H.1 2) n (K.1 4) (K.1 5) (K.1 6) (K.1 3 4) → Q 0 K) : xCall dd 72 [(2, 3), (0, n)] H Q := by
  obtain ⟨e, rfl, he⟩ := ttRun0 (n := 1) hd
  have he : 1 ≤ e := he
  have hn : 210 ≤ (H.2.2.2.1 : Int) := by have := hT.1; omega
  have h36 : ∀ p0 : Int, 0 ≤ p0 → p0 < n → (∀ (K : xH) (p : Int) (x3 x4 : xV), p0 < p → p ≤ n → ttTI K → ttXX YY K → ttFr (true, [(3, 4, 4), (4, 0, 1600), (5, 0, 1600), (6, 0, 1600)]) H K → tCh (H.1 2) n (K.1 4) (K.1 5) (K.1 6) (K.1 3 4) p → K.1 3 4 ≤ p → xW e cd_72 Q (5, [(2, 3), (0, n), (0, p), x3, x4], [], K)) → ∀ (K : xH) (b : Int), ttTI K → ttXX YY K → ttFr (true, [(3, 4, 4), (4, 0, 1600), (5, 0, 1600), (6, 0, 1600)]) H K → tCh (H.1 2) n (K.1 4) (K.1 5) (K.1 6) (K.1 3 4) p0 → K.1 3 4 ≤ p0 → p0 < b → b ≤ n → (tkd (H.1 2 p0) = 1 ∨ tkd (H.1 2 p0) = 2 → (∀ j : Int, p0 ≤ j → j < b → tkd (H.1 2 j) = tkd (H.1 2 p0)) ∧ (b < n → tkd (H.1 2 b) ≠ tkd (H.1 2 p0))) → (tkd (H.1 2 p0) = 3 ∨ tkd (H.1 2 p0) = 4 → b = p0 + 1) → xW e cd_72 Q (36, [(2, 3), (0, n), (0, p0), (0, (tkd (H.1 2 p0))), (0, b)], [], K) := by
    intro p0 q0 q1 hk K b kT kX kF kC kc b0 b1 kw ks
    have tk := tkd_in (H.1 2 p0)
    have t2 : K.1 2 p0 = H.1 2 p0 := fr_no kF 2 (by omega) rfl rfl
    refine q_al (pc := 36) (i := 0) (x := 3) rfl rfl ?_
    refine q_gf (pc := 37) (m := 7002) (t := 2) (c := 0) rfl (ttKc kT (a := 3) (κ := 7) (len := 0) ⟨rfl, rfl⟩ (by decide) (by decide)).1 rfl rfl ?_
    rw [show K.1 3 0 = 2 from ttFx kT (by decide) (by decide) rfl rfl rfl]
    refine q_il (pc := 38) (i := 2) (x := p0) rfl rfl ?_
    refine q_ab (pc := 39) rfl (ttKc kT (a := 2) (κ := 21) (len := 1600) ⟨rfl, rfl⟩ (by decide) (by decide)).1 (by omega) (by rw [(ttKc kT (a := 2) (κ := 21) (len := 1600) ⟨rfl, rfl⟩ (by decide) (by decide)).2]; omega) ?_
    rw [t2]
    refine q_ic (pc := 40) (v := 32) rfl ?_
    refine q_i2 (pc := 41) rfl (fun h41 => ?_) (fun h41 => ?_)
    · replace h41 : (H.1 2 p0) = 32 := h41
      have zb : tbl (H.1 2 p0) := by first | exact Or.inl h41 | exact Or.inr h47
      have eb : b = p0 + 1 := ks (Or.inr (tkd_bl zb))
      refine q_il (pc := 53) (i := 4) (x := b) rfl rfl ?_
      refine q_is (pc := 54) (i := 2) (L' := [(2, 3), (0, n), (0, b), (0, (tkd (H.1 2 p0))), (0, b)]) rfl rfl rfl ?_
      refine q_go (pc := 55) rfl ?_
      refine hk K b _ _ b0 b1 kT kX kF ?_ (by omega)
      rw [eb]
      exact tCh_bl kC zb
    · replace h41 : (H.1 2 p0) ≠ 32 := h41
      refine q_al (pc := 42) (i := 0) (x := 3) rfl rfl ?_
      refine q_gf (pc := 43) (m := 7002) (t := 2) (c := 0) rfl (ttKc kT (a := 3) (κ := 7) (len := 0) ⟨rfl, rfl⟩ (by decide) (by decide)).1 rfl rfl ?_
      rw [show K.1 3 0 = 2 from ttFx kT (by decide) (by decide) rfl rfl rfl]
      refine q_il (pc := 44) (i := 2) (x := p0) rfl rfl ?_
      refine q_ab (pc := 45) rfl (ttKc kT (a := 2) (κ := 21) (len := 1600) ⟨rfl, rfl⟩ (by decide) (by decide)).1 (by omega) (by rw [(ttKc kT (a := 2) (κ := 21) (len := 1600) ⟨rfl, rfl⟩ (by decide) (by decide)).2]; omega) ?_
      rw [t2]
      refine q_ic (pc := 46) (v := 10) rfl ?_
      refine q_i2 (pc := 47) rfl (fun h47 => ?_) (fun h47 => ?_)
      · replace h47 : (H.1 2 p0) = 10 := h47
        have zb : tbl (H.1 2 p0) := by first | exact Or.inl h41 | exact Or.inr h47
        have eb : b = p0 + 1 := ks (Or.inr (tkd_bl zb))
        refine q_il (pc := 53) (i := 4) (x := b) rfl rfl ?_
        refine q_is (pc := 54) (i := 2) (L' := [(2, 3), (0, n), (0, b), (0, (tkd (H.1 2 p0))), (0, b)]) rfl rfl rfl ?_
        refine q_go (pc := 55) rfl ?_
        refine hk K b _ _ b0 b1 kT kX kF ?_ (by omega)
        rw [eb]
        exact tCh_bl kC zb
      · replace h47 : (H.1 2 p0) ≠ 10 := h47
        refine q_al (pc := 48) (i := 0) (x := 3) rfl rfl ?_
        refine q_il (pc := 49) (i := 3) (x := (tkd (H.1 2 p0))) rfl rfl ?_
        refine q_il (pc := 50) (i := 2) (x := p0) rfl rfl ?_
        refine q_il (pc := 51) (i := 4) (x := b) rfl rfl ?_
        refine q_iv (pc := 52) (q := 584579) rfl rfl rfl (ttKc kT (a := 3) (κ := 7) (len := 0) ⟨rfl, rfl⟩ (by decide) (by decide)).1 ?_
        refine lx_addToken (by omega) kT kX rfl (by omega) (by omega) (by omega) (by omega) (by omega) (by omega) (by omega) (fun M mT mX mF m4 m5 m6 => ?_)
        have m2 : ttFr (true, [(3, 4, 4), (4, 0, 1600), (5, 0, 1600), (6, 0, 1600)]) H M := ttFr_tr kF mF (fun _ => rfl) (by decide)
        have mC : tCh (H.1 2) n (M.1 4) (M.1 5) (M.1 6) (M.1 3 4) b := by
          rw [m4]
          refine tCh_ad (tCh_eq (fun j hj => m6 j hj) kC (rd_ty kT).1.1) (rd_ty kT).1.1 (by rw [m5.1]; omega) m5.2.1 m5.2.2 (by omega) ?_
          rw [m5.1]
          exact ⟨⟨Int.le_refl _, by omega, fun j ujj0 ujj1 => by omega⟩, Or.inr ⟨⟨q1, fun z => z.elim (fun z => h41 z) (fun z => h47 z), rfl⟩, ⟨b0, b1⟩, kw, ks⟩⟩
        refine q_il (pc := 53) (i := 4) (x := b) rfl rfl ?_
        refine q_is (pc := 54) (i := 2) (L' := [(2, 3), (0, n), (0, b), (0, (tkd (H.1 2 p0))), (0, b)]) rfl rfl rfl ?_
        refine q_go (pc := 55) rfl ?_
        exact hk M b _ _ b0 b1 mT mX m2 mC (by omega)
  have h24 : ∀ p0 : Int, 0 ≤ p0 → p0 < n → (tkd (H.1 2 p0) = 1 ∨ tkd (H.1 2 p0) = 2) → (∀ (K : xH) (p : Int) (x3 x4 : xV), p0 < p → p ≤ n → ttTI K → ttXX YY K → ttFr (true, [(3, 4, 4), (4, 0, 1600), (5, 0, 1600), (6, 0, 1600)]) H K → tCh (H.1 2) n (K.1 4) (K.1 5) (K.1 6) (K.1 3 4) p → K.1 3 4 ≤ p → xW e cd_72 Q (5, [(2, 3), (0, n), (0, p), x3, x4], [], K)) → ∀ f : Nat, ∀ (K : xH) (b : Int), ttTI K → ttXX YY K → ttFr (true, [(3, 4, 4), (4, 0, 1600), (5, 0, 1600), (6, 0, 1600)]) H K → tCh (H.1 2) n (K.1 4) (K.1 5) (K.1 6) (K.1 3 4) p0 → K.1 3 4 ≤ p0 → p0 < b → b ≤ n → n - b ≤ (f : Int) → (∀ j : Int, p0 ≤ j → j < b → tkd (H.1 2 j) = tkd (H.1 2 p0)) → xW e cd_72 Q (24, [(2, 3), (0, n), (0, p0), (0, (tkd (H.1 2 p0))), (0, b)], [], K) := by
    intro p0 q0 q1 kw hk f
    induction f with
    | zero =>
      intro K b kT kX kF kC kc b0 b1 hn2 kj
      have t2 : K.1 2 b = H.1 2 b := fr_no kF 2 (by omega) rfl rfl
      refine q_il (pc := 24) (i := 4) (x := b) rfl rfl ?_
      refine q_il (pc := 25) (i := 1) (x := n) rfl rfl ?_
      refine q_i2 (pc := 26) rfl (fun h26 => ?_) (fun h26 => ?_)
      · replace h26 : n ≤ b := h26
        exact h36 p0 q0 q1 hk K b kT kX kF kC kc b0 b1 (fun _ => ⟨kj, fun w => absurd w (by omega)⟩) (fun w => by omega)
      · replace h26 : b < n := h26
        omega
    | succ f ih =>
      intro K b kT kX kF kC kc b0 b1 hn2 kj
      have t2 : K.1 2 b = H.1 2 b := fr_no kF 2 (by omega) rfl rfl
      refine q_il (pc := 24) (i := 4) (x := b) rfl rfl ?_
      refine q_il (pc := 25) (i := 1) (x := n) rfl rfl ?_
      refine q_i2 (pc := 26) rfl (fun h26 => ?_) (fun h26 => ?_)
      · replace h26 : n ≤ b := h26
        exact h36 p0 q0 q1 hk K b kT kX kF kC kc b0 b1 (fun _ => ⟨kj, fun w => absurd w (by omega)⟩) (fun w => by omega)
      · replace h26 : b < n := h26
        refine q_al (pc := 27) (i := 0) (x := 3) rfl rfl ?_
        refine q_gf (pc := 28) (m := 7002) (t := 2) (c := 0) rfl (ttKc kT (a := 3) (κ := 7) (len := 0) ⟨rfl, rfl⟩ (by decide) (by decide)).1 rfl rfl ?_
        rw [show K.1 3 0 = 2 from ttFx kT (by decide) (by decide) rfl rfl rfl]
        refine q_il (pc := 29) (i := 4) (x := b) rfl rfl ?_
        refine q_ab (pc := 30) rfl (ttKc kT (a := 2) (κ := 21) (len := 1600) ⟨rfl, rfl⟩ (by decide) (by decide)).1 (by omega) (by rw [(ttKc kT (a := 2) (κ := 21) (len := 1600) ⟨rfl, rfl⟩ (by decide) (by decide)).2]; omega) ?_
        rw [t2]
        refine q_ij (pc := 31) (q := 599924) rfl rfl rfl trivial ?_
        refine lx_kindOf (by omega) ?_
        refine q_il (pc := 32) (i := 3) (x := (tkd (H.1 2 p0))) rfl rfl ?_
        refine q_i2 (pc := 33) rfl (fun h33 => ?_) (fun h33 => ?_)
        · replace h33 : (tkd (H.1 2 b)) ≠ (tkd (H.1 2 p0)) := h33
          exact h36 p0 q0 q1 hk K b kT kX kF kC kc b0 b1 (fun _ => ⟨kj, fun w => h33⟩) (fun w => by omega)
        · replace h33 : (tkd (H.1 2 b)) = (tkd (H.1 2 p0)) := h33
          refine q_ii (pc := 34) (i := 4) (c := 1) (x := b) (L' := [(2, 3), (0, n), (0, p0), (0, (tkd (H.1 2 p0))), (0, (b + 1))]) rfl rfl rfl (by omega) (by omega) rfl ?_
          refine q_go (pc := 35) rfl ?_
          exact ih K (b + 1) kT kX kF kC kc (by omega) (by omega) (by omega) (fun j ujj0 ujj1 => by
            by_cases z : j = b
            · rw [z]; exact h33
            · exact kj j ujj0 (by omega))
  have hl : ∀ f : Nat, ∀ (K : xH) (p : Int) (x3 x4 : xV), 0 ≤ p → p ≤ n → n - p ≤ (f : Int) → ttTI K → ttXX YY K → ttFr (true, [(3, 4, 4), (4, 0, 1600), (5, 0, 1600), (6, 0, 1600)]) H K → tCh (H.1 2) n (K.1 4) (K.1 5) (K.1 6) (K.1 3 4) p → K.1 3 4 ≤ p → xW e cd_72 Q (5, [(2, 3), (0, n), (0, p), x3, x4], [], K) := by
    intro f
    induction f with
    | zero =>
      intro K p x3 x4 p0 p1 hn2 kT kX kF kC kc
      have t2 : K.1 2 p = H.1 2 p := fr_no kF 2 (by omega) rfl rfl
      refine q_il (pc := 5) (i := 2) (x := p) rfl rfl ?_
      refine q_il (pc := 6) (i := 1) (x := n) rfl rfl ?_
      refine q_i2 (pc := 7) rfl (fun h7 => ?_) (fun h7 => ?_)
      · replace h7 : n ≤ p := h7
        refine q_al (pc := 56) (i := 0) (x := 3) rfl rfl ?_
        refine q_ic (pc := 57) (v := 0) rfl ?_
        refine q_il (pc := 58) (i := 1) (x := n) rfl rfl ?_
        refine q_il (pc := 59) (i := 1) (x := n) rfl rfl ?_
        refine q_iv (pc := 60) (q := 584579) rfl rfl rfl (ttKc kT (a := 3) (κ := 7) (len := 0) ⟨rfl, rfl⟩ (by decide) (by decide)).1 ?_
        have ep : p = n := by omega
        rw [ep] at kC
        refine lx_addToken (by omega) kT kX rfl (by omega) (by decide) (by decide) n0 n1 n0 n1 (fun M mT mX mF m4 m5 m6 => ?_)
        have m2 : ttFr (true, [(3, 4, 4), (4, 0, 1600), (5, 0, 1600), (6, 0, 1600)]) H M := ttFr_tr kF mF (fun _ => rfl) (by decide)
        have mS : tSt (H.1 2) n (M.1 4) (M.1 5) (M.1 6) (M.1 3 4) := by
          rw [m4]
          exact tCh_end (tCh_eq (fun j hj => m6 j hj) kC (rd_ty kT).1.1) (rd_ty kT).1.1 m5.1 m5.2.1 m5.2.2
        refine q_rv (pc := 61) rfl ?_
        exact hq M mT mX m2 mS
      · replace h7 : p < n := h7
        omega
    | succ f ih =>
      intro K p x3 x4 p0 p1 hn2 kT kX kF kC kc
      have t2 : K.1 2 p = H.1 2 p := fr_no kF 2 (by omega) rfl rfl
      refine q_il (pc := 5) (i := 2) (x := p) rfl rfl ?_
      refine q_il (pc := 6) (i := 1) (x := n) rfl rfl ?_
      refine q_i2 (pc := 7) rfl (fun h7 => ?_) (fun h7 => ?_)
      · replace h7 : n ≤ p := h7
        refine q_al (pc := 56) (i := 0) (x := 3) rfl rfl ?_
        refine q_ic (pc := 57) (v := 0) rfl ?_
        refine q_il (pc := 58) (i := 1) (x := n) rfl rfl ?_
        refine q_il (pc := 59) (i := 1) (x := n) rfl rfl ?_
        refine q_iv (pc := 60) (q := 584579) rfl rfl rfl (ttKc kT (a := 3) (κ := 7) (len := 0) ⟨rfl, rfl⟩ (by decide) (by decide)).1 ?_
        have ep : p = n := by omega
        rw [ep] at kC
        refine lx_addToken (by omega) kT kX rfl (by omega) (by decide) (by decide) n0 n1 n0 n1 (fun M mT mX mF m4 m5 m6 => ?_)
        have m2 : ttFr (true, [(3, 4, 4), (4, 0, 1600), (5, 0, 1600), (6, 0, 1600)]) H M := ttFr_tr kF mF (fun _ => rfl) (by decide)
        have mS : tSt (H.1 2) n (M.1 4) (M.1 5) (M.1 6) (M.1 3 4) := by
          rw [m4]
          exact tCh_end (tCh_eq (fun j hj => m6 j hj) kC (rd_ty kT).1.1) (rd_ty kT).1.1 m5.1 m5.2.1 m5.2.2
        refine q_rv (pc := 61) rfl ?_
        exact hq M mT mX m2 mS
      · replace h7 : p < n := h7
        refine q_al (pc := 8) (i := 0) (x := 3) rfl rfl ?_
        refine q_gf (pc := 9) (m := 7002) (t := 2) (c := 0) rfl (ttKc kT (a := 3) (κ := 7) (len := 0) ⟨rfl, rfl⟩ (by decide) (by decide)).1 rfl rfl ?_
        rw [show K.1 3 0 = 2 from ttFx kT (by decide) (by decide) rfl rfl rfl]
        refine q_il (pc := 10) (i := 2) (x := p) rfl rfl ?_
        refine q_ab (pc := 11) rfl (ttKc kT (a := 2) (κ := 21) (len := 1600) ⟨rfl, rfl⟩ (by decide) (by decide)).1 (by omega) (by rw [(ttKc kT (a := 2) (κ := 21) (len := 1600) ⟨rfl, rfl⟩ (by decide) (by decide)).2]; omega) ?_
        rw [t2]
        refine q_ij (pc := 12) (q := 599924) rfl rfl rfl trivial ?_
        refine lx_kindOf (by omega) ?_
        refine q_is (pc := 13) (i := 3) (L' := [(2, 3), (0, n), (0, p), (0, (tkd (H.1 2 p))), x4]) rfl rfl rfl ?_
        refine q_il (pc := 14) (i := 2) (x := p) rfl rfl ?_
        refine q_ic (pc := 15) (v := 1) rfl ?_
        refine q_ia (pc := 16) rfl (by omega) (by omega) ?_
        refine q_is (pc := 17) (i := 4) (L' := [(2, 3), (0, n), (0, p), (0, (tkd (H.1 2 p))), (0, (p + 1))]) rfl rfl rfl ?_
        have tk := tkd_in (H.1 2 p)
        refine q_il (pc := 18) (i := 3) (x := (tkd (H.1 2 p))) rfl rfl ?_
        refine q_ic (pc := 19) (v := 1) rfl ?_
        refine q_i2 (pc := 20) rfl (fun h20 => ?_) (fun h20 => ?_)
        · replace h20 : (tkd (H.1 2 p)) = 1 := h20
          exact h24 p p0 (by omega) (by omega) (fun K q x3 x4 a b c d e1 f1 g1 => ih K q x3 x4 (by omega) b (by omega) c d e1 f1 g1) (n - (p + 1)).toNat K (p + 1) kT kX kF kC kc (by omega) (by omega) (by omega) (fun j ujj0 ujj1 => by rw [show j = p by omega])
        · replace h20 : (tkd (H.1 2 p)) ≠ 1 := h20
          refine q_il (pc := 21) (i := 3) (x := (tkd (H.1 2 p))) rfl rfl ?_
          refine q_ic (pc := 22) (v := 2) rfl ?_
          refine q_i2 (pc := 23) rfl (fun h23 => ?_) (fun h23 => ?_)
          · replace h23 : (tkd (H.1 2 p)) ≠ 2 := h23
            exact h36 p p0 (by omega) (fun K q x3 x4 a b c d e1 f1 g1 => ih K q x3 x4 (by omega) b (by omega) c d e1 f1 g1) K (p + 1) kT kX kF kC kc (by omega) (by omega) (fun w => by omega) (fun _ => rfl)
          · replace h23 : (tkd (H.1 2 p)) = 2 := h23
            exact h24 p p0 (by omega) (by omega) (fun K q x3 x4 a b c d e1 f1 g1 => ih K q x3 x4 (by omega) b (by omega) c d e1 f1 g1) (n - (p + 1)).toNat K (p + 1) kT kX kF kC kc (by omega) (by omega) (by omega) (fun j ujj0 ujj1 => by rw [show j = p by omega])
  refine xC_of (L := [(2, 3), (0, n), (9, 0), (9, 0), (9, 0)]) (cd := cd_72) rfl rfl rfl ?_
  refine q_al (pc := 0) (i := 0) (x := 3) rfl rfl ?_
  refine q_ic (pc := 1) (v := 0) rfl ?_
  refine q_pf (pc := 2) (m := 7040) (c := 4) rfl (show xPt 0 0 _ _ from (ttKc hT (a := 3) (κ := 7) (len := 0) ⟨rfl, rfl⟩ (by decide) (by decide)).1) rfl ?_
  have yc := ttPut (ttXX_out yyStab (fun _ _ => trivial)) hT hX (ttFr_rf (true, [(3, 4, 4), (4, 0, 1600), (5, 0, 1600), (6, 0, 1600)]) H) (a := 3) (j := 4) (x := 0) (by decide) (fun _ _ => show (0 : Int) ≤ 0 ∧ (0 : Int) ≤ 1601 from by decide) ⟨(3, 4, 4), by simp, ⟨⟨by decide, rfl⟩, by decide, by decide⟩⟩ (ttMay_no (r := 3) rfl (by decide))
  obtain ⟨Y, jY⟩ : ∃ X : xH, X = (xUp H.1 3 4 0, H.2) := ⟨_, rfl⟩
  rw [← jY] at yc ⊢
  have y4 : Y.1 3 4 = 0 := by rw [jY]; exact up_eq (D := H.1) (a := 3) (j := 4) (x := 0)
  refine q_ic (pc := 3) (v := 0) rfl ?_
  refine q_is (pc := 4) (i := 2) (L' := [(2, 3), (0, n), (0, 0), (9, 0), (9, 0)]) rfl rfl rfl ?_
  refine hl n.toNat Y 0 _ _ (by decide) n0 (by omega) yc.1 yc.2.1 yc.2.2 ?_ (by rw [y4]; decide)
  rw [y4]
  exact ⟨fun i i0 i1 => by omega, Int.le_of_eq (if_pos rfl).symm, Int.le_of_eq (if_pos rfl), fun j ujj0 ujj1 => by have w : tPv (Y.1 6) 0 = 0 := if_pos rfl; omega⟩
