/-! the first reader's lines, further -/
theorem sPl_v {T : tSm} {S : tSa} {N bar : Int} : (sPl T S N bar).1 = 0 ∨ 0 ≤ (sPl T S N bar).1 ∧ (sPl T S N bar).1 ≤ N - 1 := by
  unfold sPl
  split
  · exact sNm_v
  · exact sNm_v
theorem sEr_0 {T : tSm} {S : tSa} {k : Int} (hk : k ≠ 0) (h : (sEr T S k).2.1 = 0) : False := sEr_k hk h
theorem sNm_0 {T : tSm} {S : tSa} {l m : Int} (h : (sNm T S l m).2.2.1 = 0) : S.2.1 = 0 ∧ l ≤ (sNm T S l m).1 ∧ (sNm T S l m).1 ≤ m := by
  unfold sNm at h ⊢
  split at h
  · rename_i a
    split at h
    · rename_i c
      split at h
      · rename_i f
        rw [if_pos a, if_pos c, if_pos f]
        exact ⟨a, f⟩
      · exact absurd h (sEr_k (by decide))
    · exact absurd h (sEr_k (by decide))
  · rename_i a
    exact absurd h a
theorem sNd_0 {T : tSm} {S : tSa} {s : Int} (h : (sNd T S s).2.1 = 0) : S.2.1 = 0 := by
  unfold sNd at h
  split at h
  · rename_i a; exact a
  · exact h
theorem sTk_0 {T : tSm} {S : tSa} {s : Int} (h : (sTk T S s).2.2.1 = 0) : S.2.1 = 0 := by
  unfold sTk at h
  split at h
  · rename_i a; exact a.1
  · exact h
theorem sSg_0 {T : tSm} {S : tSa} {m : Int} (h : (sSg T S m).2.2.1 = 0) : S.2.1 = 0 := by
  unfold sSg at h
  split at h
  · exact (sNm_0 (sTk_0 h)).1
  · exact (sNm_0 h).1
theorem sPl_0 {T : tSm} {S : tSa} {N bar : Int} (h : (sPl T S N bar).2.2.1 = 0) : S.2.1 = 0 ∧ 0 ≤ (sPl T S N bar).1 ∧ (sPl T S N bar).1 ≤ N - 1 := by
  unfold sPl at h ⊢
  split at h
  · exact absurd (show (2 : Int) = 0 from h) (by decide)
  · rename_i w
    rw [if_neg w]; exact sNm_0 h
theorem sVt_0 {T : tSm} {n i : Int} (hO : sOk T n) (i0 : 0 ≤ i) (i1 : i < T.2.2.2.2) (h : T.2.1 i = 2) : 0 ≤ sVt T i := by
  have w := sOk_in hO i0 i1
  have u := w.2 h
  exact sVl_0 _ (fun j ujj0 ujj1 => (u j ujj0 (by have := w.1; omega)).1)
theorem bt_0 : ∀ v : Nat, v < 8 → xAnd (xShr 0 (v : Int)) 1 = 0 := by decide +kernel
theorem bt_1 : ∀ v : Nat, v < 8 → ∀ w : Nat, w < 8 → decide (xAnd (xShr (xShl 1 (v : Int)) (w : Int)) 1 ≠ 0) = decide (w = v) := by decide +kernel
theorem bt_2 : ∀ b : Nat, b < 256 → ∀ p : Nat, p < 8 → ∀ w : Nat, w < 8 → decide (xAnd (xShr (xOr (b : Int) (xShl 1 (p : Int))) (w : Int)) 1 ≠ 0) = (decide (xAnd (xShr (b : Int) (w : Int)) 1 ≠ 0) || decide (w = p)) := by decide +kernel
theorem bt_3 : ∀ b : Nat, b < 256 → ∀ w : Nat, w < 8 → xAnd (xShr (b : Int) (w : Int)) 1 = 0 ∨ xAnd (xShr (b : Int) (w : Int)) 1 = 1 := by decide +kernel
theorem sBa_0 {v : Int} (h0 : 0 ≤ v) (h1 : v ≤ 7) : ¬ sBa 0 v := by
  obtain ⟨k, rfl⟩ := Int.eq_ofNat_of_zero_le h0
  exact fun z => z (bt_0 k (by omega))
theorem sBa_1 {v w : Int} (h0 : 0 ≤ v) (h1 : v ≤ 7) (w0 : 0 ≤ w) (w1 : w ≤ 7) : sBa (xShl 1 v) w ↔ w = v := by
  obtain ⟨k, rfl⟩ := Int.eq_ofNat_of_zero_le h0
  obtain ⟨j, rfl⟩ := Int.eq_ofNat_of_zero_le w0
  have u := bt_1 k (by omega) j (by omega)
  unfold sBa
  constructor
  · intro y
    rw [decide_eq_true y] at u
    have := of_decide_eq_true u.symm
    omega
  · intro y
    have z : j = k := by omega
    rw [decide_eq_true z] at u
    exact of_decide_eq_true u
theorem sBa_2 {b p w : Int} (b0 : 0 ≤ b) (b1 : b ≤ 255) (p0 : 0 ≤ p) (p1 : p ≤ 7) (w0 : 0 ≤ w) (w1 : w ≤ 7) : sBa (xOr b (xShl 1 p)) w ↔ (sBa b w ∨ w = p) := by
  obtain ⟨c, rfl⟩ := Int.eq_ofNat_of_zero_le b0
  obtain ⟨k, rfl⟩ := Int.eq_ofNat_of_zero_le p0
  obtain ⟨j, rfl⟩ := Int.eq_ofNat_of_zero_le w0
  have u := bt_2 c (by omega) k (by omega) j (by omega)
  unfold sBa
  constructor
  · intro y
    rw [decide_eq_true y] at u
    rcases (Bool.or_eq_true _ _).mp u.symm with z | z
    · exact Or.inl (of_decide_eq_true z)
    · exact Or.inr (by have := of_decide_eq_true z; omega)
  · intro y
    refine of_decide_eq_true (u.trans ?_)
    rcases y with y | y
    · rw [decide_eq_true y]; rfl
    · have z : j = k := by omega
      rw [decide_eq_true z, Bool.or_true]
theorem sBa_3 {b w : Int} (b0 : 0 ≤ b) (b1 : b ≤ 255) (w0 : 0 ≤ w) (w1 : w ≤ 7) : sBa b w ↔ xAnd (xShr b w) 1 = 1 := by
  obtain ⟨c, rfl⟩ := Int.eq_ofNat_of_zero_le b0
  obtain ⟨j, rfl⟩ := Int.eq_ofNat_of_zero_le w0
  have u := bt_3 c (by omega) j (by omega)
  unfold sBa
  omega
/-- a place that is barred: told after the token, or before it -/
theorem sPl_b {T : tSm} {n : Int} {S S1 : tSa} {N bar : Int} (hO : sOk T n) (i0 : 0 ≤ S.1) (i1 : S.1 < T.2.2.2.2) (hN : N ≤ 8) (bad : Int → Prop) (hb : ∀ w : Int, 0 ≤ w → w ≤ N - 1 → (sBa bar w ↔ bad w)) (hy : S.2.1 = 0 → T.2.1 S.1 = 2 → 0 ≤ sVt T S.1 → sVt T S.1 ≤ N - 1 → bad (sVt T S.1) → S1 = sEr T S 2) (hz : ¬ (S.2.1 = 0 ∧ T.2.1 S.1 = 2 ∧ sVt T S.1 ≤ N - 1 ∧ bad (sVt T S.1)) → S1 = S ∨ (S.2.1 = 0 ∧ T.2.1 S.1 = 2 ∧ N - 1 < sVt T S.1 ∧ S1 = sEr T S 2)) : (sPl T S N bar).2 = (sNm T S1 0 (N - 1)).2 ∧ ((sPl T S N bar).2.2.1 = 0 → (sPl T S N bar).1 = (sNm T S1 0 (N - 1)).1) := by
  have er : ∀ {X : tSa} {l m : Int}, X.2.1 ≠ 0 → sNm T X l m = (0, X) := fun h => if_neg h
  by_cases a : S.2.1 = 0
  · by_cases c : T.2.1 S.1 = 2
    · have v0 := sVt_0 hO i0 i1 c
      by_cases f : sVt T S.1 ≤ N - 1
      · have e1 : sNm T S 0 (N - 1) = (sVt T S.1, (sNx T S.1, S.2)) := (if_pos a).trans ((if_pos c).trans (if_pos ⟨v0, f⟩))
        by_cases g : bad (sVt T S.1)
        · have e2 := hy a c v0 f g
          have e3 : sPl T S N bar = (sVt T S.1, (S.1, 2, T.2.2.1 S.1)) := by
            unfold sPl
            rw [e1]
            exact if_pos ⟨a, @decide_eq_true _ (Classical.propDecidable _) ((hb _ v0 f).mpr g)⟩
          rw [e3, e2, sEr_t a, er (show ((S.1, 2, T.2.2.1 S.1) : tSa).2.1 ≠ 0 from (by decide : (2 : Int) ≠ 0))]
          exact ⟨rfl, fun y => absurd (show (2 : Int) = 0 from y) (by decide)⟩
        · have e2 : S1 = S := by
            rcases hz (fun z => g z.2.2.2) with z | ⟨-, -, z, -⟩
            · exact z
            · omega
          have e3 : sPl T S N bar = sNm T S 0 (N - 1) := by
            unfold sPl
            rw [e1]
            exact if_neg (fun z => absurd z.2 (by rw [@decide_eq_false _ (Classical.propDecidable _) (fun y => g ((hb _ v0 f).mp y))]; decide))
          rw [e3, e2]
          exact ⟨rfl, fun _ => rfl⟩
      · have e1 : sNm T S 0 (N - 1) = (0, sEr T S 2) := (if_pos a).trans ((if_pos c).trans (if_neg (fun z => f z.2)))
        have e3 : sPl T S N bar = sNm T S 0 (N - 1) := by
          unfold sPl
          exact if_neg (fun z => absurd z.1 (by rw [e1]; exact sEr_k (by decide)))
        rw [e3]
        rcases hz (fun z => f z.2.2.1) with z | ⟨-, -, -, z⟩
        · rw [z]; exact ⟨rfl, fun _ => rfl⟩
        · rw [e1, z, er (sEr_k (by decide))]
          exact ⟨rfl, fun y => absurd y (sEr_k (by decide))⟩
    · have e1 : sNm T S 0 (N - 1) = (0, sEr T S 1) := (if_pos a).trans (if_neg c)
      have e3 : sPl T S N bar = sNm T S 0 (N - 1) := by
        unfold sPl
        exact if_neg (fun z => absurd z.1 (by rw [e1]; exact sEr_k (by decide)))
      have e2 : S1 = S := by
        rcases hz (fun z => c z.2.1) with z | z
        · exact z
        · exact absurd z.2.1 c
      rw [e3, e2]
      exact ⟨rfl, fun _ => rfl⟩
  · have e1 : sNm T S 0 (N - 1) = (0, S) := er a
    have e3 : sPl T S N bar = sNm T S 0 (N - 1) := by
      unfold sPl
      exact if_neg (fun z => absurd z.1 (by rw [e1]; exact a))
    have e2 : S1 = S := by
      rcases hz (fun z => a z.1) with z | z
      · exact z
      · exact absurd z.1 a
    rw [e3, e2]
    exact ⟨rfl, fun _ => rfl⟩
theorem sPl_n {T : tSm} {n : Int} {S : tSa} {N : Int} (hO : sOk T n) (i0 : 0 ≤ S.1) (i1 : S.1 < T.2.2.2.2) (hN : N ≤ 8) : sPl T S N 0 = sNm T S 0 (N - 1) := by
  unfold sPl
  refine if_neg (fun z => ?_)
  have u := sNm_0 z.1
  exact absurd z.2 (by rw [@decide_eq_false _ (Classical.propDecidable _) (sBa_0 u.2.1 (by omega))]; decide)
theorem sr_leg {D D' : xD} {b : Int} {S S' : tSa} {R R' : Int → Int} {h l : Int} (v : Int → Int) (hR : skR D b (S, R, h)) (ujr6 : R 3 ≤ 6) (l0 : 0 ≤ l) (l9 : l ≤ 9) (hl : R 2 = l) (dA : ∀ j : Int, j ≠ 5 → D' b j = D b j) (d5 : D' b 5 = l + 1) (dN : ∀ a j : Int, b < a → a ≤ b + 26 → a ≠ b + 17 + l → D' a j = D a j) (dq : ∀ c : Int, 0 ≤ c → c ≤ 5 → D' (b + 17 + l) c = v c) (rv : ∀ c : Int, 0 ≤ c → c ≤ 5 → R' (84 + 6 * l + c) = v c) (ujr2 : R' 2 = l + 1) (rN : ∀ i : Int, i ≠ 2 → (i < 84 + 6 * l ∨ 84 + 6 * l + 5 < i) → R' i = R i) : skR D' b (S', R', h) := by
  obtain ⟨h1, h2, h3, h4, h5, h6⟩ := hR
  have h3 : skL D b R := h3
  refine ⟨skA_1 5 2 (l + 1) (by decide) h1 d5 ujr2 (fun k k0 _ => dA k k0) (fun k k0 k1 _ _ k2 => rN k k2 (Or.inl (by omega))), skP_c h2 (fun a j a0 a1 => dN a j (by omega) (by omega) (by omega)) (rN 1 (by decide) (Or.inl (by omega))) (fun i i0 i1 => rN i (by omega) (Or.inl (by omega))), ⟨fun q c q0 q1 q9 c0 c1 => ?_, fun q q0 q1 q9 => ?_⟩, skV_c h4 ujr6 (fun a j a0 a1 => dN a j (by omega) (by omega) (by omega)) (rN 3 (by decide) (Or.inl (by omega))) (fun i i0 i1 => rN i (by omega) (Or.inr (by omega))), skI_c h5 (fun a j a0 a1 => dN a j (by omega) (by omega) (by omega)) (rN 4 (by decide) (Or.inl (by omega))) (fun i i0 => rN i (by omega) (Or.inr (by omega))), skH_c h6 (dA 14 (by decide)) (rN 1 (by decide) (Or.inl (by omega))) (fun p p0 p1 => rN _ (by omega) (Or.inl (by omega)))⟩
  · have q1 : q < R' 2 := q1
    by_cases z : q = l
    · rw [z]; exact (dq c c0 c1).trans (rv c c0 c1).symm
    · show D' (b + 17 + q) c = R' (84 + 6 * q + c)
      rw [dN _ c (by omega) (by omega) (by omega), rN _ (by omega) (by omega)]
      exact h3.1 q c q0 (by omega) q9 c0 c1
  · have q1 : R' 2 ≤ q := q1
    show R' (84 + 6 * q + 5) = 0
    rw [rN _ (by omega) (by omega)]
    exact h3.2 q q0 (by omega) q9
theorem sr_lift {D D' : xD} {b : Int} {S S' : tSa} {R R' : Int → Int} {h p c u s t : Int} (hR : skR D b (S, R, h)) (ujr6 : R 3 ≤ 6) (p0 : 0 ≤ p) (p7 : p ≤ 7) (dA : ∀ j : Int, D' b j = D b j) (dN : ∀ a j : Int, b < a → a ≤ b + 26 → a ≠ b + 9 + p → D' a j = D a j) (dq : (D' (b + 9 + p) 0 = D (b + 9 + p) 0 ∧ D' (b + 9 + p) 1 = D (b + 9 + p) 1) ∧ D' (b + 9 + p) 2 = 1 ∧ D' (b + 9 + p) 3 = c ∧ D' (b + 9 + p) 4 = u ∧ D' (b + 9 + p) 5 = s ∧ D' (b + 9 + p) 6 = t) (rq : R' (20 + 8 * p + 3) = 1 ∧ R' (20 + 8 * p + 4) = c ∧ R' (20 + 8 * p + 5) = u ∧ R' (20 + 8 * p + 6) = s ∧ R' (20 + 8 * p + 7) = t) (rN : ∀ i : Int, (i < 20 + 8 * p + 3 ∨ 20 + 8 * p + 7 < i) → R' i = R i) : skR D' b (S', R', h) := by
  obtain ⟨h1, h2, h3, h4, h5, h6⟩ := hR
  have h2 : skP D b R := h2
  refine ⟨skA_c h1 (fun j _ => dA j) (fun i i0 i1 _ _ => rN i (Or.inl (by omega))), fun q q0 q7 => ?_, skL_c h3 (fun a j a0 a1 => dN a j (by omega) (by omega) (by omega)) (rN 2 (Or.inl (by omega))) (fun i i0 i1 => rN i (Or.inr (by omega))), skV_c h4 ujr6 (fun a j a0 a1 => dN a j (by omega) (by omega) (by omega)) (rN 3 (Or.inl (by omega))) (fun i i0 i1 => rN i (Or.inr (by omega))), skI_c h5 (fun a j a0 a1 => dN a j (by omega) (by omega) (by omega)) (rN 4 (Or.inl (by omega))) (fun i i0 => rN i (Or.inr (by omega))), skH_c h6 (dA 14) (rN 1 (Or.inl (by omega))) (fun q q0 q1 => rN _ (by omega))⟩
  have e1 : R' 1 = R 1 := rN 1 (Or.inl (by omega))
  show skP1 D' (b + 9 + q) R' (20 + 8 * q) ∧ (R' 1 ≤ q → R' (20 + 8 * q + 1) = 0)
  by_cases z : q = p
  · subst z
    obtain ⟨⟨w1, w2, w3, w4, w5⟩, w9⟩ := h2 q q0 q7
    refine ⟨⟨?_, ?_, dq.2.1.trans rq.1.symm, ⟨dq.2.2.1.trans rq.2.1.symm, dq.2.2.2.1.trans rq.2.2.1.symm, dq.2.2.2.2.1.trans rq.2.2.2.1.symm, dq.2.2.2.2.2.trans rq.2.2.2.2.symm⟩, fun y => absurd rq.1 y⟩, fun y => ?_⟩
    · rw [dq.1.1, rN _ (Or.inl (by omega))]; exact w1
    · rw [dq.1.2, rN _ (Or.inl (by omega)), rN _ (Or.inl (by omega))]; exact w2
    · show R' (20 + 8 * q + 1) = 0
      rw [rN _ (Or.inl (by omega))]; exact w9 (by rw [← e1]; exact y)
  · refine ⟨skP1_c (h2 q q0 q7).1 (fun j _ _ => dN _ j (by omega) (by omega) (by omega)) (fun i i0 i1 => rN i (by omega)), fun y => ?_⟩
    show R' (20 + 8 * q + 1) = 0
    rw [rN _ (by omega)]; exact (h2 q q0 q7).2 (by rw [← e1]; exact y)
theorem sr_speed {D D' : xD} {b : Int} {S S' : tSa} {R R' : Int → Int} {h s x y : Int} (hR : skR D b (S, R, h)) (s0 : 0 ≤ s) (s5 : s ≤ 5) (hs : R 3 = s) (dA : ∀ j : Int, D' b j = D b j) (d3 : D' (b + 3) 0 = s + 1) (dN : ∀ a j : Int, b + 6 ≤ a → a ≤ b + 26 → D' a j = D a j) (dv : D' (b + 4) s = x ∧ D' (b + 5) s = y) (dw : ∀ j : Int, j ≠ s → D' (b + 4) j = D (b + 4) j ∧ D' (b + 5) j = D (b + 5) j) (rv : R' (144 + 2 * s) = x ∧ R' (144 + 2 * s + 1) = y) (ujr3 : R' 3 = s + 1) (rN : ∀ i : Int, i ≠ 3 → (i < 144 + 2 * s ∨ 144 + 2 * s + 1 < i) → R' i = R i) : skR D' b (S', R', h) := by
  obtain ⟨h1, h2, h3, h4, h5, h6⟩ := hR
  have h4 : skV D b R := h4
  refine ⟨skA_c h1 (fun j _ => dA j) (fun i i0 i1 i3 _ => rN i i3 (Or.inl (by omega))), skP_c h2 (fun a j a0 a1 => dN a j (by omega) (by omega)) (rN 1 (by decide) (Or.inl (by omega))) (fun i i0 i1 => rN i (by omega) (Or.inl (by omega))), skL_c h3 (fun a j a0 a1 => dN a j (by omega) (by omega)) (rN 2 (by decide) (Or.inl (by omega))) (fun i i0 i1 => rN i (by omega) (Or.inl (by omega))), ⟨d3.trans ujr3.symm, fun q q0 q1 => ?_⟩, skI_c h5 (fun a j a0 a1 => dN a j (by omega) (by omega)) (rN 4 (by decide) (Or.inl (by omega))) (fun i i0 => rN i (by omega) (Or.inr (by omega))), skH_c h6 (dA 14) (rN 1 (by decide) (Or.inl (by omega))) (fun p p0 p1 => rN _ (by omega) (Or.inl (by omega)))⟩
  have q1 : q < R' 3 := q1
  show D' (b + 4) q = R' (144 + 2 * q) ∧ D' (b + 5) q = R' (144 + 2 * q + 1)
  by_cases z : q = s
  · rw [z]; exact ⟨dv.1.trans rv.1.symm, dv.2.trans rv.2.symm⟩
  · rw [(dw q z).1, (dw q z).2, rN _ (by omega) (by omega), rN _ (by omega) (by omega)]
    exact h4.2 q q0 (by omega)
theorem sr_one {D D' : xD} {b : Int} {S S' : tSa} {R R' : Int → Int} {h : Int} (j i v : Int) (hij : ∀ q ∈ skS, ((q : Int × Int).1 = j ↔ q.2 = i)) (ji : j ≠ 14 ∧ i ≠ 1 ∧ i ≠ 2 ∧ i ≠ 3 ∧ i ≠ 4 ∧ i < 20) (hR : skR D b (S, R, h)) (ujr6 : R 3 ≤ 6) (dj : D' b j = v) (dA : ∀ k : Int, k ≠ j → D' b k = D b k) (dN : ∀ a k : Int, b < a → a ≤ b + 26 → D' a k = D a k) (ri : R' i = v) (rN : ∀ k : Int, k ≠ i → R' k = R k) : skR D' b (S', R', h) := by
  obtain ⟨h1, h2, h3, h4, h5, h6⟩ := hR
  obtain ⟨a1, a2, a3, a4, a5, a6⟩ := ji
  exact ⟨skA_1 j i v hij h1 dj ri (fun k k0 _ => dA k k0) (fun k _ _ _ _ k2 => rN k k2), skP_c h2 (fun a j a0 a1 => dN a j (by omega) (by omega)) (rN 1 (Ne.symm a2)) (fun k k0 k1 => rN k (by omega)), skL_c h3 (fun a j a0 a1 => dN a j (by omega) (by omega)) (rN 2 (Ne.symm a3)) (fun k k0 k1 => rN k (by omega)), skV_c h4 ujr6 (fun a j a0 a1 => dN a j (by omega) (by omega)) (rN 3 (Ne.symm a4)) (fun k k0 k1 => rN k (by omega)), skI_c h5 (fun a j a0 a1 => dN a j (by omega) (by omega)) (rN 4 (Ne.symm a5)) (fun k k0 => rN k (by omega)), skH_c h6 (dA 14 (Ne.symm a1)) (rN 1 (Ne.symm a2)) (fun p p0 p1 => rN _ (by omega))⟩
theorem zBl_e {T : tSm} {k : Int} {S : tSa} {R : Int → Int} {h : Int} : ∃ S1, zBl T k (S, R, h) = (S1, R, h) ∧ ((S.2.1 = 0 ∧ T.2.1 S.1 = 2 ∧ min 99999 (sVt T S.1) = R k) → S1 = sEr T S 2) ∧ (¬ (S.2.1 = 0 ∧ T.2.1 S.1 = 2 ∧ min 99999 (sVt T S.1) = R k) → S1 = S) := by
  by_cases z : S.2.1 = 0 ∧ T.2.1 S.1 = 2 ∧ min 99999 (sVt T S.1) = R k
  · exact ⟨sEr T S 2, if_pos z, fun _ => rfl, fun y => absurd z y⟩
  · exact ⟨S, if_neg z, fun y => absurd y z, fun _ => rfl⟩
theorem zBf_e {T : tSm} {S : tSa} {R : Int → Int} {h : Int} : ∃ S1, zBf T (S, R, h) = (S1, R, h) ∧ ((S.2.1 = 0 ∧ T.2.1 S.1 = 2 ∧ (0 ≤ min 99999 (sVt T S.1) ∧ min 99999 (sVt T S.1) ≤ R 1 - 1) ∧ R (20 + 8 * min 99999 (sVt T S.1) + 3) = 1) → S1 = sEr T S 2) ∧ (¬ (S.2.1 = 0 ∧ T.2.1 S.1 = 2 ∧ (0 ≤ min 99999 (sVt T S.1) ∧ min 99999 (sVt T S.1) ≤ R 1 - 1) ∧ R (20 + 8 * min 99999 (sVt T S.1) + 3) = 1) → S1 = S) := by
  by_cases z : S.2.1 = 0 ∧ T.2.1 S.1 = 2 ∧ (0 ≤ min 99999 (sVt T S.1) ∧ min 99999 (sVt T S.1) ≤ R 1 - 1) ∧ R (20 + 8 * min 99999 (sVt T S.1) + 3) = 1
  · exact ⟨sEr T S 2, if_pos z, fun _ => rfl, fun y => absurd z y⟩
  · exact ⟨S, if_neg z, fun y => absurd y z, fun _ => rfl⟩
theorem zBp_e {T : tSm} {S : tSa} {R : Int → Int} {h : Int} : ∃ S1, zBp T (S, R, h) = (S1, R, h) ∧ ((S.2.1 = 0 ∧ T.2.1 S.1 = 2 ∧ (0 ≤ min 99999 (sVt T S.1) ∧ min 99999 (sVt T S.1) ≤ R 1 - 1) ∧ xAnd (xShr (R 15) (min 99999 (sVt T S.1))) 1 = 1) → S1 = sEr T S 2) ∧ (¬ (S.2.1 = 0 ∧ T.2.1 S.1 = 2 ∧ (0 ≤ min 99999 (sVt T S.1) ∧ min 99999 (sVt T S.1) ≤ R 1 - 1) ∧ xAnd (xShr (R 15) (min 99999 (sVt T S.1))) 1 = 1) → S1 = S) := by
  by_cases z : S.2.1 = 0 ∧ T.2.1 S.1 = 2 ∧ (0 ≤ min 99999 (sVt T S.1) ∧ min 99999 (sVt T S.1) ≤ R 1 - 1) ∧ xAnd (xShr (R 15) (min 99999 (sVt T S.1))) 1 = 1
  · exact ⟨sEr T S 2, if_pos z, fun _ => rfl, fun y => absurd z y⟩
  · exact ⟨S, if_neg z, fun y => absurd y z, fun _ => rfl⟩
theorem fl_43 {e : Nat} (he : 7 ≤ e) {H : xH} {T : tSm} {n b : Int} (hb : b = 7 ∨ b = 34) (hO : sOk T n) {Z : tZ} (zB0 : rB T H H Z.1) (h9 : H.1 3 9 = b) (hW : skW H.1 b) (hR : skR H.1 b Z) (hw : zRw Z) (m1 : Z.2.1 2 ≤ 9) {K : xH} {S : tSa} (zB1 : rB T H K S) {x1 x2 x3 x4 x5 x6 : Int} (b1 : 0 ≤ x1 ∧ x1 ≤ 7) (b2 : 0 ≤ x2 ∧ x2 ≤ 7) (b3 : -2000 ≤ x3 ∧ x3 ≤ 2000) (b4 : -2000 ≤ x4 ∧ x4 ≤ 2000) (b5 : -2000 ≤ x5 ∧ x5 ≤ 2000) (b6 : -2000 ≤ x6 ∧ x6 ≤ 2000) {Q : Int → xH → Prop} (hf : S.2.1 ≠ 0 → Q 0 K) (ho : S.2.1 = 0 → ∀ J, ttTI J → ttXX YY J → ttFr eL H J → skO b H J → cT J = T ∧ cS J = S → (∀ R1 : Int → Int, (R1 (84 + 6 * Z.2.1 2 + 0) = x1 ∧ R1 (84 + 6 * Z.2.1 2 + 1) = x2 ∧ R1 (84 + 6 * Z.2.1 2 + 2) = x3 ∧ R1 (84 + 6 * Z.2.1 2 + 3) = x4 ∧ R1 (84 + 6 * Z.2.1 2 + 4) = x5 ∧ R1 (84 + 6 * Z.2.1 2 + 5) = x6) → R1 2 = Z.2.1 2 + 1 → (∀ i : Int, i ≠ 2 → (i < (84 + 6 * Z.2.1 2) ∨ (84 + 6 * Z.2.1 2 + 5) < i) → R1 i = Z.2.1 i) → skR J.1 b (S, R1, Z.2.2)) → Q 0 J) : xW e cd_88 Q (43, [(2, 3), (0, x1), (0, x2), (0, x3), (0, x4), (0, x5), (0, x6), (9, 0)], [], K) := by
  have hB := skB_2 hb
  have hi := skB_in hB
  have hn := rB_n zB0
  have m0 := hw.2.2.1.1
  obtain ⟨l, jl⟩ : ∃ l, l = Z.2.1 2 := ⟨_, rfl⟩
  have el : H.1 b 5 = l := (skA_i hR.1 (j := 5) (i := 2) (by decide)).trans jl.symm
  rw [← jl] at m0 m1 ho
  have hRK : skR K.1 b Z := skR_D hR hw.2.2.2.1.2 (fun a j a0 a1 => rB_sk zB1 hB a0 a1)
  refine q_al (pc := 43) (i := 0) (x := 3) rfl rfl ?_
  refine q_gf (pc := 44) (m := 7060) (t := 0) (c := 6) rfl (ttKc zB1.1 (a := 3) (κ := 7) (len := 0) ⟨rfl, rfl⟩ (by decide) (by decide)).1 rfl rfl ?_
  rw [show K.1 3 6 = S.2.1 from rB_f zB1]
  refine q_if (pc := 45) rfl (fun h45 => ?_) (fun h45 => ?_)
  · replace h45 : S.2.1 ≠ 0 := h45
    refine q_rv (pc := 84) rfl ?_
    exact hf h45
  · replace h45 : S.2.1 = 0 := h45
    refine q_al (pc := 46) (i := 0) (x := 3) rfl rfl ?_
    refine q_gf (pc := 47) (m := 7092) (t := 2) (c := 9) rfl (ttKc zB1.1 (a := 3) (κ := 7) (len := 0) ⟨rfl, rfl⟩ (by decide) (by decide)).1 rfl rfl ?_
    rw [show K.1 3 9 = b from (rB_9 zB1).trans h9]
    refine q_gf (pc := 48) (m := 10050) (t := 0) (c := 5) rfl (sk_kb zB1.1 hB).1 rfl rfl ?_
    rw [show K.1 b 5 = l from (rB_sk zB1 hB (by omega) (by omega)).trans el]
    refine q_ic (pc := 49) (v := 10) rfl ?_
    refine q_i2 (pc := 50) rfl (fun h50 => ?_) (fun h50 => ?_)
    · replace h50 : 10 ≤ l := h50
      refine q_rv (pc := 84) rfl ?_
      omega
    · replace h50 : l < 10 := h50
      refine q_al (pc := 51) (i := 0) (x := 3) rfl rfl ?_
      refine q_gf (pc := 52) (m := 7092) (t := 2) (c := 9) rfl (ttKc zB1.1 (a := 3) (κ := 7) (len := 0) ⟨rfl, rfl⟩ (by decide) (by decide)).1 rfl rfl ?_
      rw [show K.1 3 9 = b from (rB_9 zB1).trans h9]
      refine q_gf (pc := 53) (m := 10012) (t := 2) (c := 1) rfl (sk_kb zB1.1 hB).1 rfl rfl ?_
      rw [show K.1 b 1 = (b + 2) from (rB_W zB1 hB hW).1.2.1]
      refine q_al (pc := 54) (i := 0) (x := 3) rfl rfl ?_
      refine q_gf (pc := 55) (m := 7092) (t := 2) (c := 9) rfl (ttKc zB1.1 (a := 3) (κ := 7) (len := 0) ⟨rfl, rfl⟩ (by decide) (by decide)).1 rfl rfl ?_
      rw [show K.1 3 9 = b from (rB_9 zB1).trans h9]
      refine q_gf (pc := 56) (m := 10050) (t := 0) (c := 5) rfl (sk_kb zB1.1 hB).1 rfl rfl ?_
      rw [show K.1 b 5 = l from (rB_sk zB1 hB (by omega) (by omega)).trans el]
      refine q_aa (pc := 57) rfl (by rw [(sk_kx zB1.1 hB (o := 2) (by decide) (by decide) (κ := 26) (len := 10) ⟨rfl, rfl⟩).1]; decide) (by omega) (by rw [(sk_kx zB1.1 hB (o := 2) (by decide) (by decide) (κ := 26) (len := 10) ⟨rfl, rfl⟩).2]; omega) ?_
      rw [show K.1 (b + 2) l = (b + 17 + l) from (rB_W zB1 hB hW).2.2.1 _ (by omega) (by omega)]
      refine q_as (pc := 58) (i := 7) (L' := [(2, 3), (0, x1), (0, x2), (0, x3), (0, x4), (0, x5), (0, x6), (2, (b + 17 + l))]) rfl rfl rfl (by omega) ?_
      refine q_al (pc := 59) (i := 7) (x := (b + 17 + l)) rfl rfl ?_
      refine q_il (pc := 60) (i := 1) (x := x1) rfl rfl ?_
      refine q_pf (pc := 61) (m := 2000) (c := 0) rfl (show xPt 0 0 _ _ from (sk_kl zB1.1 hB (by omega) (by omega)).1) rfl ?_
      have y2 := rB_put zB1.1 zB1.2.1 (rB_L zB1) (a := (b + 17 + l)) (j := 0) (x := x1) 24 (sk_rl hB (by omega) (by omega)) (by omega) (show (0 : Int) ≤ x1 ∧ x1 ≤ 7 from ⟨by omega, by omega⟩) ⟨(24, 0, 5), by decide, rfl, (show (0 : Int) ≤ 0 ∧ 0 ≤ 5 from ⟨by omega, by omega⟩)⟩ (by decide)
      obtain ⟨Y2, yk2⟩ : ∃ X : xH, X = (xUp K.1 (b + 17 + l) 0 x1, K.2) := ⟨_, rfl⟩
      rw [← yk2] at y2 ⊢
      have o_Y2 : skO b H Y2 := skO_u (by first | assumption | exact skO_B (by assumption) | exact skO_t2 (by assumption) (by assumption)) (skB_2 hb) (by omega) yk2
      have cc2 : cT Y2 = T ∧ cS Y2 = S := by rw [yk2]; exact ⟨(cT_up (by omega)).trans zB1.2.2.2.1.1, (cS_up (by omega)).trans zB1.2.2.2.1.2⟩
      have tr_Y2_b_5 : Y2.1 b 5 = l := by rw [yk2]; exact (up_ne (by omega)).trans ((rB_sk zB1 hB (by omega) (by omega)).trans el)
      refine q_al (pc := 62) (i := 7) (x := (b + 17 + l)) rfl rfl ?_
      refine q_il (pc := 63) (i := 2) (x := x2) rfl rfl ?_
      refine q_pf (pc := 64) (m := 2010) (c := 1) rfl (show xPt 0 0 _ _ from (sk_kl y2.1 hB (by omega) (by omega)).1) rfl ?_
      have y3 := rB_put y2.1 y2.2.1 y2.2.2 (a := (b + 17 + l)) (j := 1) (x := x2) 24 (sk_rl hB (by omega) (by omega)) (by omega) (show (0 : Int) ≤ x2 ∧ x2 ≤ 7 from ⟨by omega, by omega⟩) ⟨(24, 0, 5), by decide, rfl, (show (0 : Int) ≤ 1 ∧ 1 ≤ 5 from ⟨by omega, by omega⟩)⟩ (by decide)
      obtain ⟨Y3, yk3⟩ : ∃ X : xH, X = (xUp Y2.1 (b + 17 + l) 1 x2, Y2.2) := ⟨_, rfl⟩
      rw [← yk3] at y3 ⊢
      have o_Y3 : skO b H Y3 := skO_u (by first | assumption | exact skO_B (by assumption) | exact skO_t2 (by assumption) (by assumption)) (skB_2 hb) (by omega) yk3
      have cc3 : cT Y3 = T ∧ cS Y3 = S := by rw [yk3]; exact ⟨(cT_up (by omega)).trans cc2.1, (cS_up (by omega)).trans cc2.2⟩
      have tr_Y3_b_5 : Y3.1 b 5 = l := by rw [yk3]; exact (up_ne (by omega)).trans (tr_Y2_b_5)
      refine q_al (pc := 65) (i := 7) (x := (b + 17 + l)) rfl rfl ?_
      refine q_il (pc := 66) (i := 3) (x := x3) rfl rfl ?_
      refine q_pf (pc := 67) (m := 2020) (c := 2) rfl (show xPt 0 0 _ _ from (sk_kl y3.1 hB (by omega) (by omega)).1) rfl ?_
      have y4 := rB_put y3.1 y3.2.1 y3.2.2 (a := (b + 17 + l)) (j := 2) (x := x3) 24 (sk_rl hB (by omega) (by omega)) (by omega) (show ((-2147483648) : Int) ≤ x3 ∧ x3 ≤ 2147483647 from ⟨by omega, by omega⟩) ⟨(24, 0, 5), by decide, rfl, (show (0 : Int) ≤ 2 ∧ 2 ≤ 5 from ⟨by omega, by omega⟩)⟩ (by decide)
      obtain ⟨Y4, yk4⟩ : ∃ X : xH, X = (xUp Y3.1 (b + 17 + l) 2 x3, Y3.2) := ⟨_, rfl⟩
      rw [← yk4] at y4 ⊢
      have o_Y4 : skO b H Y4 := skO_u (by first | assumption | exact skO_B (by assumption) | exact skO_t2 (by assumption) (by assumption)) (skB_2 hb) (by omega) yk4
      have cc4 : cT Y4 = T ∧ cS Y4 = S := by rw [yk4]; exact ⟨(cT_up (by omega)).trans cc3.1, (cS_up (by omega)).trans cc3.2⟩
      have tr_Y4_b_5 : Y4.1 b 5 = l := by rw [yk4]; exact (up_ne (by omega)).trans (tr_Y3_b_5)
      refine q_al (pc := 68) (i := 7) (x := (b + 17 + l)) rfl rfl ?_
      refine q_il (pc := 69) (i := 4) (x := x4) rfl rfl ?_
      refine q_pf (pc := 70) (m := 2030) (c := 3) rfl (show xPt 0 0 _ _ from (sk_kl y4.1 hB (by omega) (by omega)).1) rfl ?_
      have y5 := rB_put y4.1 y4.2.1 y4.2.2 (a := (b + 17 + l)) (j := 3) (x := x4) 24 (sk_rl hB (by omega) (by omega)) (by omega) (show ((-2147483648) : Int) ≤ x4 ∧ x4 ≤ 2147483647 from ⟨by omega, by omega⟩) ⟨(24, 0, 5), by decide, rfl, (show (0 : Int) ≤ 3 ∧ 3 ≤ 5 from ⟨by omega, by omega⟩)⟩ (by decide)
      obtain ⟨Y5, yk5⟩ : ∃ X : xH, X = (xUp Y4.1 (b + 17 + l) 3 x4, Y4.2) := ⟨_, rfl⟩
      rw [← yk5] at y5 ⊢
      have o_Y5 : skO b H Y5 := skO_u (by first | assumption | exact skO_B (by assumption) | exact skO_t2 (by assumption) (by assumption)) (skB_2 hb) (by omega) yk5
      have cc5 : cT Y5 = T ∧ cS Y5 = S := by rw [yk5]; exact ⟨(cT_up (by omega)).trans cc4.1, (cS_up (by omega)).trans cc4.2⟩
      have tr_Y5_b_5 : Y5.1 b 5 = l := by rw [yk5]; exact (up_ne (by omega)).trans (tr_Y4_b_5)
      refine q_al (pc := 71) (i := 7) (x := (b + 17 + l)) rfl rfl ?_
      refine q_il (pc := 72) (i := 5) (x := x5) rfl rfl ?_
      refine q_pf (pc := 73) (m := 2040) (c := 4) rfl (show xPt 0 0 _ _ from (sk_kl y5.1 hB (by omega) (by omega)).1) rfl ?_
      have y6 := rB_put y5.1 y5.2.1 y5.2.2 (a := (b + 17 + l)) (j := 4) (x := x5) 24 (sk_rl hB (by omega) (by omega)) (by omega) (show ((-2147483648) : Int) ≤ x5 ∧ x5 ≤ 2147483647 from ⟨by omega, by omega⟩) ⟨(24, 0, 5), by decide, rfl, (show (0 : Int) ≤ 4 ∧ 4 ≤ 5 from ⟨by omega, by omega⟩)⟩ (by decide)
      obtain ⟨Y6, yk6⟩ : ∃ X : xH, X = (xUp Y5.1 (b + 17 + l) 4 x5, Y5.2) := ⟨_, rfl⟩
      rw [← yk6] at y6 ⊢
      have o_Y6 : skO b H Y6 := skO_u (by first | assumption | exact skO_B (by assumption) | exact skO_t2 (by assumption) (by assumption)) (skB_2 hb) (by omega) yk6
      have cc6 : cT Y6 = T ∧ cS Y6 = S := by rw [yk6]; exact ⟨(cT_up (by omega)).trans cc5.1, (cS_up (by omega)).trans cc5.2⟩
      have tr_Y6_b_5 : Y6.1 b 5 = l := by rw [yk6]; exact (up_ne (by omega)).trans (tr_Y5_b_5)
      refine q_al (pc := 74) (i := 7) (x := (b + 17 + l)) rfl rfl ?_
      refine q_il (pc := 75) (i := 6) (x := x6) rfl rfl ?_
      refine q_pf (pc := 76) (m := 2050) (c := 5) rfl (show xPt 0 0 _ _ from (sk_kl y6.1 hB (by omega) (by omega)).1) rfl ?_
      have y7 := rB_put y6.1 y6.2.1 y6.2.2 (a := (b + 17 + l)) (j := 5) (x := x6) 24 (sk_rl hB (by omega) (by omega)) (by omega) (show ((-2147483648) : Int) ≤ x6 ∧ x6 ≤ 2147483647 from ⟨by omega, by omega⟩) ⟨(24, 0, 5), by decide, rfl, (show (0 : Int) ≤ 5 ∧ 5 ≤ 5 from ⟨by omega, by omega⟩)⟩ (by decide)
      obtain ⟨Y7, yk7⟩ : ∃ X : xH, X = (xUp Y6.1 (b + 17 + l) 5 x6, Y6.2) := ⟨_, rfl⟩
      rw [← yk7] at y7 ⊢
      have o_Y7 : skO b H Y7 := skO_u (by first | assumption | exact skO_B (by assumption) | exact skO_t2 (by assumption) (by assumption)) (skB_2 hb) (by omega) yk7
      have cc7 : cT Y7 = T ∧ cS Y7 = S := by rw [yk7]; exact ⟨(cT_up (by omega)).trans cc6.1, (cS_up (by omega)).trans cc6.2⟩
      have tr_Y7_b_5 : Y7.1 b 5 = l := by rw [yk7]; exact (up_ne (by omega)).trans (tr_Y6_b_5)
      refine q_al (pc := 77) (i := 0) (x := 3) rfl rfl ?_
      refine q_gf (pc := 78) (m := 7092) (t := 2) (c := 9) rfl (ttKc y7.1 (a := 3) (κ := 7) (len := 0) ⟨rfl, rfl⟩ (by decide) (by decide)).1 rfl rfl ?_
      rw [show Y7.1 3 9 = b from (fr_cl y7.2.2 (a := 3) (j := 9) (by omega) (by decide)).trans h9]
      refine q_d2 (pc := 79) rfl ?_
      refine q_gf (pc := 80) (m := 10050) (t := 0) (c := 5) rfl (sk_kb y7.1 hB).1 rfl rfl ?_
      rw [show Y7.1 b 5 = l from tr_Y7_b_5]
      refine q_ic (pc := 81) (v := 1) rfl ?_
      refine q_ia (pc := 82) rfl (by omega) (by omega) ?_
      refine q_pf (pc := 83) (m := 10050) (c := 5) rfl (show xPt 0 0 _ _ from (sk_kb y7.1 hB).1) rfl ?_
      have y8 := rB_put y7.1 y7.2.1 y7.2.2 (a := b) (j := 5) (x := (l + 1)) 7 (sk_rb hB) (by omega) (show (0 : Int) ≤ (l + 1) ∧ (l + 1) ≤ 10 from ⟨by omega, by omega⟩) ⟨(7, 4, 18), by decide, rfl, (show (4 : Int) ≤ 5 ∧ 5 ≤ 18 from ⟨by omega, by omega⟩)⟩ (by decide)
      obtain ⟨Y8, yk8⟩ : ∃ X : xH, X = (xUp Y7.1 b 5 (l + 1), Y7.2) := ⟨_, rfl⟩
      rw [← yk8] at y8 ⊢
      have o_Y8 : skO b H Y8 := skO_u (by first | assumption | exact skO_B (by assumption) | exact skO_t2 (by assumption) (by assumption)) (skB_2 hb) (by omega) yk8
      have cc8 : cT Y8 = T ∧ cS Y8 = S := by rw [yk8]; exact ⟨(cT_up (by omega)).trans cc7.1, (cS_up (by omega)).trans cc7.2⟩
      have tr_Y8_b_5 : Y8.1 b 5 = (l + 1) := by rw [yk8]; exact up_eq
      refine q_rv (pc := 84) rfl ?_
      have eD : Y8.1 = xUp (xUp (xUp (xUp (xUp (xUp (xUp (K.1) (b + 17 + l) 0 x1) (b + 17 + l) 1 x2) (b + 17 + l) 2 x3) (b + 17 + l) 3 x4) (b + 17 + l) 4 x5) (b + 17 + l) 5 x6) b 5 (l + 1) := by rw [yk8, yk7, yk6, yk5, yk4, yk3, yk2]
      refine ho h45 _ y8.1 y8.2.1 y8.2.2 o_Y8 cc8 (fun R1 hr ujr2 rN => ?_)
      rw [eD]
      refine sr_leg (S := Z.1) (h := Z.2.2) (l := l) (fun c => R1 (84 + 6 * l + c)) hRK hw.2.2.2.1.2 m0 m1 jl.symm (fun j ujj0 => (up_ne (by omega)).trans ((up_ne (by omega)).trans ((up_ne (by omega)).trans ((up_ne (by omega)).trans ((up_ne (by omega)).trans ((up_ne (by omega)).trans (up_ne (by omega)))))))) (up_eq) (fun a j a0 a1 a2 => (up_ne (by omega)).trans ((up_ne (by omega)).trans ((up_ne (by omega)).trans ((up_ne (by omega)).trans ((up_ne (by omega)).trans ((up_ne (by omega)).trans (up_ne (by omega)))))))) (fun c c0 c1 => ?_) (fun _ _ _ => rfl) ujr2 rN
      obtain rfl | rfl | rfl | rfl | rfl | rfl : c = 0 ∨ c = 1 ∨ c = 2 ∨ c = 3 ∨ c = 4 ∨ c = 5 := by omega
      · exact ((up_ne (by omega)).trans ((up_ne (by omega)).trans ((up_ne (by omega)).trans ((up_ne (by omega)).trans ((up_ne (by omega)).trans ((up_ne (by omega)).trans (up_eq))))))).trans hr.1.symm
      · exact ((up_ne (by omega)).trans ((up_ne (by omega)).trans ((up_ne (by omega)).trans ((up_ne (by omega)).trans ((up_ne (by omega)).trans (up_eq)))))).trans hr.2.1.symm
      · exact ((up_ne (by omega)).trans ((up_ne (by omega)).trans ((up_ne (by omega)).trans ((up_ne (by omega)).trans (up_eq))))).trans hr.2.2.1.symm
      · exact ((up_ne (by omega)).trans ((up_ne (by omega)).trans ((up_ne (by omega)).trans (up_eq)))).trans hr.2.2.2.1.symm
      · exact ((up_ne (by omega)).trans ((up_ne (by omega)).trans (up_eq))).trans hr.2.2.2.2.1.symm
      · exact ((up_ne (by omega)).trans (up_eq)).trans hr.2.2.2.2.2.symm
theorem lb_readLeg {dd : Nat} (hd : 8 ≤ dd) {H : xH} {T : tSm} {n b : Int} (hb : b = 7 ∨ b = 34) (hO : sOk T n) {Z : tZ} (zB0 : rB T H H Z.1) (h9 : H.1 3 9 = b) (hW : skW H.1 b) (hR : skR H.1 b Z) (hw : zRw Z) (m1 : Z.2.1 2 ≤ 9) {Q : Int → xH → Prop} (hq : ∀ J, rC T b H J (zLe T Z) → Q 0 J) : xCall dd 88 [(2, 3)] H Q := by
  obtain ⟨e, rfl, he⟩ := ttRun0 (n := 7) hd
  have he : 7 ≤ e := he
  have hB := skB_2 hb
  have hi := skB_in hB
  have hn := rB_n zB0
  have m0 := hw.2.2.1.1
  have w0 := hw.2.1
  obtain ⟨N, jN⟩ : ∃ N, N = Z.2.1 1 := ⟨_, rfl⟩
  have eN : H.1 b 4 = N := (skA_i hR.1 (j := 4) (i := 1) (by decide)).trans jN.symm
  rw [← jN] at w0
  obtain ⟨k, jk⟩ : ∃ k, k = 84 + 6 * Z.2.1 2 := ⟨_, rfl⟩
  refine xC_of (L := [(2, 3), (9, 0), (9, 0), (9, 0), (9, 0), (9, 0), (9, 0), (9, 0)]) (cd := cd_88) rfl rfl rfl ?_
  refine q_al (pc := 0) (i := 0) (x := 3) rfl rfl ?_
  refine q_ic (pc := 1) (v := 0) rfl ?_
  refine q_iv (pc := 2) (q := 656568) rfl rfl rfl (ttKc zB0.1 (a := 3) (κ := 7) (len := 0) ⟨rfl, rfl⟩ (by decide) (by decide)).1 ?_
  refine lb_pl hb (by omega) hO zB0 h9 eN (fun ujr1 J1 zB1 jr1 => ?_)
  obtain ⟨V1, jV1⟩ : ∃ Y : tSa, Y = (sPl T Z.1 N 0).2 := ⟨_, rfl⟩
  replace zB1 : rB T H J1 V1 := by rw [jV1]; exact zB1
  have jb1 : ujr1 = 0 ∨ 0 ≤ ujr1 ∧ ujr1 ≤ N - 1 := by rw [jr1]; exact sPl_v
  refine q_is (pc := 3) (i := 1) (L' := [(2, 3), (0, ujr1), (9, 0), (9, 0), (9, 0), (9, 0), (9, 0), (9, 0)]) rfl rfl rfl ?_
  refine q_al (pc := 4) (i := 0) (x := 3) rfl rfl ?_
  refine q_ic (pc := 5) (v := 1) rfl ?_
  refine q_il (pc := 6) (i := 1) (x := ujr1) rfl rfl ?_
  refine q_sl (pc := 7) rfl ?_
  refine q_iv (pc := 8) (q := 656568) rfl rfl rfl (ttKc zB1.1 (a := 3) (κ := 7) (len := 0) ⟨rfl, rfl⟩ (by decide) (by decide)).1 ?_
  refine lb_pl hb (by omega) hO zB1 h9 eN (fun ujr2 J2 zB2 jr2 => ?_)
  obtain ⟨V2, jV2⟩ : ∃ Y : tSa, Y = (sPl T V1 N (xShl 1 ujr1)).2 := ⟨_, rfl⟩
  replace zB2 : rB T H J2 V2 := by rw [jV2]; exact zB2
  have jb2 : ujr2 = 0 ∨ 0 ≤ ujr2 ∧ ujr2 ≤ N - 1 := by rw [jr2]; exact sPl_v
  refine q_is (pc := 9) (i := 2) (L' := [(2, 3), (0, ujr1), (0, ujr2), (9, 0), (9, 0), (9, 0), (9, 0), (9, 0)]) rfl rfl rfl ?_
  refine q_al (pc := 10) (i := 0) (x := 3) rfl rfl ?_
  refine q_sc (pc := 11) (j := 14) rfl ?_
  refine q_iv (pc := 12) (q := 632571) rfl rfl rfl ⟨by omega, (ttKc zB2.1 (a := 3) (κ := 7) (len := 0) ⟨rfl, rfl⟩ (by decide) (by decide)).1⟩ ?_
  refine lb_word (by decide) (by decide) (by omega) hO zB2 (fun J3 zB3 => ?_)
  obtain ⟨V3, jV3⟩ : ∃ Y : tSa, Y = sNd T V2 (-16) := ⟨_, rfl⟩
  replace zB3 : rB T H J3 V3 := by rw [jV3]; exact zB3
  refine q_al (pc := 13) (i := 0) (x := 3) rfl rfl ?_
  refine q_ic (pc := 14) (v := 1) rfl ?_
  refine q_ic (pc := 15) (v := 60) rfl ?_
  refine q_iv (pc := 16) (q := 640572) rfl rfl rfl (ttKc zB3.1 (a := 3) (κ := 7) (len := 0) ⟨rfl, rfl⟩ (by decide) (by decide)).1 ?_
  refine lb_num (by decide) (by omega) hO zB3 (fun ujr4 J4 zB4 jr4 => ?_)
  obtain ⟨V4, jV4⟩ : ∃ Y : tSa, Y = (sNm T V3 1 60).2 := ⟨_, rfl⟩
  replace zB4 : rB T H J4 V4 := by rw [jV4]; exact zB4
  have jb4 : ujr4 = 0 ∨ 1 ≤ ujr4 ∧ ujr4 ≤ 60 := by rw [jr4]; exact sNm_v
  refine q_is (pc := 17) (i := 3) (L' := [(2, 3), (0, ujr1), (0, ujr2), (0, ujr4), (9, 0), (9, 0), (9, 0), (9, 0)]) rfl rfl rfl ?_
  refine q_al (pc := 18) (i := 0) (x := 3) rfl rfl ?_
  refine q_sc (pc := 19) (j := 15) rfl ?_
  refine q_iv (pc := 20) (q := 632571) rfl rfl rfl ⟨by omega, (ttKc zB4.1 (a := 3) (κ := 7) (len := 0) ⟨rfl, rfl⟩ (by decide) (by decide)).1⟩ ?_
  refine lb_word (by decide) (by decide) (by omega) hO zB4 (fun J5 zB5 => ?_)
  obtain ⟨V5, jV5⟩ : ∃ Y : tSa, Y = sNd T V4 (-17) := ⟨_, rfl⟩
  replace zB5 : rB T H J5 V5 := by rw [jV5]; exact zB5
  refine q_al (pc := 21) (i := 0) (x := 3) rfl rfl ?_
  refine q_ic (pc := 22) (v := 999) rfl ?_
  refine q_iv (pc := 23) (q := 648568) rfl rfl rfl (ttKc zB5.1 (a := 3) (κ := 7) (len := 0) ⟨rfl, rfl⟩ (by decide) (by decide)).1 ?_
  refine lb_sgn (by decide) (by omega) hO zB5 (fun ujr6 J6 zB6 jr6 => ?_)
  obtain ⟨V6, jV6⟩ : ∃ Y : tSa, Y = (sSg T V5 999).2 := ⟨_, rfl⟩
  replace zB6 : rB T H J6 V6 := by rw [jV6]; exact zB6
  have jb6 : -999 ≤ ujr6 ∧ ujr6 ≤ 999 := by rw [jr6]; exact sSg_v (by decide)
  refine q_is (pc := 24) (i := 4) (L' := [(2, 3), (0, ujr1), (0, ujr2), (0, ujr4), (0, ujr6), (9, 0), (9, 0), (9, 0)]) rfl rfl rfl ?_
  refine q_al (pc := 25) (i := 0) (x := 3) rfl rfl ?_
  refine q_sc (pc := 26) (j := 17) rfl ?_
  refine q_iv (pc := 27) (q := 632571) rfl rfl rfl ⟨by omega, (ttKc zB6.1 (a := 3) (κ := 7) (len := 0) ⟨rfl, rfl⟩ (by decide) (by decide)).1⟩ ?_
  refine lb_word (by decide) (by decide) (by omega) hO zB6 (fun J7 zB7 => ?_)
  obtain ⟨V7, jV7⟩ : ∃ Y : tSa, Y = sNd T V6 (-19) := ⟨_, rfl⟩
  replace zB7 : rB T H J7 V7 := by rw [jV7]; exact zB7
  refine q_al (pc := 28) (i := 0) (x := 3) rfl rfl ?_
  refine q_ic (pc := 29) (v := 60) rfl ?_
  refine q_iv (pc := 30) (q := 648568) rfl rfl rfl (ttKc zB7.1 (a := 3) (κ := 7) (len := 0) ⟨rfl, rfl⟩ (by decide) (by decide)).1 ?_
  refine lb_sgn (by decide) (by omega) hO zB7 (fun ujr8 J8 zB8 jr8 => ?_)
  obtain ⟨V8, jV8⟩ : ∃ Y : tSa, Y = (sSg T V7 60).2 := ⟨_, rfl⟩
  replace zB8 : rB T H J8 V8 := by rw [jV8]; exact zB8
  have jb8 : -60 ≤ ujr8 ∧ ujr8 ≤ 60 := by rw [jr8]; exact sSg_v (by decide)
  refine q_is (pc := 31) (i := 5) (L' := [(2, 3), (0, ujr1), (0, ujr2), (0, ujr4), (0, ujr6), (0, ujr8), (9, 0), (9, 0)]) rfl rfl rfl ?_
  refine q_al (pc := 32) (i := 0) (x := 3) rfl rfl ?_
  refine q_sc (pc := 33) (j := 18) rfl ?_
  refine q_iv (pc := 34) (q := 624568) rfl rfl rfl ⟨by omega, (ttKc zB8.1 (a := 3) (κ := 7) (len := 0) ⟨rfl, rfl⟩ (by decide) (by decide)).1⟩ ?_
  refine lb_if (by decide) (by decide) (by omega) hO zB8 (fun r J9 zB9 jr9 => ?_)
  obtain ⟨V9, jV9⟩ : ∃ Y : tSa, Y = (sTk T V8 (-20)).2 := ⟨_, rfl⟩
  replace zB9 : rB T H J9 V9 := by rw [jV9]; exact zB9
  rcases jr9 with ⟨rfl, jk9⟩ | ⟨rfl, jk9⟩
  · replace jk9 : (sTk T V8 (-20)).1 = true := jk9
    refine q_if (pc := 35) rfl (fun h35 => ?_) (fun h35 => ?_)
    · replace h35 : (1 : Int) = 0 := h35
      omega
    · replace h35 : (1 : Int) ≠ 0 := h35
      refine q_al (pc := 36) (i := 0) (x := 3) rfl rfl ?_
      refine q_ic (pc := 37) (v := 0) rfl ?_
      refine q_ic (pc := 38) (v := 40) rfl ?_
      refine q_iv (pc := 39) (q := 640572) rfl rfl rfl (ttKc zB9.1 (a := 3) (κ := 7) (len := 0) ⟨rfl, rfl⟩ (by decide) (by decide)).1 ?_
      refine lb_num (by decide) (by omega) hO zB9 (fun ujr10 J10 zB10 jr10 => ?_)
      obtain ⟨V10, jV10⟩ : ∃ Y : tSa, Y = (sNm T V9 0 40).2 := ⟨_, rfl⟩
      replace zB10 : rB T H J10 V10 := by rw [jV10]; exact zB10
      have jb10 : ujr10 = 0 ∨ 0 ≤ ujr10 ∧ ujr10 ≤ 40 := by rw [jr10]; exact sNm_v
      refine q_go (pc := 40) rfl ?_
      refine q_is (pc := 42) (i := 6) (L' := [(2, 3), (0, ujr1), (0, ujr2), (0, ujr4), (0, ujr6), (0, ujr8), (0, ujr10), (9, 0)]) rfl rfl rfl ?_
      have n1 : sPl T Z.1 N 0 = sNm T Z.1 0 (N - 1) := sPl_n hO zB0.2.2.2.2.1 zB0.2.2.2.2.2 w0.2
      have eA : zPp T k Z = (V1, sUp Z.2.1 k ujr1, Z.2.2) := by
        rw [jV1, jr1, n1, jN]
        rfl
      obtain ⟨S1, eB, c1, c2⟩ := zBl_e (T := T) (k := k) (S := V1) (R := sUp Z.2.1 k ujr1) (h := Z.2.2)
      rw [show sUp Z.2.1 k ujr1 k = ujr1 from sUp_eq] at c1 c2
      have eC := sPl_b (S1 := S1) (bar := xShl 1 ujr1) hO zB1.2.2.2.2.1 zB1.2.2.2.2.2 w0.2 (fun w => w = ujr1) (fun w u0 u1 => sBa_1 (by omega) (by omega) u0 (by omega)) (fun a1 a2 a3 a4 a5 => c1 ⟨a1, a2, by rw [← a5]; omega⟩) (fun y => by
        by_cases z : V1.2.1 = 0 ∧ T.2.1 V1.1 = 2 ∧ min 99999 (sVt T V1.1) = ujr1
        · obtain ⟨z1, z2, z3⟩ := z
          have z4 : sVt T V1.1 = ujr1 := by omega
          refine Or.inr ⟨z1, z2, ?_, c1 ⟨z1, z2, z3⟩⟩
          have z5 : ¬ (sVt T V1.1 ≤ N - 1) := fun q => y ⟨z1, z2, q, z4⟩
          omega
        · exact Or.inl (c2 z))
      have eD : zPp T (k + 1) (S1, sUp Z.2.1 k ujr1, Z.2.2) = (V2, sUp (sUp Z.2.1 k ujr1) (k + 1) (sNm T S1 0 (N - 1)).1, Z.2.2) := by
        have u : sUp Z.2.1 k ujr1 1 = N := (sUp_ne (by omega)).trans jN.symm
        show ((sNm T S1 0 (sUp Z.2.1 k ujr1 1 - 1)).2, sUp (sUp Z.2.1 k ujr1) (k + 1) (sNm T S1 0 (sUp Z.2.1 k ujr1 1 - 1)).1, Z.2.2) = _
        rw [u, jV2, eC.1]
      obtain ⟨q2, jq⟩ : ∃ q, q = (sNm T S1 0 (N - 1)).1 := ⟨_, rfl⟩
      rw [← jq] at eD eC
      have eE : zLa T k (S1, sUp Z.2.1 k ujr1, Z.2.2) = (V6, sUp (sUp (sUp (sUp Z.2.1 k ujr1) (k + 1) q2) (k + 2) ujr4) (k + 3) ujr6, Z.2.2) := by
        unfold zLa
        rw [eD, jV6, jr6, jV5, jV4, jr4, jV3]
        rfl
      have eF : zLb T k (V6, sUp (sUp (sUp (sUp Z.2.1 k ujr1) (k + 1) q2) (k + 2) ujr4) (k + 3) ujr6, Z.2.2) = (V8, sUp (sUp (sUp (sUp (sUp Z.2.1 k ujr1) (k + 1) q2) (k + 2) ujr4) (k + 3) ujr6) (k + 4) ujr8, Z.2.2) := by
        rw [jV8, jr8, jV7]
        rfl
      have eG : zLc T k (V8, sUp (sUp (sUp (sUp (sUp Z.2.1 k ujr1) (k + 1) q2) (k + 2) ujr4) (k + 3) ujr6) (k + 4) ujr8, Z.2.2) = (V10, sUp (sUp (sUp (sUp (sUp (sUp Z.2.1 k ujr1) (k + 1) q2) (k + 2) ujr4) (k + 3) ujr6) (k + 4) ujr8) (k + 5) ujr10, Z.2.2) := by
        refine (if_pos jk9).trans ?_
        rw [jV10, jr10, jV9]
        rfl
      have eZ : zLe T Z = (V10, sUp (sUp (sUp (sUp (sUp (sUp (sUp Z.2.1 k ujr1) (k + 1) q2) (k + 2) ujr4) (k + 3) ujr6) (k + 4) ujr8) (k + 5) ujr10) 2 (Z.2.1 2 + 1), Z.2.2) := by
        unfold zLe zLe2
        rw [← jk, eA, eB, eE, eF, eG]
        show (_, sUp _ 2 ((sUp (sUp (sUp (sUp (sUp (sUp Z.2.1 k ujr1) (k + 1) q2) (k + 2) ujr4) (k + 3) ujr6) (k + 4) ujr8) (k + 5) ujr10) 2 + 1), _) = _
        rw [show (sUp (sUp (sUp (sUp (sUp (sUp Z.2.1 k ujr1) (k + 1) q2) (k + 2) ujr4) (k + 3) ujr6) (k + 4) ujr8) (k + 5) ujr10) 2 = Z.2.1 2 from (sUp_ne (by omega)).trans ((sUp_ne (by omega)).trans ((sUp_ne (by omega)).trans ((sUp_ne (by omega)).trans ((sUp_ne (by omega)).trans (sUp_ne (by omega))))))]
      refine fl_43 he hb hO zB0 h9 hW hR hw m1 zB10 (by omega) (by omega) (by omega) (by omega) (by omega) (by omega) (fun f0 => hq _ (rC_f zB10 (by rw [eZ]) f0)) (fun f0 J jT jX jF jO jc jR => hq J ⟨jT, jX, jF, by rw [eZ]; exact jc, by rw [eZ]; exact zB10.2.2.2.2, jO, fun _ => ?_⟩)
      have f9 : V9.2.1 = 0 := (sNm_0 (by rw [← jV10]; exact f0)).1
      have f8 : V8.2.1 = 0 := sTk_0 (by rw [← jV9]; exact f9)
      have f7 : V7.2.1 = 0 := sSg_0 (by rw [← jV8]; exact f8)
      have f6 : V6.2.1 = 0 := sNd_0 (by rw [← jV7]; exact f7)
      have f5 : V5.2.1 = 0 := sSg_0 (by rw [← jV6]; exact f6)
      have f4 : V4.2.1 = 0 := sNd_0 (by rw [← jV5]; exact f5)
      have f3 : V3.2.1 = 0 := (sNm_0 (by rw [← jV4]; exact f4)).1
      have f2 : V2.2.1 = 0 := sNd_0 (by rw [← jV3]; exact f3)
      have eq : q2 = ujr2 := by rw [jr2]; exact (eC.2 (by rw [← jV2]; exact f2)).symm
      rw [eZ, eq]
      rw [← jk] at jR
      exact jR _ ⟨(show (sUp (sUp (sUp (sUp (sUp (sUp (sUp Z.2.1 k ujr1) (k + 1) ujr2) (k + 2) ujr4) (k + 3) ujr6) (k + 4) ujr8) (k + 5) ujr10) 2 (Z.2.1 2 + 1)) (k + 0) = ujr1 from by rw [Int.add_zero]; exact (sUp_ne (by omega)).trans ((sUp_ne (by omega)).trans ((sUp_ne (by omega)).trans ((sUp_ne (by omega)).trans ((sUp_ne (by omega)).trans ((sUp_ne (by omega)).trans (sUp_eq))))))), (sUp_ne (by omega)).trans ((sUp_ne (by omega)).trans ((sUp_ne (by omega)).trans ((sUp_ne (by omega)).trans ((sUp_ne (by omega)).trans (sUp_eq))))), (sUp_ne (by omega)).trans ((sUp_ne (by omega)).trans ((sUp_ne (by omega)).trans ((sUp_ne (by omega)).trans (sUp_eq)))), (sUp_ne (by omega)).trans ((sUp_ne (by omega)).trans ((sUp_ne (by omega)).trans (sUp_eq))), (sUp_ne (by omega)).trans ((sUp_ne (by omega)).trans (sUp_eq)), (sUp_ne (by omega)).trans (sUp_eq)⟩ sUp_eq (fun i i0 i1 => (sUp_ne (by omega)).trans ((sUp_ne (by omega)).trans ((sUp_ne (by omega)).trans ((sUp_ne (by omega)).trans ((sUp_ne (by omega)).trans ((sUp_ne (by omega)).trans (sUp_ne (by omega))))))))
  · replace jk9 : (sTk T V8 (-20)).1 = false := jk9
    refine q_if (pc := 35) rfl (fun h35 => ?_) (fun h35 => ?_)
    · replace h35 : (0 : Int) = 0 := h35
      refine q_ic (pc := 41) (v := 0) rfl ?_
      refine q_is (pc := 42) (i := 6) (L' := [(2, 3), (0, ujr1), (0, ujr2), (0, ujr4), (0, ujr6), (0, ujr8), (0, 0), (9, 0)]) rfl rfl rfl ?_
      have n1 : sPl T Z.1 N 0 = sNm T Z.1 0 (N - 1) := sPl_n hO zB0.2.2.2.2.1 zB0.2.2.2.2.2 w0.2
      have eA : zPp T k Z = (V1, sUp Z.2.1 k ujr1, Z.2.2) := by
        rw [jV1, jr1, n1, jN]
        rfl
      obtain ⟨S1, eB, c1, c2⟩ := zBl_e (T := T) (k := k) (S := V1) (R := sUp Z.2.1 k ujr1) (h := Z.2.2)
      rw [show sUp Z.2.1 k ujr1 k = ujr1 from sUp_eq] at c1 c2
      have eC := sPl_b (S1 := S1) (bar := xShl 1 ujr1) hO zB1.2.2.2.2.1 zB1.2.2.2.2.2 w0.2 (fun w => w = ujr1) (fun w u0 u1 => sBa_1 (by omega) (by omega) u0 (by omega)) (fun a1 a2 a3 a4 a5 => c1 ⟨a1, a2, by rw [← a5]; omega⟩) (fun y => by
        by_cases z : V1.2.1 = 0 ∧ T.2.1 V1.1 = 2 ∧ min 99999 (sVt T V1.1) = ujr1
        · obtain ⟨z1, z2, z3⟩ := z
          have z4 : sVt T V1.1 = ujr1 := by omega
          refine Or.inr ⟨z1, z2, ?_, c1 ⟨z1, z2, z3⟩⟩
          have z5 : ¬ (sVt T V1.1 ≤ N - 1) := fun q => y ⟨z1, z2, q, z4⟩
          omega
        · exact Or.inl (c2 z))
      have eD : zPp T (k + 1) (S1, sUp Z.2.1 k ujr1, Z.2.2) = (V2, sUp (sUp Z.2.1 k ujr1) (k + 1) (sNm T S1 0 (N - 1)).1, Z.2.2) := by
        have u : sUp Z.2.1 k ujr1 1 = N := (sUp_ne (by omega)).trans jN.symm
        show ((sNm T S1 0 (sUp Z.2.1 k ujr1 1 - 1)).2, sUp (sUp Z.2.1 k ujr1) (k + 1) (sNm T S1 0 (sUp Z.2.1 k ujr1 1 - 1)).1, Z.2.2) = _
        rw [u, jV2, eC.1]
      obtain ⟨q2, jq⟩ : ∃ q, q = (sNm T S1 0 (N - 1)).1 := ⟨_, rfl⟩
      rw [← jq] at eD eC
      have eE : zLa T k (S1, sUp Z.2.1 k ujr1, Z.2.2) = (V6, sUp (sUp (sUp (sUp Z.2.1 k ujr1) (k + 1) q2) (k + 2) ujr4) (k + 3) ujr6, Z.2.2) := by
        unfold zLa
        rw [eD, jV6, jr6, jV5, jV4, jr4, jV3]
        rfl
      have eF : zLb T k (V6, sUp (sUp (sUp (sUp Z.2.1 k ujr1) (k + 1) q2) (k + 2) ujr4) (k + 3) ujr6, Z.2.2) = (V8, sUp (sUp (sUp (sUp (sUp Z.2.1 k ujr1) (k + 1) q2) (k + 2) ujr4) (k + 3) ujr6) (k + 4) ujr8, Z.2.2) := by
        rw [jV8, jr8, jV7]
        rfl
      have eG : zLc T k (V8, sUp (sUp (sUp (sUp (sUp Z.2.1 k ujr1) (k + 1) q2) (k + 2) ujr4) (k + 3) ujr6) (k + 4) ujr8, Z.2.2) = (V9, sUp (sUp (sUp (sUp (sUp Z.2.1 k ujr1) (k + 1) q2) (k + 2) ujr4) (k + 3) ujr6) (k + 4) ujr8, Z.2.2) := by
        refine (if_neg (fun z => absurd (z.symm.trans jk9) (by decide))).trans ?_
        rw [jV9, sTk_ff (sTk_n jk9)]
      have eZ : zLe T Z = (V9, sUp (sUp (sUp (sUp (sUp (sUp Z.2.1 k ujr1) (k + 1) q2) (k + 2) ujr4) (k + 3) ujr6) (k + 4) ujr8) 2 (Z.2.1 2 + 1), Z.2.2) := by
        unfold zLe zLe2
        rw [← jk, eA, eB, eE, eF, eG]
        show (_, sUp _ 2 ((sUp (sUp (sUp (sUp (sUp Z.2.1 k ujr1) (k + 1) q2) (k + 2) ujr4) (k + 3) ujr6) (k + 4) ujr8) 2 + 1), _) = _
        rw [show (sUp (sUp (sUp (sUp (sUp Z.2.1 k ujr1) (k + 1) q2) (k + 2) ujr4) (k + 3) ujr6) (k + 4) ujr8) 2 = Z.2.1 2 from (sUp_ne (by omega)).trans ((sUp_ne (by omega)).trans ((sUp_ne (by omega)).trans ((sUp_ne (by omega)).trans (sUp_ne (by omega)))))]
      refine fl_43 he hb hO zB0 h9 hW hR hw m1 zB9 (by omega) (by omega) (by omega) (by omega) (by omega) (by omega) (fun f0 => hq _ (rC_f zB9 (by rw [eZ]) f0)) (fun f0 J jT jX jF jO jc jR => hq J ⟨jT, jX, jF, by rw [eZ]; exact jc, by rw [eZ]; exact zB9.2.2.2.2, jO, fun _ => ?_⟩)
      have f9 : V9.2.1 = 0 := f0
      have f8 : V8.2.1 = 0 := sTk_0 (by rw [← jV9]; exact f9)
      have f7 : V7.2.1 = 0 := sSg_0 (by rw [← jV8]; exact f8)
      have f6 : V6.2.1 = 0 := sNd_0 (by rw [← jV7]; exact f7)
      have f5 : V5.2.1 = 0 := sSg_0 (by rw [← jV6]; exact f6)
      have f4 : V4.2.1 = 0 := sNd_0 (by rw [← jV5]; exact f5)
      have f3 : V3.2.1 = 0 := (sNm_0 (by rw [← jV4]; exact f4)).1
      have f2 : V2.2.1 = 0 := sNd_0 (by rw [← jV3]; exact f3)
      have eq : q2 = ujr2 := by rw [jr2]; exact (eC.2 (by rw [← jV2]; exact f2)).symm
      rw [eZ, eq]
      rw [← jk] at jR
      exact jR _ ⟨(show (sUp (sUp (sUp (sUp (sUp (sUp Z.2.1 k ujr1) (k + 1) ujr2) (k + 2) ujr4) (k + 3) ujr6) (k + 4) ujr8) 2 (Z.2.1 2 + 1)) (k + 0) = ujr1 from by rw [Int.add_zero]; exact (sUp_ne (by omega)).trans ((sUp_ne (by omega)).trans ((sUp_ne (by omega)).trans ((sUp_ne (by omega)).trans ((sUp_ne (by omega)).trans (sUp_eq)))))), (sUp_ne (by omega)).trans ((sUp_ne (by omega)).trans ((sUp_ne (by omega)).trans ((sUp_ne (by omega)).trans (sUp_eq)))), (sUp_ne (by omega)).trans ((sUp_ne (by omega)).trans ((sUp_ne (by omega)).trans (sUp_eq))), (sUp_ne (by omega)).trans ((sUp_ne (by omega)).trans (sUp_eq)), (sUp_ne (by omega)).trans (sUp_eq), ((sUp_ne (by omega)).trans ((sUp_ne (by omega)).trans ((sUp_ne (by omega)).trans ((sUp_ne (by omega)).trans ((sUp_ne (by omega)).trans (sUp_ne (by omega))))))).trans ((show Z.2.1 (k + 5) = 0 from by rw [jk]; exact hR.2.2.1.2 _ m0 (Int.le_refl _) m1))⟩ sUp_eq (fun i i0 i1 => (sUp_ne (by omega)).trans ((sUp_ne (by omega)).trans ((sUp_ne (by omega)).trans ((sUp_ne (by omega)).trans ((sUp_ne (by omega)).trans (sUp_ne (by omega)))))))
    · replace h35 : (0 : Int) ≠ 0 := h35
      omega
