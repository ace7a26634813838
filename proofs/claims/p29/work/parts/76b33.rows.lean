/-! rows of skies and images; what the law's relation needs of tables -/
theorem wsR_t {R : Int → Int} {N : Int} (t : ∀ j : Int, 0 ≤ j → j < 196 → ttM N (ttTy (ttTb 184) j) (R j)) (y7 : 31 ≤ R 7) (ye : ∀ l : Int, 0 ≤ l → l < 10 → l < R 2 → R (84 + 6 * l) < R 1 ∧ R (85 + 6 * l) < R 1) : wsR R := by
  have t7 : 0 ≤ R 7 ∧ R 7 ≤ 60 := t 7 (by decide) (by decide)
  have t2 : 0 ≤ R 2 ∧ R 2 ≤ 10 := t 2 (by decide) (by decide)
  refine ⟨t 1 (by decide) (by decide), t2, t 3 (by decide) (by decide), ⟨y7, t7.2⟩, fun p p0 p1 => ?_, fun l l0 l1 => ?_, fun s s0 s1 => ?_, fun l l0 l1 => ?_⟩
  · obtain ⟨n, rfl⟩ := Int.eq_ofNat_of_zero_le p0
    have k : ∀ n : Nat, n < 8 → ttTy (ttTb 184) (20 + 8 * (n : Int)) = (0, 0, 30) ∧ ttTy (ttTb 184) (20 + 8 * (n : Int) + 1) = (0, 0, 2) ∧ ttTy (ttTb 184) (20 + 8 * (n : Int) + 2) = (0, 0, 999) := by decide +kernel
    obtain ⟨k0, k1, k2⟩ := k n (by omega)
    have z0 := t (20 + 8 * (n : Int)) (by omega) (by omega)
    have z1 := t (20 + 8 * (n : Int) + 1) (by omega) (by omega)
    have z2 := t (20 + 8 * (n : Int) + 2) (by omega) (by omega)
    rw [k0] at z0
    rw [k1] at z1
    rw [k2] at z2
    have z2 : 0 ≤ R (20 + 8 * (n : Int) + 2) ∧ R (20 + 8 * (n : Int) + 2) ≤ 999 := z2
    exact ⟨z0, z1, z2.1⟩
  · obtain ⟨n, rfl⟩ := Int.eq_ofNat_of_zero_le l0
    have k : ∀ n : Nat, n < 10 → ttTy (ttTb 184) (84 + 6 * (n : Int)) = (0, 0, 7) ∧ ttTy (ttTb 184) (84 + 6 * (n : Int) + 1) = (0, 0, 7) ∧ ttTy (ttTb 184) (84 + 6 * (n : Int) + 2) = (0, 0, 60) ∧ ttTy (ttTb 184) (84 + 6 * (n : Int) + 3) = (0, -999, 999) ∧ ttTy (ttTb 184) (84 + 6 * (n : Int) + 5) = (0, 0, 40) := by decide +kernel
    obtain ⟨k0, k1, k2, k3, k5⟩ := k n (by omega)
    have z0 := t (84 + 6 * (n : Int)) (by omega) (by omega)
    have z1 := t (84 + 6 * (n : Int) + 1) (by omega) (by omega)
    have z2 := t (84 + 6 * (n : Int) + 2) (by omega) (by omega)
    have z3 := t (84 + 6 * (n : Int) + 3) (by omega) (by omega)
    have z5 := t (84 + 6 * (n : Int) + 5) (by omega) (by omega)
    rw [k0] at z0
    rw [k1] at z1
    rw [k2] at z2
    rw [k3] at z3
    rw [k5] at z5
    exact ⟨z0, z1, z2, z3, z5⟩
  · have w := t (144 + 2 * s + 1) (by omega) (by omega)
    rw [ty_sk s0 s1] at w
    exact w
  · have z := ye l l0 (by omega) l1
    rw [show (84 : Int) + 6 * l + 1 = 85 + 6 * l from by omega]
    exact z
theorem ws_im {H : xH} (hT : ttTI H) (hX : ttXX YY H) {k : Int} (k0 : 0 ≤ k) (k2 : k ≤ 2) (n : H.1 186 k ≠ 0) : wsR (fun j => H.1 185 (196 * k + j)) := by
  have y := hX.2.2.2.1 k k0 (by omega) n
  refine wsR_t (N := (H.2.2.2.1 : Int)) (fun j j0 j1 => ?_) y.2.1.2 (fun l l0 l1 l2 => y.1 l l0 l1 l2)
  have z := ttMc hT (a := 185) (j := 196 * k + j) (by decide) (by decide) (by omega) (by show 196 * k + j < 588; omega)
  rw [show ttRo 185 = 185 from rfl, ty_img j0 j1] at z
  exact z
theorem sUp_o {R : Int → Int} {i v j : Int} (h : j ≠ i) : sUp R i v j = R j := if_neg h
theorem rsSeen_o {R : Int → Int} {p s : Int} (r4 : 0 ≤ R 4) {j : Int} (j1 : j ≤ 155) (j4 : j ≠ 4) : rsSeen R p s j = R j := by
  unfold rsSeen
  split
  · rw [sUp_o j4, sUp_o (by omega), sUp_o (by omega)]
  · rfl
theorem rsUnsee_o {R : Int → Int} {n : Int} {j : Int} (j4 : j ≠ 4) : rsUnsee R n j = R j := by
  unfold rsUnsee
  split
  · rw [sUp_o j4]
  · rfl
