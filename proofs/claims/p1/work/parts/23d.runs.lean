/-! the runs themselves, made by the kernel -/
set_option maxRecDepth 1000000 in
theorem zr_short : zzRun ([], 6) zzLim zzE0 200000 15 cdLaw cdLaw zzL0 [] zzm0 [] = true := by decide +kernel
set_option maxRecDepth 1000000 in
theorem zr_one : zzRun (List.replicate 7 zzTp, 7) zzLim zzE1 200000 15 cdLaw cdLaw zzL0 [] zzm0 [] = true := by decide +kernel
theorem zl_wp (L : Nat) (hL : L ≤ 7) (xs : Nat → Int32) : xW 15 cdLaw zQ (0, [(2, -1), (9, 0), (9, 0), (9, 0)], [], zM0 L xs) := by
  have hr : zzSr cdLaw (cdLaw, zzL0, []) 0 [(2, -1), (9, 0), (9, 0), (9, 0)] [] := ⟨rfl, ⟨⟨rfl, zzM_1 _⟩, ⟨rfl, zzM_1 _⟩, ⟨rfl, zzM_1 _⟩, ⟨rfl, zzM_1 _⟩, trivial⟩, trivial⟩
  by_cases h : L = 7
  · subst h
    exact zzRun_ok 200000 15 cdLaw cdLaw zzL0 [] zzm0 [] zr_one 0 _ _ _ zQ hr (zW0 (S := (List.replicate 7 zzTp, 7)) (Int.le_refl _) (Int.le_refl _) (fun j hj => by
      have hj : j < 7 := hj
      rw [List.getD_eq_getElem?_getD, List.getElem?_replicate, if_pos hj]; rfl)) zzKs0 (fun _ => zHo1)
  · exact zzRun_ok 200000 15 cdLaw cdLaw zzL0 [] zzm0 [] zr_short 0 _ _ _ zQ hr (zW0 (S := ([], 6)) (by show (0 : Int) ≤ (L : Int); omega) (by show (L : Int) ≤ 6; omega) (fun j hj => absurd hj (Nat.not_lt_zero _))) zzKs0 (fun _ => zHo0)
