/-! the first reader: what a line's first word is, how much room there is -/
theorem q_ur {d : Nat} {cd : List Instr} {Q : Int → xH → Prop} {pc : Nat} {L r : List xV} {H : xH} {x y : Int} (h : cd.getD pc .nop = .iushr) (k : xW d cd Q (pc + 1, L, (0, xUsh x y) :: r, H)) : xW d cd Q (pc, L, (0, y) :: (0, x) :: r, H) := xW_step (by rw [h]; exact k)
theorem q_tq {d : Nat} {cd : List Instr} {Q : Int → xH → Prop} {pc : Nat} {L r : List xV} {H : xH} {t lo hi : Int} {ts : Array Int} {x : Int} (h : cd.getD pc .nop = .tableswitch t lo hi ts) (k1 : xSw (fun s => xW d cd Q s) x lo (ts.toList.map fun u => (u.toNat, L, r, H))) (k2 : x < lo ∨ lo + (ts.toList.length : Int) ≤ x → xW d cd Q (t.toNat, L, r, H)) : xW d cd Q (pc, L, (0, x) :: r, H) := xW_step (by rw [h]; exact ⟨k1, fun z => k2 (by rw [List.length_map] at z; exact z)⟩)
theorem zP_16 {j v : Int} {Z : tZ} (h : j ≠ 16) : (zP j v Z).2.1 16 = Z.2.1 16 := sUp_ne (Ne.symm h)
theorem zPn_16 {T : tSm} {l h k : Int} {Z : tZ} (hk : k ≠ 16) : (zPn T l h k Z).2.1 16 = Z.2.1 16 := zP_16 hk
theorem zPs_16 {T : tSm} {h k : Int} {Z : tZ} (hk : k ≠ 16) : (zPs T h k Z).2.1 16 = Z.2.1 16 := zP_16 hk
theorem zPt_16 {T : tSm} {s l h k : Int} {Z : tZ} (hk : k ≠ 16) : (zPt T s l h k Z).2.1 16 = Z.2.1 16 := zP_16 hk
theorem zIn_16 {c : Int} {Z : tZ} (hk : c ≠ 16) : (zIn c Z).2.1 16 = Z.2.1 16 := zP_16 hk
theorem zSt1_16 {p h : Int} {Z : tZ} : (zSt1 p h Z).2.1 16 = Z.2.1 16 := by
  unfold zSt1
  split
  · exact (zP_16 (j := 13) (by decide)).trans (zP_16 (j := 12) (by decide))
  · rfl
theorem zSt_16 {T : tSm} {Z : tZ} : (zSt T Z).2.1 16 = Z.2.1 16 := zSt1_16.trans (zP_16 (j := 14) (by decide))
theorem zGo_16 {T : tSm} {Z : tZ} : (zGo T Z).2.1 16 = Z.2.1 16 := by unfold zGo; split <;> rfl
theorem zHm_16 {T : tSm} {Z : tZ} : (zHm T Z).2.1 16 = Z.2.1 16 := by unfold zHm; split <;> rfl
theorem zSp_16 {T : tSm} {Z : tZ} (h : 0 ≤ Z.2.1 3) : (zSp T Z).2.1 16 = Z.2.1 16 := (zIn_16 (by decide)).trans ((zPt_16 (k := 144 + 2 * Z.2.1 3 + 1) (by omega)).trans (zPn_16 (k := 144 + 2 * Z.2.1 3) (by omega)))
theorem zPl1_16 {T : tSm} {Z : tZ} : (zPl1 T Z).2.1 16 = Z.2.1 16 := zP_16 (j := 20 + 8 * Z.2.1 1) (by omega)
theorem zPl2_16 {T : tSm} {k : Int} {Z : tZ} (h1 : k + 1 ≠ 16) (h2 : k + 2 ≠ 16) : (zPl2 T k Z).2.1 16 = Z.2.1 16 := (zIn_16 (by decide)).trans ((zP_16 h2).trans (zP_16 (Z := Z) (v := 1) h1))
theorem zPl3_16 {k : Int} {Z : tZ} (h1 : k + 1 ≠ 16) : (zPl3 k Z).2.1 16 = Z.2.1 16 := (zIn_16 (by decide)).trans (zP_16 h1)
theorem zPl_16 {T : tSm} {Z : tZ} : (zPl T Z).2.1 16 = Z.2.1 16 := by
  unfold zPl
  split
  · exact (zPl2_16 (by omega) (by omega)).trans zPl1_16
  · split
    · exact (zPl3_16 (by omega)).trans (zGo_16.trans (zHm_16.trans zPl1_16))
    · exact (zIn_16 (by decide)).trans zPl1_16
theorem zPp_16 {T : tSm} {k : Int} {Z : tZ} (hk : k ≠ 16) : (zPp T k Z).2.1 16 = Z.2.1 16 := zP_16 hk
theorem zLa_16 {T : tSm} {k : Int} {Z : tZ} (h : 84 ≤ k) : (zLa T k Z).2.1 16 = Z.2.1 16 := (zPs_16 (k := k + 3) (by omega)).trans ((zPn_16 (k := k + 2) (by omega)).trans (zPp_16 (k := k + 1) (by omega)))
theorem zLb_16 {T : tSm} {k : Int} {Z : tZ} (h : 84 ≤ k) : (zLb T k Z).2.1 16 = Z.2.1 16 := zPs_16 (k := k + 4) (by omega)
theorem zLc_16 {T : tSm} {k : Int} {Z : tZ} (h : 84 ≤ k) : (zLc T k Z).2.1 16 = Z.2.1 16 := by
  unfold zLc
  split
  · exact zPn_16 (k := k + 5) (by omega)
  · rfl
theorem zLe2_16 {T : tSm} {k : Int} {Z : tZ} (h : 84 ≤ k) : (zLe2 T k Z).2.1 16 = Z.2.1 16 := (zLc_16 h).trans ((zLb_16 h).trans (zLa_16 h))
theorem zBl_16 {T : tSm} {k : Int} {Z : tZ} : (zBl T k Z).2.1 16 = Z.2.1 16 := by unfold zBl; split <;> rfl
theorem zLe_16 {T : tSm} {Z : tZ} (h : 0 ≤ Z.2.1 2) : (zLe T Z).2.1 16 = Z.2.1 16 := (zIn_16 (by decide)).trans ((zLe2_16 (by omega)).trans (zBl_16.trans (zPp_16 (by omega))))
theorem zBf_16 {T : tSm} {Z : tZ} : (zBf T Z).2.1 16 = Z.2.1 16 := by unfold zBf; split <;> rfl
theorem zLi2_16 {T : tSm} {q : Int} {Z : tZ} (h : 20 ≤ q) : (zLi2 T q Z).2.1 16 = Z.2.1 16 := by
  unfold zLi2
  split
  · exact (zPn_16 (by omega)).trans (zPn_16 (k := q + 6) (by omega))
  · rfl
theorem zLi1_16 {T : tSm} {q c u : Int} {Z : tZ} (h : 20 ≤ q) : (zLi1 T q c u Z).2.1 16 = Z.2.1 16 := by
  unfold zLi1
  split
  · exact (zLi2_16 h).trans ((zP_16 (by omega)).trans ((zP_16 (by omega)).trans (zP_16 (by omega))))
  · rfl
theorem vPq_16 {T : tSm} {Z : tZ} : 20 ≤ 20 + 8 * vPq T Z := by
  have w := sNm_v (T := T) (S := Z.1) (lo := 0) (hi := Z.2.1 1 - 1)
  unfold vPq
  omega
theorem zLi_16 {T : tSm} {Z : tZ} : (zLi T Z).2.1 16 = Z.2.1 16 := (zLi1_16 vPq_16).trans (zBf_16 (T := T) (Z := Z))
theorem zBp_16 {T : tSm} {Z : tZ} : (zBp T Z).2.1 16 = Z.2.1 16 := by unfold zBp; split <;> rfl
theorem zPo1_16 {p : Int} {Z : tZ} : (zPo1 p Z).2.1 16 = Z.2.1 16 := by
  unfold zPo1
  split
  · exact zP_16 (by decide)
  · rfl
theorem zPo_16 {T : tSm} {Z : tZ} : (zPo T Z).2.1 16 = Z.2.1 16 := zPo1_16.trans (zBp_16 (T := T) (Z := Z))
theorem zP_15 {j v : Int} {Z : tZ} (h : j ≠ 15) : (zP j v Z).2.1 15 = Z.2.1 15 := sUp_ne (Ne.symm h)
theorem zPn_15 {T : tSm} {l h k : Int} {Z : tZ} (hk : k ≠ 15) : (zPn T l h k Z).2.1 15 = Z.2.1 15 := zP_15 hk
theorem zPs_15 {T : tSm} {h k : Int} {Z : tZ} (hk : k ≠ 15) : (zPs T h k Z).2.1 15 = Z.2.1 15 := zP_15 hk
theorem zPt_15 {T : tSm} {s l h k : Int} {Z : tZ} (hk : k ≠ 15) : (zPt T s l h k Z).2.1 15 = Z.2.1 15 := zP_15 hk
theorem zIn_15 {c : Int} {Z : tZ} (hk : c ≠ 15) : (zIn c Z).2.1 15 = Z.2.1 15 := zP_15 hk
theorem zSt1_15 {p h : Int} {Z : tZ} : (zSt1 p h Z).2.1 15 = Z.2.1 15 := by
  unfold zSt1
  split
  · exact (zP_15 (j := 13) (by decide)).trans (zP_15 (j := 12) (by decide))
  · rfl
theorem zSt_15 {T : tSm} {Z : tZ} : (zSt T Z).2.1 15 = Z.2.1 15 := zSt1_15.trans (zP_15 (j := 14) (by decide))
theorem zOn_15 {T : tSm} {k : Int} {Z : tZ} (_ : 0 ≤ k) : (zOn T k Z).2.1 15 = Z.2.1 15 := by
  have e : (zOn0 T k Z).2.1 15 = Z.2.1 15 := zP_15 (by decide)
  unfold zOn
  (repeat' split)
  · rw [zPn_15 (by decide), e]
  · rw [zPn_15 (by decide), e]
  · rw [zPn_15 (by decide), e]
  · rw [zPn_15 (by decide), e]
  · rw [zPt_15 (by decide), zPt_15 (by decide), zPt_15 (by decide), e]
  · rw [zSt_15, e]
theorem zGo_15 {T : tSm} {Z : tZ} : (zGo T Z).2.1 15 = Z.2.1 15 := by unfold zGo; split <;> rfl
theorem zHm_15 {T : tSm} {Z : tZ} : (zHm T Z).2.1 15 = Z.2.1 15 := by unfold zHm; split <;> rfl
theorem zSp_15 {T : tSm} {Z : tZ} (h : 0 ≤ Z.2.1 3) : (zSp T Z).2.1 15 = Z.2.1 15 := (zIn_15 (by decide)).trans ((zPt_15 (k := 144 + 2 * Z.2.1 3 + 1) (by omega)).trans (zPn_15 (k := 144 + 2 * Z.2.1 3) (by omega)))
theorem zPl1_15 {T : tSm} {Z : tZ} : (zPl1 T Z).2.1 15 = Z.2.1 15 := zP_15 (j := 20 + 8 * Z.2.1 1) (by omega)
theorem zPl2_15 {T : tSm} {k : Int} {Z : tZ} (h1 : k + 1 ≠ 15) (h2 : k + 2 ≠ 15) : (zPl2 T k Z).2.1 15 = Z.2.1 15 := (zIn_15 (by decide)).trans ((zP_15 h2).trans (zP_15 (Z := Z) (v := 1) h1))
theorem zPl3_15 {k : Int} {Z : tZ} (h1 : k + 1 ≠ 15) : (zPl3 k Z).2.1 15 = Z.2.1 15 := (zIn_15 (by decide)).trans (zP_15 h1)
theorem zPl_15 {T : tSm} {Z : tZ} : (zPl T Z).2.1 15 = Z.2.1 15 := by
  unfold zPl
  split
  · exact (zPl2_15 (by omega) (by omega)).trans zPl1_15
  · split
    · exact (zPl3_15 (by omega)).trans (zGo_15.trans (zHm_15.trans zPl1_15))
    · exact (zIn_15 (by decide)).trans zPl1_15
theorem zPp_15 {T : tSm} {k : Int} {Z : tZ} (hk : k ≠ 15) : (zPp T k Z).2.1 15 = Z.2.1 15 := zP_15 hk
theorem zLa_15 {T : tSm} {k : Int} {Z : tZ} (h : 84 ≤ k) : (zLa T k Z).2.1 15 = Z.2.1 15 := (zPs_15 (k := k + 3) (by omega)).trans ((zPn_15 (k := k + 2) (by omega)).trans (zPp_15 (k := k + 1) (by omega)))
theorem zLb_15 {T : tSm} {k : Int} {Z : tZ} (h : 84 ≤ k) : (zLb T k Z).2.1 15 = Z.2.1 15 := zPs_15 (k := k + 4) (by omega)
theorem zLc_15 {T : tSm} {k : Int} {Z : tZ} (h : 84 ≤ k) : (zLc T k Z).2.1 15 = Z.2.1 15 := by
  unfold zLc
  split
  · exact zPn_15 (k := k + 5) (by omega)
  · rfl
theorem zLe2_15 {T : tSm} {k : Int} {Z : tZ} (h : 84 ≤ k) : (zLe2 T k Z).2.1 15 = Z.2.1 15 := (zLc_15 h).trans ((zLb_15 h).trans (zLa_15 h))
theorem zBl_15 {T : tSm} {k : Int} {Z : tZ} : (zBl T k Z).2.1 15 = Z.2.1 15 := by unfold zBl; split <;> rfl
theorem zLe_15 {T : tSm} {Z : tZ} (h : 0 ≤ Z.2.1 2) : (zLe T Z).2.1 15 = Z.2.1 15 := (zIn_15 (by decide)).trans ((zLe2_15 (by omega)).trans (zBl_15.trans (zPp_15 (by omega))))
theorem zBf_15 {T : tSm} {Z : tZ} : (zBf T Z).2.1 15 = Z.2.1 15 := by unfold zBf; split <;> rfl
theorem zLi2_15 {T : tSm} {q : Int} {Z : tZ} (h : 20 ≤ q) : (zLi2 T q Z).2.1 15 = Z.2.1 15 := by
  unfold zLi2
  split
  · exact (zPn_15 (by omega)).trans (zPn_15 (k := q + 6) (by omega))
  · rfl
theorem zLi1_15 {T : tSm} {q c u : Int} {Z : tZ} (h : 20 ≤ q) : (zLi1 T q c u Z).2.1 15 = Z.2.1 15 := by
  unfold zLi1
  split
  · exact (zLi2_15 h).trans ((zP_15 (by omega)).trans ((zP_15 (by omega)).trans (zP_15 (by omega))))
  · rfl
theorem vPq_15 {T : tSm} {Z : tZ} : 20 ≤ 20 + 8 * vPq T Z := by
  have w := sNm_v (T := T) (S := Z.1) (lo := 0) (hi := Z.2.1 1 - 1)
  unfold vPq
  omega
theorem zLi_15 {T : tSm} {Z : tZ} : (zLi T Z).2.1 15 = Z.2.1 15 := (zLi1_15 vPq_15).trans (zBf_15 (T := T) (Z := Z))
theorem zBp_15 {T : tSm} {Z : tZ} : (zBp T Z).2.1 15 = Z.2.1 15 := by unfold zBp; split <;> rfl
theorem wd_ne : ∀ a : Nat, a < 11 → ∀ c : Nat, c < 11 → a ≠ c → wNe (-2 - (a : Int)) (-2 - (c : Int)) = true := by decide +kernel
theorem wd_u {T : tSm} {i c s : Int} (c0 : 0 ≤ c) (c1 : c ≤ 10) (s0 : -12 ≤ s) (s1 : s ≤ -2) (h : sW T i (-2 - c) = true) (hs : s ≠ -2 - c) : sW T i s = false := by
  obtain ⟨k, rfl⟩ := Int.eq_ofNat_of_zero_le c0
  obtain ⟨m, hm⟩ := Int.eq_ofNat_of_zero_le (show 0 ≤ -2 - s from by omega)
  have e : s = -2 - (m : Int) := by omega
  rw [e]
  exact sW_x (wd_ne k (by omega) m (by omega) (by omega)) h
theorem tl_1 : ∀ r : Nat, r < 64 → ∀ c : Nat, c < 5 → xAnd (xShr (32 * (r : Int)) (c : Int)) 1 = 0 := by decide +kernel
theorem tl_2 : ∀ r : Nat, r < 64 → ∀ c : Nat, c < 6 → xAnd (xShr (32 * (r : Int)) (c + 5 : Nat)) 1 = xAnd (xShr (r : Int) (c : Int)) 1 := by decide +kernel
theorem tl_3 : ∀ r : Nat, r < 64 → ∀ c : Nat, c < 6 → xOr (32 * (r : Int)) (xShl 1 (c + 5 : Nat)) = 32 * xOr (r : Int) (xShl 1 (c : Int)) := by decide +kernel
theorem tl_4 : ∀ r : Nat, r < 64 → ∀ c : Nat, c < 6 → yyHb (r : Int) (c : Int) = 0 ∨ yyHb (r : Int) (c : Int) = 1 := by decide +kernel
theorem bc_e : ∀ x : Nat, x < 256 → (xAnd (w32 ((w32 ((xAnd (w32 ((w32 ((xAnd (w32 ((x : Int) - (xAnd (xUsh (x : Int) 1) 1431655765))) 858993459) + (xAnd (xUsh (w32 ((x : Int) - (xAnd (xUsh (x : Int) 1) 1431655765))) 2) 858993459))) + (xUsh (w32 ((xAnd (w32 ((x : Int) - (xAnd (xUsh (x : Int) 1) 1431655765))) 858993459) + (xAnd (xUsh (w32 ((x : Int) - (xAnd (xUsh (x : Int) 1) 1431655765))) 2) 858993459))) 4))) 252645135) + (xUsh (xAnd (w32 ((w32 ((xAnd (w32 ((x : Int) - (xAnd (xUsh (x : Int) 1) 1431655765))) 858993459) + (xAnd (xUsh (w32 ((x : Int) - (xAnd (xUsh (x : Int) 1) 1431655765))) 2) 858993459))) + (xUsh (w32 ((xAnd (w32 ((x : Int) - (xAnd (xUsh (x : Int) 1) 1431655765))) 858993459) + (xAnd (xUsh (w32 ((x : Int) - (xAnd (xUsh (x : Int) 1) 1431655765))) 2) 858993459))) 4))) 252645135) 8))) + (xUsh (w32 ((xAnd (w32 ((w32 ((xAnd (w32 ((x : Int) - (xAnd (xUsh (x : Int) 1) 1431655765))) 858993459) + (xAnd (xUsh (w32 ((x : Int) - (xAnd (xUsh (x : Int) 1) 1431655765))) 2) 858993459))) + (xUsh (w32 ((xAnd (w32 ((x : Int) - (xAnd (xUsh (x : Int) 1) 1431655765))) 858993459) + (xAnd (xUsh (w32 ((x : Int) - (xAnd (xUsh (x : Int) 1) 1431655765))) 2) 858993459))) 4))) 252645135) + (xUsh (xAnd (w32 ((w32 ((xAnd (w32 ((x : Int) - (xAnd (xUsh (x : Int) 1) 1431655765))) 858993459) + (xAnd (xUsh (w32 ((x : Int) - (xAnd (xUsh (x : Int) 1) 1431655765))) 2) 858993459))) + (xUsh (w32 ((xAnd (w32 ((x : Int) - (xAnd (xUsh (x : Int) 1) 1431655765))) 858993459) + (xAnd (xUsh (w32 ((x : Int) - (xAnd (xUsh (x : Int) 1) 1431655765))) 2) 858993459))) 4))) 252645135) 8))) 16))) 63) = yyP (x : Int) := by decide +kernel
theorem lj_bits {dd : Nat} {x : Int} (hd : 1 ≤ dd) {H : xH} (x0 : 0 ≤ x) (x1 : x ≤ 255) {Q : Int → xH → Prop} (hQ : Q (yyP x) H) : xCall dd 332 [(0, x)] H Q := by
  obtain ⟨e, rfl, he⟩ := ttRun0 (n := 0) hd
  refine xC_of (L := [(0, x)]) (cd := cd_332) rfl rfl rfl ?_
  refine q_il (pc := 0) (i := 0) (x := x) rfl rfl ?_
  refine q_il (pc := 1) (i := 0) (x := x) rfl rfl ?_
  refine q_ic (pc := 2) (v := 1) rfl ?_
  refine q_ur (pc := 3) rfl ?_
  refine q_ic (pc := 4) (v := 1431655765) rfl ?_
  refine q_an (pc := 5) rfl ?_
  refine q_wb (pc := 6) rfl ?_
  refine q_is (pc := 7) (i := 0) (L' := [(0, (w32 (x - (xAnd (xUsh x 1) 1431655765))))]) rfl rfl rfl ?_
  refine q_il (pc := 8) (i := 0) (x := (w32 (x - (xAnd (xUsh x 1) 1431655765)))) rfl rfl ?_
  refine q_ic (pc := 9) (v := 858993459) rfl ?_
  refine q_an (pc := 10) rfl ?_
  refine q_il (pc := 11) (i := 0) (x := (w32 (x - (xAnd (xUsh x 1) 1431655765)))) rfl rfl ?_
  refine q_ic (pc := 12) (v := 2) rfl ?_
  refine q_ur (pc := 13) rfl ?_
  refine q_ic (pc := 14) (v := 858993459) rfl ?_
  refine q_an (pc := 15) rfl ?_
  refine q_wa (pc := 16) rfl ?_
  refine q_is (pc := 17) (i := 0) (L' := [(0, (w32 ((xAnd (w32 (x - (xAnd (xUsh x 1) 1431655765))) 858993459) + (xAnd (xUsh (w32 (x - (xAnd (xUsh x 1) 1431655765))) 2) 858993459))))]) rfl rfl rfl ?_
  refine q_il (pc := 18) (i := 0) (x := (w32 ((xAnd (w32 (x - (xAnd (xUsh x 1) 1431655765))) 858993459) + (xAnd (xUsh (w32 (x - (xAnd (xUsh x 1) 1431655765))) 2) 858993459)))) rfl rfl ?_
  refine q_il (pc := 19) (i := 0) (x := (w32 ((xAnd (w32 (x - (xAnd (xUsh x 1) 1431655765))) 858993459) + (xAnd (xUsh (w32 (x - (xAnd (xUsh x 1) 1431655765))) 2) 858993459)))) rfl rfl ?_
  refine q_ic (pc := 20) (v := 4) rfl ?_
  refine q_ur (pc := 21) rfl ?_
  refine q_wa (pc := 22) rfl ?_
  refine q_ic (pc := 23) (v := 252645135) rfl ?_
  refine q_an (pc := 24) rfl ?_
  refine q_is (pc := 25) (i := 0) (L' := [(0, (xAnd (w32 ((w32 ((xAnd (w32 (x - (xAnd (xUsh x 1) 1431655765))) 858993459) + (xAnd (xUsh (w32 (x - (xAnd (xUsh x 1) 1431655765))) 2) 858993459))) + (xUsh (w32 ((xAnd (w32 (x - (xAnd (xUsh x 1) 1431655765))) 858993459) + (xAnd (xUsh (w32 (x - (xAnd (xUsh x 1) 1431655765))) 2) 858993459))) 4))) 252645135))]) rfl rfl rfl ?_
  refine q_il (pc := 26) (i := 0) (x := (xAnd (w32 ((w32 ((xAnd (w32 (x - (xAnd (xUsh x 1) 1431655765))) 858993459) + (xAnd (xUsh (w32 (x - (xAnd (xUsh x 1) 1431655765))) 2) 858993459))) + (xUsh (w32 ((xAnd (w32 (x - (xAnd (xUsh x 1) 1431655765))) 858993459) + (xAnd (xUsh (w32 (x - (xAnd (xUsh x 1) 1431655765))) 2) 858993459))) 4))) 252645135)) rfl rfl ?_
  refine q_il (pc := 27) (i := 0) (x := (xAnd (w32 ((w32 ((xAnd (w32 (x - (xAnd (xUsh x 1) 1431655765))) 858993459) + (xAnd (xUsh (w32 (x - (xAnd (xUsh x 1) 1431655765))) 2) 858993459))) + (xUsh (w32 ((xAnd (w32 (x - (xAnd (xUsh x 1) 1431655765))) 858993459) + (xAnd (xUsh (w32 (x - (xAnd (xUsh x 1) 1431655765))) 2) 858993459))) 4))) 252645135)) rfl rfl ?_
  refine q_ic (pc := 28) (v := 8) rfl ?_
  refine q_ur (pc := 29) rfl ?_
  refine q_wa (pc := 30) rfl ?_
  refine q_is (pc := 31) (i := 0) (L' := [(0, (w32 ((xAnd (w32 ((w32 ((xAnd (w32 (x - (xAnd (xUsh x 1) 1431655765))) 858993459) + (xAnd (xUsh (w32 (x - (xAnd (xUsh x 1) 1431655765))) 2) 858993459))) + (xUsh (w32 ((xAnd (w32 (x - (xAnd (xUsh x 1) 1431655765))) 858993459) + (xAnd (xUsh (w32 (x - (xAnd (xUsh x 1) 1431655765))) 2) 858993459))) 4))) 252645135) + (xUsh (xAnd (w32 ((w32 ((xAnd (w32 (x - (xAnd (xUsh x 1) 1431655765))) 858993459) + (xAnd (xUsh (w32 (x - (xAnd (xUsh x 1) 1431655765))) 2) 858993459))) + (xUsh (w32 ((xAnd (w32 (x - (xAnd (xUsh x 1) 1431655765))) 858993459) + (xAnd (xUsh (w32 (x - (xAnd (xUsh x 1) 1431655765))) 2) 858993459))) 4))) 252645135) 8))))]) rfl rfl rfl ?_
  refine q_il (pc := 32) (i := 0) (x := (w32 ((xAnd (w32 ((w32 ((xAnd (w32 (x - (xAnd (xUsh x 1) 1431655765))) 858993459) + (xAnd (xUsh (w32 (x - (xAnd (xUsh x 1) 1431655765))) 2) 858993459))) + (xUsh (w32 ((xAnd (w32 (x - (xAnd (xUsh x 1) 1431655765))) 858993459) + (xAnd (xUsh (w32 (x - (xAnd (xUsh x 1) 1431655765))) 2) 858993459))) 4))) 252645135) + (xUsh (xAnd (w32 ((w32 ((xAnd (w32 (x - (xAnd (xUsh x 1) 1431655765))) 858993459) + (xAnd (xUsh (w32 (x - (xAnd (xUsh x 1) 1431655765))) 2) 858993459))) + (xUsh (w32 ((xAnd (w32 (x - (xAnd (xUsh x 1) 1431655765))) 858993459) + (xAnd (xUsh (w32 (x - (xAnd (xUsh x 1) 1431655765))) 2) 858993459))) 4))) 252645135) 8)))) rfl rfl ?_
  refine q_il (pc := 33) (i := 0) (x := (w32 ((xAnd (w32 ((w32 ((xAnd (w32 (x - (xAnd (xUsh x 1) 1431655765))) 858993459) + (xAnd (xUsh (w32 (x - (xAnd (xUsh x 1) 1431655765))) 2) 858993459))) + (xUsh (w32 ((xAnd (w32 (x - (xAnd (xUsh x 1) 1431655765))) 858993459) + (xAnd (xUsh (w32 (x - (xAnd (xUsh x 1) 1431655765))) 2) 858993459))) 4))) 252645135) + (xUsh (xAnd (w32 ((w32 ((xAnd (w32 (x - (xAnd (xUsh x 1) 1431655765))) 858993459) + (xAnd (xUsh (w32 (x - (xAnd (xUsh x 1) 1431655765))) 2) 858993459))) + (xUsh (w32 ((xAnd (w32 (x - (xAnd (xUsh x 1) 1431655765))) 858993459) + (xAnd (xUsh (w32 (x - (xAnd (xUsh x 1) 1431655765))) 2) 858993459))) 4))) 252645135) 8)))) rfl rfl ?_
  refine q_ic (pc := 34) (v := 16) rfl ?_
  refine q_ur (pc := 35) rfl ?_
  refine q_wa (pc := 36) rfl ?_
  refine q_is (pc := 37) (i := 0) (L' := [(0, (w32 ((w32 ((xAnd (w32 ((w32 ((xAnd (w32 (x - (xAnd (xUsh x 1) 1431655765))) 858993459) + (xAnd (xUsh (w32 (x - (xAnd (xUsh x 1) 1431655765))) 2) 858993459))) + (xUsh (w32 ((xAnd (w32 (x - (xAnd (xUsh x 1) 1431655765))) 858993459) + (xAnd (xUsh (w32 (x - (xAnd (xUsh x 1) 1431655765))) 2) 858993459))) 4))) 252645135) + (xUsh (xAnd (w32 ((w32 ((xAnd (w32 (x - (xAnd (xUsh x 1) 1431655765))) 858993459) + (xAnd (xUsh (w32 (x - (xAnd (xUsh x 1) 1431655765))) 2) 858993459))) + (xUsh (w32 ((xAnd (w32 (x - (xAnd (xUsh x 1) 1431655765))) 858993459) + (xAnd (xUsh (w32 (x - (xAnd (xUsh x 1) 1431655765))) 2) 858993459))) 4))) 252645135) 8))) + (xUsh (w32 ((xAnd (w32 ((w32 ((xAnd (w32 (x - (xAnd (xUsh x 1) 1431655765))) 858993459) + (xAnd (xUsh (w32 (x - (xAnd (xUsh x 1) 1431655765))) 2) 858993459))) + (xUsh (w32 ((xAnd (w32 (x - (xAnd (xUsh x 1) 1431655765))) 858993459) + (xAnd (xUsh (w32 (x - (xAnd (xUsh x 1) 1431655765))) 2) 858993459))) 4))) 252645135) + (xUsh (xAnd (w32 ((w32 ((xAnd (w32 (x - (xAnd (xUsh x 1) 1431655765))) 858993459) + (xAnd (xUsh (w32 (x - (xAnd (xUsh x 1) 1431655765))) 2) 858993459))) + (xUsh (w32 ((xAnd (w32 (x - (xAnd (xUsh x 1) 1431655765))) 858993459) + (xAnd (xUsh (w32 (x - (xAnd (xUsh x 1) 1431655765))) 2) 858993459))) 4))) 252645135) 8))) 16))))]) rfl rfl rfl ?_
  refine q_il (pc := 38) (i := 0) (x := (w32 ((w32 ((xAnd (w32 ((w32 ((xAnd (w32 (x - (xAnd (xUsh x 1) 1431655765))) 858993459) + (xAnd (xUsh (w32 (x - (xAnd (xUsh x 1) 1431655765))) 2) 858993459))) + (xUsh (w32 ((xAnd (w32 (x - (xAnd (xUsh x 1) 1431655765))) 858993459) + (xAnd (xUsh (w32 (x - (xAnd (xUsh x 1) 1431655765))) 2) 858993459))) 4))) 252645135) + (xUsh (xAnd (w32 ((w32 ((xAnd (w32 (x - (xAnd (xUsh x 1) 1431655765))) 858993459) + (xAnd (xUsh (w32 (x - (xAnd (xUsh x 1) 1431655765))) 2) 858993459))) + (xUsh (w32 ((xAnd (w32 (x - (xAnd (xUsh x 1) 1431655765))) 858993459) + (xAnd (xUsh (w32 (x - (xAnd (xUsh x 1) 1431655765))) 2) 858993459))) 4))) 252645135) 8))) + (xUsh (w32 ((xAnd (w32 ((w32 ((xAnd (w32 (x - (xAnd (xUsh x 1) 1431655765))) 858993459) + (xAnd (xUsh (w32 (x - (xAnd (xUsh x 1) 1431655765))) 2) 858993459))) + (xUsh (w32 ((xAnd (w32 (x - (xAnd (xUsh x 1) 1431655765))) 858993459) + (xAnd (xUsh (w32 (x - (xAnd (xUsh x 1) 1431655765))) 2) 858993459))) 4))) 252645135) + (xUsh (xAnd (w32 ((w32 ((xAnd (w32 (x - (xAnd (xUsh x 1) 1431655765))) 858993459) + (xAnd (xUsh (w32 (x - (xAnd (xUsh x 1) 1431655765))) 2) 858993459))) + (xUsh (w32 ((xAnd (w32 (x - (xAnd (xUsh x 1) 1431655765))) 858993459) + (xAnd (xUsh (w32 (x - (xAnd (xUsh x 1) 1431655765))) 2) 858993459))) 4))) 252645135) 8))) 16)))) rfl rfl ?_
  refine q_ic (pc := 39) (v := 63) rfl ?_
  refine q_an (pc := 40) rfl ?_
  refine q_ri (pc := 41) rfl ?_
  obtain ⟨k, rfl⟩ := Int.eq_ofNat_of_zero_le x0
  have u := bc_e k (by omega)
  rw [← u] at hQ
  exact hQ
theorem lj_kind {T : tSm} {n : Int} {dd : Nat} (hd : 7 ≤ dd) {H K : xH} {S : tSa} (hO : sOk T n) (zB1 : rB T H K S) {Q : Int → xH → Prop} (hq : ∀ r : Int, (r = -1 ∧ ∀ s : Int, -12 ≤ s → s ≤ -2 → sW T S.1 s = false) ∨ ((0 ≤ r ∧ r ≤ 10) ∧ sW T S.1 (-2 - r) = true) → Q r K) : xCall dd 84 [(2, 3)] K Q := by
  obtain ⟨e, rfl, he⟩ := ttRun0 (n := 6) hd
  have he : 6 ≤ e := he
  refine xC_of (L := [(2, 3)]) (cd := cd_84) rfl rfl rfl ?_
  refine q_al (pc := 0) (i := 0) (x := 3) rfl rfl ?_
  refine q_sc (pc := 1) (j := 0) rfl ?_
  refine q_iv (pc := 2) (q := 616568) rfl rfl rfl ⟨by omega, (ttKc zB1.1 (a := 3) (κ := 7) (len := 0) ⟨rfl, rfl⟩ (by decide) (by decide)).1⟩ ?_
  refine lb_is (by decide) (by decide) (by omega) hO zB1 (fun jw2 => ?_) (fun jw2 => ?_)
  · skip
    refine q_if (pc := 3) rfl (fun h3 => ?_) (fun h3 => ?_)
    · replace h3 : (1 : Int) = 0 := h3
      omega
    · replace h3 : (1 : Int) ≠ 0 := h3
      refine q_ic (pc := 4) (v := 0) rfl ?_
      refine q_ri (pc := 5) rfl ?_
      exact hq 0 (Or.inr ⟨⟨by decide, by decide⟩, jw2⟩)
  · skip
    refine q_if (pc := 3) rfl (fun h3 => ?_) (fun h3 => ?_)
    · replace h3 : (0 : Int) = 0 := h3
      refine q_al (pc := 6) (i := 0) (x := 3) rfl rfl ?_
      refine q_sc (pc := 7) (j := 1) rfl ?_
      refine q_iv (pc := 8) (q := 616568) rfl rfl rfl ⟨by omega, (ttKc zB1.1 (a := 3) (κ := 7) (len := 0) ⟨rfl, rfl⟩ (by decide) (by decide)).1⟩ ?_
      refine lb_is (by decide) (by decide) (by omega) hO zB1 (fun jw8 => ?_) (fun jw8 => ?_)
      · skip
        refine q_if (pc := 9) rfl (fun h9 => ?_) (fun h9 => ?_)
        · replace h9 : (1 : Int) = 0 := h9
          omega
        · replace h9 : (1 : Int) ≠ 0 := h9
          refine q_ic (pc := 10) (v := 1) rfl ?_
          refine q_ri (pc := 11) rfl ?_
          exact hq 1 (Or.inr ⟨⟨by decide, by decide⟩, jw8⟩)
      · skip
        refine q_if (pc := 9) rfl (fun h9 => ?_) (fun h9 => ?_)
        · replace h9 : (0 : Int) = 0 := h9
          refine q_al (pc := 12) (i := 0) (x := 3) rfl rfl ?_
          refine q_sc (pc := 13) (j := 2) rfl ?_
          refine q_iv (pc := 14) (q := 616568) rfl rfl rfl ⟨by omega, (ttKc zB1.1 (a := 3) (κ := 7) (len := 0) ⟨rfl, rfl⟩ (by decide) (by decide)).1⟩ ?_
          refine lb_is (by decide) (by decide) (by omega) hO zB1 (fun jw14 => ?_) (fun jw14 => ?_)
          · skip
            refine q_if (pc := 15) rfl (fun h15 => ?_) (fun h15 => ?_)
            · replace h15 : (1 : Int) = 0 := h15
              omega
            · replace h15 : (1 : Int) ≠ 0 := h15
              refine q_ic (pc := 16) (v := 2) rfl ?_
              refine q_ri (pc := 17) rfl ?_
              exact hq 2 (Or.inr ⟨⟨by decide, by decide⟩, jw14⟩)
          · skip
            refine q_if (pc := 15) rfl (fun h15 => ?_) (fun h15 => ?_)
            · replace h15 : (0 : Int) = 0 := h15
              refine q_al (pc := 18) (i := 0) (x := 3) rfl rfl ?_
              refine q_sc (pc := 19) (j := 3) rfl ?_
              refine q_iv (pc := 20) (q := 616568) rfl rfl rfl ⟨by omega, (ttKc zB1.1 (a := 3) (κ := 7) (len := 0) ⟨rfl, rfl⟩ (by decide) (by decide)).1⟩ ?_
              refine lb_is (by decide) (by decide) (by omega) hO zB1 (fun jw20 => ?_) (fun jw20 => ?_)
              · skip
                refine q_if (pc := 21) rfl (fun h21 => ?_) (fun h21 => ?_)
                · replace h21 : (1 : Int) = 0 := h21
                  omega
                · replace h21 : (1 : Int) ≠ 0 := h21
                  refine q_ic (pc := 22) (v := 3) rfl ?_
                  refine q_ri (pc := 23) rfl ?_
                  exact hq 3 (Or.inr ⟨⟨by decide, by decide⟩, jw20⟩)
              · skip
                refine q_if (pc := 21) rfl (fun h21 => ?_) (fun h21 => ?_)
                · replace h21 : (0 : Int) = 0 := h21
                  refine q_al (pc := 24) (i := 0) (x := 3) rfl rfl ?_
                  refine q_sc (pc := 25) (j := 4) rfl ?_
                  refine q_iv (pc := 26) (q := 616568) rfl rfl rfl ⟨by omega, (ttKc zB1.1 (a := 3) (κ := 7) (len := 0) ⟨rfl, rfl⟩ (by decide) (by decide)).1⟩ ?_
                  refine lb_is (by decide) (by decide) (by omega) hO zB1 (fun jw26 => ?_) (fun jw26 => ?_)
                  · skip
                    refine q_if (pc := 27) rfl (fun h27 => ?_) (fun h27 => ?_)
                    · replace h27 : (1 : Int) = 0 := h27
                      omega
                    · replace h27 : (1 : Int) ≠ 0 := h27
                      refine q_ic (pc := 28) (v := 4) rfl ?_
                      refine q_ri (pc := 29) rfl ?_
                      exact hq 4 (Or.inr ⟨⟨by decide, by decide⟩, jw26⟩)
                  · skip
                    refine q_if (pc := 27) rfl (fun h27 => ?_) (fun h27 => ?_)
                    · replace h27 : (0 : Int) = 0 := h27
                      refine q_al (pc := 30) (i := 0) (x := 3) rfl rfl ?_
                      refine q_sc (pc := 31) (j := 5) rfl ?_
                      refine q_iv (pc := 32) (q := 616568) rfl rfl rfl ⟨by omega, (ttKc zB1.1 (a := 3) (κ := 7) (len := 0) ⟨rfl, rfl⟩ (by decide) (by decide)).1⟩ ?_
                      refine lb_is (by decide) (by decide) (by omega) hO zB1 (fun jw32 => ?_) (fun jw32 => ?_)
                      · skip
                        refine q_if (pc := 33) rfl (fun h33 => ?_) (fun h33 => ?_)
                        · replace h33 : (1 : Int) = 0 := h33
                          omega
                        · replace h33 : (1 : Int) ≠ 0 := h33
                          refine q_ic (pc := 34) (v := 5) rfl ?_
                          refine q_ri (pc := 35) rfl ?_
                          exact hq 5 (Or.inr ⟨⟨by decide, by decide⟩, jw32⟩)
                      · skip
                        refine q_if (pc := 33) rfl (fun h33 => ?_) (fun h33 => ?_)
                        · replace h33 : (0 : Int) = 0 := h33
                          refine q_al (pc := 36) (i := 0) (x := 3) rfl rfl ?_
                          refine q_sc (pc := 37) (j := 6) rfl ?_
                          refine q_iv (pc := 38) (q := 616568) rfl rfl rfl ⟨by omega, (ttKc zB1.1 (a := 3) (κ := 7) (len := 0) ⟨rfl, rfl⟩ (by decide) (by decide)).1⟩ ?_
                          refine lb_is (by decide) (by decide) (by omega) hO zB1 (fun jw38 => ?_) (fun jw38 => ?_)
                          · skip
                            refine q_if (pc := 39) rfl (fun h39 => ?_) (fun h39 => ?_)
                            · replace h39 : (1 : Int) = 0 := h39
                              omega
                            · replace h39 : (1 : Int) ≠ 0 := h39
                              refine q_ic (pc := 40) (v := 6) rfl ?_
                              refine q_ri (pc := 41) rfl ?_
                              exact hq 6 (Or.inr ⟨⟨by decide, by decide⟩, jw38⟩)
                          · skip
                            refine q_if (pc := 39) rfl (fun h39 => ?_) (fun h39 => ?_)
                            · replace h39 : (0 : Int) = 0 := h39
                              refine q_al (pc := 42) (i := 0) (x := 3) rfl rfl ?_
                              refine q_sc (pc := 43) (j := 7) rfl ?_
                              refine q_iv (pc := 44) (q := 616568) rfl rfl rfl ⟨by omega, (ttKc zB1.1 (a := 3) (κ := 7) (len := 0) ⟨rfl, rfl⟩ (by decide) (by decide)).1⟩ ?_
                              refine lb_is (by decide) (by decide) (by omega) hO zB1 (fun jw44 => ?_) (fun jw44 => ?_)
                              · skip
                                refine q_if (pc := 45) rfl (fun h45 => ?_) (fun h45 => ?_)
                                · replace h45 : (1 : Int) = 0 := h45
                                  omega
                                · replace h45 : (1 : Int) ≠ 0 := h45
                                  refine q_ic (pc := 46) (v := 7) rfl ?_
                                  refine q_ri (pc := 47) rfl ?_
                                  exact hq 7 (Or.inr ⟨⟨by decide, by decide⟩, jw44⟩)
                              · skip
                                refine q_if (pc := 45) rfl (fun h45 => ?_) (fun h45 => ?_)
                                · replace h45 : (0 : Int) = 0 := h45
                                  refine q_al (pc := 48) (i := 0) (x := 3) rfl rfl ?_
                                  refine q_sc (pc := 49) (j := 8) rfl ?_
                                  refine q_iv (pc := 50) (q := 616568) rfl rfl rfl ⟨by omega, (ttKc zB1.1 (a := 3) (κ := 7) (len := 0) ⟨rfl, rfl⟩ (by decide) (by decide)).1⟩ ?_
                                  refine lb_is (by decide) (by decide) (by omega) hO zB1 (fun jw50 => ?_) (fun jw50 => ?_)
                                  · skip
                                    refine q_if (pc := 51) rfl (fun h51 => ?_) (fun h51 => ?_)
                                    · replace h51 : (1 : Int) = 0 := h51
                                      omega
                                    · replace h51 : (1 : Int) ≠ 0 := h51
                                      refine q_ic (pc := 52) (v := 8) rfl ?_
                                      refine q_ri (pc := 53) rfl ?_
                                      exact hq 8 (Or.inr ⟨⟨by decide, by decide⟩, jw50⟩)
                                  · skip
                                    refine q_if (pc := 51) rfl (fun h51 => ?_) (fun h51 => ?_)
                                    · replace h51 : (0 : Int) = 0 := h51
                                      refine q_al (pc := 54) (i := 0) (x := 3) rfl rfl ?_
                                      refine q_sc (pc := 55) (j := 9) rfl ?_
                                      refine q_iv (pc := 56) (q := 616568) rfl rfl rfl ⟨by omega, (ttKc zB1.1 (a := 3) (κ := 7) (len := 0) ⟨rfl, rfl⟩ (by decide) (by decide)).1⟩ ?_
                                      refine lb_is (by decide) (by decide) (by omega) hO zB1 (fun jw56 => ?_) (fun jw56 => ?_)
                                      · skip
                                        refine q_if (pc := 57) rfl (fun h57 => ?_) (fun h57 => ?_)
                                        · replace h57 : (1 : Int) = 0 := h57
                                          omega
                                        · replace h57 : (1 : Int) ≠ 0 := h57
                                          refine q_ic (pc := 58) (v := 9) rfl ?_
                                          refine q_ri (pc := 59) rfl ?_
                                          exact hq 9 (Or.inr ⟨⟨by decide, by decide⟩, jw56⟩)
                                      · skip
                                        refine q_if (pc := 57) rfl (fun h57 => ?_) (fun h57 => ?_)
                                        · replace h57 : (0 : Int) = 0 := h57
                                          refine q_al (pc := 60) (i := 0) (x := 3) rfl rfl ?_
                                          refine q_sc (pc := 61) (j := 10) rfl ?_
                                          refine q_iv (pc := 62) (q := 616568) rfl rfl rfl ⟨by omega, (ttKc zB1.1 (a := 3) (κ := 7) (len := 0) ⟨rfl, rfl⟩ (by decide) (by decide)).1⟩ ?_
                                          refine lb_is (by decide) (by decide) (by omega) hO zB1 (fun jw62 => ?_) (fun jw62 => ?_)
                                          · skip
                                            refine q_if (pc := 63) rfl (fun h63 => ?_) (fun h63 => ?_)
                                            · replace h63 : (1 : Int) = 0 := h63
                                              omega
                                            · replace h63 : (1 : Int) ≠ 0 := h63
                                              refine q_ic (pc := 64) (v := 10) rfl ?_
                                              refine q_go (pc := 65) rfl ?_
                                              refine q_ri (pc := 67) rfl ?_
                                              exact hq 10 (Or.inr ⟨⟨by decide, by decide⟩, jw62⟩)
                                          · skip
                                            refine q_if (pc := 63) rfl (fun h63 => ?_) (fun h63 => ?_)
                                            · replace h63 : (0 : Int) = 0 := h63
                                              refine q_ic (pc := 66) (v := (-1)) rfl ?_
                                              refine q_ri (pc := 67) rfl ?_
                                              refine hq (-1) (Or.inl ⟨rfl, fun s s0 s1 => ?_⟩)
                                              obtain rfl | rfl | rfl | rfl | rfl | rfl | rfl | rfl | rfl | rfl | rfl : s = -2 ∨ s = -3 ∨ s = -4 ∨ s = -5 ∨ s = -6 ∨ s = -7 ∨ s = -8 ∨ s = -9 ∨ s = -10 ∨ s = -11 ∨ s = -12 := by omega
                                              · exact jw2
                                              · exact jw8
                                              · exact jw14
                                              · exact jw20
                                              · exact jw26
                                              · exact jw32
                                              · exact jw38
                                              · exact jw44
                                              · exact jw50
                                              · exact jw56
                                              · exact jw62
                                            · replace h63 : (0 : Int) ≠ 0 := h63
                                              omega
                                        · replace h57 : (0 : Int) ≠ 0 := h57
                                          omega
                                    · replace h51 : (0 : Int) ≠ 0 := h51
                                      omega
                                · replace h45 : (0 : Int) ≠ 0 := h45
                                  omega
                            · replace h39 : (0 : Int) ≠ 0 := h39
                              omega
                        · replace h33 : (0 : Int) ≠ 0 := h33
                          omega
                    · replace h27 : (0 : Int) ≠ 0 := h27
                      omega
                · replace h21 : (0 : Int) ≠ 0 := h21
                  omega
            · replace h15 : (0 : Int) ≠ 0 := h15
              omega
        · replace h9 : (0 : Int) ≠ 0 := h9
          omega
    · replace h3 : (0 : Int) ≠ 0 := h3
      omega
theorem lj_full {dd : Nat} (hd : 2 ≤ dd) {H : xH} {T : tSm} {n b : Int} (hb : b = 7 ∨ b = 34) (hO : sOk T n) {Z : tZ} (zB0 : rB T H H Z.1) (h9 : H.1 3 9 = b) (hW : skW H.1 b) (hR : skR H.1 b Z) (hw : zRw Z) {c : Int} {Q : Int → xH → Prop} (hy : ((c = 0 ∧ Z.2.1 1 = 8) ∨ (c = 1 ∧ Z.2.1 2 = 10) ∨ (c = 3 ∧ Z.2.1 3 = 6) ∨ (c = 4 ∧ yyP (Z.2.1 15) = 3)) → Q 1 H) (hx : ¬ ((c = 0 ∧ Z.2.1 1 = 8) ∨ (c = 1 ∧ Z.2.1 2 = 10) ∨ (c = 3 ∧ Z.2.1 3 = 6) ∨ (c = 4 ∧ yyP (Z.2.1 15) = 3)) → Q 0 H) : xCall dd 85 [(2, 3), (0, c)] H Q := by
  obtain ⟨e, rfl, he⟩ := ttRun0 (n := 1) hd
  have he : 1 ≤ e := he
  have hB := skB_2 hb
  have hi := skB_in hB
  have hn := rB_n zB0
  have e4 : H.1 b 4 = Z.2.1 1 := skA_i hR.1 (j := 4) (i := 1) (by decide)
  have e5 : H.1 b 5 = Z.2.1 2 := skA_i hR.1 (j := 5) (i := 2) (by decide)
  have e3 : H.1 (b + 3) 0 = Z.2.1 3 := skV_n hR.2.2.2.1
  have e18 : H.1 b 18 = Z.2.1 15 := skA_i hR.1 (j := 18) (i := 15) (by decide)
  obtain ⟨-, w1, w2, w3, ⟨w4, w5⟩, -⟩ := hw
  refine xC_of (L := [(2, 3), (0, c)]) (cd := cd_85) rfl rfl rfl ?_
  refine q_il (pc := 0) (i := 1) (x := c) rfl rfl ?_
  refine q_tq (pc := 1) (t := 40) (lo := 0) (hi := 4) (ts := #[2, 11, 40, 20, 30]) rfl ⟨fun hc => ?_, fun hc => ?_, fun hc => ?_, fun hc => ?_, fun hc => ?_, trivial⟩ (fun hc => ?_)
  · skip
    refine q_al (pc := 2) (i := 0) (x := 3) rfl rfl ?_
    refine q_gf (pc := 3) (m := 7092) (t := 2) (c := 9) rfl (ttKc zB0.1 (a := 3) (κ := 7) (len := 0) ⟨rfl, rfl⟩ (by decide) (by decide)).1 rfl rfl ?_
    rw [show H.1 3 9 = b from (rB_9 zB0).trans h9]
    refine q_gf (pc := 4) (m := 10040) (t := 0) (c := 4) rfl (sk_kb zB0.1 hB).1 rfl rfl ?_
    rw [show H.1 b 4 = (Z.2.1 1) from (rB_sk zB0 hB (by omega) (by omega)).trans e4]
    refine q_ic (pc := 5) (v := 8) rfl ?_
    refine q_i2 (pc := 6) rfl (fun h6 => ?_) (fun h6 => ?_)
    · replace h6 : (Z.2.1 1) < 8 := h6
      refine q_ic (pc := 9) (v := 0) rfl ?_
      refine q_rz (pc := 10) rfl (by omega) ?_
      exact hx (fun z => by omega)
    · replace h6 : 8 ≤ (Z.2.1 1) := h6
      refine q_ic (pc := 7) (v := 1) rfl ?_
      refine q_go (pc := 8) rfl ?_
      refine q_rz (pc := 10) rfl (by omega) ?_
      exact hy (by omega)
  · skip
    refine q_al (pc := 11) (i := 0) (x := 3) rfl rfl ?_
    refine q_gf (pc := 12) (m := 7092) (t := 2) (c := 9) rfl (ttKc zB0.1 (a := 3) (κ := 7) (len := 0) ⟨rfl, rfl⟩ (by decide) (by decide)).1 rfl rfl ?_
    rw [show H.1 3 9 = b from (rB_9 zB0).trans h9]
    refine q_gf (pc := 13) (m := 10050) (t := 0) (c := 5) rfl (sk_kb zB0.1 hB).1 rfl rfl ?_
    rw [show H.1 b 5 = (Z.2.1 2) from (rB_sk zB0 hB (by omega) (by omega)).trans e5]
    refine q_ic (pc := 14) (v := 10) rfl ?_
    refine q_i2 (pc := 15) rfl (fun h15 => ?_) (fun h15 => ?_)
    · replace h15 : (Z.2.1 2) < 10 := h15
      refine q_ic (pc := 18) (v := 0) rfl ?_
      refine q_rz (pc := 19) rfl (by omega) ?_
      exact hx (fun z => by omega)
    · replace h15 : 10 ≤ (Z.2.1 2) := h15
      refine q_ic (pc := 16) (v := 1) rfl ?_
      refine q_go (pc := 17) rfl ?_
      refine q_rz (pc := 19) rfl (by omega) ?_
      exact hy (by omega)
  · skip
    refine q_ic (pc := 40) (v := 0) rfl ?_
    refine q_rz (pc := 41) rfl (by omega) ?_
    exact hx (fun z => by omega)
  · skip
    refine q_al (pc := 20) (i := 0) (x := 3) rfl rfl ?_
    refine q_gf (pc := 21) (m := 7092) (t := 2) (c := 9) rfl (ttKc zB0.1 (a := 3) (κ := 7) (len := 0) ⟨rfl, rfl⟩ (by decide) (by decide)).1 rfl rfl ?_
    rw [show H.1 3 9 = b from (rB_9 zB0).trans h9]
    refine q_gf (pc := 22) (m := 10022) (t := 2) (c := 2) rfl (sk_kb zB0.1 hB).1 rfl rfl ?_
    rw [show H.1 b 2 = (b + 3) from (rB_W zB0 hB hW).1.2.2.1]
    refine q_gf (pc := 23) (m := 6000) (t := 0) (c := 0) rfl (sk_kx zB0.1 hB (o := 3) (by decide) (by decide) (κ := 6) (len := 0) ⟨rfl, rfl⟩).1 rfl rfl ?_
    rw [show H.1 (b + 3) 0 = (Z.2.1 3) from (rB_sk zB0 hB (by omega) (by omega)).trans e3]
    refine q_ic (pc := 24) (v := 6) rfl ?_
    refine q_i2 (pc := 25) rfl (fun h25 => ?_) (fun h25 => ?_)
    · replace h25 : (Z.2.1 3) < 6 := h25
      refine q_ic (pc := 28) (v := 0) rfl ?_
      refine q_rz (pc := 29) rfl (by omega) ?_
      exact hx (fun z => by omega)
    · replace h25 : 6 ≤ (Z.2.1 3) := h25
      refine q_ic (pc := 26) (v := 1) rfl ?_
      refine q_go (pc := 27) rfl ?_
      refine q_rz (pc := 29) rfl (by omega) ?_
      exact hy (by omega)
  · skip
    refine q_al (pc := 30) (i := 0) (x := 3) rfl rfl ?_
    refine q_gf (pc := 31) (m := 7092) (t := 2) (c := 9) rfl (ttKc zB0.1 (a := 3) (κ := 7) (len := 0) ⟨rfl, rfl⟩ (by decide) (by decide)).1 rfl rfl ?_
    rw [show H.1 3 9 = b from (rB_9 zB0).trans h9]
    refine q_gf (pc := 32) (m := 10180) (t := 0) (c := 18) rfl (sk_kb zB0.1 hB).1 rfl rfl ?_
    rw [show H.1 b 18 = (Z.2.1 15) from (rB_sk zB0 hB (by omega) (by omega)).trans e18]
    refine q_ij (pc := 33) (q := 2663924) rfl rfl rfl trivial ?_
    refine lj_bits (by omega) w4.1 w4.2 ?_
    refine q_ic (pc := 34) (v := 3) rfl ?_
    refine q_i2 (pc := 35) rfl (fun h35 => ?_) (fun h35 => ?_)
    · replace h35 : (yyP (Z.2.1 15)) < 3 := h35
      refine q_ic (pc := 38) (v := 0) rfl ?_
      refine q_rz (pc := 39) rfl (by omega) ?_
      exact hx (fun z => by omega)
    · replace h35 : 3 ≤ (yyP (Z.2.1 15)) := h35
      refine q_ic (pc := 36) (v := 1) rfl ?_
      refine q_go (pc := 37) rfl ?_
      refine q_rz (pc := 39) rfl (by omega) ?_
      exact hy (by omega)
  · skip
    refine q_ic (pc := 40) (v := 0) rfl ?_
    refine q_rz (pc := 41) rfl (by omega) ?_
    exact hx (fun z => by have h2 : c < 0 ∨ 5 ≤ c := hc; omega)
theorem skR_16 {D : xD} {b : Int} {S S1 : tSa} {R : Int → Int} {h v : Int} (y : skR D b (S, R, h)) (ujr6 : R 3 ≤ 6) : skR D b (S1, sUp R 16 v, h) := by
  obtain ⟨h1, h2, h3, h4, h5, h6⟩ := y
  have e : ∀ i : Int, i ≠ 16 → sUp R 16 v i = R i := fun i hi => sUp_ne hi
  exact ⟨skA_c h1 (fun _ _ => rfl) (fun i i0 i1 _ _ => e i (by omega)), skP_c h2 (fun _ _ _ _ => rfl) (e 1 (by decide)) (fun i i0 i1 => e i (by omega)), skL_c h3 (fun _ _ _ _ => rfl) (e 2 (by decide)) (fun i i0 i1 => e i (by omega)), skV_c h4 ujr6 (fun _ _ _ _ => rfl) (e 3 (by decide)) (fun i i0 i1 => e i (by omega)), skI_c h5 (fun _ _ _ _ => rfl) (e 4 (by decide)) (fun i i0 => e i (by omega)), skH_c h6 rfl (e 1 (by decide)) (fun p p0 p1 => e _ (by omega))⟩
theorem zk_0 {T : tSm} {Z : tZ} (hg : Z.1.2.1 = 0) (h : sW T Z.1.1 (-2) = true) : (zKn T Z ∧ oH T Z = -1) ∧ zBd T Z = zPl T (zNx T Z) ∧ (zFu T Z ↔ Z.2.1 0 = 60 ∨ (((0 : Int) = 0 ∧ Z.2.1 1 = 8) ∨ ((0 : Int) = 1 ∧ Z.2.1 2 = 10) ∨ ((0 : Int) = 3 ∧ Z.2.1 3 = 6) ∨ ((0 : Int) = 4 ∧ yyP (Z.2.1 15) = 3))) := by
  have hy : sI T Z (-2) := ⟨hg, h⟩
  have hz : ∀ s : Int, -12 ≤ s → s ≤ -2 → s ≠ -2 → ¬ sI T Z s := fun s s0 s1 hs z => absurd ((wd_u (c := 0) (by decide) (by decide) s0 s1 h (by omega)).symm.trans z.2) (by decide)
  have eo : oH T Z = -1 := (if_neg (hz (-7) (by decide) (by decide) (by decide))).trans ((if_neg (hz (-8) (by decide) (by decide) (by decide))).trans ((if_neg (hz (-9) (by decide) (by decide) (by decide))).trans ((if_neg (hz (-10) (by decide) (by decide) (by decide))).trans ((if_neg (hz (-11) (by decide) (by decide) (by decide))).trans (if_neg (hz (-12) (by decide) (by decide) (by decide)))))))
  have eb : zBd T Z = zPl T (zNx T Z) := by
    have eT : zTk T (-2) Z = zNx T Z := by
      unfold zTk
      rw [sTk_tt hy]
      rfl
    rw [← eT]
    exact (if_neg (fun z => z eo)).trans (if_pos (by rw [sTk_tt hy]))
  refine ⟨⟨fun _ => Or.inl hy, eo⟩, eb, ?_⟩
  unfold zFu
  have n1 := hz (-3) (by decide) (by decide) (by decide)
  have n2 := hz (-5) (by decide) (by decide) (by decide)
  have n3 := hz (-6) (by decide) (by decide) (by decide)
  constructor
  · rintro (z | ⟨z1, z2⟩ | ⟨z1, z2⟩ | ⟨z1, z2⟩ | ⟨z1, z2⟩)
    · exact Or.inl z
    · exact Or.inr (Or.inl ⟨rfl, z2⟩)
    · exact absurd z1 n1
    · exact absurd z1 n2
    · exact absurd z1 n3
  · rintro (z | ⟨z1, z2⟩ | ⟨z1, z2⟩ | ⟨z1, z2⟩ | ⟨z1, z2⟩)
    · exact Or.inl z
    · exact Or.inr (Or.inl ⟨hy, z2⟩)
    · exact absurd z1 (by decide)
    · exact absurd z1 (by decide)
    · exact absurd z1 (by decide)
theorem zk_1 {T : tSm} {Z : tZ} (hg : Z.1.2.1 = 0) (h : sW T Z.1.1 (-3) = true) : (zKn T Z ∧ oH T Z = -1) ∧ zBd T Z = zLe T (zNx T Z) ∧ (zFu T Z ↔ Z.2.1 0 = 60 ∨ (((1 : Int) = 0 ∧ Z.2.1 1 = 8) ∨ ((1 : Int) = 1 ∧ Z.2.1 2 = 10) ∨ ((1 : Int) = 3 ∧ Z.2.1 3 = 6) ∨ ((1 : Int) = 4 ∧ yyP (Z.2.1 15) = 3))) := by
  have hy : sI T Z (-3) := ⟨hg, h⟩
  have hz : ∀ s : Int, -12 ≤ s → s ≤ -2 → s ≠ -3 → ¬ sI T Z s := fun s s0 s1 hs z => absurd ((wd_u (c := 1) (by decide) (by decide) s0 s1 h (by omega)).symm.trans z.2) (by decide)
  have eo : oH T Z = -1 := (if_neg (hz (-7) (by decide) (by decide) (by decide))).trans ((if_neg (hz (-8) (by decide) (by decide) (by decide))).trans ((if_neg (hz (-9) (by decide) (by decide) (by decide))).trans ((if_neg (hz (-10) (by decide) (by decide) (by decide))).trans ((if_neg (hz (-11) (by decide) (by decide) (by decide))).trans (if_neg (hz (-12) (by decide) (by decide) (by decide)))))))
  have eb : zBd T Z = zLe T (zNx T Z) := by
    have eT : zTk T (-3) Z = zNx T Z := by
      unfold zTk
      rw [sTk_tt hy]
      rfl
    rw [← eT]
    exact (if_neg (fun z => z eo)).trans ((if_neg (fun z => by rw [sTk_ff (hz (-2) (by decide) (by decide) (by decide))] at z; exact absurd (show false = true from z) (by decide))).trans (if_pos (by rw [sTk_tt hy])))
  refine ⟨⟨fun _ => Or.inr (Or.inl hy), eo⟩, eb, ?_⟩
  unfold zFu
  have n0 := hz (-2) (by decide) (by decide) (by decide)
  have n2 := hz (-5) (by decide) (by decide) (by decide)
  have n3 := hz (-6) (by decide) (by decide) (by decide)
  constructor
  · rintro (z | ⟨z1, z2⟩ | ⟨z1, z2⟩ | ⟨z1, z2⟩ | ⟨z1, z2⟩)
    · exact Or.inl z
    · exact absurd z1 n0
    · exact Or.inr (Or.inr (Or.inl ⟨rfl, z2⟩))
    · exact absurd z1 n2
    · exact absurd z1 n3
  · rintro (z | ⟨z1, z2⟩ | ⟨z1, z2⟩ | ⟨z1, z2⟩ | ⟨z1, z2⟩)
    · exact Or.inl z
    · exact absurd z1 (by decide)
    · exact Or.inr (Or.inr (Or.inl ⟨hy, z2⟩))
    · exact absurd z1 (by decide)
    · exact absurd z1 (by decide)
theorem zk_2 {T : tSm} {Z : tZ} (hg : Z.1.2.1 = 0) (h : sW T Z.1.1 (-4) = true) : (zKn T Z ∧ oH T Z = -1) ∧ zBd T Z = zLi T (zNx T Z) ∧ (zFu T Z ↔ Z.2.1 0 = 60 ∨ (((2 : Int) = 0 ∧ Z.2.1 1 = 8) ∨ ((2 : Int) = 1 ∧ Z.2.1 2 = 10) ∨ ((2 : Int) = 3 ∧ Z.2.1 3 = 6) ∨ ((2 : Int) = 4 ∧ yyP (Z.2.1 15) = 3))) := by
  have hy : sI T Z (-4) := ⟨hg, h⟩
  have hz : ∀ s : Int, -12 ≤ s → s ≤ -2 → s ≠ -4 → ¬ sI T Z s := fun s s0 s1 hs z => absurd ((wd_u (c := 2) (by decide) (by decide) s0 s1 h (by omega)).symm.trans z.2) (by decide)
  have eo : oH T Z = -1 := (if_neg (hz (-7) (by decide) (by decide) (by decide))).trans ((if_neg (hz (-8) (by decide) (by decide) (by decide))).trans ((if_neg (hz (-9) (by decide) (by decide) (by decide))).trans ((if_neg (hz (-10) (by decide) (by decide) (by decide))).trans ((if_neg (hz (-11) (by decide) (by decide) (by decide))).trans (if_neg (hz (-12) (by decide) (by decide) (by decide)))))))
  have eb : zBd T Z = zLi T (zNx T Z) := by
    have eT : zTk T (-4) Z = zNx T Z := by
      unfold zTk
      rw [sTk_tt hy]
      rfl
    rw [← eT]
    exact (if_neg (fun z => z eo)).trans ((if_neg (fun z => by rw [sTk_ff (hz (-2) (by decide) (by decide) (by decide))] at z; exact absurd (show false = true from z) (by decide))).trans ((if_neg (fun z => by rw [sTk_ff (hz (-3) (by decide) (by decide) (by decide))] at z; exact absurd (show false = true from z) (by decide))).trans (if_pos (by rw [sTk_tt hy]))))
  refine ⟨⟨fun _ => Or.inr (Or.inr (Or.inl hy)), eo⟩, eb, ?_⟩
  unfold zFu
  have n0 := hz (-2) (by decide) (by decide) (by decide)
  have n1 := hz (-3) (by decide) (by decide) (by decide)
  have n2 := hz (-5) (by decide) (by decide) (by decide)
  have n3 := hz (-6) (by decide) (by decide) (by decide)
  constructor
  · rintro (z | ⟨z1, z2⟩ | ⟨z1, z2⟩ | ⟨z1, z2⟩ | ⟨z1, z2⟩)
    · exact Or.inl z
    · exact absurd z1 n0
    · exact absurd z1 n1
    · exact absurd z1 n2
    · exact absurd z1 n3
  · rintro (z | ⟨z1, z2⟩ | ⟨z1, z2⟩ | ⟨z1, z2⟩ | ⟨z1, z2⟩)
    · exact Or.inl z
    · exact absurd z1 (by decide)
    · exact absurd z1 (by decide)
    · exact absurd z1 (by decide)
    · exact absurd z1 (by decide)
theorem zk_3 {T : tSm} {Z : tZ} (hg : Z.1.2.1 = 0) (h : sW T Z.1.1 (-5) = true) : (zKn T Z ∧ oH T Z = -1) ∧ zBd T Z = zSp T (zNx T Z) ∧ (zFu T Z ↔ Z.2.1 0 = 60 ∨ (((3 : Int) = 0 ∧ Z.2.1 1 = 8) ∨ ((3 : Int) = 1 ∧ Z.2.1 2 = 10) ∨ ((3 : Int) = 3 ∧ Z.2.1 3 = 6) ∨ ((3 : Int) = 4 ∧ yyP (Z.2.1 15) = 3))) := by
  have hy : sI T Z (-5) := ⟨hg, h⟩
  have hz : ∀ s : Int, -12 ≤ s → s ≤ -2 → s ≠ -5 → ¬ sI T Z s := fun s s0 s1 hs z => absurd ((wd_u (c := 3) (by decide) (by decide) s0 s1 h (by omega)).symm.trans z.2) (by decide)
  have eo : oH T Z = -1 := (if_neg (hz (-7) (by decide) (by decide) (by decide))).trans ((if_neg (hz (-8) (by decide) (by decide) (by decide))).trans ((if_neg (hz (-9) (by decide) (by decide) (by decide))).trans ((if_neg (hz (-10) (by decide) (by decide) (by decide))).trans ((if_neg (hz (-11) (by decide) (by decide) (by decide))).trans (if_neg (hz (-12) (by decide) (by decide) (by decide)))))))
  have eb : zBd T Z = zSp T (zNx T Z) := by
    have eT : zTk T (-5) Z = zNx T Z := by
      unfold zTk
      rw [sTk_tt hy]
      rfl
    rw [← eT]
    exact (if_neg (fun z => z eo)).trans ((if_neg (fun z => by rw [sTk_ff (hz (-2) (by decide) (by decide) (by decide))] at z; exact absurd (show false = true from z) (by decide))).trans ((if_neg (fun z => by rw [sTk_ff (hz (-3) (by decide) (by decide) (by decide))] at z; exact absurd (show false = true from z) (by decide))).trans ((if_neg (fun z => by rw [sTk_ff (hz (-4) (by decide) (by decide) (by decide))] at z; exact absurd (show false = true from z) (by decide))).trans (if_pos (by rw [sTk_tt hy])))))
  refine ⟨⟨fun _ => Or.inr (Or.inr (Or.inr (Or.inl hy))), eo⟩, eb, ?_⟩
  unfold zFu
  have n0 := hz (-2) (by decide) (by decide) (by decide)
  have n1 := hz (-3) (by decide) (by decide) (by decide)
  have n3 := hz (-6) (by decide) (by decide) (by decide)
  constructor
  · rintro (z | ⟨z1, z2⟩ | ⟨z1, z2⟩ | ⟨z1, z2⟩ | ⟨z1, z2⟩)
    · exact Or.inl z
    · exact absurd z1 n0
    · exact absurd z1 n1
    · exact Or.inr (Or.inr (Or.inr (Or.inl ⟨rfl, z2⟩)))
    · exact absurd z1 n3
  · rintro (z | ⟨z1, z2⟩ | ⟨z1, z2⟩ | ⟨z1, z2⟩ | ⟨z1, z2⟩)
    · exact Or.inl z
    · exact absurd z1 (by decide)
    · exact absurd z1 (by decide)
    · exact Or.inr (Or.inr (Or.inr (Or.inl ⟨hy, z2⟩)))
    · exact absurd z1 (by decide)
theorem zk_4 {T : tSm} {Z : tZ} (hg : Z.1.2.1 = 0) (h : sW T Z.1.1 (-6) = true) : (zKn T Z ∧ oH T Z = -1) ∧ zBd T Z = zPo T (zNx T Z) ∧ (zFu T Z ↔ Z.2.1 0 = 60 ∨ (((4 : Int) = 0 ∧ Z.2.1 1 = 8) ∨ ((4 : Int) = 1 ∧ Z.2.1 2 = 10) ∨ ((4 : Int) = 3 ∧ Z.2.1 3 = 6) ∨ ((4 : Int) = 4 ∧ yyP (Z.2.1 15) = 3))) := by
  have hy : sI T Z (-6) := ⟨hg, h⟩
  have hz : ∀ s : Int, -12 ≤ s → s ≤ -2 → s ≠ -6 → ¬ sI T Z s := fun s s0 s1 hs z => absurd ((wd_u (c := 4) (by decide) (by decide) s0 s1 h (by omega)).symm.trans z.2) (by decide)
  have eo : oH T Z = -1 := (if_neg (hz (-7) (by decide) (by decide) (by decide))).trans ((if_neg (hz (-8) (by decide) (by decide) (by decide))).trans ((if_neg (hz (-9) (by decide) (by decide) (by decide))).trans ((if_neg (hz (-10) (by decide) (by decide) (by decide))).trans ((if_neg (hz (-11) (by decide) (by decide) (by decide))).trans (if_neg (hz (-12) (by decide) (by decide) (by decide)))))))
  have eb : zBd T Z = zPo T (zNx T Z) := by
    exact (if_neg (fun z => z eo)).trans ((if_neg (fun z => by rw [sTk_ff (hz (-2) (by decide) (by decide) (by decide))] at z; exact absurd (show false = true from z) (by decide))).trans ((if_neg (fun z => by rw [sTk_ff (hz (-3) (by decide) (by decide) (by decide))] at z; exact absurd (show false = true from z) (by decide))).trans ((if_neg (fun z => by rw [sTk_ff (hz (-4) (by decide) (by decide) (by decide))] at z; exact absurd (show false = true from z) (by decide))).trans (if_neg (fun z => by rw [sTk_ff (hz (-5) (by decide) (by decide) (by decide))] at z; exact absurd (show false = true from z) (by decide))))))
  refine ⟨⟨fun _ => Or.inr (Or.inr (Or.inr (Or.inr (hy)))), eo⟩, eb, ?_⟩
  unfold zFu
  have n0 := hz (-2) (by decide) (by decide) (by decide)
  have n1 := hz (-3) (by decide) (by decide) (by decide)
  have n2 := hz (-5) (by decide) (by decide) (by decide)
  constructor
  · rintro (z | ⟨z1, z2⟩ | ⟨z1, z2⟩ | ⟨z1, z2⟩ | ⟨z1, z2⟩)
    · exact Or.inl z
    · exact absurd z1 n0
    · exact absurd z1 n1
    · exact absurd z1 n2
    · exact Or.inr (Or.inr (Or.inr (Or.inr (⟨rfl, z2⟩))))
  · rintro (z | ⟨z1, z2⟩ | ⟨z1, z2⟩ | ⟨z1, z2⟩ | ⟨z1, z2⟩)
    · exact Or.inl z
    · exact absurd z1 (by decide)
    · exact absurd z1 (by decide)
    · exact absurd z1 (by decide)
    · exact Or.inr (Or.inr (Or.inr (Or.inr (⟨hy, z2⟩))))
theorem zk_5 {T : tSm} {Z : tZ} (hg : Z.1.2.1 = 0) (h : sW T Z.1.1 (-7) = true) : (zKn T Z ∧ oH T Z = 0) ∧ zBd T Z = zOn T 0 Z ∧ (zFu T Z ↔ Z.2.1 0 = 60 ∨ (((5 : Int) = 0 ∧ Z.2.1 1 = 8) ∨ ((5 : Int) = 1 ∧ Z.2.1 2 = 10) ∨ ((5 : Int) = 3 ∧ Z.2.1 3 = 6) ∨ ((5 : Int) = 4 ∧ yyP (Z.2.1 15) = 3))) := by
  have hy : sI T Z (-7) := ⟨hg, h⟩
  have hz : ∀ s : Int, -12 ≤ s → s ≤ -2 → s ≠ -7 → ¬ sI T Z s := fun s s0 s1 hs z => absurd ((wd_u (c := 5) (by decide) (by decide) s0 s1 h (by omega)).symm.trans z.2) (by decide)
  have eo : oH T Z = 0 := if_pos hy
  have eb : zBd T Z = zOn T 0 Z := (if_pos (by rw [eo]; decide)).trans (by rw [eo])
  refine ⟨⟨fun z => absurd (eo.symm.trans z) (by decide), eo⟩, eb, ?_⟩
  unfold zFu
  have n0 := hz (-2) (by decide) (by decide) (by decide)
  have n1 := hz (-3) (by decide) (by decide) (by decide)
  have n2 := hz (-5) (by decide) (by decide) (by decide)
  have n3 := hz (-6) (by decide) (by decide) (by decide)
  constructor
  · rintro (z | ⟨z1, z2⟩ | ⟨z1, z2⟩ | ⟨z1, z2⟩ | ⟨z1, z2⟩)
    · exact Or.inl z
    · exact absurd z1 n0
    · exact absurd z1 n1
    · exact absurd z1 n2
    · exact absurd z1 n3
  · rintro (z | ⟨z1, z2⟩ | ⟨z1, z2⟩ | ⟨z1, z2⟩ | ⟨z1, z2⟩)
    · exact Or.inl z
    · exact absurd z1 (by decide)
    · exact absurd z1 (by decide)
    · exact absurd z1 (by decide)
    · exact absurd z1 (by decide)
theorem zk_6 {T : tSm} {Z : tZ} (hg : Z.1.2.1 = 0) (h : sW T Z.1.1 (-8) = true) : (zKn T Z ∧ oH T Z = 1) ∧ zBd T Z = zOn T 1 Z ∧ (zFu T Z ↔ Z.2.1 0 = 60 ∨ (((6 : Int) = 0 ∧ Z.2.1 1 = 8) ∨ ((6 : Int) = 1 ∧ Z.2.1 2 = 10) ∨ ((6 : Int) = 3 ∧ Z.2.1 3 = 6) ∨ ((6 : Int) = 4 ∧ yyP (Z.2.1 15) = 3))) := by
  have hy : sI T Z (-8) := ⟨hg, h⟩
  have hz : ∀ s : Int, -12 ≤ s → s ≤ -2 → s ≠ -8 → ¬ sI T Z s := fun s s0 s1 hs z => absurd ((wd_u (c := 6) (by decide) (by decide) s0 s1 h (by omega)).symm.trans z.2) (by decide)
  have eo : oH T Z = 1 := (if_neg (hz (-7) (by decide) (by decide) (by decide))).trans (if_pos hy)
  have eb : zBd T Z = zOn T 1 Z := (if_pos (by rw [eo]; decide)).trans (by rw [eo])
  refine ⟨⟨fun z => absurd (eo.symm.trans z) (by decide), eo⟩, eb, ?_⟩
  unfold zFu
  have n0 := hz (-2) (by decide) (by decide) (by decide)
  have n1 := hz (-3) (by decide) (by decide) (by decide)
  have n2 := hz (-5) (by decide) (by decide) (by decide)
  have n3 := hz (-6) (by decide) (by decide) (by decide)
  constructor
  · rintro (z | ⟨z1, z2⟩ | ⟨z1, z2⟩ | ⟨z1, z2⟩ | ⟨z1, z2⟩)
    · exact Or.inl z
    · exact absurd z1 n0
    · exact absurd z1 n1
    · exact absurd z1 n2
    · exact absurd z1 n3
  · rintro (z | ⟨z1, z2⟩ | ⟨z1, z2⟩ | ⟨z1, z2⟩ | ⟨z1, z2⟩)
    · exact Or.inl z
    · exact absurd z1 (by decide)
    · exact absurd z1 (by decide)
    · exact absurd z1 (by decide)
    · exact absurd z1 (by decide)
theorem zk_7 {T : tSm} {Z : tZ} (hg : Z.1.2.1 = 0) (h : sW T Z.1.1 (-9) = true) : (zKn T Z ∧ oH T Z = 2) ∧ zBd T Z = zOn T 2 Z ∧ (zFu T Z ↔ Z.2.1 0 = 60 ∨ (((7 : Int) = 0 ∧ Z.2.1 1 = 8) ∨ ((7 : Int) = 1 ∧ Z.2.1 2 = 10) ∨ ((7 : Int) = 3 ∧ Z.2.1 3 = 6) ∨ ((7 : Int) = 4 ∧ yyP (Z.2.1 15) = 3))) := by
  have hy : sI T Z (-9) := ⟨hg, h⟩
  have hz : ∀ s : Int, -12 ≤ s → s ≤ -2 → s ≠ -9 → ¬ sI T Z s := fun s s0 s1 hs z => absurd ((wd_u (c := 7) (by decide) (by decide) s0 s1 h (by omega)).symm.trans z.2) (by decide)
  have eo : oH T Z = 2 := (if_neg (hz (-7) (by decide) (by decide) (by decide))).trans ((if_neg (hz (-8) (by decide) (by decide) (by decide))).trans (if_pos hy))
  have eb : zBd T Z = zOn T 2 Z := (if_pos (by rw [eo]; decide)).trans (by rw [eo])
  refine ⟨⟨fun z => absurd (eo.symm.trans z) (by decide), eo⟩, eb, ?_⟩
  unfold zFu
  have n0 := hz (-2) (by decide) (by decide) (by decide)
  have n1 := hz (-3) (by decide) (by decide) (by decide)
  have n2 := hz (-5) (by decide) (by decide) (by decide)
  have n3 := hz (-6) (by decide) (by decide) (by decide)
  constructor
  · rintro (z | ⟨z1, z2⟩ | ⟨z1, z2⟩ | ⟨z1, z2⟩ | ⟨z1, z2⟩)
    · exact Or.inl z
    · exact absurd z1 n0
    · exact absurd z1 n1
    · exact absurd z1 n2
    · exact absurd z1 n3
  · rintro (z | ⟨z1, z2⟩ | ⟨z1, z2⟩ | ⟨z1, z2⟩ | ⟨z1, z2⟩)
    · exact Or.inl z
    · exact absurd z1 (by decide)
    · exact absurd z1 (by decide)
    · exact absurd z1 (by decide)
    · exact absurd z1 (by decide)
theorem zk_8 {T : tSm} {Z : tZ} (hg : Z.1.2.1 = 0) (h : sW T Z.1.1 (-10) = true) : (zKn T Z ∧ oH T Z = 3) ∧ zBd T Z = zOn T 3 Z ∧ (zFu T Z ↔ Z.2.1 0 = 60 ∨ (((8 : Int) = 0 ∧ Z.2.1 1 = 8) ∨ ((8 : Int) = 1 ∧ Z.2.1 2 = 10) ∨ ((8 : Int) = 3 ∧ Z.2.1 3 = 6) ∨ ((8 : Int) = 4 ∧ yyP (Z.2.1 15) = 3))) := by
  have hy : sI T Z (-10) := ⟨hg, h⟩
  have hz : ∀ s : Int, -12 ≤ s → s ≤ -2 → s ≠ -10 → ¬ sI T Z s := fun s s0 s1 hs z => absurd ((wd_u (c := 8) (by decide) (by decide) s0 s1 h (by omega)).symm.trans z.2) (by decide)
  have eo : oH T Z = 3 := (if_neg (hz (-7) (by decide) (by decide) (by decide))).trans ((if_neg (hz (-8) (by decide) (by decide) (by decide))).trans ((if_neg (hz (-9) (by decide) (by decide) (by decide))).trans (if_pos hy)))
  have eb : zBd T Z = zOn T 3 Z := (if_pos (by rw [eo]; decide)).trans (by rw [eo])
  refine ⟨⟨fun z => absurd (eo.symm.trans z) (by decide), eo⟩, eb, ?_⟩
  unfold zFu
  have n0 := hz (-2) (by decide) (by decide) (by decide)
  have n1 := hz (-3) (by decide) (by decide) (by decide)
  have n2 := hz (-5) (by decide) (by decide) (by decide)
  have n3 := hz (-6) (by decide) (by decide) (by decide)
  constructor
  · rintro (z | ⟨z1, z2⟩ | ⟨z1, z2⟩ | ⟨z1, z2⟩ | ⟨z1, z2⟩)
    · exact Or.inl z
    · exact absurd z1 n0
    · exact absurd z1 n1
    · exact absurd z1 n2
    · exact absurd z1 n3
  · rintro (z | ⟨z1, z2⟩ | ⟨z1, z2⟩ | ⟨z1, z2⟩ | ⟨z1, z2⟩)
    · exact Or.inl z
    · exact absurd z1 (by decide)
    · exact absurd z1 (by decide)
    · exact absurd z1 (by decide)
    · exact absurd z1 (by decide)
theorem zk_9 {T : tSm} {Z : tZ} (hg : Z.1.2.1 = 0) (h : sW T Z.1.1 (-11) = true) : (zKn T Z ∧ oH T Z = 4) ∧ zBd T Z = zOn T 4 Z ∧ (zFu T Z ↔ Z.2.1 0 = 60 ∨ (((9 : Int) = 0 ∧ Z.2.1 1 = 8) ∨ ((9 : Int) = 1 ∧ Z.2.1 2 = 10) ∨ ((9 : Int) = 3 ∧ Z.2.1 3 = 6) ∨ ((9 : Int) = 4 ∧ yyP (Z.2.1 15) = 3))) := by
  have hy : sI T Z (-11) := ⟨hg, h⟩
  have hz : ∀ s : Int, -12 ≤ s → s ≤ -2 → s ≠ -11 → ¬ sI T Z s := fun s s0 s1 hs z => absurd ((wd_u (c := 9) (by decide) (by decide) s0 s1 h (by omega)).symm.trans z.2) (by decide)
  have eo : oH T Z = 4 := (if_neg (hz (-7) (by decide) (by decide) (by decide))).trans ((if_neg (hz (-8) (by decide) (by decide) (by decide))).trans ((if_neg (hz (-9) (by decide) (by decide) (by decide))).trans ((if_neg (hz (-10) (by decide) (by decide) (by decide))).trans (if_pos hy))))
  have eb : zBd T Z = zOn T 4 Z := (if_pos (by rw [eo]; decide)).trans (by rw [eo])
  refine ⟨⟨fun z => absurd (eo.symm.trans z) (by decide), eo⟩, eb, ?_⟩
  unfold zFu
  have n0 := hz (-2) (by decide) (by decide) (by decide)
  have n1 := hz (-3) (by decide) (by decide) (by decide)
  have n2 := hz (-5) (by decide) (by decide) (by decide)
  have n3 := hz (-6) (by decide) (by decide) (by decide)
  constructor
  · rintro (z | ⟨z1, z2⟩ | ⟨z1, z2⟩ | ⟨z1, z2⟩ | ⟨z1, z2⟩)
    · exact Or.inl z
    · exact absurd z1 n0
    · exact absurd z1 n1
    · exact absurd z1 n2
    · exact absurd z1 n3
  · rintro (z | ⟨z1, z2⟩ | ⟨z1, z2⟩ | ⟨z1, z2⟩ | ⟨z1, z2⟩)
    · exact Or.inl z
    · exact absurd z1 (by decide)
    · exact absurd z1 (by decide)
    · exact absurd z1 (by decide)
    · exact absurd z1 (by decide)
theorem zk_10 {T : tSm} {Z : tZ} (hg : Z.1.2.1 = 0) (h : sW T Z.1.1 (-12) = true) : (zKn T Z ∧ oH T Z = 5) ∧ zBd T Z = zOn T 5 Z ∧ (zFu T Z ↔ Z.2.1 0 = 60 ∨ (((10 : Int) = 0 ∧ Z.2.1 1 = 8) ∨ ((10 : Int) = 1 ∧ Z.2.1 2 = 10) ∨ ((10 : Int) = 3 ∧ Z.2.1 3 = 6) ∨ ((10 : Int) = 4 ∧ yyP (Z.2.1 15) = 3))) := by
  have hy : sI T Z (-12) := ⟨hg, h⟩
  have hz : ∀ s : Int, -12 ≤ s → s ≤ -2 → s ≠ -12 → ¬ sI T Z s := fun s s0 s1 hs z => absurd ((wd_u (c := 10) (by decide) (by decide) s0 s1 h (by omega)).symm.trans z.2) (by decide)
  have eo : oH T Z = 5 := (if_neg (hz (-7) (by decide) (by decide) (by decide))).trans ((if_neg (hz (-8) (by decide) (by decide) (by decide))).trans ((if_neg (hz (-9) (by decide) (by decide) (by decide))).trans ((if_neg (hz (-10) (by decide) (by decide) (by decide))).trans ((if_neg (hz (-11) (by decide) (by decide) (by decide))).trans (if_pos hy)))))
  have eb : zBd T Z = zOn T 5 Z := (if_pos (by rw [eo]; decide)).trans (by rw [eo])
  refine ⟨⟨fun z => absurd (eo.symm.trans z) (by decide), eo⟩, eb, ?_⟩
  unfold zFu
  have n0 := hz (-2) (by decide) (by decide) (by decide)
  have n1 := hz (-3) (by decide) (by decide) (by decide)
  have n2 := hz (-5) (by decide) (by decide) (by decide)
  have n3 := hz (-6) (by decide) (by decide) (by decide)
  constructor
  · rintro (z | ⟨z1, z2⟩ | ⟨z1, z2⟩ | ⟨z1, z2⟩ | ⟨z1, z2⟩)
    · exact Or.inl z
    · exact absurd z1 n0
    · exact absurd z1 n1
    · exact absurd z1 n2
    · exact absurd z1 n3
  · rintro (z | ⟨z1, z2⟩ | ⟨z1, z2⟩ | ⟨z1, z2⟩ | ⟨z1, z2⟩)
    · exact Or.inl z
    · exact absurd z1 (by decide)
    · exact absurd z1 (by decide)
    · exact absurd z1 (by decide)
    · exact absurd z1 (by decide)
