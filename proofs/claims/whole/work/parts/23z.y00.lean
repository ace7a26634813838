/-! stretches of methods, by program -/
theorem sg_319_0 {d : Nat} {Q : Int → xH → Prop} {v0 : Int} {M : xH} (h :
    xW d cd_319 Q (18, [(0, w32 ((xAnd (w32 (v0 - (xAnd (xUsh v0 1) 1431655765))) 858993459) + (xAnd (xUsh (w32 (v0 - (xAnd (xUsh v0 1) 1431655765))) 2) 858993459)))], [], M)) :
    xW d cd_319 Q (0, [(0, v0)], [], M) := xWc_ok [18] 19 h
theorem sg_319_18 {d : Nat} {Q : Int → xH → Prop} {v0 : Int} {M : xH} (h :
    True ∧ Q (xAnd (w32 ((w32 ((xAnd (w32 (v0 + (xUsh v0 4))) 252645135) + (xUsh (xAnd (w32 (v0 + (xUsh v0 4))) 252645135) 8))) + (xUsh (w32 ((xAnd (w32 (v0 + (xUsh v0 4))) 252645135) + (xUsh (xAnd (w32 (v0 + (xUsh v0 4))) 252645135) 8))) 16))) 63) M) :
    xW d cd_319 Q (18, [(0, v0)], [], M) := xWc_ok [18] 24 h
theorem sg_320_0 {d : Nat} {Q : Int → xH → Prop} {v0 v1 : Int} {M : xH} (h :
    20 ≤ M.2.1 v0 ∧ xW d cd_320 Q (5, [(2, v0), (1, v1), (9, 0), (0, 0), (0, M.2.2.1 v0)], [], M)) :
    xW d cd_320 Q (0, [(2, v0), (1, v1), (9, 0), (9, 0), (9, 0)], [], M) := xWc_ok [5] 6 h
theorem sg_320_5 {d : Nat} {Q : Int → xH → Prop} {v0 v1 v3 v4 : Int} {M : xH} (h :
    (v4 ≤ v3 →
      True ∧ Q 0 M) ∧
    (v3 < v4 →
      ((0 : Int) < v0 ∧ M.2.1 v0 = 23 ∧ (0 : Int) ≤ v3 ∧ v3 < M.2.2.1 v0) ∧ xW d cd_320 Q (5, [(2, v0), (1, v1), (9, 0), (0, w32 (v3 + 1)), (0, v4)], [], (xUp M.1 v0 v3 v1, M.2)))) :
    xW d cd_320 Q (5, [(2, v0), (1, v1), (9, 0), (0, v3), (0, v4)], [], M) := xWc_ok [5] 10 h
theorem sg_321_0 {d : Nat} {Q : Int → xH → Prop} {v0 v1 : Int} {M : xH} (h :
    20 ≤ M.2.1 v0 ∧ xW d cd_321 Q (5, [(2, v0), (0, v1), (0, 0), (0, M.2.2.1 v0)], [], M)) :
    xW d cd_321 Q (0, [(2, v0), (0, v1), (9, 0), (9, 0)], [], M) := xWc_ok [5] 6 h
theorem sg_321_5 {d : Nat} {Q : Int → xH → Prop} {v0 v1 v2 v3 : Int} {M : xH} (h :
    (v3 ≤ v2 →
      True ∧ Q 0 M) ∧
    (v2 < v3 →
      ((0 : Int) < v0 ∧ M.2.1 v0 = 20 ∧ (0 : Int) ≤ v2 ∧ v2 < M.2.2.1 v0) ∧ xW d cd_321 Q (5, [(2, v0), (0, v1), (0, w32 (v2 + 1)), (0, v3)], [], (xUp M.1 v0 v2 v1, M.2)))) :
    xW d cd_321 Q (5, [(2, v0), (0, v1), (0, v2), (0, v3)], [], M) := xWc_ok [5] 10 h
theorem sg_322_0 {d : Nat} {Q : Int → xH → Prop} {v0 v1 : Int} {M : xH} (h :
    20 ≤ M.2.1 v0 ∧ xW d cd_322 Q (5, [(2, v0), (0, v1), (0, 0), (0, M.2.2.1 v0)], [], M)) :
    xW d cd_322 Q (0, [(2, v0), (0, v1), (9, 0), (9, 0)], [], M) := xWc_ok [5] 6 h
theorem sg_322_5 {d : Nat} {Q : Int → xH → Prop} {v0 v1 v2 v3 : Int} {M : xH} (h :
    (v3 ≤ v2 →
      True ∧ Q 0 M) ∧
    (v2 < v3 →
      ((0 : Int) < v0 ∧ M.2.1 v0 = 21 ∧ (0 : Int) ≤ v2 ∧ v2 < M.2.2.1 v0) ∧ xW d cd_322 Q (5, [(2, v0), (0, v1), (0, w32 (v2 + 1)), (0, v3)], [], (xUp M.1 v0 v2 (w8 v1), M.2)))) :
    xW d cd_322 Q (5, [(2, v0), (0, v1), (0, v2), (0, v3)], [], M) := xWc_ok [5] 10 h
