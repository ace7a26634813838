/-! stretches of methods, by program -/
theorem sg_99_74 {d : Nat} {Q : Int → xH → Prop} {v0 v1 : Int} {u2 : xV} {M : xH} (h :
    M.2.1 v1 = 10 ∧ M.2.1 v0 = 10 ∧ M.2.1 v1 = 10 ∧ M.2.1 v0 = 10 ∧ M.2.1 v1 = 10 ∧ M.2.1 v0 = 10 ∧ xW d cd_99 Q (86, [(2, v0), (2, v1), u2], [], (xUp (xUp (xUp M.1 v0 12 (M.1 v1 12)) v0 13 ((xUp M.1 v0 12 (M.1 v1 12)) v1 13)) v0 14 ((xUp (xUp M.1 v0 12 (M.1 v1 12)) v0 13 ((xUp M.1 v0 12 (M.1 v1 12)) v1 13)) v1 14), M.2))) :
    xW d cd_99 Q (74, [(2, v0), (2, v1), u2], [], M) := xWc_ok [2, 18, 46, 58, 66, 74, 86, 94] 13 h
theorem sg_99_86 {d : Nat} {Q : Int → xH → Prop} {v0 v1 : Int} {u2 : xV} {M : xH} (h :
    M.2.1 v1 = 10 ∧ M.2.1 v0 = 10 ∧ M.2.1 v1 = 10 ∧ M.2.1 v0 = 10 ∧ xW d cd_99 Q (94, [(2, v0), (2, v1), u2], [], (xUp (xUp M.1 v0 15 (M.1 v1 15)) v0 16 ((xUp M.1 v0 15 (M.1 v1 15)) v1 16), M.2))) :
    xW d cd_99 Q (86, [(2, v0), (2, v1), u2], [], M) := xWc_ok [2, 18, 46, 58, 66, 74, 86, 94] 9 h
theorem sg_99_94 {d : Nat} {Q : Int → xH → Prop} {v0 v1 : Int} {u2 : xV} {M : xH} (h :
    M.2.1 v1 = 10 ∧ (M.2.1 v0 = 10 ∧ (M.1 v1 17 = 0 ∨ M.1 v1 17 = 1)) ∧ M.2.1 v1 = 10 ∧ M.2.1 v0 = 10 ∧ True ∧ Q 0 (xUp (xUp M.1 v0 17 (M.1 v1 17)) v0 18 ((xUp M.1 v0 17 (M.1 v1 17)) v1 18), M.2)) :
    xW d cd_99 Q (94, [(2, v0), (2, v1), u2], [], M) := xWc_ok [2, 18, 46, 58, 66, 74, 86, 94] 9 h
theorem sg_100_0 {d : Nat} {Q : Int → xH → Prop} {v0 v1 : Int} {M : xH} (h :
    (v1 < 0 →
      ((0 : Int) = 0 ∨ (0 : Int) = 1) ∧ Q 0 M) ∧
    (0 ≤ v1 →
      M.2.1 v0 = 10 ∧ (M.1 v0 4 ≤ v1 →
        ((0 : Int) = 0 ∨ (0 : Int) = 1) ∧ Q 0 M) ∧
      (v1 < M.1 v0 4 →
        ((1 : Int) = 0 ∨ (1 : Int) = 1) ∧ Q 1 M))) :
    xW d cd_100 Q (0, [(2, v0), (0, v1)], [], M) := xWc_ok [] 9 h
theorem sg_101_0 {d : Nat} {Q : Int → xH → Prop} {v0 v1 : Int} {M : xH} (h :
    (v1 < 0 →
      ((0 : Int) = 0 ∨ (0 : Int) = 1) ∧ Q 0 M) ∧
    (0 ≤ v1 →
      M.2.1 v0 = 10 ∧ (M.1 v0 5 ≤ v1 →
        ((0 : Int) = 0 ∨ (0 : Int) = 1) ∧ Q 0 M) ∧
      (v1 < M.1 v0 5 →
        ((1 : Int) = 0 ∨ (1 : Int) = 1) ∧ Q 1 M))) :
    xW d cd_101 Q (0, [(2, v0), (0, v1)], [], M) := xWc_ok [] 9 h
theorem sg_102_0 {d : Nat} {Q : Int → xH → Prop} {v0 v1 : Int} {M : xH} (h :
    (v1 < 0 →
      ((0 : Int) = 0 ∨ (0 : Int) = 1) ∧ Q 0 M) ∧
    (0 ≤ v1 →
      M.2.1 v0 = 10 ∧ M.2.1 (M.1 v0 2) = 6 ∧ (M.1 (M.1 v0 2) 0 ≤ v1 →
        ((0 : Int) = 0 ∨ (0 : Int) = 1) ∧ Q 0 M) ∧
      (v1 < M.1 (M.1 v0 2) 0 →
        ((1 : Int) = 0 ∨ (1 : Int) = 1) ∧ Q 1 M))) :
    xW d cd_102 Q (0, [(2, v0), (0, v1)], [], M) := xWc_ok [] 10 h
theorem sg_103_0 {d : Nat} {Q : Int → xH → Prop} {v0 v1 : Int} {M : xH} (h :
    (v1 < 0 →
      ((0 : Int) = 0 ∨ (0 : Int) = 1) ∧ Q 0 M) ∧
    (0 ≤ v1 →
      M.2.1 v0 = 10 ∧ (M.1 v0 9 < v1 →
        ((0 : Int) = 0 ∨ (0 : Int) = 1) ∧ Q 0 M) ∧
      (v1 ≤ M.1 v0 9 →
        ((1 : Int) = 0 ∨ (1 : Int) = 1) ∧ Q 1 M))) :
    xW d cd_103 Q (0, [(2, v0), (0, v1)], [], M) := xWc_ok [] 9 h
theorem sg_104_0 {d : Nat} {Q : Int → xH → Prop} {v0 v1 v2 v3 v4 : Int} {M : xH} (h :
    M.2.1 v0 = 10 ∧ xCall d 100 [(2, v0), (0, v1)] M (fun r1 H1 =>
      (r1 = 0 →
        ((0 : Int) = 0 ∨ (0 : Int) = 1) ∧ Q 0 H1) ∧
      (r1 ≠ 0 →
        H1.2.1 v0 = 10 ∧ (24 ≤ H1.2.1 (H1.1 v0 0) ∧ (0 : Int) ≤ v1 ∧ v1 < H1.2.2.1 (H1.1 v0 0)) ∧ H1.2.1 (H1.1 (H1.1 v0 0) v1) = 4 ∧ (v2 < H1.1 (H1.1 (H1.1 v0 0) v1) 0 →
          ((0 : Int) = 0 ∨ (0 : Int) = 1) ∧ Q 0 H1) ∧
        (H1.1 (H1.1 (H1.1 v0 0) v1) 0 ≤ v2 →
          H1.2.1 v0 = 10 ∧ (H1.1 v0 9 < v2 →
            ((0 : Int) = 0 ∨ (0 : Int) = 1) ∧ Q 0 H1) ∧
          (v2 ≤ H1.1 v0 9 →
            (v3 < 0 →
              ((0 : Int) = 0 ∨ (0 : Int) = 1) ∧ Q 0 H1) ∧
            (0 ≤ v3 →
              H1.2.1 v0 = 10 ∧ (H1.1 v0 10 < v3 →
                ((0 : Int) = 0 ∨ (0 : Int) = 1) ∧ Q 0 H1) ∧
              (v3 ≤ H1.1 v0 10 →
                (v4 = 0 →
                  ((1 : Int) = 0 ∨ (1 : Int) = 1) ∧ Q 1 H1) ∧
                (v4 ≠ 0 →
                  H1.2.1 v0 = 10 ∧ (H1.1 v0 8 ≤ 0 →
                    ((0 : Int) = 0 ∨ (0 : Int) = 1) ∧ Q 0 H1) ∧
                  (0 < H1.1 v0 8 →
                    ((1 : Int) = 0 ∨ (1 : Int) = 1) ∧ Q 1 H1))))))))) :
    xW d cd_104 Q (0, [(2, v0), (0, v1), (0, v2), (0, v3), (0, v4)], [], M) := xWc_ok [] 29 h
theorem sg_105_0 {d : Nat} {Q : Int → xH → Prop} {v0 : Int} {M : xH} (h :
    M.2.1 v0 = 10 ∧ M.2.1 v0 = 10 ∧ xCall d 100 [(2, v0), (0, M.1 v0 15)] M (fun r1 H1 =>
      (r1 = 0 ∨ r1 = 1) ∧ Q r1 H1)) :
    xW d cd_105 Q (0, [(2, v0)], [], M) := xWc_ok [] 5 h
theorem sg_106_0 {d : Nat} {Q : Int → xH → Prop} {v0 : Int} {M : xH} (h :
    M.2.1 v0 = 10 ∧ (M.1 v0 17 = 0 →
      ((0 : Int) = 0 ∨ (0 : Int) = 1) ∧ Q 0 M) ∧
    (M.1 v0 17 ≠ 0 →
      M.2.1 v0 = 10 ∧ (M.1 v0 8 ≤ 0 →
        ((0 : Int) = 0 ∨ (0 : Int) = 1) ∧ Q 0 M) ∧
      (0 < M.1 v0 8 →
        ((1 : Int) = 0 ∨ (1 : Int) = 1) ∧ Q 1 M))) :
    xW d cd_106 Q (0, [(2, v0)], [], M) := xWc_ok [] 9 h
theorem sg_107_0 {d : Nat} {Q : Int → xH → Prop} {v0 v1 : Int} {M : xH} (h :
    M.2.1 v0 = 10 ∧ (v1 = M.1 v0 14 →
      ((1 : Int) = 0 ∨ (1 : Int) = 1) ∧ Q 1 M) ∧
    (v1 ≠ M.1 v0 14 →
      M.2.1 v0 = 10 ∧ (24 ≤ M.2.1 (M.1 v0 0) ∧ (0 : Int) ≤ v1 ∧ v1 < M.2.2.1 (M.1 v0 0)) ∧ M.2.1 (M.1 (M.1 v0 0) v1) = 4 ∧ (M.1 (M.1 (M.1 v0 0) v1) 1 = (-1) →
        ((0 : Int) = 0 ∨ (0 : Int) = 1) ∧ Q 0 M) ∧
      (M.1 (M.1 (M.1 v0 0) v1) 1 ≠ (-1) →
        ((1 : Int) = 0 ∨ (1 : Int) = 1) ∧ Q 1 M))) :
    xW d cd_107 Q (0, [(2, v0), (0, v1)], [], M) := xWc_ok [] 14 h
theorem sg_108_0 {d : Nat} {Q : Int → xH → Prop} {v0 : Int} {M : xH} (h :
    M.2.1 v0 = 10 ∧ True ∧ Q (w32 ((xShl 1 (M.1 v0 4)) - 1)) M) :
    xW d cd_108 Q (0, [(2, v0)], [], M) := xWc_ok [] 7 h
theorem sg_109_0 {d : Nat} {Q : Int → xH → Prop} {v0 : Int} {M : xH} (h :
    xW d cd_109 Q (4, [(2, v0), (0, 0), (0, 0)], [], M)) :
    xW d cd_109 Q (0, [(2, v0), (9, 0), (9, 0)], [], M) := xWc_ok [4] 5 h
theorem sg_109_4 {d : Nat} {Q : Int → xH → Prop} {v0 v1 v2 : Int} {M : xH} (h :
    M.2.1 v0 = 10 ∧ (M.1 v0 4 ≤ v2 →
      True ∧ Q v1 M) ∧
    (v2 < M.1 v0 4 →
      M.2.1 v0 = 10 ∧ (24 ≤ M.2.1 (M.1 v0 0) ∧ (0 : Int) ≤ v2 ∧ v2 < M.2.2.1 (M.1 v0 0)) ∧ M.2.1 (M.1 (M.1 v0 0) v2) = 4 ∧ (M.1 (M.1 (M.1 v0 0) v2) 2 = 0 →
        xW d cd_109 Q (4, [(2, v0), (0, v1), (0, w32 (v2 + 1))], [], M)) ∧
      (M.1 (M.1 (M.1 v0 0) v2) 2 ≠ 0 →
        xW d cd_109 Q (4, [(2, v0), (0, xOr v1 (xShl 1 v2)), (0, w32 (v2 + 1))], [], M)))) :
    xW d cd_109 Q (4, [(2, v0), (0, v1), (0, v2)], [], M) := xWc_ok [4] 19 h
theorem sg_110_0 {d : Nat} {Q : Int → xH → Prop} {v0 v1 v2 v3 v4 : Int} {M : xH} (h :
    M.2.1 v0 = 10 ∧ M.2.1 (M.1 v0 2) = 6 ∧ (M.2.1 (M.1 (M.1 v0 2) 1) = 20 ∧ (0 : Int) ≤ v3 ∧ v3 < M.2.2.1 (M.1 (M.1 v0 2) 1)) ∧ (v4 = 0 →
      (v2 = 0 →
        M.2.1 v0 = 10 ∧ (24 ≤ M.2.1 (M.1 v0 1) ∧ (0 : Int) ≤ v1 ∧ v1 < M.2.2.1 (M.1 v0 1)) ∧ M.2.1 (M.1 (M.1 v0 1) v1) = 2 ∧ True ∧ Q (w32 ((M.1 (M.1 (M.1 v0 2) 1) v3) + (M.1 (M.1 (M.1 v0 1) v1) 4))) M) ∧
      (v2 ≠ 0 →
        M.2.1 v0 = 10 ∧ (24 ≤ M.2.1 (M.1 v0 1) ∧ (0 : Int) ≤ v1 ∧ v1 < M.2.2.1 (M.1 v0 1)) ∧ M.2.1 (M.1 (M.1 v0 1) v1) = 2 ∧ True ∧ Q (w32 ((M.1 (M.1 (M.1 v0 2) 1) v3) - (M.1 (M.1 (M.1 v0 1) v1) 4))) M)) ∧
    (v4 ≠ 0 →
      M.2.1 v0 = 10 ∧ (100 : Int) ≠ 0 ∧ (v2 = 0 →
        M.2.1 v0 = 10 ∧ (24 ≤ M.2.1 (M.1 v0 1) ∧ (0 : Int) ≤ v1 ∧ v1 < M.2.2.1 (M.1 v0 1)) ∧ M.2.1 (M.1 (M.1 v0 1) v1) = 2 ∧ True ∧ Q (w32 ((w32 ((M.1 (M.1 (M.1 v0 2) 1) v3) + (w32 ((w32 ((M.1 (M.1 (M.1 v0 2) 1) v3) * (M.1 v0 8))).tdiv 100)))) + (M.1 (M.1 (M.1 v0 1) v1) 4))) M) ∧
      (v2 ≠ 0 →
        M.2.1 v0 = 10 ∧ (24 ≤ M.2.1 (M.1 v0 1) ∧ (0 : Int) ≤ v1 ∧ v1 < M.2.2.1 (M.1 v0 1)) ∧ M.2.1 (M.1 (M.1 v0 1) v1) = 2 ∧ True ∧ Q (w32 ((w32 ((M.1 (M.1 (M.1 v0 2) 1) v3) + (w32 ((w32 ((M.1 (M.1 (M.1 v0 2) 1) v3) * (M.1 v0 8))).tdiv 100)))) - (M.1 (M.1 (M.1 v0 1) v1) 4))) M))) :
    xW d cd_110 Q (0, [(2, v0), (0, v1), (0, v2), (0, v3), (0, v4), (9, 0)], [], M) := xWc_ok [] 28 h
theorem sg_111_0 {d : Nat} {Q : Int → xH → Prop} {v0 v1 v2 v3 v4 : Int} {M : xH} (h :
    M.2.1 v0 = 10 ∧ xCall d 110 [(2, v0), (0, v1), (0, v2), (0, v3), (0, v4)] M (fun r1 H1 =>
      (1 ≤ r1 →
        H1.2.1 v0 = 10 ∧ (24 ≤ H1.2.1 (H1.1 v0 1) ∧ (0 : Int) ≤ v1 ∧ v1 < H1.2.2.1 (H1.1 v0 1)) ∧ H1.2.1 (H1.1 (H1.1 v0 1) v1) = 2 ∧ r1 ≠ 0 ∧ True ∧ Q (w32 ((w32 ((w32 (12 * (H1.1 (H1.1 (H1.1 v0 1) v1) 2))).tdiv r1)) + 1)) H1) ∧
      (r1 < 1 →
        True ∧ Q (-1) H1))) :
    xW d cd_111 Q (0, [(2, v0), (0, v1), (0, v2), (0, v3), (0, v4), (9, 0)], [], M) := xWc_ok [] 22 h
theorem sg_112_0 {d : Nat} {Q : Int → xH → Prop} {v0 v1 v2 v3 v4 : Int} {M : xH} (h :
    M.2.1 v0 = 10 ∧ xCall d 111 [(2, v0), (0, v1), (0, v2), (0, v3), (0, v4)] M (fun r1 H1 =>
      (r1 ≠ (-1) →
        H1.2.1 v0 = 10 ∧ H1.2.1 (H1.1 v0 2) = 6 ∧ (H1.2.1 (H1.1 (H1.1 v0 2) 2) = 20 ∧ (0 : Int) ≤ v3 ∧ v3 < H1.2.2.1 (H1.1 (H1.1 v0 2) 2)) ∧ H1.2.1 v0 = 10 ∧ (24 ≤ H1.2.1 (H1.1 v0 1) ∧ (0 : Int) ≤ v1 ∧ v1 < H1.2.2.1 (H1.1 v0 1)) ∧ H1.2.1 (H1.1 (H1.1 v0 1) v1) = 2 ∧ (100 : Int) ≠ 0 ∧ True ∧ Q (w32 ((w32 ((w32 (5 * r1)) * (w32 ((H1.1 (H1.1 (H1.1 v0 2) 2) v3) - (H1.1 (H1.1 (H1.1 v0 1) v1) 3))))).tdiv 100)) H1) ∧
      (r1 = (-1) →
        True ∧ Q (-2000000000) H1))) :
    xW d cd_112 Q (0, [(2, v0), (0, v1), (0, v2), (0, v3), (0, v4), (9, 0)], [], M) := xWc_ok [] 28 h
theorem sg_113_0 {d : Nat} {Q : Int → xH → Prop} {v0 v1 v2 : Int} {M : xH} (h :
    M.2.1 v0 = 10 ∧ (24 ≤ M.2.1 (M.1 v0 0) ∧ (0 : Int) ≤ v1 ∧ v1 < M.2.2.1 (M.1 v0 0)) ∧ M.2.1 (M.1 (M.1 v0 0) v1) = 4 ∧ (M.1 (M.1 (M.1 v0 0) v1) 2 = 0 →
      True ∧ Q 0 M) ∧
    (M.1 (M.1 (M.1 v0 0) v1) 2 ≠ 0 →
      M.2.1 v0 = 10 ∧ (24 ≤ M.2.1 (M.1 v0 0) ∧ (0 : Int) ≤ v1 ∧ v1 < M.2.2.1 (M.1 v0 0)) ∧ M.2.1 (M.1 (M.1 v0 0) v1) = 4 ∧ M.2.1 v0 = 10 ∧ xCall d 114 [(2, v0), (0, M.1 (M.1 (M.1 v0 0) v1) 4), (0, v2)] M (fun r1 H1 =>
        True ∧ Q r1 H1))) :
    xW d cd_113 Q (0, [(2, v0), (0, v1), (0, v2)], [], M) := xWc_ok [] 16 h
theorem sg_114_0 {d : Nat} {Q : Int → xH → Prop} {v0 v1 v2 : Int} {M : xH} (h :
    (v2 = 0 →
      M.2.1 v0 = 10 ∧ (100 : Int) ≠ 0 ∧ 0 < d ∧ True ∧ Q (max 0 (w32 ((w32 (5 * (w32 ((w32 (v1 - 0)) - (M.1 v0 7))))).tdiv 100))) M) ∧
    (v2 ≠ 0 →
      M.2.1 v0 = 10 ∧ (100 : Int) ≠ 0 ∧ M.2.1 v0 = 10 ∧ (100 : Int) ≠ 0 ∧ 0 < d ∧ True ∧ Q (max 0 (w32 ((w32 (5 * (w32 ((w32 (v1 - (w32 ((w32 (v1 * (M.1 v0 8))).tdiv 100)))) - (M.1 v0 7))))).tdiv 100))) M)) :
    xW d cd_114 Q (0, [(2, v0), (0, v1), (0, v2), (9, 0)], [], M) := xWc_ok [] 23 h
theorem sg_115_0 {d : Nat} {Q : Int → xH → Prop} {v0 v1 : Int} {M : xH} (h :
    M.2.1 v0 = 10 ∧ 0 < d ∧ True ∧ Q (min (M.1 v0 9) v1) M) :
    xW d cd_115 Q (0, [(2, v0), (0, v1)], [], M) := xWc_ok [] 5 h
theorem sg_116_0 {d : Nat} {Q : Int → xH → Prop} {v0 v1 : Int} {M : xH} (h :
    M.2.1 v0 = 10 ∧ (24 ≤ M.2.1 (M.1 v0 0) ∧ (0 : Int) ≤ v1 ∧ v1 < M.2.2.1 (M.1 v0 0)) ∧ M.2.1 (M.1 (M.1 v0 0) v1) = 4 ∧ xW d cd_116 Q (8, [(2, v0), (0, v1), (0, M.1 (M.1 (M.1 v0 0) v1) 3), (0, 0)], [], M)) :
    xW d cd_116 Q (0, [(2, v0), (0, v1), (9, 0), (9, 0)], [], M) := xWc_ok [8] 9 h
theorem sg_116_8 {d : Nat} {Q : Int → xH → Prop} {v0 v1 v2 v3 : Int} {M : xH} (h :
    M.2.1 v0 = 10 ∧ M.2.1 (M.1 v0 3) = 9 ∧ (M.1 (M.1 v0 3) 0 ≤ v3 →
      True ∧ Q v2 M) ∧
    (v3 < M.1 (M.1 v0 3) 0 →
      M.2.1 v0 = 10 ∧ M.2.1 (M.1 v0 3) = 9 ∧ (M.2.1 (M.1 (M.1 v0 3) 1) = 20 ∧ (0 : Int) ≤ v3 ∧ v3 < M.2.2.1 (M.1 (M.1 v0 3) 1)) ∧ (M.1 (M.1 (M.1 v0 3) 1) v3 ≠ v1 →
        xW d cd_116 Q (8, [(2, v0), (0, v1), (0, v2), (0, w32 (v3 + 1))], [], M)) ∧
      (M.1 (M.1 (M.1 v0 3) 1) v3 = v1 →
        M.2.1 v0 = 10 ∧ (24 ≤ M.2.1 (M.1 v0 0) ∧ (0 : Int) ≤ v1 ∧ v1 < M.2.2.1 (M.1 v0 0)) ∧ M.2.1 v0 = 10 ∧ M.2.1 (M.1 v0 3) = 9 ∧ (M.2.1 (M.1 (M.1 v0 3) 2) = 20 ∧ (0 : Int) ≤ v3 ∧ v3 < M.2.2.1 (M.1 (M.1 v0 3) 2)) ∧ M.2.1 (M.1 (M.1 v0 0) v1) = 4 ∧ xCall d 38 [(2, M.1 (M.1 v0 0) v1), (0, v2), (0, M.1 (M.1 (M.1 v0 3) 2) v3)] M (fun r1 H1 =>
          xW d cd_116 Q (8, [(2, v0), (0, v1), (0, r1), (0, w32 (v3 + 1))], [], H1))))) :
    xW d cd_116 Q (8, [(2, v0), (0, v1), (0, v2), (0, v3)], [], M) := xWc_ok [8] 27 h
theorem sg_117_0 {d : Nat} {Q : Int → xH → Prop} {v0 v1 : Int} {M : xH} (h :
    M.2.1 v0 = 10 ∧ (24 ≤ M.2.1 (M.1 v0 0) ∧ (0 : Int) ≤ v1 ∧ v1 < M.2.2.1 (M.1 v0 0)) ∧ M.1 (M.1 v0 0) v1 ≠ 0 ∧ M.2.1 v0 = 10 ∧ M.2.1 (M.1 (M.1 v0 0) v1) = 4 ∧ (M.1 (M.1 (M.1 v0 0) v1) 2 = 0 →
      M.2.1 (M.1 v0 2) = 6 ∧ xCall d 58 [(2, M.1 v0 2), (0, 100)] M (fun r1 H1 =>
        True ∧ Q r1 H1)) ∧
    (M.1 (M.1 (M.1 v0 0) v1) 2 ≠ 0 →
      M.2.1 (M.1 (M.1 v0 0) v1) = 4 ∧ M.2.1 v0 = 10 ∧ 0 < d ∧ M.2.1 (M.1 v0 2) = 6 ∧ xCall d 58 [(2, M.1 v0 2), (0, max 1 (w32 ((M.1 (M.1 (M.1 v0 0) v1) 4) - (M.1 v0 7))))] M (fun r2 H2 =>
        True ∧ Q r2 H2))) :
    xW d cd_117 Q (0, [(2, v0), (0, v1), (9, 0)], [], M) := xWc_ok [] 20 h
theorem sg_118_0 {d : Nat} {Q : Int → xH → Prop} {v0 v1 v2 v3 : Int} {M : xH} (h :
    (v1 ≠ 2 →
      M.2.1 v0 = 10 ∧ (v2 ≠ M.1 v0 14 →
        M.2.1 v0 = 10 ∧ (24 ≤ M.2.1 (M.1 v0 0) ∧ (0 : Int) ≤ v2 ∧ v2 < M.2.2.1 (M.1 v0 0)) ∧ M.2.1 (M.1 (M.1 v0 0) v2) = 4 ∧ (M.1 (M.1 (M.1 v0 0) v2) 1 = (-1) →
          M.2.1 v0 = 10 ∧ True ∧ Q (w32 (-(M.1 v0 13))) M) ∧
        (M.1 (M.1 (M.1 v0 0) v2) 1 ≠ (-1) →
          M.2.1 v0 = 10 ∧ True ∧ Q (w32 ((M.1 (M.1 (M.1 v0 0) v2) 1) - (w32 ((M.1 v0 12) * v3)))) M)) ∧
      (v2 = M.1 v0 14 →
        M.2.1 v0 = 10 ∧ M.2.1 v0 = 10 ∧ True ∧ Q (w32 ((M.1 v0 11) - (w32 ((M.1 v0 12) * v3)))) M)) ∧
    (v1 = 2 →
      M.2.1 v0 = 10 ∧ (v2 ≠ M.1 v0 14 →
        True ∧ Q 0 M) ∧
      (v2 = M.1 v0 14 →
        True ∧ Q (w32 (10000 - v3)) M))) :
    xW d cd_118 Q (0, [(2, v0), (0, v1), (0, v2), (0, v3), (9, 0)], [], M) := xWc_ok [] 24 h
theorem sg_119_0 {d : Nat} {Q : Int → xH → Prop} {v0 : Int} {M : xH} (h :
    (0 < d ∧ 0 < v0) ∧ ((0 : Int) ≤ 1600 ∧ 1600 ≤ (1000000 : Int)) ∧ (xNw M 21 1600 1600).2.1 v0 = 11 ∧ (xNw (xUp ((xNw M 21 1600 1600).1) v0 0 (M.2.2.2.1 : Int), (xNw M 21 1600 1600).2) 7 0 (xNs.getD 7 0)).2.1 v0 = 11 ∧ ((xNw (xUp ((xNw M 21 1600 1600).1) v0 0 (M.2.2.2.1 : Int), (xNw M 21 1600 1600).2) 7 0 (xNs.getD 7 0)).1 v0 0 ≠ 0 ∧ (xNw (xUp ((xNw M 21 1600 1600).1) v0 0 (M.2.2.2.1 : Int), (xNw M 21 1600 1600).2) 7 0 (xNs.getD 7 0)).2.1 ((xUp ((xNw M 21 1600 1600).1) v0 0 (M.2.2.2.1 : Int), (xNw M 21 1600 1600).2).2.2.2.1 : Int) = 7) ∧ xCall d 61 [(2, ((xUp ((xNw M 21 1600 1600).1) v0 0 (M.2.2.2.1 : Int), (xNw M 21 1600 1600).2).2.2.2.1 : Int)), (2, (xNw (xUp ((xNw M 21 1600 1600).1) v0 0 (M.2.2.2.1 : Int), (xNw M 21 1600 1600).2) 7 0 (xNs.getD 7 0)).1 v0 0)] xNw (xUp ((xNw M 21 1600 1600).1) v0 0 (M.2.2.2.1 : Int), (xNw M 21 1600 1600).2) 7 0 (xNs.getD 7 0) (fun r1 H1 =>
      H1.2.1 v0 = 11 ∧ xW d cd_119 Q (13, [(2, v0), (9, 0)], [], (xUp H1.1 v0 2 ((xUp ((xNw M 21 1600 1600).1) v0 0 (M.2.2.2.1 : Int), (xNw M 21 1600 1600).2).2.2.2.1 : Int), H1.2)))) :
    xW d cd_119 Q (0, [(2, v0), (9, 0)], [], M) := xWc_ok [13, 30, 39, 53, 63, 68, 78] 14 h
theorem sg_119_13 {d : Nat} {Q : Int → xH → Prop} {v0 : Int} {u1 : xV} {M : xH} (h :
    M.2.1 v0 = 11 ∧ (xNw (xUp M.1 v0 4 (-1), M.2) 10 0 (xNs.getD 10 0)).2.1 ((xUp M.1 v0 4 (-1), M.2).2.2.2.1 : Int) = 10 ∧ xCall d 97 [(2, ((xUp M.1 v0 4 (-1), M.2).2.2.2.1 : Int))] xNw (xUp M.1 v0 4 (-1), M.2) 10 0 (xNs.getD 10 0) (fun r1 H1 =>
      H1.2.1 v0 = 11 ∧ (xNw (xUp H1.1 v0 5 ((xUp M.1 v0 4 (-1), M.2).2.2.2.1 : Int), H1.2) 10 0 (xNs.getD 10 0)).2.1 ((xUp H1.1 v0 5 ((xUp M.1 v0 4 (-1), M.2).2.2.2.1 : Int), H1.2).2.2.2.1 : Int) = 10 ∧ xCall d 97 [(2, ((xUp H1.1 v0 5 ((xUp M.1 v0 4 (-1), M.2).2.2.2.1 : Int), H1.2).2.2.2.1 : Int))] xNw (xUp H1.1 v0 5 ((xUp M.1 v0 4 (-1), M.2).2.2.2.1 : Int), H1.2) 10 0 (xNs.getD 10 0) (fun r2 H2 =>
        H2.2.1 v0 = 11 ∧ ((0 : Int) ≤ 3 ∧ 3 ≤ (1000000 : Int)) ∧ (xNw (xUp H2.1 v0 6 ((xUp H1.1 v0 5 ((xUp M.1 v0 4 (-1), M.2).2.2.2.1 : Int), H1.2).2.2.2.1 : Int), H2.2) 27 3 3).2.1 v0 = 11 ∧ xW d cd_119 Q (30, [(2, v0), u1], [], (xUp ((xNw (xUp H2.1 v0 6 ((xUp H1.1 v0 5 ((xUp M.1 v0 4 (-1), M.2).2.2.2.1 : Int), H1.2).2.2.2.1 : Int), H2.2) 27 3 3).1) v0 7 ((xUp H2.1 v0 6 ((xUp H1.1 v0 5 ((xUp M.1 v0 4 (-1), M.2).2.2.2.1 : Int), H1.2).2.2.2.1 : Int), H2.2).2.2.2.1 : Int), (xNw (xUp H2.1 v0 6 ((xUp H1.1 v0 5 ((xUp M.1 v0 4 (-1), M.2).2.2.2.1 : Int), H1.2).2.2.2.1 : Int), H2.2) 27 3 3).2))))) :
    xW d cd_119 Q (13, [(2, v0), u1], [], M) := xWc_ok [13, 30, 39, 53, 63, 68, 78] 18 h
theorem sg_119_30 {d : Nat} {Q : Int → xH → Prop} {v0 : Int} {u1 : xV} {M : xH} (h :
    ((0 : Int) ≤ 3 ∧ 3 ≤ (1000000 : Int)) ∧ (xNw M 22 3 3).2.1 v0 = 11 ∧ (xNw (xUp ((xNw M 22 3 3).1) v0 8 (M.2.2.2.1 : Int), (xNw M 22 3 3).2) 1 0 (xNs.getD 1 0)).2.1 ((xUp ((xNw M 22 3 3).1) v0 8 (M.2.2.2.1 : Int), (xNw M 22 3 3).2).2.2.2.1 : Int) = 1 ∧ xCall d 15 [(2, ((xUp ((xNw M 22 3 3).1) v0 8 (M.2.2.2.1 : Int), (xNw M 22 3 3).2).2.2.2.1 : Int))] xNw (xUp ((xNw M 22 3 3).1) v0 8 (M.2.2.2.1 : Int), (xNw M 22 3 3).2) 1 0 (xNs.getD 1 0) (fun r1 H1 =>
      H1.2.1 v0 = 11 ∧ xW d cd_119 Q (39, [(2, v0), u1], [], (xUp H1.1 v0 9 ((xUp ((xNw M 22 3 3).1) v0 8 (M.2.2.2.1 : Int), (xNw M 22 3 3).2).2.2.2.1 : Int), H1.2)))) :
    xW d cd_119 Q (30, [(2, v0), u1], [], M) := xWc_ok [13, 30, 39, 53, 63, 68, 78] 10 h
theorem sg_119_39 {d : Nat} {Q : Int → xH → Prop} {v0 : Int} {u1 : xV} {M : xH} (h :
    ((0 : Int) ≤ 5 ∧ 5 ≤ (1000000 : Int)) ∧ (xNw M 28 5 5).2.1 v0 = 11 ∧ (xNw (xUp ((xNw M 28 5 5).1) v0 10 (M.2.2.2.1 : Int), (xNw M 28 5 5).2) 3 0 (xNs.getD 3 0)).2.1 ((xUp ((xNw M 28 5 5).1) v0 10 (M.2.2.2.1 : Int), (xNw M 28 5 5).2).2.2.2.1 : Int) = 3 ∧ xCall d 29 [(2, ((xUp ((xNw M 28 5 5).1) v0 10 (M.2.2.2.1 : Int), (xNw M 28 5 5).2).2.2.2.1 : Int))] xNw (xUp ((xNw M 28 5 5).1) v0 10 (M.2.2.2.1 : Int), (xNw M 28 5 5).2) 3 0 (xNs.getD 3 0) (fun r1 H1 =>
      H1.2.1 v0 = 11 ∧ (xNw (xUp H1.1 v0 11 ((xUp ((xNw M 28 5 5).1) v0 10 (M.2.2.2.1 : Int), (xNw M 28 5 5).2).2.2.2.1 : Int), H1.2) 0 0 (xNs.getD 0 0)).2.1 ((xUp H1.1 v0 11 ((xUp ((xNw M 28 5 5).1) v0 10 (M.2.2.2.1 : Int), (xNw M 28 5 5).2).2.2.2.1 : Int), H1.2).2.2.2.1 : Int) = 0 ∧ xCall d 0 [(2, ((xUp H1.1 v0 11 ((xUp ((xNw M 28 5 5).1) v0 10 (M.2.2.2.1 : Int), (xNw M 28 5 5).2).2.2.2.1 : Int), H1.2).2.2.2.1 : Int))] xNw (xUp H1.1 v0 11 ((xUp ((xNw M 28 5 5).1) v0 10 (M.2.2.2.1 : Int), (xNw M 28 5 5).2).2.2.2.1 : Int), H1.2) 0 0 (xNs.getD 0 0) (fun r2 H2 =>
        H2.2.1 v0 = 11 ∧ xW d cd_119 Q (53, [(2, v0), u1], [], (xUp H2.1 v0 12 ((xUp H1.1 v0 11 ((xUp ((xNw M 28 5 5).1) v0 10 (M.2.2.2.1 : Int), (xNw M 28 5 5).2).2.2.2.1 : Int), H1.2).2.2.2.1 : Int), H2.2))))) :
    xW d cd_119 Q (39, [(2, v0), u1], [], M) := xWc_ok [13, 30, 39, 53, 63, 68, 78] 15 h
theorem sg_119_53 {d : Nat} {Q : Int → xH → Prop} {v0 : Int} {u1 : xV} {M : xH} (h :
    (xNw M 0 0 (xNs.getD 0 0)).2.1 (M.2.2.2.1 : Int) = 0 ∧ xCall d 0 [(2, (M.2.2.2.1 : Int))] xNw M 0 0 (xNs.getD 0 0) (fun r1 H1 =>
      H1.2.1 v0 = 11 ∧ (xNw (xUp H1.1 v0 13 (M.2.2.2.1 : Int), H1.2) 8 0 (xNs.getD 8 0)).2.1 ((xUp H1.1 v0 13 (M.2.2.2.1 : Int), H1.2).2.2.2.1 : Int) = 8 ∧ xCall d 84 [(2, ((xUp H1.1 v0 13 (M.2.2.2.1 : Int), H1.2).2.2.2.1 : Int))] xNw (xUp H1.1 v0 13 (M.2.2.2.1 : Int), H1.2) 8 0 (xNs.getD 8 0) (fun r2 H2 =>
        H2.2.1 v0 = 11 ∧ xW d cd_119 Q (63, [(2, v0), u1], [], (xUp H2.1 v0 14 ((xUp H1.1 v0 13 (M.2.2.2.1 : Int), H1.2).2.2.2.1 : Int), H2.2))))) :
    xW d cd_119 Q (53, [(2, v0), u1], [], M) := xWc_ok [13, 30, 39, 53, 63, 68, 78] 11 h
theorem sg_119_63 {d : Nat} {Q : Int → xH → Prop} {v0 : Int} {u1 : xV} {M : xH} (h :
    ((0 : Int) ≤ 4 ∧ 4 ≤ (1000 : Int) ∧ (0 : Int) ≤ 60 ∧ 60 ≤ (1000 : Int)) ∧ (xNm M 4 60).2.1 v0 = 11 ∧ xW d cd_119 Q (68, [(2, v0), u1], [], (xUp ((xNm M 4 60).1) v0 15 (M.2.2.2.1 : Int), (xNm M 4 60).2))) :
    xW d cd_119 Q (63, [(2, v0), u1], [], M) := xWc_ok [13, 30, 39, 53, 63, 68, 78] 6 h
theorem sg_119_68 {d : Nat} {Q : Int → xH → Prop} {v0 : Int} {u1 : xV} {M : xH} (h :
    ((0 : Int) ≤ 4 ∧ 4 ≤ (1000000 : Int)) ∧ (xNw M 20 4 4).2.1 v0 = 11 ∧ ((0 : Int) ≤ 4 ∧ 4 ≤ (1000000 : Int)) ∧ (xNw (xUp ((xNw M 20 4 4).1) v0 16 (M.2.2.2.1 : Int), (xNw M 20 4 4).2) 20 4 4).2.1 v0 = 11 ∧ xW d cd_119 Q (78, [(2, v0), (0, 0)], [], (xUp ((xNw (xUp ((xNw M 20 4 4).1) v0 16 (M.2.2.2.1 : Int), (xNw M 20 4 4).2) 20 4 4).1) v0 17 ((xUp ((xNw M 20 4 4).1) v0 16 (M.2.2.2.1 : Int), (xNw M 20 4 4).2).2.2.2.1 : Int), (xNw (xUp ((xNw M 20 4 4).1) v0 16 (M.2.2.2.1 : Int), (xNw M 20 4 4).2) 20 4 4).2))) :
    xW d cd_119 Q (68, [(2, v0), u1], [], M) := xWc_ok [13, 30, 39, 53, 63, 68, 78] 11 h
theorem sg_119_78 {d : Nat} {Q : Int → xH → Prop} {v0 v1 : Int} {M : xH} (h :
    (3 ≤ v1 →
      M.2.1 v0 = 11 ∧ (M.1 v0 16 ≠ 0 ∧ True) ∧ xCall d 321 [(2, M.1 v0 16), (0, (-1))] M (fun r1 H1 =>
        H1.2.1 v0 = 11 ∧ H1.2.1 v0 = 11 ∧ (H1.1 v0 5 ≠ 0 ∧ H1.2.1 (H1.1 v0 9) = 1) ∧ xCall d 17 [(2, H1.1 v0 9), (2, H1.1 v0 5)] H1 (fun r2 H2 =>
          True ∧ Q 0 H2))) ∧
    (v1 < 3 →
      M.2.1 v0 = 11 ∧ (xNw M 10 0 (xNs.getD 10 0)).2.1 (M.2.2.2.1 : Int) = 10 ∧ xCall d 97 [(2, (M.2.2.2.1 : Int))] xNw M 10 0 (xNs.getD 10 0) (fun r3 H3 =>
        ((0 : Int) < M.1 v0 7 ∧ xEl (H3.2.1 (M.1 v0 7)) = H3.2.1 (M.2.2.2.1 : Int) ∧ 0 ≤ H3.2.1 (M.2.2.2.1 : Int) ∧ (0 : Int) ≤ v1 ∧ v1 < H3.2.2.1 (M.1 v0 7)) ∧ xW d cd_119 Q (78, [(2, v0), (0, w32 (v1 + 1))], [], (xUp H3.1 (M.1 v0 7) v1 (M.2.2.2.1 : Int), H3.2))))) :
    xW d cd_119 Q (78, [(2, v0), (0, v1)], [], M) := xWc_ok [13, 30, 39, 53, 63, 68, 78] 13 h
theorem sg_120_0 {d : Nat} {Q : Int → xH → Prop} {v0 v1 v2 v3 v4 v5 : Int} {M : xH} (h :
    M.2.1 v0 = 11 ∧ (w32 ((M.1 v0 1) + 20) ≤ 1600 →
      M.2.1 v0 = 11 ∧ xCall d 121 [(2, v0), (0, v1)] M (fun r1 H1 =>
        H1.2.1 v0 = 11 ∧ xCall d 121 [(2, v0), (0, v2)] H1 (fun r2 H2 =>
          H2.2.1 v0 = 11 ∧ xCall d 121 [(2, v0), (0, v3)] H2 (fun r3 H3 =>
            H3.2.1 v0 = 11 ∧ xCall d 121 [(2, v0), (0, v4)] H3 (fun r4 H4 =>
              H4.2.1 v0 = 11 ∧ xCall d 121 [(2, v0), (0, v5)] H4 (fun r5 H5 =>
                H5.2.1 v0 = 11 ∧ True ∧ Q (H5.1 v0 1) H5)))))) ∧
    (1600 < w32 ((M.1 v0 1) + 20) →
      True ∧ Q (-1) M)) :
    xW d cd_120 Q (0, [(2, v0), (0, v1), (0, v2), (0, v3), (0, v4), (0, v5)], [], M) := xWc_ok [] 24 h
theorem sg_121_0 {d : Nat} {Q : Int → xH → Prop} {v0 v1 : Int} {M : xH} (h :
    xW d cd_121 Q (2, [(2, v0), (0, v1), (0, 24)], [], M)) :
    xW d cd_121 Q (0, [(2, v0), (0, v1), (9, 0)], [], M) := xWc_ok [2] 3 h
theorem sg_121_2 {d : Nat} {Q : Int → xH → Prop} {v0 v1 v2 : Int} {M : xH} (h :
    (v2 < 0 →
      True ∧ Q 0 M) ∧
    (0 ≤ v2 →
      M.2.1 v0 = 11 ∧ (1600 ≤ M.1 v0 1 →
        True ∧ Q 0 M) ∧
      (M.1 v0 1 < 1600 →
        M.2.1 v0 = 11 ∧ M.2.1 v0 = 11 ∧ ((0 : Int) < M.1 v0 0 ∧ M.2.1 (M.1 v0 0) = 21 ∧ (0 : Int) ≤ M.1 v0 1 ∧ M.1 v0 1 < M.2.2.1 (M.1 v0 0)) ∧ M.2.1 v0 = 11 ∧ M.2.1 v0 = 11 ∧ xW d cd_121 Q (2, [(2, v0), (0, v1), (0, w32 (v2 + (-8)))], [], (xUp (xUp M.1 (M.1 v0 0) (M.1 v0 1) (w8 (w8 (xShr v1 v2)))) v0 1 (w32 (((xUp M.1 (M.1 v0 0) (M.1 v0 1) (w8 (w8 (xShr v1 v2)))) v0 1) + 1)), M.2))))) :
    xW d cd_121 Q (2, [(2, v0), (0, v1), (0, v2)], [], M) := xWc_ok [2] 24 h
theorem sg_122_0 {d : Nat} {Q : Int → xH → Prop} {v0 v1 : Int} {M : xH} (h :
    (v1 < 0 →
      True ∧ Q (-1) M) ∧
    (0 ≤ v1 →
      M.2.1 v0 = 11 ∧ (v1 ≤ M.1 v0 1 →
        M.2.1 v0 = 11 ∧ True ∧ Q v1 (xUp M.1 v0 1 v1, M.2)) ∧
      (M.1 v0 1 < v1 →
        True ∧ Q (-1) M))) :
    xW d cd_122 Q (0, [(2, v0), (0, v1)], [], M) := xWc_ok [] 11 h
theorem sg_123_0 {d : Nat} {Q : Int → xH → Prop} {v0 : Int} {M : xH} (h :
    M.2.1 v0 = 11 ∧ M.2.1 (M.1 v0 6) = 10 ∧ xCall d 98 [(2, M.1 v0 6)] M (fun r1 H1 =>
      H1.2.1 v0 = 11 ∧ H1.2.1 v0 = 11 ∧ H1.2.1 v0 = 11 ∧ (H1.1 v0 6 ≠ 0 ∧ H1.2.1 (H1.1 v0 2) = 7) ∧ xCall d 62 [(2, H1.1 v0 2), (0, H1.1 v0 1), (2, H1.1 v0 6)] H1 (fun r2 H2 =>
        H2.2.1 v0 = 11 ∧ H2.2.1 v0 = 11 ∧ H2.2.1 ((xUp H2.1 v0 3 r2) v0 2) = 7 ∧ H2.2.1 v0 = 11 ∧ H2.2.1 v0 = 11 ∧ xW d cd_123 Q (20, [(2, v0), (9, 0)], [], (xUp (xUp (xUp H2.1 v0 3 r2) v0 4 ((xUp H2.1 v0 3 r2) ((xUp H2.1 v0 3 r2) v0 2) 7)) v0 1 0, H2.2))))) :
    xW d cd_123 Q (0, [(2, v0), (9, 0)], [], M) := xWc_ok [20, 23] 21 h
theorem sg_123_20 {d : Nat} {Q : Int → xH → Prop} {v0 : Int} {u1 : xV} {M : xH} (h :
    M.2.1 v0 = 11 ∧ (M.1 v0 3 = 0 →
      M.2.1 v0 = 11 ∧ M.1 v0 5 ≠ 0 ∧ M.2.1 v0 = 11 ∧ M.2.1 v0 = 11 ∧ M.2.1 v0 = 11 ∧ M.2.1 v0 = 11 ∧ M.2.1 v0 = 11 ∧ ((xUp (xUp M.1 v0 5 (M.1 v0 6)) v0 6 (M.1 v0 5)) v0 5 ≠ 0 ∧ M.2.1 ((xUp (xUp M.1 v0 5 (M.1 v0 6)) v0 6 (M.1 v0 5)) v0 9) = 1) ∧ xCall d 17 [(2, (xUp (xUp M.1 v0 5 (M.1 v0 6)) v0 6 (M.1 v0 5)) v0 9), (2, (xUp (xUp M.1 v0 5 (M.1 v0 6)) v0 6 (M.1 v0 5)) v0 5)] (xUp (xUp M.1 v0 5 (M.1 v0 6)) v0 6 (M.1 v0 5), M.2) (fun r1 H1 =>
        H1.2.1 v0 = 11 ∧ xCall d 125 [(2, v0)] H1 (fun r2 H2 =>
          H2.2.1 v0 = 11 ∧ H2.2.1 (H2.1 v0 5) = 10 ∧ True ∧ Q (H2.1 (H2.1 v0 5) 6) H2))) ∧
    (M.1 v0 3 ≠ 0 →
      xW d cd_123 Q (23, [(2, v0), u1], [], M))) :
    xW d cd_123 Q (20, [(2, v0), u1], [], M) := xWc_ok [20, 23] 24 h
theorem sg_123_23 {d : Nat} {Q : Int → xH → Prop} {u0 u1 : xV} {M : xH} (h :
    True ∧ Q (-4) M) :
    xW d cd_123 Q (23, [u0, u1], [], M) := xWc_ok [20, 23] 2 h
theorem sg_124_0 {d : Nat} {Q : Int → xH → Prop} {v0 v1 : Int} {M : xH} (h :
    (v1 ≠ 0 →
      (v1 ≠ 1 →
        True ∧ Q (-1) M) ∧
      (v1 = 1 →
        M.2.1 v0 = 11 ∧ True ∧ Q (M.1 v0 4) M)) ∧
    (v1 = 0 →
      M.2.1 v0 = 11 ∧ True ∧ Q (M.1 v0 3) M)) :
    xW d cd_124 Q (0, [(2, v0), (0, v1)], [], M) := xWc_ok [] 9 h
theorem sg_125_0 {d : Nat} {Q : Int → xH → Prop} {v0 : Int} {M : xH} (h :
    xW d cd_125 Q (2, [(2, v0), (0, 0)], [], M)) :
    xW d cd_125 Q (0, [(2, v0), (9, 0)], [], M) := xWc_ok [2] 3 h
theorem sg_125_2 {d : Nat} {Q : Int → xH → Prop} {v0 v1 : Int} {M : xH} (h :
    M.2.1 v0 = 11 ∧ 20 ≤ M.2.1 (M.1 v0 10) ∧ (M.2.2.1 (M.1 v0 10) ≤ v1 →
      True ∧ Q 0 M) ∧
    (v1 < M.2.2.1 (M.1 v0 10) →
      M.2.1 v0 = 11 ∧ (24 ≤ M.2.1 (M.1 v0 10) ∧ (0 : Int) ≤ v1 ∧ v1 < M.2.2.1 (M.1 v0 10)) ∧ (M.1 (M.1 v0 10) v1 = 0 →
        xW d cd_125 Q (2, [(2, v0), (0, w32 (v1 + 1))], [], M)) ∧
      (M.1 (M.1 v0 10) v1 ≠ 0 →
        M.2.1 v0 = 11 ∧ (24 ≤ M.2.1 (M.1 v0 10) ∧ (0 : Int) ≤ v1 ∧ v1 < M.2.2.1 (M.1 v0 10)) ∧ (M.2.1 (M.1 (M.1 v0 10) v1) = 5 ∧ ((0 : Int) = 0 ∨ (0 : Int) = 1)) ∧ xW d cd_125 Q (2, [(2, v0), (0, w32 (v1 + 1))], [], (xUp M.1 (M.1 (M.1 v0 10) v1) 9 0, M.2))))) :
    xW d cd_125 Q (2, [(2, v0), (0, v1)], [], M) := xWc_ok [2] 19 h
theorem sg_126_0 {d : Nat} {Q : Int → xH → Prop} {v0 v1 v2 v3 v4 : Int} {M : xH} (h :
    M.2.1 v0 = 11 ∧ M.2.1 (M.1 v0 5) = 10 ∧ xCall d 101 [(2, M.1 v0 5), (0, v1)] M (fun r1 H1 =>
      (r1 = 0 →
        True ∧ Q (-2) H1) ∧
      (r1 ≠ 0 →
        H1.2.1 v0 = 11 ∧ H1.2.1 (H1.1 v0 5) = 10 ∧ xCall d 102 [(2, H1.1 v0 5), (0, v3)] H1 (fun r2 H2 =>
          (r2 ≠ 0 →
            H2.2.1 v0 = 11 ∧ H2.2.1 (H2.1 v0 5) = 10 ∧ xCall d 111 [(2, H2.1 v0 5), (0, v1), (0, v2), (0, v3), (0, v4)] H2 (fun r3 H3 =>
              True ∧ Q r3 H3)) ∧
          (r2 = 0 →
            True ∧ Q (-2) H2))))) :
    xW d cd_126 Q (0, [(2, v0), (0, v1), (0, v2), (0, v3), (0, v4)], [], M) := xWc_ok [] 18 h
theorem sg_127_0 {d : Nat} {Q : Int → xH → Prop} {v0 v1 v2 v3 v4 : Int} {M : xH} (h :
    M.2.1 v0 = 11 ∧ M.2.1 (M.1 v0 5) = 10 ∧ xCall d 101 [(2, M.1 v0 5), (0, v1)] M (fun r1 H1 =>
      (r1 = 0 →
        True ∧ Q (-2000000000) H1) ∧
      (r1 ≠ 0 →
        H1.2.1 v0 = 11 ∧ H1.2.1 (H1.1 v0 5) = 10 ∧ xCall d 102 [(2, H1.1 v0 5), (0, v3)] H1 (fun r2 H2 =>
          (r2 ≠ 0 →
            H2.2.1 v0 = 11 ∧ H2.2.1 (H2.1 v0 5) = 10 ∧ xCall d 112 [(2, H2.1 v0 5), (0, v1), (0, v2), (0, v3), (0, v4)] H2 (fun r3 H3 =>
              True ∧ Q r3 H3)) ∧
          (r2 = 0 →
            True ∧ Q (-2000000000) H2))))) :
    xW d cd_127 Q (0, [(2, v0), (0, v1), (0, v2), (0, v3), (0, v4)], [], M) := xWc_ok [] 18 h
theorem sg_128_0 {d : Nat} {Q : Int → xH → Prop} {v0 v1 v2 : Int} {M : xH} (h :
    M.2.1 v0 = 11 ∧ M.2.1 (M.1 v0 5) = 10 ∧ xCall d 100 [(2, M.1 v0 5), (0, v1)] M (fun r1 H1 =>
      (r1 = 0 →
        True ∧ Q (-2) H1) ∧
      (r1 ≠ 0 →
        H1.2.1 v0 = 11 ∧ H1.2.1 (H1.1 v0 5) = 10 ∧ xCall d 113 [(2, H1.1 v0 5), (0, v1), (0, v2)] H1 (fun r2 H2 =>
          True ∧ Q r2 H2)))) :
    xW d cd_128 Q (0, [(2, v0), (0, v1), (0, v2)], [], M) := xWc_ok [] 12 h
theorem sg_129_0 {d : Nat} {Q : Int → xH → Prop} {v0 v1 : Int} {M : xH} (h :
    M.2.1 v0 = 11 ∧ M.2.1 (M.1 v0 5) = 10 ∧ xCall d 100 [(2, M.1 v0 5), (0, v1)] M (fun r1 H1 =>
      (r1 = 0 →
        True ∧ Q (-2) H1) ∧
      (r1 ≠ 0 →
        H1.2.1 v0 = 11 ∧ H1.2.1 (H1.1 v0 5) = 10 ∧ xCall d 116 [(2, H1.1 v0 5), (0, v1)] H1 (fun r2 H2 =>
          True ∧ Q r2 H2)))) :
    xW d cd_129 Q (0, [(2, v0), (0, v1)], [], M) := xWc_ok [] 11 h
theorem sg_130_0 {d : Nat} {Q : Int → xH → Prop} {v0 v1 v2 : Int} {M : xH} (h :
    M.2.1 v0 = 11 ∧ M.2.1 (M.1 v0 5) = 10 ∧ xCall d 100 [(2, M.1 v0 5), (0, v1)] M (fun r1 H1 =>
      (r1 = 0 →
        True ∧ Q (-2) H1) ∧
      (r1 ≠ 0 →
        (v2 < 0 →
          True ∧ Q (-2) H1) ∧
        (0 ≤ v2 →
          (v2 ≤ 3 →
            H1.2.1 v0 = 11 ∧ H1.2.1 (H1.1 v0 5) = 10 ∧ H1.2.1 (H1.1 (H1.1 v0 5) 3) = 9 ∧ (H1.1 (H1.1 (H1.1 v0 5) 3) 0 < 20 →
              H1.2.1 v0 = 11 ∧ H1.2.1 (H1.1 v0 5) = 10 ∧ H1.2.1 (H1.1 (H1.1 v0 5) 3) = 9 ∧ xCall d 95 [(2, H1.1 (H1.1 v0 5) 3), (0, v1), (0, v2)] H1 (fun r2 H2 =>
                H2.2.1 v0 = 11 ∧ xCall d 125 [(2, v0)] H2 (fun r3 H3 =>
                  H3.2.1 v0 = 11 ∧ H3.2.1 (H3.1 v0 5) = 10 ∧ H3.2.1 (H3.1 (H3.1 v0 5) 3) = 9 ∧ True ∧ Q (H3.1 (H3.1 (H3.1 v0 5) 3) 0) H3))) ∧
            (20 ≤ H1.1 (H1.1 (H1.1 v0 5) 3) 0 →
              True ∧ Q (-3) H1)) ∧
          (3 < v2 →
            True ∧ Q (-2) H1))))) :
    xW d cd_130 Q (0, [(2, v0), (0, v1), (0, v2)], [], M) := xWc_ok [] 29 h
