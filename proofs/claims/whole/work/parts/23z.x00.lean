/-! stretches of methods, by program -/
theorem sg_0_0 {d : Nat} {Q : Int → xH → Prop} {v0 : Int} {M : xH} (h :
    (0 < d ∧ 0 < v0) ∧ ((0 : Int) ≤ 100 ∧ 100 ≤ (1000000 : Int)) ∧ (xNw M 20 100 100).2.1 v0 = 0 ∧ xW d cd_0 Q (6, [(2, v0)], [], (xUp ((xNw M 20 100 100).1) v0 0 (M.2.2.2.1 : Int), (xNw M 20 100 100).2))) :
    xW d cd_0 Q (0, [(2, v0)], [], M) := xWc_ok [6, 14, 18] 7 h
theorem sg_0_6 {d : Nat} {Q : Int → xH → Prop} {v0 : Int} {M : xH} (h :
    ((0 : Int) ≤ 100 ∧ 100 ≤ (1000000 : Int)) ∧ (xNw M 20 100 100).2.1 v0 = 0 ∧ ((0 : Int) ≤ 100 ∧ 100 ≤ (1000000 : Int)) ∧ (xNw (xUp ((xNw M 20 100 100).1) v0 1 (M.2.2.2.1 : Int), (xNw M 20 100 100).2) 20 100 100).2.1 v0 = 0 ∧ xW d cd_0 Q (14, [(2, v0)], [], (xUp ((xNw (xUp ((xNw M 20 100 100).1) v0 1 (M.2.2.2.1 : Int), (xNw M 20 100 100).2) 20 100 100).1) v0 2 ((xUp ((xNw M 20 100 100).1) v0 1 (M.2.2.2.1 : Int), (xNw M 20 100 100).2).2.2.2.1 : Int), (xNw (xUp ((xNw M 20 100 100).1) v0 1 (M.2.2.2.1 : Int), (xNw M 20 100 100).2) 20 100 100).2))) :
    xW d cd_0 Q (6, [(2, v0)], [], M) := xWc_ok [6, 14, 18] 9 h
theorem sg_0_14 {d : Nat} {Q : Int → xH → Prop} {v0 : Int} {M : xH} (h :
    ((0 : Int) ≤ 100 ∧ 100 ≤ (1000000 : Int)) ∧ (xNw M 20 100 100).2.1 v0 = 0 ∧ xW d cd_0 Q (18, [(2, v0)], [], (xUp ((xNw M 20 100 100).1) v0 3 (M.2.2.2.1 : Int), (xNw M 20 100 100).2))) :
    xW d cd_0 Q (14, [(2, v0)], [], M) := xWc_ok [6, 14, 18] 5 h
theorem sg_0_18 {d : Nat} {Q : Int → xH → Prop} {v0 : Int} {M : xH} (h :
    ((0 : Int) ≤ 100 ∧ 100 ≤ (1000000 : Int)) ∧ (xNw M 22 100 100).2.1 v0 = 0 ∧ ((0 : Int) ≤ 8 ∧ 8 ≤ (1000000 : Int)) ∧ (xNw (xUp ((xNw M 22 100 100).1) v0 4 (M.2.2.2.1 : Int), (xNw M 22 100 100).2) 20 8 8).2.1 v0 = 0 ∧ True ∧ Q 0 (xUp ((xNw (xUp ((xNw M 22 100 100).1) v0 4 (M.2.2.2.1 : Int), (xNw M 22 100 100).2) 20 8 8).1) v0 5 ((xUp ((xNw M 22 100 100).1) v0 4 (M.2.2.2.1 : Int), (xNw M 22 100 100).2).2.2.2.1 : Int), (xNw (xUp ((xNw M 22 100 100).1) v0 4 (M.2.2.2.1 : Int), (xNw M 22 100 100).2) 20 8 8).2)) :
    xW d cd_0 Q (18, [(2, v0)], [], M) := xWc_ok [6, 14, 18] 9 h
theorem sg_1_0 {d : Nat} {Q : Int → xH → Prop} {v0 v1 v2 : Int} {M : xH} (h :
    (M.2.1 v0 = 0 ∧ ((0 : Int) = 0 ∨ (0 : Int) = 1)) ∧ M.2.1 v0 = 0 ∧ (v1 ≠ 0 ∧ M.2.1 v0 = 0) ∧ xCall d 3 [(2, v0), (2, v1)] (xUp (xUp M.1 v0 9 0) v0 8 v2, M.2) (fun r1 H1 =>
      True ∧ Q 0 H1)) :
    xW d cd_1 Q (0, [(2, v0), (2, v1), (0, v2)], [], M) := xWc_ok [] 11 h
theorem sg_2_0 {d : Nat} {Q : Int → xH → Prop} {v0 v1 : Int} {M : xH} (h :
    (M.2.1 v0 = 0 ∧ ((1 : Int) = 0 ∨ (1 : Int) = 1)) ∧ (v1 ≠ 0 ∧ M.2.1 v0 = 0) ∧ xCall d 3 [(2, v0), (2, v1)] (xUp M.1 v0 9 1, M.2) (fun r1 H1 =>
      True ∧ Q 0 H1)) :
    xW d cd_2 Q (0, [(2, v0), (2, v1)], [], M) := xWc_ok [] 7 h
theorem sg_3_0 {d : Nat} {Q : Int → xH → Prop} {v0 v1 : Int} {M : xH} (h :
    M.2.1 v0 = 0 ∧ xW d cd_3 Q (5, [(2, v0), (2, v1), (0, 0)], [], (xUp M.1 v0 7 v1, M.2))) :
    xW d cd_3 Q (0, [(2, v0), (2, v1), (9, 0)], [], M) := xWc_ok [5] 6 h
theorem sg_3_5 {d : Nat} {Q : Int → xH → Prop} {v0 v1 v2 : Int} {M : xH} (h :
    M.2.1 v0 = 0 ∧ M.2.1 (M.1 v0 7) = 10 ∧ (M.1 (M.1 v0 7) 4 ≤ v2 →
      M.2.1 v0 = 0 ∧ M.2.1 v0 = 0 ∧ M.2.1 ((xUp M.1 v0 6 0) v0 7) = 10 ∧ M.2.1 v0 = 0 ∧ M.2.1 v0 = 0 ∧ M.2.1 ((xUp (xUp M.1 v0 6 0) v0 10 ((xUp M.1 v0 6 0) ((xUp M.1 v0 6 0) v0 7) 15)) v0 7) = 10 ∧ M.2.1 v0 = 0 ∧ M.2.1 v0 = 0 ∧ M.2.1 v0 = 0 ∧ M.2.1 ((xUp (xUp (xUp (xUp M.1 v0 6 0) v0 10 ((xUp M.1 v0 6 0) ((xUp M.1 v0 6 0) v0 7) 15)) v0 11 ((xUp (xUp M.1 v0 6 0) v0 10 ((xUp M.1 v0 6 0) ((xUp M.1 v0 6 0) v0 7) 15)) ((xUp (xUp M.1 v0 6 0) v0 10 ((xUp M.1 v0 6 0) ((xUp M.1 v0 6 0) v0 7) 15)) v0 7) 16)) v0 12 0) v0 7) = 10 ∧ xCall d 106 [(2, (xUp (xUp (xUp (xUp M.1 v0 6 0) v0 10 ((xUp M.1 v0 6 0) ((xUp M.1 v0 6 0) v0 7) 15)) v0 11 ((xUp (xUp M.1 v0 6 0) v0 10 ((xUp M.1 v0 6 0) ((xUp M.1 v0 6 0) v0 7) 15)) ((xUp (xUp M.1 v0 6 0) v0 10 ((xUp M.1 v0 6 0) ((xUp M.1 v0 6 0) v0 7) 15)) v0 7) 16)) v0 12 0) v0 7)] (xUp (xUp (xUp (xUp M.1 v0 6 0) v0 10 ((xUp M.1 v0 6 0) ((xUp M.1 v0 6 0) v0 7) 15)) v0 11 ((xUp (xUp M.1 v0 6 0) v0 10 ((xUp M.1 v0 6 0) ((xUp M.1 v0 6 0) v0 7) 15)) ((xUp (xUp M.1 v0 6 0) v0 10 ((xUp M.1 v0 6 0) ((xUp M.1 v0 6 0) v0 7) 15)) v0 7) 16)) v0 12 0, M.2) (fun r1 H1 =>
        (H1.2.1 v0 = 0 ∧ (r1 = 0 ∨ r1 = 1)) ∧ (H1.2.1 v0 = 0 ∧ ((0 : Int) = 0 ∨ (0 : Int) = 1)) ∧ H1.2.1 v0 = 0 ∧ xCall d 4 [(2, v0)] (xUp (xUp H1.1 v0 14 r1) v0 15 0, H1.2) (fun r2 H2 =>
          True ∧ Q 0 H2))) ∧
    (v2 < M.1 (M.1 v0 7) 4 →
      M.2.1 v0 = 0 ∧ M.2.1 v0 = 0 ∧ M.2.1 (M.1 v0 7) = 10 ∧ xCall d 116 [(2, M.1 v0 7), (0, v2)] M (fun r3 H3 =>
        ((0 : Int) < M.1 v0 5 ∧ H3.2.1 (M.1 v0 5) = 20 ∧ (0 : Int) ≤ v2 ∧ v2 < H3.2.2.1 (M.1 v0 5)) ∧ xW d cd_3 Q (5, [(2, v0), (2, v1), (0, w32 (v2 + 1))], [], (xUp H3.1 (M.1 v0 5) v2 r3, H3.2))))) :
    xW d cd_3 Q (5, [(2, v0), (2, v1), (0, v2)], [], M) := xWc_ok [5] 32 h
theorem sg_4_0 {d : Nat} {Q : Int → xH → Prop} {v0 : Int} {M : xH} (h :
    M.2.1 v0 = 0 ∧ (M.1 v0 9 ≠ 0 →
      (M.2.1 v0 = 0 ∧ ((1 : Int) = 0 ∨ (1 : Int) = 1)) ∧ True ∧ Q 0 (xUp M.1 v0 13 1, M.2)) ∧
    (M.1 v0 9 = 0 →
      M.2.1 v0 = 0 ∧ xCall d 5 [(2, v0), (0, 100)] M (fun r1 H1 =>
        H1.2.1 v0 = 0 ∧ H1.2.1 v0 = 0 ∧ (H1.2.1 (H1.1 v0 5) = 20 ∧ (0 : Int) ≤ H1.1 v0 10 ∧ H1.1 v0 10 < H1.2.2.1 (H1.1 v0 5)) ∧ (H1.1 (H1.1 v0 5) (H1.1 v0 10) ≤ r1 →
          (H1.2.1 v0 = 0 ∧ ((0 : Int) = 0 ∨ (0 : Int) = 1)) ∧ True ∧ Q 0 (xUp H1.1 v0 13 0, H1.2)) ∧
        (r1 < H1.1 (H1.1 v0 5) (H1.1 v0 10) →
          (H1.2.1 v0 = 0 ∧ ((1 : Int) = 0 ∨ (1 : Int) = 1)) ∧ True ∧ Q 0 (xUp H1.1 v0 13 1, H1.2))))) :
    xW d cd_4 Q (0, [(2, v0)], [], M) := xWc_ok [] 17 h
theorem sg_5_0 {d : Nat} {Q : Int → xH → Prop} {v0 v1 : Int} {M : xH} (h :
    M.2.1 v0 = 0 ∧ (2147483648 : Int) ≠ 0 ∧ M.2.1 v0 = 0 ∧ M.2.1 v0 = 0 ∧ (65536 : Int) ≠ 0 ∧ v1 ≠ 0 ∧ True ∧ Q (w32 ((w64 (((xUp M.1 v0 8 ((w64 ((w64 (1103515245 * (M.1 v0 8))) + 12345)).tmod 2147483648)) v0 8).tdiv 65536)).tmod v1)) (xUp M.1 v0 8 ((w64 ((w64 (1103515245 * (M.1 v0 8))) + 12345)).tmod 2147483648), M.2)) :
    xW d cd_5 Q (0, [(2, v0), (0, v1)], [], M) := xWc_ok [] 19 h
theorem sg_6_0 {d : Nat} {Q : Int → xH → Prop} {v0 v1 v2 v3 : Int} {M : xH} (h :
    (v2 ≠ 0 ∧ M.2.1 v0 = 0) ∧ xCall d 1 [(2, v0), (2, v2), (0, v3)] M (fun r1 H1 =>
      xW d cd_6 Q (6, [(2, v0), (2, v1), (2, v2), (0, v3), (0, 0), (9, 0)], [], H1))) :
    xW d cd_6 Q (0, [(2, v0), (2, v1), (2, v2), (0, v3), (9, 0), (9, 0)], [], M) := xWc_ok [6] 7 h
theorem sg_6_6 {d : Nat} {Q : Int → xH → Prop} {v0 v1 v3 v4 : Int} {u2 u5 : xV} {M : xH} (h :
    (100 ≤ v4 →
      M.2.1 v0 = 0 ∧ M.2.1 v1 = 5 ∧ M.2.1 v0 = 0 ∧ M.2.1 v0 = 0 ∧ M.2.1 (M.1 v0 7) = 10 ∧ xCall d 118 [(2, M.1 v0 7), (0, M.1 v1 12), (0, M.1 v0 10), (0, M.1 v0 12)] M (fun r1 H1 =>
        H1.2.1 v0 = 0 ∧ H1.2.1 v0 = 0 ∧ H1.2.1 v0 = 0 ∧ H1.2.1 ((xUp H1.1 v0 17 r1) v0 7) = 10 ∧ ((xUp H1.1 v0 17 r1) v0 10 ≠ (xUp H1.1 v0 17 r1) ((xUp H1.1 v0 17 r1) v0 7) 14 →
          H1.2.1 v0 = 0 ∧ H1.2.1 v0 = 0 ∧ H1.2.1 ((xUp H1.1 v0 17 r1) v0 7) = 10 ∧ xCall d 107 [(2, (xUp H1.1 v0 17 r1) v0 7), (0, (xUp H1.1 v0 17 r1) v0 10)] (xUp H1.1 v0 17 r1, H1.2) (fun r2 H2 =>
            (r2 = 0 →
              H2.2.1 v0 = 0 ∧ True ∧ Q 0 (xUp H2.1 v0 16 3, H2.2)) ∧
            (r2 ≠ 0 →
              H2.2.1 v0 = 0 ∧ True ∧ Q 0 (xUp H2.1 v0 16 2, H2.2)))) ∧
        ((xUp H1.1 v0 17 r1) v0 10 = (xUp H1.1 v0 17 r1) ((xUp H1.1 v0 17 r1) v0 7) 14 →
          H1.2.1 v0 = 0 ∧ True ∧ Q 0 (xUp (xUp H1.1 v0 17 r1) v0 16 1, H1.2)))) ∧
    (v4 < 100 →
      M.2.1 v0 = 0 ∧ (M.1 v0 15 ≠ 0 →
        M.2.1 v0 = 0 ∧ M.2.1 v1 = 5 ∧ M.2.1 v0 = 0 ∧ M.2.1 v0 = 0 ∧ M.2.1 (M.1 v0 7) = 10 ∧ xCall d 118 [(2, M.1 v0 7), (0, M.1 v1 12), (0, M.1 v0 10), (0, M.1 v0 12)] M (fun r3 H3 =>
          H3.2.1 v0 = 0 ∧ H3.2.1 v0 = 0 ∧ H3.2.1 v0 = 0 ∧ H3.2.1 ((xUp H3.1 v0 17 r3) v0 7) = 10 ∧ ((xUp H3.1 v0 17 r3) v0 10 ≠ (xUp H3.1 v0 17 r3) ((xUp H3.1 v0 17 r3) v0 7) 14 →
            H3.2.1 v0 = 0 ∧ H3.2.1 v0 = 0 ∧ H3.2.1 ((xUp H3.1 v0 17 r3) v0 7) = 10 ∧ xCall d 107 [(2, (xUp H3.1 v0 17 r3) v0 7), (0, (xUp H3.1 v0 17 r3) v0 10)] (xUp H3.1 v0 17 r3, H3.2) (fun r4 H4 =>
              (r4 = 0 →
                H4.2.1 v0 = 0 ∧ True ∧ Q 0 (xUp H4.1 v0 16 3, H4.2)) ∧
              (r4 ≠ 0 →
                H4.2.1 v0 = 0 ∧ True ∧ Q 0 (xUp H4.1 v0 16 2, H4.2)))) ∧
          ((xUp H3.1 v0 17 r3) v0 10 = (xUp H3.1 v0 17 r3) ((xUp H3.1 v0 17 r3) v0 7) 14 →
            H3.2.1 v0 = 0 ∧ True ∧ Q 0 (xUp (xUp H3.1 v0 17 r3) v0 16 1, H3.2)))) ∧
      (M.1 v0 15 = 0 →
        (v1 ≠ 0 ∧ M.2.1 v0 = 0) ∧ xCall d 7 [(2, v0), (2, v1)] M (fun r5 H5 =>
          H5.2.1 v0 = 0 ∧ xCall d 8 [(2, v0), (0, r5)] H5 (fun r6 H6 =>
            H6.2.1 v0 = 0 ∧ xCall d 9 [(2, v0), (1, r5)] H6 (fun r7 H7 =>
              xW d cd_6 Q (6, [(2, v0), (2, v1), u2, (0, v3), (0, w32 (v4 + 1)), (0, r5)], [], H7))))))) :
    xW d cd_6 Q (6, [(2, v0), (2, v1), u2, (0, v3), (0, v4), u5], [], M) := xWc_ok [6] 34 h
theorem sg_7_0 {d : Nat} {Q : Int → xH → Prop} {v0 v1 : Int} {M : xH} (h :
    M.2.1 v0 = 0 ∧ M.2.1 v0 = 0 ∧ M.2.1 v0 = 0 ∧ M.2.1 v0 = 0 ∧ True ∧ xCall d 41 [(0, M.1 v0 12), (0, M.1 v0 14), (0, M.1 v0 10), (0, M.1 v0 11)] M (fun r1 H1 =>
      H1.2.1 v0 = 0 ∧ H1.2.1 v1 = 5 ∧ xCall d 47 [(2, v1), (0, r1), (0, H1.1 v0 13)] H1 (fun r2 H2 =>
        True ∧ Q r2 H2))) :
    xW d cd_7 Q (0, [(2, v0), (2, v1)], [], M) := xWc_ok [] 14 h
theorem sg_8_0 {d : Nat} {Q : Int → xH → Prop} {v0 v1 : Int} {M : xH} (h :
    M.2.1 v0 = 0 ∧ (100 ≤ M.1 v0 6 →
      xW d cd_8 Q (44, [(2, v0), (0, v1)], [], M)) ∧
    (M.1 v0 6 < 100 →
      M.2.1 v0 = 0 ∧ M.2.1 v0 = 0 ∧ ((0 : Int) < M.1 v0 0 ∧ M.2.1 (M.1 v0 0) = 20 ∧ (0 : Int) ≤ M.1 v0 6 ∧ M.1 v0 6 < M.2.2.1 (M.1 v0 0)) ∧ xW d cd_8 Q (10, [(2, v0), (0, v1)], [], (xUp M.1 (M.1 v0 0) (M.1 v0 6) v1, M.2)))) :
    xW d cd_8 Q (0, [(2, v0), (0, v1)], [], M) := xWc_ok [10, 24, 31, 44] 11 h
theorem sg_8_10 {d : Nat} {Q : Int → xH → Prop} {v0 : Int} {u1 : xV} {M : xH} (h :
    M.2.1 v0 = 0 ∧ M.2.1 v0 = 0 ∧ M.2.1 v0 = 0 ∧ ((0 : Int) < M.1 v0 1 ∧ M.2.1 (M.1 v0 1) = 20 ∧ (0 : Int) ≤ M.1 v0 6 ∧ M.1 v0 6 < M.2.2.1 (M.1 v0 1)) ∧ M.2.1 v0 = 0 ∧ M.2.1 v0 = 0 ∧ M.2.1 v0 = 0 ∧ ((0 : Int) < (xUp M.1 (M.1 v0 1) (M.1 v0 6) (M.1 v0 10)) v0 2 ∧ M.2.1 ((xUp M.1 (M.1 v0 1) (M.1 v0 6) (M.1 v0 10)) v0 2) = 20 ∧ (0 : Int) ≤ (xUp M.1 (M.1 v0 1) (M.1 v0 6) (M.1 v0 10)) v0 6 ∧ (xUp M.1 (M.1 v0 1) (M.1 v0 6) (M.1 v0 10)) v0 6 < M.2.2.1 ((xUp M.1 (M.1 v0 1) (M.1 v0 6) (M.1 v0 10)) v0 2)) ∧ xW d cd_8 Q (24, [(2, v0), u1], [], (xUp (xUp M.1 (M.1 v0 1) (M.1 v0 6) (M.1 v0 10)) ((xUp M.1 (M.1 v0 1) (M.1 v0 6) (M.1 v0 10)) v0 2) ((xUp M.1 (M.1 v0 1) (M.1 v0 6) (M.1 v0 10)) v0 6) ((xUp M.1 (M.1 v0 1) (M.1 v0 6) (M.1 v0 10)) v0 11), M.2))) :
    xW d cd_8 Q (10, [(2, v0), u1], [], M) := xWc_ok [10, 24, 31, 44] 15 h
theorem sg_8_24 {d : Nat} {Q : Int → xH → Prop} {v0 : Int} {u1 : xV} {M : xH} (h :
    M.2.1 v0 = 0 ∧ M.2.1 v0 = 0 ∧ M.2.1 v0 = 0 ∧ ((0 : Int) < M.1 v0 3 ∧ M.2.1 (M.1 v0 3) = 20 ∧ (0 : Int) ≤ M.1 v0 6 ∧ M.1 v0 6 < M.2.2.1 (M.1 v0 3)) ∧ xW d cd_8 Q (31, [(2, v0), u1], [], (xUp M.1 (M.1 v0 3) (M.1 v0 6) (M.1 v0 12), M.2))) :
    xW d cd_8 Q (24, [(2, v0), u1], [], M) := xWc_ok [10, 24, 31, 44] 8 h
theorem sg_8_31 {d : Nat} {Q : Int → xH → Prop} {v0 : Int} {u1 : xV} {M : xH} (h :
    M.2.1 v0 = 0 ∧ M.2.1 v0 = 0 ∧ M.2.1 v0 = 0 ∧ ((0 : Int) < M.1 v0 4 ∧ M.2.1 (M.1 v0 4) = 22 ∧ (0 : Int) ≤ M.1 v0 6 ∧ M.1 v0 6 < M.2.2.1 (M.1 v0 4) ∧ (M.1 v0 13 = 0 ∨ M.1 v0 13 = 1)) ∧ M.2.1 v0 = 0 ∧ M.2.1 v0 = 0 ∧ xW d cd_8 Q (44, [(2, v0), u1], [], (xUp (xUp M.1 (M.1 v0 4) (M.1 v0 6) (M.1 v0 13)) v0 6 (w32 (((xUp M.1 (M.1 v0 4) (M.1 v0 6) (M.1 v0 13)) v0 6) + 1)), M.2))) :
    xW d cd_8 Q (31, [(2, v0), u1], [], M) := xWc_ok [10, 24, 31, 44] 14 h
theorem sg_8_44 {d : Nat} {Q : Int → xH → Prop} {u0 u1 : xV} {M : xH} (h :
    True ∧ Q 0 M) :
    xW d cd_8 Q (44, [u0, u1], [], M) := xWc_ok [10, 24, 31, 44] 1 h
theorem sg_9_0 {d : Nat} {Q : Int → xH → Prop} {v0 v1 : Int} {M : xH} (h :
    M.2.1 v0 = 0 ∧ (M.1 v0 15 = 0 →
      (xLcmp v1 (-1) ≠ 0 →
        (xLcmp v1 0 ≠ 0 →
          (xLcmp v1 1 ≠ 0 →
            (xLcmp v1 100 < 0 →
              ((0 : Int) = 0 ∨ (0 : Int) = 1) ∧ Q 0 M) ∧
            (0 ≤ xLcmp v1 100 →
              (xLcmp v1 200 < 0 →
                (10 : Int) ≠ 0 ∧ (10 : Int) ≠ 0 ∧ M.2.1 v0 = 0 ∧ xCall d 11 [(2, v0), (0, w32 ((w32 ((w32 v1) - 100)).tdiv 10)), (0, (w32 ((w32 v1) - 100)).tmod 10)] M (fun r1 H1 =>
                  (r1 = 0 ∨ r1 = 1) ∧ Q r1 H1)) ∧
              (0 ≤ xLcmp v1 200 →
                ((0 : Int) = 0 ∨ (0 : Int) = 1) ∧ Q 0 M))) ∧
          (xLcmp v1 1 = 0 →
            M.2.1 v0 = 0 ∧ (M.2.1 v0 = 0 ∧ ((0 : Int) = 0 ∨ (0 : Int) = 1)) ∧ (M.1 v0 14 = 0 ∨ M.1 v0 14 = 1) ∧ Q (M.1 v0 14) (xUp M.1 v0 14 0, M.2))) ∧
        (xLcmp v1 0 = 0 →
          M.2.1 v0 = 0 ∧ xCall d 10 [(2, v0)] M (fun r2 H2 =>
            (r2 = 0 ∨ r2 = 1) ∧ Q r2 H2))) ∧
      (xLcmp v1 (-1) = 0 →
        (M.2.1 v0 = 0 ∧ ((1 : Int) = 0 ∨ (1 : Int) = 1)) ∧ ((1 : Int) = 0 ∨ (1 : Int) = 1) ∧ Q 1 (xUp M.1 v0 15 1, M.2))) ∧
    (M.1 v0 15 ≠ 0 →
      ((0 : Int) = 0 ∨ (0 : Int) = 1) ∧ Q 0 M)) :
    xW d cd_9 Q (0, [(2, v0), (1, v1), (9, 0), (9, 0)], [], M) := xWc_ok [] 37 h
theorem sg_10_0 {d : Nat} {Q : Int → xH → Prop} {v0 : Int} {M : xH} (h :
    M.2.1 v0 = 0 ∧ M.2.1 v0 = 0 ∧ M.2.1 v0 = 0 ∧ M.2.1 v0 = 0 ∧ M.2.1 v0 = 0 ∧ M.2.1 (M.1 v0 7) = 10 ∧ xCall d 113 [(2, M.1 v0 7), (0, M.1 v0 10), (0, M.1 v0 14)] M (fun r1 H1 =>
      H1.2.1 (M.1 v0 7) = 10 ∧ xCall d 115 [(2, M.1 v0 7), (0, w32 ((M.1 v0 11) + r1))] H1 (fun r2 H2 =>
        H2.2.1 v0 = 0 ∧ (H2.1 v0 13 = 0 →
          ((0 : Int) = 0 ∨ (0 : Int) = 1) ∧ Q 0 H2) ∧
        (H2.1 v0 13 ≠ 0 →
          H2.2.1 v0 = 0 ∧ (r2 ≤ H2.1 v0 11 →
            ((0 : Int) = 0 ∨ (0 : Int) = 1) ∧ Q 0 H2) ∧
          (H2.1 v0 11 < r2 →
            H2.2.1 v0 = 0 ∧ H2.2.1 v0 = 0 ∧ H2.2.1 (H2.1 v0 7) = 10 ∧ (H2.1 v0 12 < H2.1 (H2.1 v0 7) 10 →
              H2.2.1 v0 = 0 ∧ H2.2.1 v0 = 0 ∧ H2.2.1 v0 = 0 ∧ ((1 : Int) = 0 ∨ (1 : Int) = 1) ∧ Q 1 (xUp (xUp H2.1 v0 11 r2) v0 12 (w32 (((xUp H2.1 v0 11 r2) v0 12) + 1)), H2.2)) ∧
            (H2.1 (H2.1 v0 7) 10 ≤ H2.1 v0 12 →
              ((0 : Int) = 0 ∨ (0 : Int) = 1) ∧ Q 0 H2)))))) :
    xW d cd_10 Q (0, [(2, v0), (9, 0)], [], M) := xWc_ok [] 38 h
theorem sg_11_0 {d : Nat} {Q : Int → xH → Prop} {v0 v1 v2 : Int} {M : xH} (h :
    M.2.1 v0 = 0 ∧ M.2.1 (M.1 v0 7) = 10 ∧ xCall d 101 [(2, M.1 v0 7), (0, v1)] M (fun r1 H1 =>
      (r1 = 0 →
        ((0 : Int) = 0 ∨ (0 : Int) = 1) ∧ Q 0 H1) ∧
      (r1 ≠ 0 →
        H1.2.1 v0 = 0 ∧ H1.2.1 (H1.1 v0 7) = 10 ∧ xCall d 102 [(2, H1.1 v0 7), (0, v2)] H1 (fun r2 H2 =>
          (r2 ≠ 0 →
            H2.2.1 v0 = 0 ∧ H2.2.1 (H2.1 v0 7) = 10 ∧ (24 ≤ H2.2.1 (H2.1 (H2.1 v0 7) 1) ∧ (0 : Int) ≤ v1 ∧ v1 < H2.2.2.1 (H2.1 (H2.1 v0 7) 1)) ∧ H2.1 (H2.1 (H2.1 v0 7) 1) v1 ≠ 0 ∧ H2.2.1 (H2.1 (H2.1 (H2.1 v0 7) 1) v1) = 2 ∧ H2.2.1 v0 = 0 ∧ (H2.1 (H2.1 (H2.1 (H2.1 v0 7) 1) v1) 0 = H2.1 v0 10 →
              xW d cd_11 Q (30, [(2, v0), (0, v1), (0, v2), (2, H2.1 (H2.1 (H2.1 v0 7) 1) v1), (9, 0), (9, 0), (9, 0), (9, 0), (9, 0)], [], H2)) ∧
            (H2.1 (H2.1 (H2.1 (H2.1 v0 7) 1) v1) 0 ≠ H2.1 v0 10 →
              H2.2.1 (H2.1 (H2.1 (H2.1 v0 7) 1) v1) = 2 ∧ H2.2.1 v0 = 0 ∧ (H2.1 (H2.1 (H2.1 (H2.1 v0 7) 1) v1) 1 = H2.1 v0 10 →
                xW d cd_11 Q (30, [(2, v0), (0, v1), (0, v2), (2, H2.1 (H2.1 (H2.1 v0 7) 1) v1), (9, 0), (9, 0), (9, 0), (9, 0), (9, 0)], [], H2)) ∧
              (H2.1 (H2.1 (H2.1 (H2.1 v0 7) 1) v1) 1 ≠ H2.1 v0 10 →
                ((0 : Int) = 0 ∨ (0 : Int) = 1) ∧ Q 0 H2))) ∧
          (r2 = 0 →
            ((0 : Int) = 0 ∨ (0 : Int) = 1) ∧ Q 0 H2))))) :
    xW d cd_11 Q (0, [(2, v0), (0, v1), (0, v2), (9, 0), (9, 0), (9, 0), (9, 0), (9, 0), (9, 0)], [], M) := xWc_ok [30, 59, 61, 86, 103] 28 h
theorem sg_11_30 {d : Nat} {Q : Int → xH → Prop} {v0 v1 v2 v3 : Int} {u4 u5 u6 u7 u8 : xV} {M : xH} (h :
    M.2.1 v3 = 2 ∧ M.2.1 v0 = 0 ∧ (M.1 v3 1 ≠ M.1 v0 10 →
      M.2.1 v0 = 0 ∧ M.2.1 v0 = 0 ∧ M.2.1 (M.1 v0 7) = 10 ∧ xCall d 111 [(2, M.1 v0 7), (0, v1), (0, 0), (0, v2), (0, M.1 v0 14)] M (fun r1 H1 =>
        (r1 = (-1) →
          xW d cd_11 Q (59, [(2, v0), (0, v1), (0, v2), (2, v3), (0, 0), (0, r1), u6, u7, u8], [], H1)) ∧
        (r1 ≠ (-1) →
          H1.2.1 v0 = 0 ∧ H1.2.1 v0 = 0 ∧ H1.2.1 (H1.1 v0 7) = 10 ∧ (w32 ((H1.1 v0 12) + r1) ≤ H1.1 (H1.1 v0 7) 10 →
            xW d cd_11 Q (61, [(2, v0), (0, v1), (0, v2), (2, v3), (0, 0), (0, r1), u6, u7, u8], [], H1)) ∧
          (H1.1 (H1.1 v0 7) 10 < w32 ((H1.1 v0 12) + r1) →
            xW d cd_11 Q (59, [(2, v0), (0, v1), (0, v2), (2, v3), (0, 0), (0, r1), u6, u7, u8], [], H1))))) ∧
    (M.1 v3 1 = M.1 v0 10 →
      M.2.1 v0 = 0 ∧ M.2.1 v0 = 0 ∧ M.2.1 (M.1 v0 7) = 10 ∧ xCall d 111 [(2, M.1 v0 7), (0, v1), (0, 1), (0, v2), (0, M.1 v0 14)] M (fun r2 H2 =>
        (r2 = (-1) →
          xW d cd_11 Q (59, [(2, v0), (0, v1), (0, v2), (2, v3), (0, 1), (0, r2), u6, u7, u8], [], H2)) ∧
        (r2 ≠ (-1) →
          H2.2.1 v0 = 0 ∧ H2.2.1 v0 = 0 ∧ H2.2.1 (H2.1 v0 7) = 10 ∧ (w32 ((H2.1 v0 12) + r2) ≤ H2.1 (H2.1 v0 7) 10 →
            xW d cd_11 Q (61, [(2, v0), (0, v1), (0, v2), (2, v3), (0, 1), (0, r2), u6, u7, u8], [], H2)) ∧
          (H2.1 (H2.1 v0 7) 10 < w32 ((H2.1 v0 12) + r2) →
            xW d cd_11 Q (59, [(2, v0), (0, v1), (0, v2), (2, v3), (0, 1), (0, r2), u6, u7, u8], [], H2)))))) :
    xW d cd_11 Q (30, [(2, v0), (0, v1), (0, v2), (2, v3), u4, u5, u6, u7, u8], [], M) := xWc_ok [30, 59, 61, 86, 103] 29 h
theorem sg_11_59 {d : Nat} {Q : Int → xH → Prop} {u0 u1 u2 u3 u4 u5 u6 u7 u8 : xV} {M : xH} (h :
    ((0 : Int) = 0 ∨ (0 : Int) = 1) ∧ Q 0 M) :
    xW d cd_11 Q (59, [u0, u1, u2, u3, u4, u5, u6, u7, u8], [], M) := xWc_ok [30, 59, 61, 86, 103] 2 h
theorem sg_11_61 {d : Nat} {Q : Int → xH → Prop} {v0 v1 v2 v3 v4 v5 : Int} {u6 u7 u8 : xV} {M : xH} (h :
    (v4 = 0 →
      M.2.1 v3 = 2 ∧ M.2.1 v0 = 0 ∧ M.2.1 v0 = 0 ∧ M.2.1 (M.1 v0 7) = 10 ∧ xCall d 112 [(2, M.1 v0 7), (0, v1), (0, v4), (0, v2), (0, M.1 v0 14)] M (fun r1 H1 =>
        H1.2.1 v0 = 0 ∧ H1.2.1 v0 = 0 ∧ H1.2.1 (H1.1 v0 7) = 10 ∧ xCall d 115 [(2, H1.1 v0 7), (0, w32 ((H1.1 v0 11) - r1))] H1 (fun r2 H2 =>
          xW d cd_11 Q (86, [(2, v0), (0, v1), (0, v2), (2, v3), (0, v4), (0, v5), (0, M.1 v3 1), (0, r1), (0, r2)], [], H2)))) ∧
    (v4 ≠ 0 →
      M.2.1 v3 = 2 ∧ M.2.1 v0 = 0 ∧ M.2.1 v0 = 0 ∧ M.2.1 (M.1 v0 7) = 10 ∧ xCall d 112 [(2, M.1 v0 7), (0, v1), (0, v4), (0, v2), (0, M.1 v0 14)] M (fun r3 H3 =>
        H3.2.1 v0 = 0 ∧ H3.2.1 v0 = 0 ∧ H3.2.1 (H3.1 v0 7) = 10 ∧ xCall d 115 [(2, H3.1 v0 7), (0, w32 ((H3.1 v0 11) - r3))] H3 (fun r4 H4 =>
          xW d cd_11 Q (86, [(2, v0), (0, v1), (0, v2), (2, v3), (0, v4), (0, v5), (0, M.1 v3 0), (0, r3), (0, r4)], [], H4))))) :
    xW d cd_11 Q (61, [(2, v0), (0, v1), (0, v2), (2, v3), (0, v4), (0, v5), u6, u7, u8], [], M) := xWc_ok [30, 59, 61, 86, 103] 24 h
theorem sg_11_86 {d : Nat} {Q : Int → xH → Prop} {v0 v3 v5 v6 v7 v8 : Int} {u1 u2 u4 : xV} {M : xH} (h :
    M.2.1 v0 = 0 ∧ (2 : Int) ≠ 0 ∧ M.2.1 v3 = 2 ∧ (w32 ((M.1 v0 11) - (w32 (v7.tdiv 2))) < M.1 v3 5 →
      xW d cd_11 Q (103, [(2, v0), u1, u2, (2, v3), u4, (0, v5), (0, v6), (0, v7), (0, v8)], [], M)) ∧
    (M.1 v3 5 ≤ w32 ((M.1 v0 11) - (w32 (v7.tdiv 2))) →
      M.2.1 v0 = 0 ∧ M.2.1 (M.1 v0 7) = 10 ∧ (24 ≤ M.2.1 (M.1 (M.1 v0 7) 0) ∧ (0 : Int) ≤ v6 ∧ v6 < M.2.2.1 (M.1 (M.1 v0 7) 0)) ∧ M.2.1 (M.1 (M.1 (M.1 v0 7) 0) v6) = 4 ∧ (M.1 (M.1 (M.1 (M.1 v0 7) 0) v6) 0 ≤ v8 →
        M.2.1 v0 = 0 ∧ M.2.1 v0 = 0 ∧ M.2.1 v0 = 0 ∧ M.2.1 v0 = 0 ∧ M.2.1 v0 = 0 ∧ xCall d 4 [(2, v0)] (xUp (xUp (xUp M.1 v0 10 v6) v0 11 v8) v0 12 (w32 (((xUp (xUp M.1 v0 10 v6) v0 11 v8) v0 12) + v5)), M.2) (fun r1 H1 =>
          ((1 : Int) = 0 ∨ (1 : Int) = 1) ∧ Q 1 H1)) ∧
      (v8 < M.1 (M.1 (M.1 (M.1 v0 7) 0) v6) 0 →
        xW d cd_11 Q (103, [(2, v0), u1, u2, (2, v3), u4, (0, v5), (0, v6), (0, v7), (0, v8)], [], M)))) :
    xW d cd_11 Q (86, [(2, v0), u1, u2, (2, v3), u4, (0, v5), (0, v6), (0, v7), (0, v8)], [], M) := xWc_ok [30, 59, 61, 86, 103] 33 h
theorem sg_11_103 {d : Nat} {Q : Int → xH → Prop} {u0 u1 u2 u3 u4 u5 u6 u7 u8 : xV} {M : xH} (h :
    ((0 : Int) = 0 ∨ (0 : Int) = 1) ∧ Q 0 M) :
    xW d cd_11 Q (103, [u0, u1, u2, u3, u4, u5, u6, u7, u8], [], M) := xWc_ok [30, 59, 61, 86, 103] 2 h
theorem sg_12_0 {d : Nat} {Q : Int → xH → Prop} {v0 v1 v2 : Int} {M : xH} (h :
    (v1 < 0 →
      True ∧ Q (-1) M) ∧
    (0 ≤ v1 →
      M.2.1 v0 = 0 ∧ (v1 < M.1 v0 6 →
        ((v2 = 0 →
          M.2.1 v0 = 0 ∧ (M.2.1 (M.1 v0 0) = 20 ∧ (0 : Int) ≤ v1 ∧ v1 < M.2.2.1 (M.1 v0 0)) ∧ True ∧ Q (M.1 (M.1 v0 0) v1) M) ∧
        (v2 = 1 →
          M.2.1 v0 = 0 ∧ (M.2.1 (M.1 v0 1) = 20 ∧ (0 : Int) ≤ v1 ∧ v1 < M.2.2.1 (M.1 v0 1)) ∧ True ∧ Q (M.1 (M.1 v0 1) v1) M) ∧
        (v2 = 2 →
          M.2.1 v0 = 0 ∧ (M.2.1 (M.1 v0 2) = 20 ∧ (0 : Int) ≤ v1 ∧ v1 < M.2.2.1 (M.1 v0 2)) ∧ True ∧ Q (M.1 (M.1 v0 2) v1) M) ∧
        (v2 = 3 →
          M.2.1 v0 = 0 ∧ (M.2.1 (M.1 v0 3) = 20 ∧ (0 : Int) ≤ v1 ∧ v1 < M.2.2.1 (M.1 v0 3)) ∧ True ∧ Q (M.1 (M.1 v0 3) v1) M) ∧
        (v2 = 4 →
          M.2.1 v0 = 0 ∧ (M.2.1 (M.1 v0 4) = 22 ∧ (0 : Int) ≤ v1 ∧ v1 < M.2.2.1 (M.1 v0 4)) ∧ (M.1 (M.1 v0 4) v1 = 0 →
            True ∧ Q 0 M) ∧
          (M.1 (M.1 v0 4) v1 ≠ 0 →
            True ∧ Q 1 M)) ∧
        True) ∧
        (v2 < 0 ∨ 5 ≤ v2 →
          True ∧ Q (-1) M)) ∧
      (M.1 v0 6 ≤ v1 →
        True ∧ Q (-1) M))) :
    xW d cd_12 Q (0, [(2, v0), (0, v1), (0, v2)], [], M) := xWc_ok [] 16 h
theorem sg_13_0 {d : Nat} {Q : Int → xH → Prop} {v0 v1 : Int} {M : xH} (h :
    M.2.1 v0 = 0 ∧ (M.1 v0 6 ≠ 0 →
      ((v1 = 0 →
        M.2.1 v0 = 0 ∧ True ∧ Q (M.1 v0 10) M) ∧
      (v1 = 1 →
        M.2.1 v0 = 0 ∧ True ∧ Q (M.1 v0 11) M) ∧
      (v1 = 2 →
        M.2.1 v0 = 0 ∧ True ∧ Q (M.1 v0 12) M) ∧
      (v1 = 3 →
        M.2.1 v0 = 0 ∧ True ∧ Q (M.1 v0 17) M) ∧
      (v1 = 4 →
        M.2.1 v0 = 0 ∧ True ∧ Q (M.1 v0 16) M) ∧
      True) ∧
      (v1 < 0 ∨ 5 ≤ v1 →
        True ∧ Q (-1) M)) ∧
    (M.1 v0 6 = 0 →
      True ∧ Q (-1) M)) :
    xW d cd_13 Q (0, [(2, v0), (0, v1)], [], M) := xWc_ok [] 8 h
theorem sg_14_0 {d : Nat} {Q : Int → xH → Prop} {v0 v1 : Int} {M : xH} (h :
    ((v1 = 2 →
      M.2.1 v0 = 0 ∧ (M.1 v0 16 ≠ 3 →
        True ∧ Q 0 M) ∧
      (M.1 v0 16 = 3 →
        True ∧ Q 1 M)) ∧
    (v1 = 3 →
      M.2.1 v0 = 0 ∧ True ∧ Q (M.1 v0 12) M) ∧
    (v1 = 4 →
      M.2.1 v0 = 0 ∧ True ∧ Q (M.1 v0 6) M) ∧
    True) ∧
    (v1 < 2 ∨ 5 ≤ v1 →
      M.2.1 v0 = 0 ∧ True ∧ Q (M.1 v0 17) M)) :
    xW d cd_14 Q (0, [(2, v0), (0, v1)], [], M) := xWc_ok [] 9 h
theorem sg_15_0 {d : Nat} {Q : Int → xH → Prop} {v0 : Int} {M : xH} (h :
    (0 < d ∧ 0 < v0) ∧ ((0 : Int) ≤ 17 ∧ 17 ≤ (1000000 : Int)) ∧ (xNw M 20 17 17).2.1 v0 = 1 ∧ xW d cd_15 Q (6, [(2, v0)], [], (xUp ((xNw M 20 17 17).1) v0 0 (M.2.2.2.1 : Int), (xNw M 20 17 17).2))) :
    xW d cd_15 Q (0, [(2, v0)], [], M) := xWc_ok [6, 10, 18, 26, 34] 7 h
theorem sg_15_6 {d : Nat} {Q : Int → xH → Prop} {v0 : Int} {M : xH} (h :
    ((0 : Int) ≤ 240 ∧ 240 ≤ (1000000 : Int)) ∧ (xNw M 20 240 240).2.1 v0 = 1 ∧ xW d cd_15 Q (10, [(2, v0)], [], (xUp ((xNw M 20 240 240).1) v0 1 (M.2.2.2.1 : Int), (xNw M 20 240 240).2))) :
    xW d cd_15 Q (6, [(2, v0)], [], M) := xWc_ok [6, 10, 18, 26, 34] 5 h
theorem sg_15_10 {d : Nat} {Q : Int → xH → Prop} {v0 : Int} {M : xH} (h :
    ((0 : Int) ≤ 240 ∧ 240 ≤ (1000000 : Int)) ∧ (xNw M 20 240 240).2.1 v0 = 1 ∧ ((0 : Int) ≤ 240 ∧ 240 ≤ (1000000 : Int)) ∧ (xNw (xUp ((xNw M 20 240 240).1) v0 2 (M.2.2.2.1 : Int), (xNw M 20 240 240).2) 20 240 240).2.1 v0 = 1 ∧ xW d cd_15 Q (18, [(2, v0)], [], (xUp ((xNw (xUp ((xNw M 20 240 240).1) v0 2 (M.2.2.2.1 : Int), (xNw M 20 240 240).2) 20 240 240).1) v0 3 ((xUp ((xNw M 20 240 240).1) v0 2 (M.2.2.2.1 : Int), (xNw M 20 240 240).2).2.2.2.1 : Int), (xNw (xUp ((xNw M 20 240 240).1) v0 2 (M.2.2.2.1 : Int), (xNw M 20 240 240).2) 20 240 240).2))) :
    xW d cd_15 Q (10, [(2, v0)], [], M) := xWc_ok [6, 10, 18, 26, 34] 9 h
theorem sg_15_18 {d : Nat} {Q : Int → xH → Prop} {v0 : Int} {M : xH} (h :
    ((0 : Int) ≤ 240 ∧ 240 ≤ (1000000 : Int)) ∧ (xNw M 20 240 240).2.1 v0 = 1 ∧ ((0 : Int) ≤ 240 ∧ 240 ≤ (1000000 : Int)) ∧ (xNw (xUp ((xNw M 20 240 240).1) v0 4 (M.2.2.2.1 : Int), (xNw M 20 240 240).2) 20 240 240).2.1 v0 = 1 ∧ xW d cd_15 Q (26, [(2, v0)], [], (xUp ((xNw (xUp ((xNw M 20 240 240).1) v0 4 (M.2.2.2.1 : Int), (xNw M 20 240 240).2) 20 240 240).1) v0 5 ((xUp ((xNw M 20 240 240).1) v0 4 (M.2.2.2.1 : Int), (xNw M 20 240 240).2).2.2.2.1 : Int), (xNw (xUp ((xNw M 20 240 240).1) v0 4 (M.2.2.2.1 : Int), (xNw M 20 240 240).2) 20 240 240).2))) :
    xW d cd_15 Q (18, [(2, v0)], [], M) := xWc_ok [6, 10, 18, 26, 34] 9 h
theorem sg_15_26 {d : Nat} {Q : Int → xH → Prop} {v0 : Int} {M : xH} (h :
    ((0 : Int) ≤ 16 ∧ 16 ≤ (1000000 : Int)) ∧ (xNw M 20 16 16).2.1 v0 = 1 ∧ ((0 : Int) ≤ 8 ∧ 8 ≤ (1000000 : Int)) ∧ (xNw (xUp ((xNw M 20 16 16).1) v0 7 (M.2.2.2.1 : Int), (xNw M 20 16 16).2) 20 8 8).2.1 v0 = 1 ∧ xW d cd_15 Q (34, [(2, v0)], [], (xUp ((xNw (xUp ((xNw M 20 16 16).1) v0 7 (M.2.2.2.1 : Int), (xNw M 20 16 16).2) 20 8 8).1) v0 8 ((xUp ((xNw M 20 16 16).1) v0 7 (M.2.2.2.1 : Int), (xNw M 20 16 16).2).2.2.2.1 : Int), (xNw (xUp ((xNw M 20 16 16).1) v0 7 (M.2.2.2.1 : Int), (xNw M 20 16 16).2) 20 8 8).2))) :
    xW d cd_15 Q (26, [(2, v0)], [], M) := xWc_ok [6, 10, 18, 26, 34] 9 h
theorem sg_15_34 {d : Nat} {Q : Int → xH → Prop} {v0 : Int} {M : xH} (h :
    ((0 : Int) ≤ 256 ∧ 256 ≤ (1000000 : Int)) ∧ (xNw M 20 256 256).2.1 v0 = 1 ∧ True ∧ Q 0 (xUp ((xNw M 20 256 256).1) v0 9 (M.2.2.2.1 : Int), (xNw M 20 256 256).2)) :
    xW d cd_15 Q (34, [(2, v0)], [], M) := xWc_ok [6, 10, 18, 26, 34] 5 h
theorem sg_16_0 {d : Nat} {Q : Int → xH → Prop} {v0 v1 : Int} {M : xH} (h :
    (v1 = 0 →
      True ∧ Q v0 M) ∧
    (v1 ≠ 0 →
      True ∧ Q (w32 (8 + v0)) M)) :
    xW d cd_16 Q (0, [(0, v0), (0, v1)], [], M) := xWc_ok [] 7 h
theorem sg_17_0 {d : Nat} {Q : Int → xH → Prop} {v0 v1 : Int} {M : xH} (h :
    M.2.1 v0 = 1 ∧ xW d cd_17 Q (5, [(2, v0), (2, v1), (0, 0), (9, 0)], [], (xUp M.1 v0 6 0, M.2))) :
    xW d cd_17 Q (0, [(2, v0), (2, v1), (9, 0), (9, 0)], [], M) := xWc_ok [5] 6 h
theorem sg_17_5 {d : Nat} {Q : Int → xH → Prop} {v0 v1 v2 : Int} {u3 : xV} {M : xH} (h :
    (16 ≤ v2 →
      M.2.1 v0 = 1 ∧ M.2.1 v0 = 1 ∧ ((0 : Int) < M.1 v0 0 ∧ M.2.1 (M.1 v0 0) = 20 ∧ (0 : Int) ≤ 16 ∧ 16 < M.2.2.1 (M.1 v0 0)) ∧ (v1 ≠ 0 ∧ M.2.1 v0 = 1) ∧ xCall d 21 [(2, v0), (2, v1), (0, 0)] (xUp M.1 (M.1 v0 0) 16 (M.1 v0 6), M.2) (fun r1 H1 =>
        (v1 ≠ 0 ∧ H1.2.1 v0 = 1) ∧ xCall d 21 [(2, v0), (2, v1), (0, 1)] H1 (fun r2 H2 =>
          True ∧ Q 0 H2))) ∧
    (v2 < 16 →
      M.2.1 v0 = 1 ∧ M.2.1 v0 = 1 ∧ ((0 : Int) < M.1 v0 0 ∧ M.2.1 (M.1 v0 0) = 20 ∧ (0 : Int) ≤ v2 ∧ v2 < M.2.2.1 (M.1 v0 0)) ∧ (8 : Int) ≠ 0 ∧ M.2.1 v1 = 10 ∧ ((xUp M.1 (M.1 v0 0) v2 (M.1 v0 6)) v1 4 ≤ v2.tmod 8 →
        xW d cd_17 Q (5, [(2, v0), (2, v1), (0, w32 (v2 + 1)), (0, v2.tmod 8)], [], (xUp M.1 (M.1 v0 0) v2 (M.1 v0 6), M.2))) ∧
      (v2.tmod 8 < (xUp M.1 (M.1 v0 0) v2 (M.1 v0 6)) v1 4 →
        (v2 < 8 →
          (v1 ≠ 0 ∧ M.2.1 v0 = 1) ∧ xCall d 18 [(2, v0), (2, v1), (0, v2.tmod 8), (0, 0)] (xUp M.1 (M.1 v0 0) v2 (M.1 v0 6), M.2) (fun r3 H3 =>
            xW d cd_17 Q (5, [(2, v0), (2, v1), (0, w32 (v2 + 1)), (0, v2.tmod 8)], [], H3))) ∧
        (8 ≤ v2 →
          (v1 ≠ 0 ∧ M.2.1 v0 = 1) ∧ xCall d 18 [(2, v0), (2, v1), (0, v2.tmod 8), (0, 1)] (xUp M.1 (M.1 v0 0) v2 (M.1 v0 6), M.2) (fun r4 H4 =>
            xW d cd_17 Q (5, [(2, v0), (2, v1), (0, w32 (v2 + 1)), (0, v2.tmod 8)], [], H4)))))) :
    xW d cd_17 Q (5, [(2, v0), (2, v1), (0, v2), u3], [], M) := xWc_ok [5] 29 h
theorem sg_18_0 {d : Nat} {Q : Int → xH → Prop} {v0 v1 v2 v3 : Int} {M : xH} (h :
    xW d cd_18 Q (2, [(2, v0), (2, v1), (0, v2), (0, v3), (0, 0), (9, 0), (9, 0)], [], M)) :
    xW d cd_18 Q (0, [(2, v0), (2, v1), (0, v2), (0, v3), (9, 0), (9, 0), (9, 0)], [], M) := xWc_ok [2, 21] 3 h
theorem sg_18_2 {d : Nat} {Q : Int → xH → Prop} {v0 v1 v2 v3 v4 : Int} {u5 u6 : xV} {M : xH} (h :
    M.2.1 v1 = 10 ∧ (M.1 v1 5 ≤ v4 →
      True ∧ Q 0 M) ∧
    (v4 < M.1 v1 5 →
      M.2.1 v1 = 10 ∧ (24 ≤ M.2.1 (M.1 v1 1) ∧ (0 : Int) ≤ v4 ∧ v4 < M.2.2.1 (M.1 v1 1)) ∧ M.1 (M.1 v1 1) v4 ≠ 0 ∧ M.2.1 (M.1 (M.1 v1 1) v4) = 2 ∧ (M.1 (M.1 (M.1 v1 1) v4) 0 = v2 →
        xW d cd_18 Q (21, [(2, v0), (2, v1), (0, v2), (0, v3), (0, v4), (2, M.1 (M.1 v1 1) v4), (0, 0)], [], M)) ∧
      (M.1 (M.1 (M.1 v1 1) v4) 0 ≠ v2 →
        M.2.1 (M.1 (M.1 v1 1) v4) = 2 ∧ (M.1 (M.1 (M.1 v1 1) v4) 1 ≠ v2 →
          xW d cd_18 Q (2, [(2, v0), (2, v1), (0, v2), (0, v3), (0, w32 (v4 + 1)), (2, M.1 (M.1 v1 1) v4), u6], [], M)) ∧
        (M.1 (M.1 (M.1 v1 1) v4) 1 = v2 →
          xW d cd_18 Q (21, [(2, v0), (2, v1), (0, v2), (0, v3), (0, v4), (2, M.1 (M.1 v1 1) v4), (0, 0)], [], M))))) :
    xW d cd_18 Q (2, [(2, v0), (2, v1), (0, v2), (0, v3), (0, v4), u5, u6], [], M) := xWc_ok [2, 21] 20 h
theorem sg_18_21 {d : Nat} {Q : Int → xH → Prop} {v0 v1 v2 v3 v4 v5 v6 : Int} {M : xH} (h :
    M.2.1 v1 = 10 ∧ M.2.1 (M.1 v1 2) = 6 ∧ (M.1 (M.1 v1 2) 0 ≤ v6 →
      xW d cd_18 Q (2, [(2, v0), (2, v1), (0, v2), (0, v3), (0, w32 (v4 + 1)), (2, v5), (0, v6)], [], M)) ∧
    (v6 < M.1 (M.1 v1 2) 0 →
      M.2.1 v5 = 2 ∧ (M.1 v5 1 ≠ v2 →
        (v1 ≠ 0 ∧ M.2.1 v0 = 1) ∧ xCall d 19 [(2, v0), (2, v1), (0, v4), (0, 0), (0, v6), (0, v3)] M (fun r1 H1 =>
          xW d cd_18 Q (21, [(2, v0), (2, v1), (0, v2), (0, v3), (0, v4), (2, v5), (0, w32 (v6 + 1))], [], H1))) ∧
      (M.1 v5 1 = v2 →
        (v1 ≠ 0 ∧ M.2.1 v0 = 1) ∧ xCall d 19 [(2, v0), (2, v1), (0, v4), (0, 1), (0, v6), (0, v3)] M (fun r2 H2 =>
          xW d cd_18 Q (21, [(2, v0), (2, v1), (0, v2), (0, v3), (0, v4), (2, v5), (0, w32 (v6 + 1))], [], H2))))) :
    xW d cd_18 Q (21, [(2, v0), (2, v1), (0, v2), (0, v3), (0, v4), (2, v5), (0, v6)], [], M) := xWc_ok [2, 21] 20 h
