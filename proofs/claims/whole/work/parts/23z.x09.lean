/-! stretches of methods, by program -/
theorem sg_181_0 {d : Nat} {Q : Int → xH → Prop} {v0 v1 : Int} {M : xH} (h :
    (v1 < 0 →
      True ∧ Q (-2) M) ∧
    (0 ≤ v1 →
      (v1 < 3 →
        M.2.1 v0 = 11 ∧ (M.2.1 (M.1 v0 8) = 22 ∧ (0 : Int) ≤ v1 ∧ v1 < M.2.2.1 (M.1 v0 8)) ∧ (M.1 (M.1 v0 8) v1 ≠ 0 →
          M.2.1 v0 = 11 ∧ M.2.1 v0 = 11 ∧ (24 ≤ M.2.1 (M.1 v0 7) ∧ (0 : Int) ≤ v1 ∧ v1 < M.2.2.1 (M.1 v0 7)) ∧ (M.1 (M.1 v0 7) v1 ≠ 0 ∧ M.2.1 (M.1 v0 5) = 10) ∧ xCall d 99 [(2, M.1 v0 5), (2, M.1 (M.1 v0 7) v1)] M (fun r1 H1 =>
            H1.2.1 v0 = 11 ∧ H1.2.1 v0 = 11 ∧ (H1.1 v0 5 ≠ 0 ∧ H1.2.1 (H1.1 v0 9) = 1) ∧ xCall d 17 [(2, H1.1 v0 9), (2, H1.1 v0 5)] H1 (fun r2 H2 =>
              H2.2.1 v0 = 11 ∧ xCall d 125 [(2, v0)] H2 (fun r3 H3 =>
                True ∧ Q 0 H3)))) ∧
        (M.1 (M.1 v0 8) v1 = 0 →
          True ∧ Q (-6) M)) ∧
      (3 ≤ v1 →
        True ∧ Q (-2) M))) :
    xW d cd_181 Q (0, [(2, v0), (0, v1)], [], M) := xWc_ok [] 26 h
theorem sg_182_0 {d : Nat} {Q : Int → xH → Prop} {v0 : Int} {M : xH} (h :
    (v0 < 0 →
      ((0 : Int) = 0 ∨ (0 : Int) = 1) ∧ Q 0 M) ∧
    (0 ≤ v0 →
      (4 ≤ v0 →
        ((0 : Int) = 0 ∨ (0 : Int) = 1) ∧ Q 0 M) ∧
      (v0 < 4 →
        ((1 : Int) = 0 ∨ (1 : Int) = 1) ∧ Q 1 M))) :
    xW d cd_182 Q (0, [(0, v0)], [], M) := xWc_ok [] 8 h
theorem sg_183_0 {d : Nat} {Q : Int → xH → Prop} {v0 v1 v2 v3 : Int} {M : xH} (h :
    True ∧ xCall d 182 [(0, v1)] M (fun r1 H1 =>
      (r1 = 0 →
        True ∧ Q (-2) H1) ∧
      (r1 ≠ 0 →
        (v2 < 0 →
          True ∧ Q (-2) H1) ∧
        (0 ≤ v2 →
          (3 < v2 →
            True ∧ Q (-2) H1) ∧
          (v2 ≤ 3 →
            (v3 ≤ 60 →
              (0 ≤ v3 →
                H1.2.1 v0 = 11 ∧ (24 ≤ H1.2.1 (H1.1 v0 15) ∧ (0 : Int) ≤ v1 ∧ v1 < H1.2.2.1 (H1.1 v0 15)) ∧ (H1.1 (H1.1 v0 15) v1 ≠ 0 ∧ True) ∧ xCall d 320 [(2, H1.1 (H1.1 v0 15) v1), (1, 0)] H1 (fun r2 H2 =>
                  H2.2.1 v0 = 11 ∧ ((0 : Int) < H2.1 v0 16 ∧ H2.2.1 (H2.1 v0 16) = 20 ∧ (0 : Int) ≤ v1 ∧ v1 < H2.2.2.1 (H2.1 v0 16)) ∧ H2.2.1 v0 = 11 ∧ ((0 : Int) < (xUp H2.1 (H2.1 v0 16) v1 v3) v0 17 ∧ H2.2.1 ((xUp H2.1 (H2.1 v0 16) v1 v3) v0 17) = 20 ∧ (0 : Int) ≤ v1 ∧ v1 < H2.2.2.1 ((xUp H2.1 (H2.1 v0 16) v1 v3) v0 17)) ∧ True ∧ Q 0 (xUp (xUp H2.1 (H2.1 v0 16) v1 v3) ((xUp H2.1 (H2.1 v0 16) v1 v3) v0 17) v1 v2, H2.2))) ∧
              (v3 < 0 →
                True ∧ Q (-3) H1)) ∧
            (60 < v3 →
              True ∧ Q (-2) H1)))))) :
    xW d cd_183 Q (0, [(2, v0), (0, v1), (0, v2), (0, v3)], [], M) := xWc_ok [] 31 h
theorem sg_184_0 {d : Nat} {Q : Int → xH → Prop} {v0 v1 v2 v3 : Int} {M : xH} (h :
    True ∧ xCall d 182 [(0, v1)] M (fun r1 H1 =>
      (r1 ≠ 0 →
        H1.2.1 v0 = 11 ∧ (H1.2.1 (H1.1 v0 16) = 20 ∧ (0 : Int) ≤ v1 ∧ v1 < H1.2.2.1 (H1.1 v0 16)) ∧ (H1.1 (H1.1 v0 16) v1 ≠ (-1) →
          (v2 < 0 →
            True ∧ Q (-7) H1) ∧
          (0 ≤ v2 →
            H1.2.1 v0 = 11 ∧ (H1.2.1 (H1.1 v0 16) = 20 ∧ (0 : Int) ≤ v1 ∧ v1 < H1.2.2.1 (H1.1 v0 16)) ∧ (v2 < H1.1 (H1.1 v0 16) v1 →
              H1.2.1 v0 = 11 ∧ (24 ≤ H1.2.1 (H1.1 v0 15) ∧ (0 : Int) ≤ v1 ∧ v1 < H1.2.2.1 (H1.1 v0 15)) ∧ H1.2.1 v0 = 11 ∧ (H1.2.1 (H1.1 v0 17) = 20 ∧ (0 : Int) ≤ v1 ∧ v1 < H1.2.2.1 (H1.1 v0 17)) ∧ True ∧ xCall d 185 [(0, H1.1 (H1.1 v0 17) v1), (1, v3)] H1 (fun r2 H2 =>
                ((0 : Int) < H1.1 (H1.1 v0 15) v1 ∧ H2.2.1 (H1.1 (H1.1 v0 15) v1) = 23 ∧ (0 : Int) ≤ v2 ∧ v2 < H2.2.2.1 (H1.1 (H1.1 v0 15) v1)) ∧ True ∧ Q 0 (xUp H2.1 (H1.1 (H1.1 v0 15) v1) v2 r2, H2.2))) ∧
            (H1.1 (H1.1 v0 16) v1 ≤ v2 →
              True ∧ Q (-7) H1))) ∧
        (H1.1 (H1.1 v0 16) v1 = (-1) →
          True ∧ Q (-6) H1)) ∧
      (r1 = 0 →
        True ∧ Q (-2) H1))) :
    xW d cd_184 Q (0, [(2, v0), (0, v1), (0, v2), (1, v3), (9, 0)], [], M) := xWc_ok [] 31 h
theorem sg_185_0 {d : Nat} {Q : Int → xH → Prop} {v0 v1 : Int} {M : xH} (h :
    ((v0 = 0 →
      True ∧ Q (w8 (w32 v1)) M) ∧
    (v0 = 1 →
      True ∧ Q (w16 (w32 v1)) M) ∧
    (v0 = 2 →
      True ∧ Q (w32 v1) M) ∧
    True) ∧
    (v0 < 0 ∨ 3 ≤ v0 →
      True ∧ Q v1 M)) :
    xW d cd_185 Q (0, [(0, v0), (1, v1), (9, 0)], [], M) := xWc_ok [] 7 h
theorem sg_186_0 {d : Nat} {Q : Int → xH → Prop} {v0 v1 v2 v3 v4 v5 : Int} {M : xH} (h :
    True ∧ xCall d 182 [(0, v1)] M (fun r1 H1 =>
      (r1 = 0 →
        True ∧ Q (-2) H1) ∧
      (r1 ≠ 0 →
        True ∧ xCall d 182 [(0, v3)] H1 (fun r2 H2 =>
          (r2 ≠ 0 →
            H2.2.1 v0 = 11 ∧ (H2.2.1 (H2.1 v0 16) = 20 ∧ (0 : Int) ≤ v1 ∧ v1 < H2.2.2.1 (H2.1 v0 16)) ∧ (H2.1 (H2.1 v0 16) v1 = (-1) →
              True ∧ Q (-6) H2) ∧
            (H2.1 (H2.1 v0 16) v1 ≠ (-1) →
              H2.2.1 v0 = 11 ∧ (H2.2.1 (H2.1 v0 16) = 20 ∧ (0 : Int) ≤ v3 ∧ v3 < H2.2.2.1 (H2.1 v0 16)) ∧ (H2.1 (H2.1 v0 16) v3 ≠ (-1) →
                H2.2.1 v0 = 11 ∧ (H2.2.1 (H2.1 v0 17) = 20 ∧ (0 : Int) ≤ v1 ∧ v1 < H2.2.2.1 (H2.1 v0 17)) ∧ H2.2.1 v0 = 11 ∧ (H2.2.1 (H2.1 v0 17) = 20 ∧ (0 : Int) ≤ v3 ∧ v3 < H2.2.2.1 (H2.1 v0 17)) ∧ (H2.1 (H2.1 v0 17) v1 = H2.1 (H2.1 v0 17) v3 →
                  H2.2.1 v0 = 11 ∧ (H2.2.1 (H2.1 v0 16) = 20 ∧ (0 : Int) ≤ v1 ∧ v1 < H2.2.2.1 (H2.1 v0 16)) ∧ True ∧ xCall d 187 [(0, v2), (0, v5), (0, H2.1 (H2.1 v0 16) v1)] H2 (fun r3 H3 =>
                    (r3 = 0 →
                      True ∧ Q (-7) H3) ∧
                    (r3 ≠ 0 →
                      H3.2.1 v0 = 11 ∧ (H3.2.1 (H3.1 v0 16) = 20 ∧ (0 : Int) ≤ v3 ∧ v3 < H3.2.2.1 (H3.1 v0 16)) ∧ True ∧ xCall d 187 [(0, v4), (0, v5), (0, H3.1 (H3.1 v0 16) v3)] H3 (fun r4 H4 =>
                        (r4 ≠ 0 →
                          H4.2.1 v0 = 11 ∧ (24 ≤ H4.2.1 (H4.1 v0 15) ∧ (0 : Int) ≤ v1 ∧ v1 < H4.2.2.1 (H4.1 v0 15)) ∧ H4.2.1 v0 = 11 ∧ (24 ≤ H4.2.1 (H4.1 v0 15) ∧ (0 : Int) ≤ v3 ∧ v3 < H4.2.2.1 (H4.1 v0 15)) ∧ (0 < d ∧ 0 < H4.1 (H4.1 v0 15) v1 ∧ 0 < H4.1 (H4.1 v0 15) v3 ∧ H4.2.1 (H4.1 (H4.1 v0 15) v1) = 23 ∧ H4.2.1 (H4.1 (H4.1 v0 15) v3) = 23 ∧ (0 : Int) ≤ v2 ∧ (0 : Int) ≤ v4 ∧ (0 : Int) ≤ v5 ∧ v2 + v5 ≤ H4.2.2.1 (H4.1 (H4.1 v0 15) v1) ∧ v4 + v5 ≤ H4.2.2.1 (H4.1 (H4.1 v0 15) v3)) ∧ True ∧ Q 0 (xCpy H4.1 (H4.1 (H4.1 v0 15) v1) v2 (H4.1 (H4.1 v0 15) v3) v4 v5, H4.2)) ∧
                        (r4 = 0 →
                          True ∧ Q (-7) H4))))) ∧
                (H2.1 (H2.1 v0 17) v1 ≠ H2.1 (H2.1 v0 17) v3 →
                  True ∧ Q (-8) H2)) ∧
              (H2.1 (H2.1 v0 16) v3 = (-1) →
                True ∧ Q (-6) H2))) ∧
          (r2 = 0 →
            True ∧ Q (-2) H2))))) :
    xW d cd_186 Q (0, [(2, v0), (0, v1), (0, v2), (0, v3), (0, v4), (0, v5)], [], M) := xWc_ok [] 57 h
theorem sg_187_0 {d : Nat} {Q : Int → xH → Prop} {v0 v1 v2 : Int} {M : xH} (h :
    (v0 < 0 →
      ((0 : Int) = 0 ∨ (0 : Int) = 1) ∧ Q 0 M) ∧
    (0 ≤ v0 →
      (v1 < 0 →
        ((0 : Int) = 0 ∨ (0 : Int) = 1) ∧ Q 0 M) ∧
      (0 ≤ v1 →
        (v2 < v0 →
          ((0 : Int) = 0 ∨ (0 : Int) = 1) ∧ Q 0 M) ∧
        (v0 ≤ v2 →
          (w32 (v2 - v0) < v1 →
            ((0 : Int) = 0 ∨ (0 : Int) = 1) ∧ Q 0 M) ∧
          (v1 ≤ w32 (v2 - v0) →
            ((1 : Int) = 0 ∨ (1 : Int) = 1) ∧ Q 1 M))))) :
    xW d cd_187 Q (0, [(0, v0), (0, v1), (0, v2)], [], M) := xWc_ok [] 15 h
