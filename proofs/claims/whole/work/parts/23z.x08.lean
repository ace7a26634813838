/-! stretches of methods, by program -/
theorem sg_159_0 {d : Nat} {Q : Int → xH → Prop} {v0 v1 v2 : Int} {M : xH} (h :
    M.2.1 v0 = 11 ∧ xCall d 146 [(2, v0), (0, 0)] M (fun r1 H1 =>
      r1 ≠ 0 ∧ H1.2.1 r1 = 5 ∧ (H1.2.1 (H1.1 r1 6) = 20 ∧ (0 : Int) ≤ v1 ∧ v1 < H1.2.2.1 (H1.1 r1 6)) ∧ (v2 = H1.1 (H1.1 r1 6) v1 →
        H1.2.1 v0 = 11 ∧ H1.2.1 (H1.1 v0 5) = 10 ∧ xCall d 106 [(2, H1.1 v0 5)] H1 (fun r2 H2 =>
          H2.2.1 r1 = 5 ∧ xCall d 49 [(2, r1), (0, r2)] H2 (fun r3 H3 =>
            True ∧ Q r3 H3))) ∧
      (v2 ≠ H1.1 (H1.1 r1 6) v1 →
        H1.2.1 v0 = 11 ∧ xCall d 147 [(2, v0)] H1 (fun r4 H4 =>
          r4 ≠ 0 ∧ H4.2.1 r4 = 5 ∧ xCall d 44 [(2, r4), (0, v1), (0, v2)] H4 (fun r5 H5 =>
            H5.2.1 v0 = 11 ∧ H5.2.1 (H5.1 v0 5) = 10 ∧ xCall d 106 [(2, H5.1 v0 5)] H5 (fun r6 H6 =>
              H6.2.1 r4 = 5 ∧ xCall d 49 [(2, r4), (0, r6)] H6 (fun r7 H7 =>
                True ∧ Q r7 H7))))))) :
    xW d cd_159 Q (0, [(2, v0), (0, v1), (0, v2), (9, 0)], [], M) := xWc_ok [] 23 h
theorem sg_160_0 {d : Nat} {Q : Int → xH → Prop} {v0 : Int} {M : xH} (h :
    M.2.1 v0 = 11 ∧ xCall d 146 [(2, v0), (0, 0)] M (fun r1 H1 =>
      H1.2.1 v0 = 11 ∧ H1.2.1 (H1.1 v0 5) = 10 ∧ xCall d 106 [(2, H1.1 v0 5)] H1 (fun r2 H2 =>
        H2.2.1 r1 = 5 ∧ xCall d 49 [(2, r1), (0, r2)] H2 (fun r3 H3 =>
          True ∧ Q r3 H3)))) :
    xW d cd_160 Q (0, [(2, v0)], [], M) := xWc_ok [] 8 h
theorem sg_161_0 {d : Nat} {Q : Int → xH → Prop} {v0 v1 v2 : Int} {M : xH} (h :
    (100 : Int) ≠ 0 ∧ True ∧ Q (w32 ((w32 ((w32 (v0 * v1)) + (w32 ((w32 (100 - v0)) * v2)))).tdiv 100)) M) :
    xW d cd_161 Q (0, [(0, v0), (0, v1), (0, v2)], [], M) := xWc_ok [] 12 h
theorem sg_162_0 {d : Nat} {Q : Int → xH → Prop} {v0 : Int} {M : xH} (h :
    M.2.1 v0 = 11 ∧ M.2.1 (M.1 v0 5) = 10 ∧ xCall d 105 [(2, M.1 v0 5)] M (fun r1 H1 =>
      (r1 ≠ 0 →
        H1.2.1 v0 = 11 ∧ H1.2.1 (H1.1 v0 5) = 10 ∧ (H1.1 (H1.1 v0 5) 8 ≠ 0 →
          H1.2.1 v0 = 11 ∧ xCall d 146 [(2, v0), (0, 0)] H1 (fun r2 H2 =>
            r2 ≠ 0 ∧ H2.2.1 r2 = 5 ∧ xCall d 49 [(2, r2), (0, 1)] H2 (fun r3 H3 =>
              H3.2.1 r2 = 5 ∧ xCall d 49 [(2, r2), (0, 0)] H3 (fun r4 H4 =>
                True ∧ Q (w32 (r3 - r4)) H4)))) ∧
        (H1.1 (H1.1 v0 5) 8 = 0 →
          True ∧ Q 0 H1)) ∧
      (r1 = 0 →
        True ∧ Q (-2000000000) H1))) :
    xW d cd_162 Q (0, [(2, v0), (9, 0)], [], M) := xWc_ok [] 20 h
theorem sg_163_0 {d : Nat} {Q : Int → xH → Prop} {v0 : Int} {M : xH} (h :
    M.2.1 v0 = 11 ∧ M.2.1 (M.1 v0 5) = 10 ∧ xCall d 105 [(2, M.1 v0 5)] M (fun r1 H1 =>
      (r1 = 0 →
        True ∧ Q (-1) H1) ∧
      (r1 ≠ 0 →
        H1.2.1 v0 = 11 ∧ H1.2.1 (H1.1 v0 5) = 10 ∧ xCall d 106 [(2, H1.1 v0 5)] H1 (fun r2 H2 =>
          (r2 ≠ 0 →
            H2.2.1 v0 = 11 ∧ xCall d 146 [(2, v0), (0, 0)] H2 (fun r3 H3 =>
              r3 ≠ 0 ∧ H3.2.1 r3 = 5 ∧ xCall d 50 [(2, r3), (0, 0), (0, 1)] H3 (fun r4 H4 =>
                H4.2.1 v0 = 11 ∧ H4.2.1 v0 = 11 ∧ (H4.1 v0 5 ≠ 0 ∧ H4.2.1 (H4.1 v0 13) = 0) ∧ xCall d 2 [(2, H4.1 v0 13), (2, H4.1 v0 5)] H4 (fun r5 H5 =>
                  xW d cd_163 Q (25, [(2, v0), (2, r3), (0, 0), (9, 0)], [], H5))))) ∧
          (r2 = 0 →
            True ∧ Q (-1) H2))))) :
    xW d cd_163 Q (0, [(2, v0), (9, 0), (9, 0), (9, 0)], [], M) := xWc_ok [25] 24 h
theorem sg_163_25 {d : Nat} {Q : Int → xH → Prop} {v0 v1 v2 : Int} {u3 : xV} {M : xH} (h :
    (100 ≤ v2 →
      True ∧ Q (-1) M) ∧
    (v2 < 100 →
      M.2.1 v0 = 11 ∧ M.2.1 (M.1 v0 13) = 0 ∧ (M.1 (M.1 v0 13) 15 ≠ 0 →
        True ∧ Q (-1) M) ∧
      (M.1 (M.1 v0 13) 15 = 0 →
        M.2.1 v0 = 11 ∧ (v1 ≠ 0 ∧ M.2.1 (M.1 v0 13) = 0) ∧ xCall d 7 [(2, M.1 v0 13), (2, v1)] M (fun r1 H1 =>
          (r1 ≠ 1 →
            H1.2.1 v0 = 11 ∧ H1.2.1 (H1.1 v0 13) = 0 ∧ xCall d 9 [(2, H1.1 v0 13), (1, r1)] H1 (fun r2 H2 =>
              xW d cd_163 Q (25, [(2, v0), (2, v1), (0, w32 (v2 + 1)), (0, r1)], [], H2))) ∧
          (r1 = 1 →
            H1.2.1 v0 = 11 ∧ H1.2.1 (H1.1 v0 13) = 0 ∧ True ∧ Q (H1.1 (H1.1 v0 13) 12) H1))))) :
    xW d cd_163 Q (25, [(2, v0), (2, v1), (0, v2), u3], [], M) := xWc_ok [25] 24 h
theorem sg_164_0 {d : Nat} {Q : Int → xH → Prop} {v0 v1 v2 : Int} {M : xH} (h :
    True ∧ xCall d 145 [(0, v1)] M (fun r1 H1 =>
      (r1 = 0 →
        True ∧ Q (-2) H1) ∧
      (r1 ≠ 0 →
        True ∧ xCall d 165 [(0, v2)] H1 (fun r2 H2 =>
          (r2 = 0 →
            True ∧ Q (-2) H2) ∧
          (r2 ≠ 0 →
            H2.2.1 v0 = 11 ∧ H2.2.1 (H2.1 v0 5) = 10 ∧ xCall d 105 [(2, H2.1 v0 5)] H2 (fun r3 H3 =>
              (r3 ≠ 0 →
                H3.2.1 v0 = 11 ∧ (H3.1 v0 12 ≠ 0 ∧ H3.2.1 v0 = 11) ∧ xCall d 166 [(2, v0), (2, H3.1 v0 12), (0, v1), (0, v2)] H3 (fun r4 H4 =>
                  H4.2.1 v0 = 11 ∧ H4.2.1 (H4.1 v0 12) = 0 ∧ True ∧ Q (H4.1 (H4.1 v0 12) 6) H4)) ∧
              (r3 = 0 →
                True ∧ Q (-2) H3))))))) :
    xW d cd_164 Q (0, [(2, v0), (0, v1), (0, v2)], [], M) := xWc_ok [] 20 h
theorem sg_165_0 {d : Nat} {Q : Int → xH → Prop} {v0 : Int} {M : xH} (h :
    (v0 < 0 →
      ((0 : Int) = 0 ∨ (0 : Int) = 1) ∧ Q 0 M) ∧
    (0 ≤ v0 →
      (2000000000 < v0 →
        ((0 : Int) = 0 ∨ (0 : Int) = 1) ∧ Q 0 M) ∧
      (v0 ≤ 2000000000 →
        ((1 : Int) = 0 ∨ (1 : Int) = 1) ∧ Q 1 M))) :
    xW d cd_165 Q (0, [(0, v0)], [], M) := xWc_ok [] 8 h
theorem sg_166_0 {d : Nat} {Q : Int → xH → Prop} {v0 v1 v2 v3 : Int} {M : xH} (h :
    M.2.1 v0 = 11 ∧ xCall d 146 [(2, v0), (0, v2)] M (fun r1 H1 =>
      r1 ≠ 0 ∧ H1.2.1 v0 = 11 ∧ H1.2.1 (H1.1 v0 5) = 10 ∧ xCall d 106 [(2, H1.1 v0 5)] H1 (fun r2 H2 =>
        H2.2.1 r1 = 5 ∧ xCall d 50 [(2, r1), (0, 0), (0, r2)] H2 (fun r3 H3 =>
          H3.2.1 v0 = 11 ∧ (r1 ≠ 0 ∧ H3.1 v0 5 ≠ 0 ∧ H3.2.1 v1 = 0) ∧ xCall d 6 [(2, v1), (2, r1), (2, H3.1 v0 5), (0, v3)] H3 (fun r4 H4 =>
            True ∧ Q 0 H4))))) :
    xW d cd_166 Q (0, [(2, v0), (2, v1), (0, v2), (0, v3), (9, 0)], [], M) := xWc_ok [] 17 h
theorem sg_167_0 {d : Nat} {Q : Int → xH → Prop} {v0 v1 v2 : Int} {M : xH} (h :
    M.2.1 v0 = 11 ∧ M.2.1 (M.1 v0 12) = 0 ∧ xCall d 12 [(2, M.1 v0 12), (0, v1), (0, v2)] M (fun r1 H1 =>
      True ∧ Q r1 H1)) :
    xW d cd_167 Q (0, [(2, v0), (0, v1), (0, v2)], [], M) := xWc_ok [] 6 h
theorem sg_168_0 {d : Nat} {Q : Int → xH → Prop} {v0 v1 : Int} {M : xH} (h :
    M.2.1 v0 = 11 ∧ M.2.1 (M.1 v0 12) = 0 ∧ xCall d 13 [(2, M.1 v0 12), (0, v1)] M (fun r1 H1 =>
      True ∧ Q r1 H1)) :
    xW d cd_168 Q (0, [(2, v0), (0, v1)], [], M) := xWc_ok [] 5 h
theorem sg_169_0 {d : Nat} {Q : Int → xH → Prop} {v0 v1 v2 : Int} {M : xH} (h :
    True ∧ xCall d 182 [(0, v1)] M (fun r1 H1 =>
      (r1 = 0 →
        True ∧ Q (-2) H1) ∧
      (r1 ≠ 0 →
        True ∧ xCall d 165 [(0, v2)] H1 (fun r2 H2 =>
          (r2 = 0 →
            True ∧ Q (-2) H2) ∧
          (r2 ≠ 0 →
            H2.2.1 v0 = 11 ∧ H2.2.1 (H2.1 v0 5) = 10 ∧ xCall d 105 [(2, H2.1 v0 5)] H2 (fun r3 H3 =>
              (r3 ≠ 0 →
                H3.2.1 v0 = 11 ∧ (H3.2.1 (H3.1 v0 16) = 20 ∧ (0 : Int) ≤ v1 ∧ v1 < H3.2.2.1 (H3.1 v0 16)) ∧ (H3.1 (H3.1 v0 16) v1 ≠ (-1) →
                  H3.2.1 v0 = 11 ∧ H3.2.1 v0 = 11 ∧ (H3.1 v0 5 ≠ 0 ∧ H3.2.1 (H3.1 v0 13) = 0) ∧ xCall d 1 [(2, H3.1 v0 13), (2, H3.1 v0 5), (0, v2)] H3 (fun r4 H4 =>
                    xW d cd_169 Q (30, [(2, v0), (0, v1), (0, v2), (0, 0), (0, 0)], [], H4))) ∧
                (H3.1 (H3.1 v0 16) v1 = (-1) →
                  True ∧ Q (-6) H3)) ∧
              (r3 = 0 →
                True ∧ Q (-2) H3))))))) :
    xW d cd_169 Q (0, [(2, v0), (0, v1), (0, v2), (9, 0), (9, 0)], [], M) := xWc_ok [30] 27 h
theorem sg_169_30 {d : Nat} {Q : Int → xH → Prop} {v0 v1 v2 v3 v4 : Int} {M : xH} (h :
    M.2.1 v0 = 11 ∧ (M.2.1 (M.1 v0 16) = 20 ∧ (0 : Int) ≤ v1 ∧ v1 < M.2.2.1 (M.1 v0 16)) ∧ (M.1 (M.1 v0 16) v1 ≤ v4 →
      True ∧ Q v3 M) ∧
    (v4 < M.1 (M.1 v0 16) v1 →
      M.2.1 v0 = 11 ∧ M.2.1 (M.1 v0 13) = 0 ∧ (M.1 (M.1 v0 13) 15 ≠ 0 →
        True ∧ Q v3 M) ∧
      (M.1 (M.1 v0 13) 15 = 0 →
        M.2.1 v0 = 11 ∧ M.2.1 v0 = 11 ∧ (24 ≤ M.2.1 (M.1 v0 15) ∧ (0 : Int) ≤ v1 ∧ v1 < M.2.2.1 (M.1 v0 15)) ∧ (M.2.1 (M.1 (M.1 v0 15) v1) = 23 ∧ (0 : Int) ≤ v4 ∧ v4 < M.2.2.1 (M.1 (M.1 v0 15) v1)) ∧ M.2.1 (M.1 v0 13) = 0 ∧ xCall d 9 [(2, M.1 v0 13), (1, M.1 (M.1 (M.1 v0 15) v1) v4)] M (fun r1 H1 =>
          (r1 ≠ 0 →
            xW d cd_169 Q (30, [(2, v0), (0, v1), (0, v2), (0, w32 (v3 + 1)), (0, w32 (v4 + 1))], [], H1)) ∧
          (r1 = 0 →
            True ∧ Q v3 H1))))) :
    xW d cd_169 Q (30, [(2, v0), (0, v1), (0, v2), (0, v3), (0, v4)], [], M) := xWc_ok [30] 24 h
theorem sg_170_0 {d : Nat} {Q : Int → xH → Prop} {v0 v1 v2 v3 : Int} {M : xH} (h :
    M.2.1 v0 = 11 ∧ xCall d 171 [(2, v0), (0, v1), (0, v2), (0, v3)] M (fun r1 H1 =>
      (r1 ≠ 0 →
        xW d cd_170 Q (12, [(2, v0), (0, v1), (0, v2), (0, v3), (0, 0), (0, 0)], [], H1)) ∧
      (r1 = 0 →
        True ∧ Q (-2) H1))) :
    xW d cd_170 Q (0, [(2, v0), (0, v1), (0, v2), (0, v3), (9, 0), (9, 0)], [], M) := xWc_ok [12] 11 h
theorem sg_170_12 {d : Nat} {Q : Int → xH → Prop} {v0 v1 v2 v3 v4 v5 : Int} {M : xH} (h :
    (v3 ≤ v5 →
      True ∧ Q v4 M) ∧
    (v5 < v3 →
      M.2.1 v0 = 11 ∧ (M.1 v0 13 ≠ 0 ∧ M.2.1 v0 = 11) ∧ xCall d 166 [(2, v0), (2, M.1 v0 13), (0, v1), (0, w32 (v2 + v5))] M (fun r1 H1 =>
        H1.2.1 v0 = 11 ∧ H1.2.1 (H1.1 v0 13) = 0 ∧ (H1.1 (H1.1 v0 13) 16 ≠ 1 →
          xW d cd_170 Q (12, [(2, v0), (0, v1), (0, v2), (0, v3), (0, v4), (0, w32 (v5 + 1))], [], H1)) ∧
        (H1.1 (H1.1 v0 13) 16 = 1 →
          xW d cd_170 Q (12, [(2, v0), (0, v1), (0, v2), (0, v3), (0, w32 (v4 + 1)), (0, w32 (v5 + 1))], [], H1))))) :
    xW d cd_170 Q (12, [(2, v0), (0, v1), (0, v2), (0, v3), (0, v4), (0, v5)], [], M) := xWc_ok [12] 20 h
theorem sg_171_0 {d : Nat} {Q : Int → xH → Prop} {v0 v1 v2 v3 : Int} {M : xH} (h :
    True ∧ xCall d 145 [(0, v1)] M (fun r1 H1 =>
      (r1 = 0 →
        ((0 : Int) = 0 ∨ (0 : Int) = 1) ∧ Q 0 H1) ∧
      (r1 ≠ 0 →
        True ∧ xCall d 165 [(0, v2)] H1 (fun r2 H2 =>
          (r2 = 0 →
            ((0 : Int) = 0 ∨ (0 : Int) = 1) ∧ Q 0 H2) ∧
          (r2 ≠ 0 →
            (v3 < 1 →
              ((0 : Int) = 0 ∨ (0 : Int) = 1) ∧ Q 0 H2) ∧
            (1 ≤ v3 →
              (40 < v3 →
                ((0 : Int) = 0 ∨ (0 : Int) = 1) ∧ Q 0 H2) ∧
              (v3 ≤ 40 →
                H2.2.1 v0 = 11 ∧ H2.2.1 (H2.1 v0 5) = 10 ∧ xCall d 105 [(2, H2.1 v0 5)] H2 (fun r3 H3 =>
                  (r3 = 0 →
                    ((0 : Int) = 0 ∨ (0 : Int) = 1) ∧ Q 0 H3) ∧
                  (r3 ≠ 0 →
                    ((1 : Int) = 0 ∨ (1 : Int) = 1) ∧ Q 1 H3))))))))) :
    xW d cd_171 Q (0, [(2, v0), (0, v1), (0, v2), (0, v3)], [], M) := xWc_ok [] 19 h
theorem sg_172_0 {d : Nat} {Q : Int → xH → Prop} {v0 v1 v2 v3 : Int} {M : xH} (h :
    M.2.1 v0 = 11 ∧ xCall d 171 [(2, v0), (0, v1), (0, v2), (0, v3)] M (fun r1 H1 =>
      (r1 ≠ 0 →
        xW d cd_172 Q (12, [(2, v0), (0, v1), (0, v2), (0, v3), (0, 0), (0, 0)], [], H1)) ∧
      (r1 = 0 →
        True ∧ Q (-2000000000) H1))) :
    xW d cd_172 Q (0, [(2, v0), (0, v1), (0, v2), (0, v3), (9, 0), (9, 0)], [], M) := xWc_ok [12] 11 h
theorem sg_172_12 {d : Nat} {Q : Int → xH → Prop} {v0 v1 v2 v3 v4 v5 : Int} {M : xH} (h :
    (v3 ≤ v5 →
      True ∧ Q v4 M) ∧
    (v5 < v3 →
      M.2.1 v0 = 11 ∧ (M.1 v0 13 ≠ 0 ∧ M.2.1 v0 = 11) ∧ xCall d 166 [(2, v0), (2, M.1 v0 13), (0, v1), (0, w32 (v2 + v5))] M (fun r1 H1 =>
        H1.2.1 v0 = 11 ∧ H1.2.1 (H1.1 v0 13) = 0 ∧ xW d cd_172 Q (12, [(2, v0), (0, v1), (0, v2), (0, v3), (0, w32 (v4 + (H1.1 (H1.1 v0 13) 17))), (0, w32 (v5 + 1))], [], H1)))) :
    xW d cd_172 Q (12, [(2, v0), (0, v1), (0, v2), (0, v3), (0, v4), (0, v5)], [], M) := xWc_ok [12] 20 h
theorem sg_173_0 {d : Nat} {Q : Int → xH → Prop} {v0 v1 v2 v3 v4 : Int} {M : xH} (h :
    M.2.1 v0 = 11 ∧ xCall d 171 [(2, v0), (0, v1), (0, v2), (0, v3)] M (fun r1 H1 =>
      (r1 = 0 →
        True ∧ Q (-2000000000) H1) ∧
      (r1 ≠ 0 →
        (v4 < 0 →
          True ∧ Q (-2000000000) H1) ∧
        (0 ≤ v4 →
          (v4 ≤ 4 →
            H1.2.1 v0 = 11 ∧ (H1.1 v0 13 ≠ 0 ∧ H1.2.1 v0 = 11) ∧ xCall d 166 [(2, v0), (2, H1.1 v0 13), (0, v1), (0, v2)] H1 (fun r2 H2 =>
              H2.2.1 v0 = 11 ∧ H2.2.1 (H2.1 v0 13) = 0 ∧ xCall d 14 [(2, H2.1 v0 13), (0, v4)] H2 (fun r3 H3 =>
                xW d cd_173 Q (26, [(2, v0), (0, v1), (0, v2), (0, v3), (0, v4), (0, r3), (0, 1), (9, 0)], [], H3)))) ∧
          (4 < v4 →
            True ∧ Q (-2000000000) H1))))) :
    xW d cd_173 Q (0, [(2, v0), (0, v1), (0, v2), (0, v3), (0, v4), (9, 0), (9, 0), (9, 0)], [], M) := xWc_ok [26] 25 h
theorem sg_173_26 {d : Nat} {Q : Int → xH → Prop} {v0 v1 v2 v3 v4 v5 v6 : Int} {u7 : xV} {M : xH} (h :
    (v3 ≤ v6 →
      True ∧ Q v5 M) ∧
    (v6 < v3 →
      M.2.1 v0 = 11 ∧ (M.1 v0 13 ≠ 0 ∧ M.2.1 v0 = 11) ∧ xCall d 166 [(2, v0), (2, M.1 v0 13), (0, v1), (0, w32 (v2 + v6))] M (fun r1 H1 =>
        H1.2.1 v0 = 11 ∧ H1.2.1 (H1.1 v0 13) = 0 ∧ xCall d 14 [(2, H1.1 v0 13), (0, v4)] H1 (fun r2 H2 =>
          (v4 ≠ 0 →
            (v4 = 1 →
              0 < d ∧ xW d cd_173 Q (26, [(2, v0), (0, v1), (0, v2), (0, v3), (0, v4), (0, max v5 r2), (0, w32 (v6 + 1)), (0, r2)], [], H2)) ∧
            (v4 ≠ 1 →
              (v4 ≠ 4 →
                xW d cd_173 Q (26, [(2, v0), (0, v1), (0, v2), (0, v3), (0, v4), (0, w32 (v5 + r2)), (0, w32 (v6 + 1)), (0, r2)], [], H2)) ∧
              (v4 = 4 →
                0 < d ∧ xW d cd_173 Q (26, [(2, v0), (0, v1), (0, v2), (0, v3), (0, v4), (0, max v5 r2), (0, w32 (v6 + 1)), (0, r2)], [], H2)))) ∧
          (v4 = 0 →
            0 < d ∧ xW d cd_173 Q (26, [(2, v0), (0, v1), (0, v2), (0, v3), (0, v4), (0, min v5 r2), (0, w32 (v6 + 1)), (0, r2)], [], H2)))))) :
    xW d cd_173 Q (26, [(2, v0), (0, v1), (0, v2), (0, v3), (0, v4), (0, v5), (0, v6), u7], [], M) := xWc_ok [26] 32 h
theorem sg_174_0 {d : Nat} {Q : Int → xH → Prop} {v0 : Int} {M : xH} (h :
    M.2.1 v0 = 11 ∧ M.2.1 (M.1 v0 5) = 10 ∧ xCall d 105 [(2, M.1 v0 5)] M (fun r1 H1 =>
      (r1 = 0 →
        True ∧ Q (-2) H1) ∧
      (r1 ≠ 0 →
        H1.2.1 v0 = 11 ∧ H1.2.1 v0 = 11 ∧ H1.2.1 v0 = 11 ∧ H1.2.1 v0 = 11 ∧ H1.2.1 (H1.1 v0 5) = 10 ∧ xCall d 108 [(2, H1.1 v0 5)] H1 (fun r2 H2 =>
          (H1.1 v0 5 ≠ 0 ∧ H1.1 v0 9 ≠ 0 ∧ H2.2.1 (H1.1 v0 14) = 8) ∧ xCall d 86 [(2, H1.1 v0 14), (2, H1.1 v0 5), (2, H1.1 v0 9), (0, r2)] H2 (fun r3 H3 =>
            True ∧ Q r3 H3))))) :
    xW d cd_174 Q (0, [(2, v0)], [], M) := xWc_ok [] 16 h
theorem sg_175_0 {d : Nat} {Q : Int → xH → Prop} {v0 v1 : Int} {M : xH} (h :
    M.2.1 v0 = 11 ∧ M.2.1 (M.1 v0 5) = 10 ∧ xCall d 105 [(2, M.1 v0 5)] M (fun r1 H1 =>
      (r1 ≠ 0 →
        H1.2.1 v0 = 11 ∧ H1.2.1 v0 = 11 ∧ H1.2.1 v0 = 11 ∧ H1.2.1 v0 = 11 ∧ H1.2.1 (H1.1 v0 5) = 10 ∧ xCall d 108 [(2, H1.1 v0 5)] H1 (fun r2 H2 =>
          (H1.1 v0 5 ≠ 0 ∧ H1.1 v0 9 ≠ 0 ∧ H2.2.1 (H1.1 v0 14) = 8) ∧ xCall d 86 [(2, H1.1 v0 14), (2, H1.1 v0 5), (2, H1.1 v0 9), (0, r2)] H2 (fun r3 H3 =>
            (r3 ≠ (-1) →
              H3.2.1 v0 = 11 ∧ H3.2.1 (H3.1 v0 14) = 8 ∧ xCall d 91 [(2, H3.1 v0 14), (0, r3)] H3 (fun r4 H4 =>
                (v1 < 0 →
                  True ∧ Q (-1) H4) ∧
                (0 ≤ v1 →
                  H4.2.1 v0 = 11 ∧ H4.2.1 (H4.1 v0 14) = 8 ∧ (H4.1 (H4.1 v0 14) 4 ≤ v1 →
                    True ∧ Q (-1) H4) ∧
                  (v1 < H4.1 (H4.1 v0 14) 4 →
                    H4.2.1 v0 = 11 ∧ H4.2.1 (H4.1 v0 14) = 8 ∧ (H4.2.1 (H4.1 (H4.1 v0 14) 3) = 20 ∧ (0 : Int) ≤ v1 ∧ v1 < H4.2.2.1 (H4.1 (H4.1 v0 14) 3)) ∧ True ∧ Q (H4.1 (H4.1 (H4.1 v0 14) 3) v1) H4)))) ∧
            (r3 = (-1) →
              True ∧ Q (-1) H3)))) ∧
      (r1 = 0 →
        True ∧ Q (-2) H1))) :
    xW d cd_175 Q (0, [(2, v0), (0, v1), (9, 0)], [], M) := xWc_ok [] 36 h
theorem sg_176_0 {d : Nat} {Q : Int → xH → Prop} {v0 v1 : Int} {M : xH} (h :
    M.2.1 v0 = 11 ∧ M.2.1 (M.1 v0 5) = 10 ∧ xCall d 105 [(2, M.1 v0 5)] M (fun r1 H1 =>
      (r1 = 0 →
        True ∧ Q (-2) H1) ∧
      (r1 ≠ 0 →
        (v1 < 0 →
          True ∧ Q (-2) H1) ∧
        (0 ≤ v1 →
          H1.2.1 v0 = 11 ∧ H1.2.1 (H1.1 v0 5) = 10 ∧ xCall d 108 [(2, H1.1 v0 5)] H1 (fun r2 H2 =>
            (v1 ≤ r2 →
              H2.2.1 v0 = 11 ∧ H2.2.1 v0 = 11 ∧ H2.2.1 v0 = 11 ∧ (H2.1 v0 5 ≠ 0 ∧ H2.1 v0 9 ≠ 0 ∧ H2.2.1 (H2.1 v0 14) = 8) ∧ xCall d 86 [(2, H2.1 v0 14), (2, H2.1 v0 5), (2, H2.1 v0 9), (0, v1)] H2 (fun r3 H3 =>
                True ∧ Q r3 H3)) ∧
            (r2 < v1 →
              True ∧ Q (-2) H2)))))) :
    xW d cd_176 Q (0, [(2, v0), (0, v1)], [], M) := xWc_ok [] 20 h
theorem sg_177_0 {d : Nat} {Q : Int → xH → Prop} {v0 : Int} {M : xH} (h :
    M.2.1 v0 = 11 ∧ M.2.1 (M.1 v0 5) = 10 ∧ xCall d 105 [(2, M.1 v0 5)] M (fun r1 H1 =>
      (r1 ≠ 0 →
        H1.2.1 v0 = 11 ∧ H1.2.1 (H1.1 v0 5) = 10 ∧ xCall d 108 [(2, H1.1 v0 5)] H1 (fun r2 H2 =>
          H2.2.1 v0 = 11 ∧ H2.2.1 v0 = 11 ∧ H2.2.1 v0 = 11 ∧ (H2.1 v0 5 ≠ 0 ∧ H2.1 v0 9 ≠ 0 ∧ H2.2.1 (H2.1 v0 14) = 8) ∧ xCall d 86 [(2, H2.1 v0 14), (2, H2.1 v0 5), (2, H2.1 v0 9), (0, r2)] H2 (fun r3 H3 =>
            (r3 ≠ (-1) →
              xW d cd_177 Q (28, [(2, v0), (0, r2), (0, r3), (0, (-1)), (0, 0), (9, 0), (9, 0)], [], H3)) ∧
            (r3 = (-1) →
              True ∧ Q (-1) H3)))) ∧
      (r1 = 0 →
        True ∧ Q (-2) H1))) :
    xW d cd_177 Q (0, [(2, v0), (9, 0), (9, 0), (9, 0), (9, 0), (9, 0), (9, 0)], [], M) := xWc_ok [28, 62] 25 h
theorem sg_177_28 {d : Nat} {Q : Int → xH → Prop} {v0 v1 v2 v3 v4 : Int} {u5 u6 : xV} {M : xH} (h :
    M.2.1 v0 = 11 ∧ M.2.1 (M.1 v0 5) = 10 ∧ (M.1 (M.1 v0 5) 4 ≤ v4 →
      True ∧ Q v3 M) ∧
    (v4 < M.1 (M.1 v0 5) 4 →
      M.2.1 v0 = 11 ∧ M.2.1 v0 = 11 ∧ M.2.1 v0 = 11 ∧ (M.1 v0 5 ≠ 0 ∧ M.1 v0 9 ≠ 0 ∧ M.2.1 (M.1 v0 14) = 8) ∧ xCall d 86 [(2, M.1 v0 14), (2, M.1 v0 5), (2, M.1 v0 9), (0, xAnd v1 (xXor (xShl 1 v4) (-1)))] M (fun r1 H1 =>
        (r1 ≠ (-1) →
          (r1 ≤ v2 →
            xW d cd_177 Q (62, [(2, v0), (0, v1), (0, v2), (0, v3), (0, v4), (0, r1), (0, r1)], [], H1)) ∧
          (v2 < r1 →
            xW d cd_177 Q (62, [(2, v0), (0, v1), (0, r1), (0, v4), (0, v4), (0, r1), (0, r1)], [], H1))) ∧
        (r1 = (-1) →
          ((1000000 : Int) ≤ v2 →
            xW d cd_177 Q (62, [(2, v0), (0, v1), (0, v2), (0, v3), (0, v4), (0, r1), (0, 1000000)], [], H1)) ∧
          (v2 < (1000000 : Int) →
            xW d cd_177 Q (62, [(2, v0), (0, v1), (0, 1000000), (0, v4), (0, v4), (0, r1), (0, 1000000)], [], H1)))))) :
    xW d cd_177 Q (28, [(2, v0), (0, v1), (0, v2), (0, v3), (0, v4), u5, u6], [], M) := xWc_ok [28, 62] 34 h
theorem sg_177_62 {d : Nat} {Q : Int → xH → Prop} {v0 v1 v2 v3 v4 : Int} {u5 u6 : xV} {M : xH} (h :
    xW d cd_177 Q (28, [(2, v0), (0, v1), (0, v2), (0, v3), (0, w32 (v4 + 1)), u5, u6], [], M)) :
    xW d cd_177 Q (62, [(2, v0), (0, v1), (0, v2), (0, v3), (0, v4), u5, u6], [], M) := xWc_ok [28, 62] 3 h
theorem sg_178_0 {d : Nat} {Q : Int → xH → Prop} {v0 v1 : Int} {M : xH} (h :
    ((v1 = 0 →
      M.2.1 v0 = 11 ∧ M.2.1 (M.1 v0 5) = 10 ∧ True ∧ Q (M.1 (M.1 v0 5) 4) M) ∧
    (v1 = 1 →
      M.2.1 v0 = 11 ∧ M.2.1 (M.1 v0 5) = 10 ∧ True ∧ Q (M.1 (M.1 v0 5) 5) M) ∧
    (v1 = 2 →
      M.2.1 v0 = 11 ∧ M.2.1 (M.1 v0 5) = 10 ∧ xCall d 109 [(2, M.1 v0 5)] M (fun r1 H1 =>
        True ∧ xCall d 319 [(0, r1)] H1 (fun r2 H2 =>
          True ∧ Q r2 H2))) ∧
    (v1 = 3 →
      M.2.1 v0 = 11 ∧ M.2.1 (M.1 v0 5) = 10 ∧ M.2.1 (M.1 (M.1 v0 5) 2) = 6 ∧ True ∧ Q (M.1 (M.1 (M.1 v0 5) 2) 0) M) ∧
    (v1 = 4 →
      M.2.1 v0 = 11 ∧ M.2.1 (M.1 v0 5) = 10 ∧ True ∧ Q (M.1 (M.1 v0 5) 6) M) ∧
    (v1 = 5 →
      M.2.1 v0 = 11 ∧ M.2.1 (M.1 v0 5) = 10 ∧ M.2.1 (M.1 (M.1 v0 5) 3) = 9 ∧ True ∧ Q (M.1 (M.1 (M.1 v0 5) 3) 0) M) ∧
    (v1 = 6 →
      M.2.1 v0 = 11 ∧ M.2.1 (M.1 v0 5) = 10 ∧ True ∧ Q (M.1 (M.1 v0 5) 15) M) ∧
    (v1 = 7 →
      M.2.1 v0 = 11 ∧ True ∧ Q (M.1 v0 1) M) ∧
    (v1 = 8 →
      M.2.1 v0 = 11 ∧ M.2.1 (M.1 v0 5) = 10 ∧ True ∧ Q (M.1 (M.1 v0 5) 10) M) ∧
    (v1 = 9 →
      M.2.1 v0 = 11 ∧ M.2.1 (M.1 v0 5) = 10 ∧ True ∧ Q (M.1 (M.1 v0 5) 9) M) ∧
    (v1 = 10 →
      M.2.1 v0 = 11 ∧ xCall d 179 [(2, v0)] M (fun r3 H3 =>
        True ∧ Q r3 H3)) ∧
    True) ∧
    (v1 < 0 ∨ 11 ≤ v1 →
      True ∧ Q (-1) M)) :
    xW d cd_178 Q (0, [(2, v0), (0, v1)], [], M) := xWc_ok [] 7 h
theorem sg_179_0 {d : Nat} {Q : Int → xH → Prop} {v0 : Int} {M : xH} (h :
    xW d cd_179 Q (4, [(2, v0), (0, 0), (0, 0)], [], M)) :
    xW d cd_179 Q (0, [(2, v0), (9, 0), (9, 0)], [], M) := xWc_ok [4] 5 h
theorem sg_179_4 {d : Nat} {Q : Int → xH → Prop} {v0 v1 v2 : Int} {M : xH} (h :
    (4 ≤ v2 →
      True ∧ Q v1 M) ∧
    (v2 < 4 →
      M.2.1 v0 = 11 ∧ (M.2.1 (M.1 v0 16) = 20 ∧ (0 : Int) ≤ v2 ∧ v2 < M.2.2.1 (M.1 v0 16)) ∧ (M.1 (M.1 v0 16) v2 = (-1) →
        xW d cd_179 Q (4, [(2, v0), (0, v1), (0, w32 (v2 + 1))], [], M)) ∧
      (M.1 (M.1 v0 16) v2 ≠ (-1) →
        xW d cd_179 Q (4, [(2, v0), (0, w32 (v1 + 1)), (0, w32 (v2 + 1))], [], M)))) :
    xW d cd_179 Q (4, [(2, v0), (0, v1), (0, v2)], [], M) := xWc_ok [4] 13 h
theorem sg_180_0 {d : Nat} {Q : Int → xH → Prop} {v0 v1 : Int} {M : xH} (h :
    (v1 < 0 →
      True ∧ Q (-2) M) ∧
    (0 ≤ v1 →
      (v1 < 3 →
        M.2.1 v0 = 11 ∧ (24 ≤ M.2.1 (M.1 v0 7) ∧ (0 : Int) ≤ v1 ∧ v1 < M.2.2.1 (M.1 v0 7)) ∧ M.2.1 v0 = 11 ∧ (M.1 v0 5 ≠ 0 ∧ M.2.1 (M.1 (M.1 v0 7) v1) = 10) ∧ xCall d 99 [(2, M.1 (M.1 v0 7) v1), (2, M.1 v0 5)] M (fun r1 H1 =>
          H1.2.1 v0 = 11 ∧ ((0 : Int) < H1.1 v0 8 ∧ H1.2.1 (H1.1 v0 8) = 22 ∧ (0 : Int) ≤ v1 ∧ v1 < H1.2.2.1 (H1.1 v0 8) ∧ ((1 : Int) = 0 ∨ (1 : Int) = 1)) ∧ True ∧ Q 0 (xUp H1.1 (H1.1 v0 8) v1 1, H1.2))) ∧
      (3 ≤ v1 →
        True ∧ Q (-2) M))) :
    xW d cd_180 Q (0, [(2, v0), (0, v1)], [], M) := xWc_ok [] 19 h
theorem sg_181_0 {d : Nat} {Q : Int → xH → Prop} {v0 v1 : Int} {M : xH} (h :
    (v1 < 0 →
      True ∧ Q (-2) M) ∧
    (0 ≤ v1 →
      (v1 < 3 →
        M.2.1 v0 = 11 ∧ (M.2.1 (M.1 v0 8) = 22 ∧ (0 : Int) ≤ v1 ∧ v1 < M.2.2.1 (M.1 v0 8)) ∧ (M.1 (M.1 v0 8) v1 ≠ 0 →
          M.2.1 v0 = 11 ∧ M.2.1 v0 = 11 ∧ (24 ≤ M.2.1 (M.1 v0 7) ∧ (0 : Int) ≤ v1 ∧ v1 < M.2.2.1 (M.1 v0 7)) ∧ (M.1 (M.1 v0 7) v1 ≠ 0 ∧ M.2.1 (M.1 v0 5) = 10) ∧ xCall d 99 [(2, M.1 v0 5), (2, M.1 (M.1 v0 7) v1)] M (fun r1 H1 =>
            H1.2.1 v0 = 11 ∧ H1.2.1 v0 = 11 ∧ (H1.1 v0 5 ≠ 0 ∧ H1.2.1 (H1.1 v0 9) = 1) ∧ xCall d 17 [(2, H1.1 v0 9), (2, H1.1 v0 5)] H1 (fun r2 H2 =>
              H2.2.1 v0 = 11 ∧ xCall d 125 [(2, v0)] H2 (fun r3 H3 =>
                True ∧ Q 0 H3)))) ∧
        (M.1 (M.1 v0 8) v1 = 0 →
          True ∧ Q (-6) M)) ∧
      (3 ≤ v1 →
        True ∧ Q (-2) M))) :
    xW d cd_181 Q (0, [(2, v0), (0, v1)], [], M) := xWc_ok [] 26 h
theorem sg_182_0 {d : Nat} {Q : Int → xH → Prop} {v0 : Int} {M : xH} (h :
    (v0 < 0 →
      ((0 : Int) = 0 ∨ (0 : Int) = 1) ∧ Q 0 M) ∧
    (0 ≤ v0 →
      (4 ≤ v0 →
        ((0 : Int) = 0 ∨ (0 : Int) = 1) ∧ Q 0 M) ∧
      (v0 < 4 →
        ((1 : Int) = 0 ∨ (1 : Int) = 1) ∧ Q 1 M))) :
    xW d cd_182 Q (0, [(0, v0)], [], M) := xWc_ok [] 8 h
theorem sg_183_0 {d : Nat} {Q : Int → xH → Prop} {v0 v1 v2 v3 : Int} {M : xH} (h :
    True ∧ xCall d 182 [(0, v1)] M (fun r1 H1 =>
      (r1 = 0 →
        True ∧ Q (-2) H1) ∧
      (r1 ≠ 0 →
        (v2 < 0 →
          True ∧ Q (-2) H1) ∧
        (0 ≤ v2 →
          (3 < v2 →
            True ∧ Q (-2) H1) ∧
          (v2 ≤ 3 →
            (v3 ≤ 60 →
              (0 ≤ v3 →
                H1.2.1 v0 = 11 ∧ (24 ≤ H1.2.1 (H1.1 v0 15) ∧ (0 : Int) ≤ v1 ∧ v1 < H1.2.2.1 (H1.1 v0 15)) ∧ (H1.1 (H1.1 v0 15) v1 ≠ 0 ∧ True) ∧ xCall d 320 [(2, H1.1 (H1.1 v0 15) v1), (1, 0)] H1 (fun r2 H2 =>
                  H2.2.1 v0 = 11 ∧ ((0 : Int) < H2.1 v0 16 ∧ H2.2.1 (H2.1 v0 16) = 20 ∧ (0 : Int) ≤ v1 ∧ v1 < H2.2.2.1 (H2.1 v0 16)) ∧ H2.2.1 v0 = 11 ∧ ((0 : Int) < (xUp H2.1 (H2.1 v0 16) v1 v3) v0 17 ∧ H2.2.1 ((xUp H2.1 (H2.1 v0 16) v1 v3) v0 17) = 20 ∧ (0 : Int) ≤ v1 ∧ v1 < H2.2.2.1 ((xUp H2.1 (H2.1 v0 16) v1 v3) v0 17)) ∧ True ∧ Q 0 (xUp (xUp H2.1 (H2.1 v0 16) v1 v3) ((xUp H2.1 (H2.1 v0 16) v1 v3) v0 17) v1 v2, H2.2))) ∧
              (v3 < 0 →
                True ∧ Q (-3) H1)) ∧
            (60 < v3 →
              True ∧ Q (-2) H1)))))) :
    xW d cd_183 Q (0, [(2, v0), (0, v1), (0, v2), (0, v3)], [], M) := xWc_ok [] 31 h
theorem sg_184_0 {d : Nat} {Q : Int → xH → Prop} {v0 v1 v2 v3 : Int} {M : xH} (h :
    True ∧ xCall d 182 [(0, v1)] M (fun r1 H1 =>
      (r1 ≠ 0 →
        H1.2.1 v0 = 11 ∧ (H1.2.1 (H1.1 v0 16) = 20 ∧ (0 : Int) ≤ v1 ∧ v1 < H1.2.2.1 (H1.1 v0 16)) ∧ (H1.1 (H1.1 v0 16) v1 ≠ (-1) →
          (v2 < 0 →
            True ∧ Q (-7) H1) ∧
          (0 ≤ v2 →
            H1.2.1 v0 = 11 ∧ (H1.2.1 (H1.1 v0 16) = 20 ∧ (0 : Int) ≤ v1 ∧ v1 < H1.2.2.1 (H1.1 v0 16)) ∧ (v2 < H1.1 (H1.1 v0 16) v1 →
              H1.2.1 v0 = 11 ∧ (24 ≤ H1.2.1 (H1.1 v0 15) ∧ (0 : Int) ≤ v1 ∧ v1 < H1.2.2.1 (H1.1 v0 15)) ∧ H1.2.1 v0 = 11 ∧ (H1.2.1 (H1.1 v0 17) = 20 ∧ (0 : Int) ≤ v1 ∧ v1 < H1.2.2.1 (H1.1 v0 17)) ∧ True ∧ xCall d 185 [(0, H1.1 (H1.1 v0 17) v1), (1, v3)] H1 (fun r2 H2 =>
                ((0 : Int) < H1.1 (H1.1 v0 15) v1 ∧ H2.2.1 (H1.1 (H1.1 v0 15) v1) = 23 ∧ (0 : Int) ≤ v2 ∧ v2 < H2.2.2.1 (H1.1 (H1.1 v0 15) v1)) ∧ True ∧ Q 0 (xUp H2.1 (H1.1 (H1.1 v0 15) v1) v2 r2, H2.2))) ∧
            (H1.1 (H1.1 v0 16) v1 ≤ v2 →
              True ∧ Q (-7) H1))) ∧
        (H1.1 (H1.1 v0 16) v1 = (-1) →
          True ∧ Q (-6) H1)) ∧
      (r1 = 0 →
        True ∧ Q (-2) H1))) :
    xW d cd_184 Q (0, [(2, v0), (0, v1), (0, v2), (1, v3), (9, 0)], [], M) := xWc_ok [] 31 h
theorem sg_185_0 {d : Nat} {Q : Int → xH → Prop} {v0 v1 : Int} {M : xH} (h :
    ((v0 = 0 →
      True ∧ Q (w8 (w32 v1)) M) ∧
    (v0 = 1 →
      True ∧ Q (w16 (w32 v1)) M) ∧
    (v0 = 2 →
      True ∧ Q (w32 v1) M) ∧
    True) ∧
    (v0 < 0 ∨ 3 ≤ v0 →
      True ∧ Q v1 M)) :
    xW d cd_185 Q (0, [(0, v0), (1, v1), (9, 0)], [], M) := xWc_ok [] 7 h
theorem sg_186_0 {d : Nat} {Q : Int → xH → Prop} {v0 v1 v2 v3 v4 v5 : Int} {M : xH} (h :
    True ∧ xCall d 182 [(0, v1)] M (fun r1 H1 =>
      (r1 = 0 →
        xW d cd_186 Q (6, [(2, v0), (0, v1), (0, v2), (0, v3), (0, v4), (0, v5)], [], H1)) ∧
      (r1 ≠ 0 →
        True ∧ xCall d 182 [(0, v3)] H1 (fun r2 H2 =>
          (r2 ≠ 0 →
            H2.2.1 v0 = 11 ∧ (H2.2.1 (H2.1 v0 16) = 20 ∧ (0 : Int) ≤ v1 ∧ v1 < H2.2.2.1 (H2.1 v0 16)) ∧ (H2.1 (H2.1 v0 16) v1 = (-1) →
              xW d cd_186 Q (20, [(2, v0), (0, v1), (0, v2), (0, v3), (0, v4), (0, v5)], [], H2)) ∧
            (H2.1 (H2.1 v0 16) v1 ≠ (-1) →
              H2.2.1 v0 = 11 ∧ (H2.2.1 (H2.1 v0 16) = 20 ∧ (0 : Int) ≤ v3 ∧ v3 < H2.2.2.1 (H2.1 v0 16)) ∧ (H2.1 (H2.1 v0 16) v3 ≠ (-1) →
                H2.2.1 v0 = 11 ∧ (H2.2.1 (H2.1 v0 17) = 20 ∧ (0 : Int) ≤ v1 ∧ v1 < H2.2.2.1 (H2.1 v0 17)) ∧ H2.2.1 v0 = 11 ∧ (H2.2.1 (H2.1 v0 17) = 20 ∧ (0 : Int) ≤ v3 ∧ v3 < H2.2.2.1 (H2.1 v0 17)) ∧ (H2.1 (H2.1 v0 17) v1 = H2.1 (H2.1 v0 17) v3 →
                  xW d cd_186 Q (33, [(2, v0), (0, v1), (0, v2), (0, v3), (0, v4), (0, v5)], [], H2)) ∧
                (H2.1 (H2.1 v0 17) v1 ≠ H2.1 (H2.1 v0 17) v3 →
                  xW d cd_186 Q (31, [(2, v0), (0, v1), (0, v2), (0, v3), (0, v4), (0, v5)], [], H2))) ∧
              (H2.1 (H2.1 v0 16) v3 = (-1) →
                xW d cd_186 Q (20, [(2, v0), (0, v1), (0, v2), (0, v3), (0, v4), (0, v5)], [], H2)))) ∧
          (r2 = 0 →
            xW d cd_186 Q (6, [(2, v0), (0, v1), (0, v2), (0, v3), (0, v4), (0, v5)], [], H2)))))) :
    xW d cd_186 Q (0, [(2, v0), (0, v1), (0, v2), (0, v3), (0, v4), (0, v5)], [], M) := xWc_ok [6, 20, 31, 33, 49] 28 h
theorem sg_186_6 {d : Nat} {Q : Int → xH → Prop} {u0 u1 u2 u3 u4 u5 : xV} {M : xH} (h :
    True ∧ Q (-2) M) :
    xW d cd_186 Q (6, [u0, u1, u2, u3, u4, u5], [], M) := xWc_ok [6, 20, 31, 33, 49] 2 h
theorem sg_186_20 {d : Nat} {Q : Int → xH → Prop} {u0 u1 u2 u3 u4 u5 : xV} {M : xH} (h :
    True ∧ Q (-6) M) :
    xW d cd_186 Q (20, [u0, u1, u2, u3, u4, u5], [], M) := xWc_ok [6, 20, 31, 33, 49] 2 h
theorem sg_186_31 {d : Nat} {Q : Int → xH → Prop} {u0 u1 u2 u3 u4 u5 : xV} {M : xH} (h :
    True ∧ Q (-8) M) :
    xW d cd_186 Q (31, [u0, u1, u2, u3, u4, u5], [], M) := xWc_ok [6, 20, 31, 33, 49] 2 h
theorem sg_186_33 {d : Nat} {Q : Int → xH → Prop} {v0 v1 v2 v3 v4 v5 : Int} {M : xH} (h :
    M.2.1 v0 = 11 ∧ (M.2.1 (M.1 v0 16) = 20 ∧ (0 : Int) ≤ v1 ∧ v1 < M.2.2.1 (M.1 v0 16)) ∧ True ∧ xCall d 187 [(0, v2), (0, v5), (0, M.1 (M.1 v0 16) v1)] M (fun r1 H1 =>
      (r1 = 0 →
        xW d cd_186 Q (49, [(2, v0), (0, v1), (0, v2), (0, v3), (0, v4), (0, v5)], [], H1)) ∧
      (r1 ≠ 0 →
        H1.2.1 v0 = 11 ∧ (H1.2.1 (H1.1 v0 16) = 20 ∧ (0 : Int) ≤ v3 ∧ v3 < H1.2.2.1 (H1.1 v0 16)) ∧ True ∧ xCall d 187 [(0, v4), (0, v5), (0, H1.1 (H1.1 v0 16) v3)] H1 (fun r2 H2 =>
          (r2 ≠ 0 →
            H2.2.1 v0 = 11 ∧ (24 ≤ H2.2.1 (H2.1 v0 15) ∧ (0 : Int) ≤ v1 ∧ v1 < H2.2.2.1 (H2.1 v0 15)) ∧ H2.2.1 v0 = 11 ∧ (24 ≤ H2.2.1 (H2.1 v0 15) ∧ (0 : Int) ≤ v3 ∧ v3 < H2.2.2.1 (H2.1 v0 15)) ∧ (0 < d ∧ 0 < H2.1 (H2.1 v0 15) v1 ∧ 0 < H2.1 (H2.1 v0 15) v3 ∧ H2.2.1 (H2.1 (H2.1 v0 15) v1) = 23 ∧ H2.2.1 (H2.1 (H2.1 v0 15) v3) = 23 ∧ (0 : Int) ≤ v2 ∧ (0 : Int) ≤ v4 ∧ (0 : Int) ≤ v5 ∧ v2 + v5 ≤ H2.2.2.1 (H2.1 (H2.1 v0 15) v1) ∧ v4 + v5 ≤ H2.2.2.1 (H2.1 (H2.1 v0 15) v3)) ∧ True ∧ Q 0 (xCpy H2.1 (H2.1 (H2.1 v0 15) v1) v2 (H2.1 (H2.1 v0 15) v3) v4 v5, H2.2)) ∧
          (r2 = 0 →
            xW d cd_186 Q (49, [(2, v0), (0, v1), (0, v2), (0, v3), (0, v4), (0, v5)], [], H2)))))) :
    xW d cd_186 Q (33, [(2, v0), (0, v1), (0, v2), (0, v3), (0, v4), (0, v5)], [], M) := xWc_ok [6, 20, 31, 33, 49] 30 h
theorem sg_186_49 {d : Nat} {Q : Int → xH → Prop} {u0 u1 u2 u3 u4 u5 : xV} {M : xH} (h :
    True ∧ Q (-7) M) :
    xW d cd_186 Q (49, [u0, u1, u2, u3, u4, u5], [], M) := xWc_ok [6, 20, 31, 33, 49] 2 h
theorem sg_187_0 {d : Nat} {Q : Int → xH → Prop} {v0 v1 v2 : Int} {M : xH} (h :
    (v0 < 0 →
      ((0 : Int) = 0 ∨ (0 : Int) = 1) ∧ Q 0 M) ∧
    (0 ≤ v0 →
      (v1 < 0 →
        ((0 : Int) = 0 ∨ (0 : Int) = 1) ∧ Q 0 M) ∧
      (0 ≤ v1 →
        (v2 < v0 →
          ((0 : Int) = 0 ∨ (0 : Int) = 1) ∧ Q 0 M) ∧
        (v0 ≤ v2 →
          (w32 (v2 - v0) < v1 →
            ((0 : Int) = 0 ∨ (0 : Int) = 1) ∧ Q 0 M) ∧
          (v1 ≤ w32 (v2 - v0) →
            ((1 : Int) = 0 ∨ (1 : Int) = 1) ∧ Q 1 M))))) :
    xW d cd_187 Q (0, [(0, v0), (0, v1), (0, v2)], [], M) := xWc_ok [] 15 h
