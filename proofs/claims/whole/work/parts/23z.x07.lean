/-! stretches of methods, by program -/
theorem sg_131_0 {d : Nat} {Q : Int → xH → Prop} {v0 v1 : Int} {M : xH} (h :
    (v1 < 0 →
      True ∧ Q (-2) M) ∧
    (0 ≤ v1 →
      M.2.1 v0 = 11 ∧ M.2.1 (M.1 v0 5) = 10 ∧ M.2.1 (M.1 (M.1 v0 5) 3) = 9 ∧ (v1 ≤ M.1 (M.1 (M.1 v0 5) 3) 0 →
        M.2.1 v0 = 11 ∧ M.2.1 (M.1 v0 5) = 10 ∧ M.2.1 (M.1 (M.1 v0 5) 3) = 9 ∧ M.2.1 (M.1 (M.1 v0 5) 3) = 9 ∧ M.2.1 v0 = 11 ∧ xCall d 125 [(2, v0)] (xUp M.1 (M.1 (M.1 v0 5) 3) 0 (w32 ((M.1 (M.1 (M.1 v0 5) 3) 0) - v1)), M.2) (fun r1 H1 =>
          H1.2.1 v0 = 11 ∧ H1.2.1 (H1.1 v0 5) = 10 ∧ H1.2.1 (H1.1 (H1.1 v0 5) 3) = 9 ∧ True ∧ Q (H1.1 (H1.1 (H1.1 v0 5) 3) 0) H1)) ∧
      (M.1 (M.1 (M.1 v0 5) 3) 0 < v1 →
        True ∧ Q (-2) M))) :
    xW d cd_131 Q (0, [(2, v0), (0, v1)], [], M) := xWc_ok [] 23 h
theorem sg_132_0 {d : Nat} {Q : Int → xH → Prop} {v0 v1 v2 : Int} {M : xH} (h :
    M.2.1 v0 = 11 ∧ M.2.1 (M.1 v0 5) = 10 ∧ xCall d 100 [(2, M.1 v0 5), (0, v1)] M (fun r1 H1 =>
      (r1 ≠ 0 →
        H1.2.1 v0 = 11 ∧ H1.2.1 (H1.1 v0 5) = 10 ∧ (24 ≤ H1.2.1 (H1.1 (H1.1 v0 5) 0) ∧ (0 : Int) ≤ v1 ∧ v1 < H1.2.2.1 (H1.1 (H1.1 v0 5) 0)) ∧ H1.1 (H1.1 (H1.1 v0 5) 0) v1 ≠ 0 ∧ H1.2.1 (H1.1 (H1.1 (H1.1 v0 5) 0) v1) = 4 ∧ H1.2.1 (H1.1 (H1.1 (H1.1 v0 5) 0) v1) = 4 ∧ xCall d 39 [(2, H1.1 (H1.1 (H1.1 v0 5) 0) v1), (0, H1.1 (H1.1 (H1.1 (H1.1 v0 5) 0) v1) 3), (0, v2), (0, 10000)] H1 (fun r2 H2 =>
          True ∧ Q r2 H2)) ∧
      (r1 = 0 →
        True ∧ Q (-2) H1))) :
    xW d cd_132 Q (0, [(2, v0), (0, v1), (0, v2), (9, 0)], [], M) := xWc_ok [] 18 h
theorem sg_133_0 {d : Nat} {Q : Int → xH → Prop} {v0 v1 v2 v3 v4 : Int} {M : xH} (h :
    M.2.1 v0 = 11 ∧ M.2.1 (M.1 v0 5) = 10 ∧ xCall d 100 [(2, M.1 v0 5), (0, v1)] M (fun r1 H1 =>
      (r1 = 0 →
        True ∧ Q (-2) H1) ∧
      (r1 ≠ 0 →
        H1.2.1 v0 = 11 ∧ H1.2.1 (H1.1 v0 5) = 10 ∧ xCall d 100 [(2, H1.1 v0 5), (0, v3)] H1 (fun r2 H2 =>
          (r2 = 0 →
            True ∧ Q (-2) H2) ∧
          (r2 ≠ 0 →
            H2.2.1 v0 = 11 ∧ H2.2.1 (H2.1 v0 5) = 10 ∧ xCall d 103 [(2, H2.1 v0 5), (0, v2)] H2 (fun r3 H3 =>
              (r3 ≠ 0 →
                H3.2.1 v0 = 11 ∧ H3.2.1 v0 = 11 ∧ (H3.1 v0 5 ≠ 0 ∧ H3.2.1 (H3.1 v0 9) = 1) ∧ xCall d 23 [(2, H3.1 v0 9), (2, H3.1 v0 5), (0, v1), (0, v2), (0, v4)] H3 (fun r4 H4 =>
                  H4.2.1 v0 = 11 ∧ H4.2.1 (H4.1 v0 9) = 1 ∧ (H4.2.1 (H4.1 (H4.1 v0 9) 8) = 20 ∧ (0 : Int) ≤ v3 ∧ v3 < H4.2.2.1 (H4.1 (H4.1 v0 9) 8)) ∧ True ∧ Q (H4.1 (H4.1 (H4.1 v0 9) 8) v3) H4)) ∧
              (r3 = 0 →
                True ∧ Q (-2) H3))))))) :
    xW d cd_133 Q (0, [(2, v0), (0, v1), (0, v2), (0, v3), (0, v4)], [], M) := xWc_ok [] 29 h
theorem sg_134_0 {d : Nat} {Q : Int → xH → Prop} {v0 v1 v2 v3 : Int} {M : xH} (h :
    M.2.1 v0 = 11 ∧ M.2.1 (M.1 v0 5) = 10 ∧ xCall d 100 [(2, M.1 v0 5), (0, v1)] M (fun r1 H1 =>
      (r1 = 0 →
        True ∧ Q (-2) H1) ∧
      (r1 ≠ 0 →
        H1.2.1 v0 = 11 ∧ H1.2.1 (H1.1 v0 5) = 10 ∧ xCall d 103 [(2, H1.1 v0 5), (0, v2)] H1 (fun r2 H2 =>
          (r2 ≠ 0 →
            H2.2.1 v0 = 11 ∧ H2.2.1 v0 = 11 ∧ (H2.1 v0 5 ≠ 0 ∧ H2.2.1 (H2.1 v0 9) = 1) ∧ xCall d 23 [(2, H2.1 v0 9), (2, H2.1 v0 5), (0, v1), (0, v2), (0, v3)] H2 (fun r3 H3 =>
              xW d cd_134 Q (24, [(2, v0), (0, v1), (0, v2), (0, v3), (0, 0), (0, 0)], [], H3))) ∧
          (r2 = 0 →
            True ∧ Q (-2) H2))))) :
    xW d cd_134 Q (0, [(2, v0), (0, v1), (0, v2), (0, v3), (9, 0), (9, 0)], [], M) := xWc_ok [24] 23 h
theorem sg_134_24 {d : Nat} {Q : Int → xH → Prop} {v0 v3 v4 v5 : Int} {u1 u2 : xV} {M : xH} (h :
    M.2.1 v0 = 11 ∧ M.2.1 (M.1 v0 5) = 10 ∧ (M.1 (M.1 v0 5) 4 ≤ v5 →
      True ∧ Q v4 M) ∧
    (v5 < M.1 (M.1 v0 5) 4 →
      M.2.1 v0 = 11 ∧ M.2.1 (M.1 v0 9) = 1 ∧ (M.2.1 (M.1 (M.1 v0 9) 8) = 20 ∧ (0 : Int) ≤ v5 ∧ v5 < M.2.2.1 (M.1 (M.1 v0 9) 8)) ∧ (M.1 (M.1 (M.1 v0 9) 8) v5 = (-1) →
        xW d cd_134 Q (24, [(2, v0), u1, u2, (0, v3), (0, v4), (0, w32 (v5 + 1))], [], M)) ∧
      (M.1 (M.1 (M.1 v0 9) 8) v5 ≠ (-1) →
        M.2.1 v0 = 11 ∧ M.2.1 (M.1 v0 5) = 10 ∧ xCall d 107 [(2, M.1 v0 5), (0, v5)] M (fun r1 H1 =>
          (r1 = 0 →
            xW d cd_134 Q (24, [(2, v0), u1, u2, (0, v3), (0, v4), (0, w32 (v5 + 1))], [], H1)) ∧
          (r1 ≠ 0 →
            xW d cd_134 Q (24, [(2, v0), u1, u2, (0, v3), (0, xOr v4 (xShl 1 v5)), (0, w32 (v5 + 1))], [], H1)))))) :
    xW d cd_134 Q (24, [(2, v0), u1, u2, (0, v3), (0, v4), (0, v5)], [], M) := xWc_ok [24] 26 h
theorem sg_135_0 {d : Nat} {Q : Int → xH → Prop} {v0 v1 v2 : Int} {M : xH} (h :
    M.2.1 v0 = 11 ∧ M.2.1 (M.1 v0 5) = 10 ∧ xCall d 100 [(2, M.1 v0 5), (0, v1)] M (fun r1 H1 =>
      (r1 ≠ 0 →
        H1.2.1 v0 = 11 ∧ H1.2.1 (H1.1 v0 9) = 1 ∧ True ∧ xCall d 16 [(0, v1), (0, v2)] H1 (fun r2 H2 =>
          (H2.2.1 (H1.1 (H1.1 v0 9) 7) = 20 ∧ (0 : Int) ≤ r2 ∧ r2 < H2.2.2.1 (H1.1 (H1.1 v0 9) 7)) ∧ (H2.1 (H1.1 (H1.1 v0 9) 7) r2 ≠ 1000000 →
            True ∧ Q (H2.1 (H1.1 (H1.1 v0 9) 7) r2) H2) ∧
          (H2.1 (H1.1 (H1.1 v0 9) 7) r2 = 1000000 →
            True ∧ Q (-1) H2))) ∧
      (r1 = 0 →
        True ∧ Q (-2) H1))) :
    xW d cd_135 Q (0, [(2, v0), (0, v1), (0, v2), (9, 0)], [], M) := xWc_ok [] 19 h
theorem sg_136_0 {d : Nat} {Q : Int → xH → Prop} {v0 v1 v2 v3 : Int} {M : xH} (h :
    M.2.1 v0 = 11 ∧ M.2.1 (M.1 v0 5) = 10 ∧ xCall d 100 [(2, M.1 v0 5), (0, v1)] M (fun r1 H1 =>
      (r1 = 0 →
        True ∧ Q (-2) H1) ∧
      (r1 ≠ 0 →
        H1.2.1 v0 = 11 ∧ H1.2.1 (H1.1 v0 5) = 10 ∧ xCall d 103 [(2, H1.1 v0 5), (0, v2)] H1 (fun r2 H2 =>
          (r2 ≠ 0 →
            H2.2.1 v0 = 11 ∧ H2.2.1 v0 = 11 ∧ (H2.1 v0 5 ≠ 0 ∧ H2.2.1 (H2.1 v0 9) = 1) ∧ xCall d 23 [(2, H2.1 v0 9), (2, H2.1 v0 5), (0, v1), (0, v2), (0, v3)] H2 (fun r3 H3 =>
              xW d cd_136 Q (24, [(2, v0), (0, v1), (0, v2), (0, v3), (0, 0), (0, 0), (9, 0)], [], H3))) ∧
          (r2 = 0 →
            True ∧ Q (-2) H2))))) :
    xW d cd_136 Q (0, [(2, v0), (0, v1), (0, v2), (0, v3), (9, 0), (9, 0), (9, 0)], [], M) := xWc_ok [24] 23 h
theorem sg_136_24 {d : Nat} {Q : Int → xH → Prop} {v0 v3 v4 v5 : Int} {u1 u2 u6 : xV} {M : xH} (h :
    M.2.1 v0 = 11 ∧ M.2.1 (M.1 v0 5) = 10 ∧ (M.1 (M.1 v0 5) 4 ≤ v5 →
      True ∧ Q v4 M) ∧
    (v5 < M.1 (M.1 v0 5) 4 →
      M.2.1 v0 = 11 ∧ M.2.1 (M.1 v0 9) = 1 ∧ (M.2.1 (M.1 (M.1 v0 9) 8) = 20 ∧ (0 : Int) ≤ v5 ∧ v5 < M.2.2.1 (M.1 (M.1 v0 9) 8)) ∧ (M.1 (M.1 (M.1 v0 9) 8) v5 = (-1) →
        xW d cd_136 Q (24, [(2, v0), u1, u2, (0, v3), (0, v4), (0, w32 (v5 + 1)), (0, M.1 (M.1 (M.1 v0 9) 8) v5)], [], M)) ∧
      (M.1 (M.1 (M.1 v0 9) 8) v5 ≠ (-1) →
        M.2.1 v0 = 11 ∧ M.2.1 (M.1 v0 9) = 1 ∧ True ∧ xCall d 16 [(0, v5), (0, v3)] M (fun r1 H1 =>
          (H1.2.1 (M.1 (M.1 v0 9) 7) = 20 ∧ (0 : Int) ≤ r1 ∧ r1 < H1.2.2.1 (M.1 (M.1 v0 9) 7)) ∧ (M.1 (M.1 (M.1 v0 9) 8) v5 < H1.1 (M.1 (M.1 v0 9) 7) r1 →
            xW d cd_136 Q (24, [(2, v0), u1, u2, (0, v3), (0, v4), (0, w32 (v5 + 1)), (0, M.1 (M.1 (M.1 v0 9) 8) v5)], [], H1)) ∧
          (H1.1 (M.1 (M.1 v0 9) 7) r1 ≤ M.1 (M.1 (M.1 v0 9) 8) v5 →
            xW d cd_136 Q (24, [(2, v0), u1, u2, (0, v3), (0, xOr v4 (xShl 1 v5)), (0, w32 (v5 + 1)), (0, M.1 (M.1 (M.1 v0 9) 8) v5)], [], H1)))))) :
    xW d cd_136 Q (24, [(2, v0), u1, u2, (0, v3), (0, v4), (0, v5), u6], [], M) := xWc_ok [24] 32 h
theorem sg_137_0 {d : Nat} {Q : Int → xH → Prop} {v0 : Int} {M : xH} (h :
    M.2.1 v0 = 11 ∧ M.2.1 v0 = 11 ∧ (M.1 v0 5 ≠ 0 ∧ M.2.1 (M.1 v0 9) = 1) ∧ xCall d 25 [(2, M.1 v0 9), (2, M.1 v0 5)] M (fun r1 H1 =>
      True ∧ Q r1 H1)) :
    xW d cd_137 Q (0, [(2, v0)], [], M) := xWc_ok [] 6 h
theorem sg_138_0 {d : Nat} {Q : Int → xH → Prop} {v0 v1 : Int} {M : xH} (h :
    True ∧ xCall d 140 [(0, v1)] M (fun r1 H1 =>
      (r1 = 0 →
        True ∧ Q (-2) H1) ∧
      (r1 ≠ 0 →
        H1.2.1 v0 = 11 ∧ H1.2.1 (H1.1 v0 5) = 10 ∧ H1.2.1 (H1.1 (H1.1 v0 5) 2) = 6 ∧ xCall d 58 [(2, H1.1 (H1.1 v0 5) 2), (0, v1)] H1 (fun r2 H2 =>
          True ∧ Q r2 H2)))) :
    xW d cd_138 Q (0, [(2, v0), (0, v1)], [], M) := xWc_ok [] 10 h
theorem sg_139_0 {d : Nat} {Q : Int → xH → Prop} {v0 v1 : Int} {M : xH} (h :
    True ∧ xCall d 140 [(0, v1)] M (fun r1 H1 =>
      (r1 ≠ 0 →
        H1.2.1 v0 = 11 ∧ H1.2.1 (H1.1 v0 5) = 10 ∧ H1.2.1 (H1.1 (H1.1 v0 5) 2) = 6 ∧ xCall d 58 [(2, H1.1 (H1.1 v0 5) 2), (0, v1)] H1 (fun r2 H2 =>
          (r2 ≠ (-1) →
            H2.2.1 v0 = 11 ∧ H2.2.1 (H2.1 v0 5) = 10 ∧ H2.2.1 (H2.1 (H2.1 v0 5) 2) = 6 ∧ xCall d 59 [(2, H2.1 (H2.1 v0 5) 2), (0, r2), (0, v1)] H2 (fun r3 H3 =>
              True ∧ Q r3 H3)) ∧
          (r2 = (-1) →
            True ∧ Q (-1) H2))) ∧
      (r1 = 0 →
        True ∧ Q (-2) H1))) :
    xW d cd_139 Q (0, [(2, v0), (0, v1), (9, 0)], [], M) := xWc_ok [] 19 h
theorem sg_140_0 {d : Nat} {Q : Int → xH → Prop} {v0 : Int} {M : xH} (h :
    (v0 < 1 →
      ((0 : Int) = 0 ∨ (0 : Int) = 1) ∧ Q 0 M) ∧
    (1 ≤ v0 →
      (2000 < v0 →
        ((0 : Int) = 0 ∨ (0 : Int) = 1) ∧ Q 0 M) ∧
      (v0 ≤ 2000 →
        ((1 : Int) = 0 ∨ (1 : Int) = 1) ∧ Q 1 M))) :
    xW d cd_140 Q (0, [(0, v0)], [], M) := xWc_ok [] 9 h
theorem sg_141_0 {d : Nat} {Q : Int → xH → Prop} {v0 : Int} {M : xH} (h :
    M.2.1 v0 = 11 ∧ M.2.1 (M.1 v0 5) = 10 ∧ M.2.1 (M.1 (M.1 v0 5) 2) = 6 ∧ xCall d 60 [(2, M.1 (M.1 v0 5) 2)] M (fun r1 H1 =>
      True ∧ Q r1 H1)) :
    xW d cd_141 Q (0, [(2, v0)], [], M) := xWc_ok [] 5 h
theorem sg_142_0 {d : Nat} {Q : Int → xH → Prop} {v0 v1 v2 v3 v4 v5 v6 : Int} {M : xH} (h :
    True ∧ xCall d 145 [(0, v1)] M (fun r1 H1 =>
      (r1 = 0 →
        True ∧ Q (-2000000000) H1) ∧
      (r1 ≠ 0 →
        H1.2.1 v0 = 11 ∧ H1.2.1 (H1.1 v0 5) = 10 ∧ xCall d 104 [(2, H1.1 v0 5), (0, v2), (0, v3), (0, v4), (0, v6)] H1 (fun r2 H2 =>
          (r2 ≠ 0 →
            H2.2.1 v0 = 11 ∧ xCall d 146 [(2, v0), (0, v1)] H2 (fun r3 H3 =>
              r3 ≠ 0 ∧ H3.2.1 r3 = 5 ∧ xCall d 50 [(2, r3), (0, v4), (0, v6)] H3 (fun r4 H4 =>
                True ∧ xCall d 41 [(0, v4), (0, v6), (0, v2), (0, v3)] H4 (fun r5 H5 =>
                  H5.2.1 r3 = 5 ∧ xCall d 46 [(2, r3), (0, r5), (0, v5)] H5 (fun r6 H6 =>
                    True ∧ Q r6 H6))))) ∧
          (r2 = 0 →
            True ∧ Q (-2000000000) H2))))) :
    xW d cd_142 Q (0, [(2, v0), (0, v1), (0, v2), (0, v3), (0, v4), (0, v5), (0, v6), (9, 0)], [], M) := xWc_ok [] 28 h
theorem sg_143_0 {d : Nat} {Q : Int → xH → Prop} {v0 v1 v2 v3 v4 v5 v6 : Int} {M : xH} (h :
    True ∧ xCall d 145 [(0, v1)] M (fun r1 H1 =>
      (r1 = 0 →
        True ∧ Q (-2) H1) ∧
      (r1 ≠ 0 →
        H1.2.1 v0 = 11 ∧ H1.2.1 (H1.1 v0 5) = 10 ∧ xCall d 104 [(2, H1.1 v0 5), (0, v2), (0, v3), (0, v4), (0, v6)] H1 (fun r2 H2 =>
          (r2 ≠ 0 →
            H2.2.1 v0 = 11 ∧ xCall d 146 [(2, v0), (0, v1)] H2 (fun r3 H3 =>
              r3 ≠ 0 ∧ H3.2.1 r3 = 5 ∧ xCall d 50 [(2, r3), (0, v4), (0, v6)] H3 (fun r4 H4 =>
                True ∧ xCall d 41 [(0, v4), (0, v6), (0, v2), (0, v3)] H4 (fun r5 H5 =>
                  H5.2.1 r3 = 5 ∧ xCall d 47 [(2, r3), (0, r5), (0, v5)] H5 (fun r6 H6 =>
                    True ∧ Q r6 H6))))) ∧
          (r2 = 0 →
            True ∧ Q (-2) H2))))) :
    xW d cd_143 Q (0, [(2, v0), (0, v1), (0, v2), (0, v3), (0, v4), (0, v5), (0, v6), (9, 0)], [], M) := xWc_ok [] 28 h
theorem sg_144_0 {d : Nat} {Q : Int → xH → Prop} {v0 v1 v2 v3 v4 v5 v6 : Int} {M : xH} (h :
    True ∧ xCall d 145 [(0, v1)] M (fun r1 H1 =>
      (r1 = 0 →
        True ∧ Q (-2) H1) ∧
      (r1 ≠ 0 →
        H1.2.1 v0 = 11 ∧ H1.2.1 (H1.1 v0 5) = 10 ∧ xCall d 104 [(2, H1.1 v0 5), (0, v2), (0, v3), (0, v4), (0, v6)] H1 (fun r2 H2 =>
          (r2 ≠ 0 →
            H2.2.1 v0 = 11 ∧ xCall d 146 [(2, v0), (0, v1)] H2 (fun r3 H3 =>
              r3 ≠ 0 ∧ H3.2.1 r3 = 5 ∧ xCall d 50 [(2, r3), (0, v4), (0, v6)] H3 (fun r4 H4 =>
                True ∧ xCall d 41 [(0, v4), (0, v6), (0, v2), (0, v3)] H4 (fun r5 H5 =>
                  H5.2.1 r3 = 5 ∧ xCall d 48 [(2, r3), (0, r5), (0, v5)] H5 (fun r6 H6 =>
                    True ∧ Q r6 H6))))) ∧
          (r2 = 0 →
            True ∧ Q (-2) H2))))) :
    xW d cd_144 Q (0, [(2, v0), (0, v1), (0, v2), (0, v3), (0, v4), (0, v5), (0, v6), (9, 0)], [], M) := xWc_ok [] 28 h
theorem sg_145_0 {d : Nat} {Q : Int → xH → Prop} {v0 : Int} {M : xH} (h :
    (v0 < 0 →
      ((0 : Int) = 0 ∨ (0 : Int) = 1) ∧ Q 0 M) ∧
    (0 ≤ v0 →
      (4 ≤ v0 →
        ((0 : Int) = 0 ∨ (0 : Int) = 1) ∧ Q 0 M) ∧
      (v0 < 4 →
        ((1 : Int) = 0 ∨ (1 : Int) = 1) ∧ Q 1 M))) :
    xW d cd_145 Q (0, [(0, v0)], [], M) := xWc_ok [] 8 h
theorem sg_146_0 {d : Nat} {Q : Int → xH → Prop} {v0 v1 : Int} {M : xH} (h :
    M.2.1 v0 = 11 ∧ (24 ≤ M.2.1 (M.1 v0 10) ∧ (0 : Int) ≤ v1 ∧ v1 < M.2.2.1 (M.1 v0 10)) ∧ (M.1 (M.1 v0 10) v1 ≠ 0 →
      M.2.1 v0 = 11 ∧ (24 ≤ M.2.1 (M.1 v0 10) ∧ (0 : Int) ≤ v1 ∧ v1 < M.2.2.1 (M.1 v0 10)) ∧ M.1 (M.1 v0 10) v1 ≠ 0 ∧ M.2.1 (M.1 (M.1 v0 10) v1) = 5 ∧ (M.1 (M.1 (M.1 v0 10) v1) 9 ≠ 0 →
        True ∧ Q (M.1 (M.1 v0 10) v1) M) ∧
      (M.1 (M.1 (M.1 v0 10) v1) 9 = 0 →
        M.2.1 v0 = 11 ∧ M.2.1 v0 = 11 ∧ (M.1 v0 5 ≠ 0 ∧ M.1 v0 9 ≠ 0 ∧ M.2.1 (M.1 (M.1 v0 10) v1) = 5) ∧ xCall d 42 [(2, M.1 (M.1 v0 10) v1), (2, M.1 v0 5), (2, M.1 v0 9), (0, v1)] M (fun r1 H1 =>
          True ∧ Q (M.1 (M.1 v0 10) v1) H1))) ∧
    (M.1 (M.1 v0 10) v1 = 0 →
      M.2.1 v0 = 11 ∧ (xNw M 5 0 (xNs.getD 5 0)).2.1 (M.2.2.2.1 : Int) = 5 ∧ xCall d 40 [(2, (M.2.2.2.1 : Int))] xNw M 5 0 (xNs.getD 5 0) (fun r2 H2 =>
        ((0 : Int) < M.1 v0 10 ∧ xEl (H2.2.1 (M.1 v0 10)) = H2.2.1 (M.2.2.2.1 : Int) ∧ 0 ≤ H2.2.1 (M.2.2.2.1 : Int) ∧ (0 : Int) ≤ v1 ∧ v1 < H2.2.2.1 (M.1 v0 10)) ∧ H2.2.1 v0 = 11 ∧ (24 ≤ H2.2.1 ((xUp H2.1 (M.1 v0 10) v1 (M.2.2.2.1 : Int)) v0 10) ∧ (0 : Int) ≤ v1 ∧ v1 < H2.2.2.1 ((xUp H2.1 (M.1 v0 10) v1 (M.2.2.2.1 : Int)) v0 10)) ∧ (xUp H2.1 (M.1 v0 10) v1 (M.2.2.2.1 : Int)) ((xUp H2.1 (M.1 v0 10) v1 (M.2.2.2.1 : Int)) v0 10) v1 ≠ 0 ∧ H2.2.1 ((xUp H2.1 (M.1 v0 10) v1 (M.2.2.2.1 : Int)) ((xUp H2.1 (M.1 v0 10) v1 (M.2.2.2.1 : Int)) v0 10) v1) = 5 ∧ ((xUp H2.1 (M.1 v0 10) v1 (M.2.2.2.1 : Int)) ((xUp H2.1 (M.1 v0 10) v1 (M.2.2.2.1 : Int)) ((xUp H2.1 (M.1 v0 10) v1 (M.2.2.2.1 : Int)) v0 10) v1) 9 ≠ 0 →
          True ∧ Q ((xUp H2.1 (M.1 v0 10) v1 (M.2.2.2.1 : Int)) ((xUp H2.1 (M.1 v0 10) v1 (M.2.2.2.1 : Int)) v0 10) v1) (xUp H2.1 (M.1 v0 10) v1 (M.2.2.2.1 : Int), H2.2)) ∧
        ((xUp H2.1 (M.1 v0 10) v1 (M.2.2.2.1 : Int)) ((xUp H2.1 (M.1 v0 10) v1 (M.2.2.2.1 : Int)) ((xUp H2.1 (M.1 v0 10) v1 (M.2.2.2.1 : Int)) v0 10) v1) 9 = 0 →
          H2.2.1 v0 = 11 ∧ H2.2.1 v0 = 11 ∧ ((xUp H2.1 (M.1 v0 10) v1 (M.2.2.2.1 : Int)) v0 5 ≠ 0 ∧ (xUp H2.1 (M.1 v0 10) v1 (M.2.2.2.1 : Int)) v0 9 ≠ 0 ∧ H2.2.1 ((xUp H2.1 (M.1 v0 10) v1 (M.2.2.2.1 : Int)) ((xUp H2.1 (M.1 v0 10) v1 (M.2.2.2.1 : Int)) v0 10) v1) = 5) ∧ xCall d 42 [(2, (xUp H2.1 (M.1 v0 10) v1 (M.2.2.2.1 : Int)) ((xUp H2.1 (M.1 v0 10) v1 (M.2.2.2.1 : Int)) v0 10) v1), (2, (xUp H2.1 (M.1 v0 10) v1 (M.2.2.2.1 : Int)) v0 5), (2, (xUp H2.1 (M.1 v0 10) v1 (M.2.2.2.1 : Int)) v0 9), (0, v1)] (xUp H2.1 (M.1 v0 10) v1 (M.2.2.2.1 : Int), H2.2) (fun r3 H3 =>
            True ∧ Q ((xUp H2.1 (M.1 v0 10) v1 (M.2.2.2.1 : Int)) ((xUp H2.1 (M.1 v0 10) v1 (M.2.2.2.1 : Int)) v0 10) v1) H3))))) :
    xW d cd_146 Q (0, [(2, v0), (0, v1), (9, 0)], [], M) := xWc_ok [] 29 h
theorem sg_147_0 {d : Nat} {Q : Int → xH → Prop} {v0 : Int} {M : xH} (h :
    M.2.1 v0 = 11 ∧ (24 ≤ M.2.1 (M.1 v0 10) ∧ (0 : Int) ≤ 4 ∧ 4 < M.2.2.1 (M.1 v0 10)) ∧ (M.1 (M.1 v0 10) 4 ≠ 0 →
      M.2.1 v0 = 11 ∧ (24 ≤ M.2.1 (M.1 v0 10) ∧ (0 : Int) ≤ 4 ∧ 4 < M.2.2.1 (M.1 v0 10)) ∧ M.2.1 v0 = 11 ∧ M.2.1 v0 = 11 ∧ (M.1 v0 5 ≠ 0 ∧ M.1 v0 9 ≠ 0 ∧ M.2.1 (M.1 (M.1 v0 10) 4) = 5) ∧ xCall d 42 [(2, M.1 (M.1 v0 10) 4), (2, M.1 v0 5), (2, M.1 v0 9), (0, 0)] M (fun r1 H1 =>
        H1.2.1 v0 = 11 ∧ (24 ≤ H1.2.1 (H1.1 v0 10) ∧ (0 : Int) ≤ 4 ∧ 4 < H1.2.2.1 (H1.1 v0 10)) ∧ True ∧ Q (H1.1 (H1.1 v0 10) 4) H1)) ∧
    (M.1 (M.1 v0 10) 4 = 0 →
      M.2.1 v0 = 11 ∧ (xNw M 5 0 (xNs.getD 5 0)).2.1 (M.2.2.2.1 : Int) = 5 ∧ xCall d 40 [(2, (M.2.2.2.1 : Int))] xNw M 5 0 (xNs.getD 5 0) (fun r2 H2 =>
        ((0 : Int) < M.1 v0 10 ∧ xEl (H2.2.1 (M.1 v0 10)) = H2.2.1 (M.2.2.2.1 : Int) ∧ 0 ≤ H2.2.1 (M.2.2.2.1 : Int) ∧ (0 : Int) ≤ 4 ∧ 4 < H2.2.2.1 (M.1 v0 10)) ∧ H2.2.1 v0 = 11 ∧ (24 ≤ H2.2.1 ((xUp H2.1 (M.1 v0 10) 4 (M.2.2.2.1 : Int)) v0 10) ∧ (0 : Int) ≤ 4 ∧ 4 < H2.2.2.1 ((xUp H2.1 (M.1 v0 10) 4 (M.2.2.2.1 : Int)) v0 10)) ∧ H2.2.1 v0 = 11 ∧ H2.2.1 v0 = 11 ∧ ((xUp H2.1 (M.1 v0 10) 4 (M.2.2.2.1 : Int)) v0 5 ≠ 0 ∧ (xUp H2.1 (M.1 v0 10) 4 (M.2.2.2.1 : Int)) v0 9 ≠ 0 ∧ H2.2.1 ((xUp H2.1 (M.1 v0 10) 4 (M.2.2.2.1 : Int)) ((xUp H2.1 (M.1 v0 10) 4 (M.2.2.2.1 : Int)) v0 10) 4) = 5) ∧ xCall d 42 [(2, (xUp H2.1 (M.1 v0 10) 4 (M.2.2.2.1 : Int)) ((xUp H2.1 (M.1 v0 10) 4 (M.2.2.2.1 : Int)) v0 10) 4), (2, (xUp H2.1 (M.1 v0 10) 4 (M.2.2.2.1 : Int)) v0 5), (2, (xUp H2.1 (M.1 v0 10) 4 (M.2.2.2.1 : Int)) v0 9), (0, 0)] (xUp H2.1 (M.1 v0 10) 4 (M.2.2.2.1 : Int), H2.2) (fun r3 H3 =>
          H3.2.1 v0 = 11 ∧ (24 ≤ H3.2.1 (H3.1 v0 10) ∧ (0 : Int) ≤ 4 ∧ 4 < H3.2.2.1 (H3.1 v0 10)) ∧ True ∧ Q (H3.1 (H3.1 v0 10) 4) H3)))) :
    xW d cd_147 Q (0, [(2, v0)], [], M) := xWc_ok [] 27 h
theorem sg_148_0 {d : Nat} {Q : Int → xH → Prop} {v0 v1 : Int} {M : xH} (h :
    True ∧ xCall d 145 [(0, v1)] M (fun r1 H1 =>
      (r1 = 0 →
        True ∧ Q (-2000000000) H1) ∧
      (r1 ≠ 0 →
        H1.2.1 v0 = 11 ∧ H1.2.1 (H1.1 v0 5) = 10 ∧ xCall d 105 [(2, H1.1 v0 5)] H1 (fun r2 H2 =>
          (r2 ≠ 0 →
            H2.2.1 v0 = 11 ∧ xCall d 146 [(2, v0), (0, v1)] H2 (fun r3 H3 =>
              H3.2.1 v0 = 11 ∧ H3.2.1 (H3.1 v0 5) = 10 ∧ xCall d 106 [(2, H3.1 v0 5)] H3 (fun r4 H4 =>
                H4.2.1 r3 = 5 ∧ xCall d 49 [(2, r3), (0, r4)] H4 (fun r5 H5 =>
                  True ∧ Q r5 H5)))) ∧
          (r2 = 0 →
            True ∧ Q (-2000000000) H2))))) :
    xW d cd_148 Q (0, [(2, v0), (0, v1)], [], M) := xWc_ok [] 15 h
theorem sg_149_0 {d : Nat} {Q : Int → xH → Prop} {v0 v1 : Int} {M : xH} (h :
    (v1 = 1 →
      M.2.1 v0 = 11 ∧ M.2.1 (M.1 v0 5) = 10 ∧ xCall d 105 [(2, M.1 v0 5)] M (fun r1 H1 =>
        (r1 ≠ 0 →
          H1.2.1 v0 = 11 ∧ H1.2.1 (H1.1 v0 5) = 10 ∧ xCall d 106 [(2, H1.1 v0 5)] H1 (fun r2 H2 =>
            H2.2.1 v0 = 11 ∧ xCall d 146 [(2, v0), (0, 0)] H2 (fun r3 H3 =>
              H3.2.1 r3 = 5 ∧ xCall d 49 [(2, r3), (0, r2)] H3 (fun r4 H4 =>
                H4.2.1 v0 = 11 ∧ xCall d 146 [(2, v0), (0, v1)] H4 (fun r5 H5 =>
                  H5.2.1 r5 = 5 ∧ xCall d 49 [(2, r5), (0, r2)] H5 (fun r6 H6 =>
                    True ∧ Q (w32 (r4 - r6)) H6)))))) ∧
        (r1 = 0 →
          True ∧ Q (-2000000000) H1))) ∧
    (v1 ≠ 1 →
      (v1 ≠ 3 →
        True ∧ Q (-2000000000) M) ∧
      (v1 = 3 →
        M.2.1 v0 = 11 ∧ M.2.1 (M.1 v0 5) = 10 ∧ xCall d 105 [(2, M.1 v0 5)] M (fun r7 H7 =>
          (r7 ≠ 0 →
            H7.2.1 v0 = 11 ∧ H7.2.1 (H7.1 v0 5) = 10 ∧ xCall d 106 [(2, H7.1 v0 5)] H7 (fun r8 H8 =>
              H8.2.1 v0 = 11 ∧ xCall d 146 [(2, v0), (0, 0)] H8 (fun r9 H9 =>
                H9.2.1 r9 = 5 ∧ xCall d 49 [(2, r9), (0, r8)] H9 (fun r10 H10 =>
                  H10.2.1 v0 = 11 ∧ xCall d 146 [(2, v0), (0, v1)] H10 (fun r11 H11 =>
                    H11.2.1 r11 = 5 ∧ xCall d 49 [(2, r11), (0, r8)] H11 (fun r12 H12 =>
                      True ∧ Q (w32 (r10 - r12)) H12)))))) ∧
          (r7 = 0 →
            True ∧ Q (-2000000000) H7))))) :
    xW d cd_149 Q (0, [(2, v0), (0, v1), (9, 0)], [], M) := xWc_ok [] 26 h
theorem sg_150_0 {d : Nat} {Q : Int → xH → Prop} {v0 v1 v2 v3 : Int} {M : xH} (h :
    M.2.1 v0 = 11 ∧ xCall d 152 [(2, v0), (0, v1), (0, v2), (0, 1), (0, v3)] M (fun r1 H1 =>
      True ∧ Q r1 H1)) :
    xW d cd_150 Q (0, [(2, v0), (0, v1), (0, v2), (0, v3)], [], M) := xWc_ok [] 7 h
theorem sg_151_0 {d : Nat} {Q : Int → xH → Prop} {v0 v1 v2 v3 : Int} {M : xH} (h :
    M.2.1 v0 = 11 ∧ xCall d 152 [(2, v0), (0, v1), (0, v2), (0, 0), (0, v3)] M (fun r1 H1 =>
      True ∧ Q r1 H1)) :
    xW d cd_151 Q (0, [(2, v0), (0, v1), (0, v2), (0, v3)], [], M) := xWc_ok [] 7 h
theorem sg_152_0 {d : Nat} {Q : Int → xH → Prop} {v0 v1 v2 v3 v4 : Int} {M : xH} (h :
    M.2.1 v0 = 11 ∧ M.2.1 v0 = 11 ∧ M.2.1 (M.1 v0 5) = 10 ∧ M.2.1 (M.1 v0 5) = 10 ∧ xCall d 104 [(2, M.1 v0 5), (0, v1), (0, M.1 (M.1 v0 5) 9), (0, v2), (0, v4)] M (fun r1 H1 =>
      (r1 ≠ 0 →
        H1.2.1 v0 = 11 ∧ xCall d 146 [(2, v0), (0, 0)] H1 (fun r2 H2 =>
          r2 ≠ 0 ∧ H2.2.1 r2 = 5 ∧ xCall d 50 [(2, r2), (0, v2), (0, v4)] H2 (fun r3 H3 =>
            H3.2.1 v0 = 11 ∧ H3.2.1 (H3.1 v0 5) = 10 ∧ (24 ≤ H3.2.1 (H3.1 (H3.1 v0 5) 0) ∧ (0 : Int) ≤ v1 ∧ v1 < H3.2.2.1 (H3.1 (H3.1 v0 5) 0)) ∧ H3.2.1 (H3.1 (H3.1 (H3.1 v0 5) 0) v1) = 4 ∧ xW d cd_152 Q (27, [(2, v0), (0, v1), (0, v2), (0, v3), (0, v4), (2, r2), (0, H3.1 (H3.1 (H3.1 (H3.1 v0 5) 0) v1) 0)], [], H3)))) ∧
      (r1 = 0 →
        True ∧ Q (-2) H1))) :
    xW d cd_152 Q (0, [(2, v0), (0, v1), (0, v2), (0, v3), (0, v4), (9, 0), (9, 0)], [], M) := xWc_ok [27] 26 h
theorem sg_152_27 {d : Nat} {Q : Int → xH → Prop} {v0 v1 v2 v3 v4 v5 v6 : Int} {M : xH} (h :
    M.2.1 v0 = 11 ∧ M.2.1 (M.1 v0 5) = 10 ∧ (M.1 (M.1 v0 5) 9 < v6 →
      True ∧ Q (-1) M) ∧
    (v6 ≤ M.1 (M.1 v0 5) 9 →
      True ∧ xCall d 41 [(0, v2), (0, v4), (0, v1), (0, v6)] M (fun r1 H1 =>
        H1.2.1 v5 = 5 ∧ xCall d 47 [(2, v5), (0, r1), (0, v3)] H1 (fun r2 H2 =>
          (r2 < 100 →
            xW d cd_152 Q (27, [(2, v0), (0, v1), (0, v2), (0, v3), (0, v4), (2, v5), (0, w32 (v6 + 1))], [], H2)) ∧
          (100 ≤ r2 →
            True ∧ Q v6 H2))))) :
    xW d cd_152 Q (27, [(2, v0), (0, v1), (0, v2), (0, v3), (0, v4), (2, v5), (0, v6)], [], M) := xWc_ok [27] 18 h
theorem sg_153_0 {d : Nat} {Q : Int → xH → Prop} {v0 v1 v2 : Int} {M : xH} (h :
    M.2.1 v0 = 11 ∧ M.2.1 (M.1 v0 5) = 10 ∧ xCall d 104 [(2, M.1 v0 5), (0, v1), (0, v2), (0, 0), (0, 0)] M (fun r1 H1 =>
      (r1 ≠ 0 →
        H1.2.1 v0 = 11 ∧ xCall d 146 [(2, v0), (0, 0)] H1 (fun r2 H2 =>
          r2 ≠ 0 ∧ H2.2.1 v0 = 11 ∧ H2.2.1 (H2.1 v0 5) = 10 ∧ xW d cd_153 Q (18, [(2, v0), (0, v1), (0, v2), (2, r2), (0, H2.1 (H2.1 v0 5) 10)], [], H2))) ∧
      (r1 = 0 →
        True ∧ Q (-2) H1))) :
    xW d cd_153 Q (0, [(2, v0), (0, v1), (0, v2), (9, 0), (9, 0)], [], M) := xWc_ok [18] 17 h
theorem sg_153_18 {d : Nat} {Q : Int → xH → Prop} {v1 v2 v3 v4 : Int} {u0 : xV} {M : xH} (h :
    (v4 < 0 →
      True ∧ Q (-1) M) ∧
    (0 ≤ v4 →
      M.2.1 v3 = 5 ∧ xCall d 50 [(2, v3), (0, v4), (0, 0)] M (fun r1 H1 =>
        True ∧ xCall d 41 [(0, v4), (0, 0), (0, v1), (0, v2)] H1 (fun r2 H2 =>
          H2.2.1 v3 = 5 ∧ xCall d 48 [(2, v3), (0, r2), (0, 0)] H2 (fun r3 H3 =>
            (r3 ≠ 10000 →
              xW d cd_153 Q (18, [u0, (0, v1), (0, v2), (2, v3), (0, w32 (v4 + (-1)))], [], H3)) ∧
            (r3 = 10000 →
              True ∧ Q v4 H3)))))) :
    xW d cd_153 Q (18, [u0, (0, v1), (0, v2), (2, v3), (0, v4)], [], M) := xWc_ok [18] 19 h
theorem sg_154_0 {d : Nat} {Q : Int → xH → Prop} {v0 v1 v2 v3 : Int} {M : xH} (h :
    M.2.1 v0 = 11 ∧ M.2.1 (M.1 v0 5) = 10 ∧ xCall d 104 [(2, M.1 v0 5), (0, v1), (0, v2), (0, v3), (0, 0)] M (fun r1 H1 =>
      (r1 ≠ 0 →
        H1.2.1 v0 = 11 ∧ H1.2.1 (H1.1 v0 5) = 10 ∧ (24 ≤ H1.2.1 (H1.1 (H1.1 v0 5) 0) ∧ (0 : Int) ≤ v1 ∧ v1 < H1.2.2.1 (H1.1 (H1.1 v0 5) 0)) ∧ H1.2.1 (H1.1 (H1.1 (H1.1 v0 5) 0) v1) = 4 ∧ (H1.1 (H1.1 (H1.1 (H1.1 v0 5) 0) v1) 2 ≠ 0 →
          True ∧ xCall d 41 [(0, v3), (0, 0), (0, v1), (0, v2)] H1 (fun r2 H2 =>
            xW d cd_154 Q (27, [(2, v0), (0, v1), (0, v2), (0, v3), (0, r2), (0, 0), (9, 0)], [], H2))) ∧
        (H1.1 (H1.1 (H1.1 (H1.1 v0 5) 0) v1) 2 = 0 →
          True ∧ Q (-1) H1)) ∧
      (r1 = 0 →
        True ∧ Q (-2) H1))) :
    xW d cd_154 Q (0, [(2, v0), (0, v1), (0, v2), (0, v3), (9, 0), (9, 0), (9, 0)], [], M) := xWc_ok [27] 24 h
theorem sg_154_27 {d : Nat} {Q : Int → xH → Prop} {v0 v1 v3 v4 v5 : Int} {u2 u6 : xV} {M : xH} (h :
    (2000 < v5 →
      True ∧ Q (-1) M) ∧
    (v5 ≤ 2000 →
      M.2.1 v0 = 11 ∧ xCall d 147 [(2, v0)] M (fun r1 H1 =>
        r1 ≠ 0 ∧ H1.2.1 v0 = 11 ∧ H1.2.1 (H1.1 v0 5) = 10 ∧ xCall d 114 [(2, H1.1 v0 5), (0, v5), (0, 0)] H1 (fun r2 H2 =>
          H2.2.1 r1 = 5 ∧ xCall d 45 [(2, r1), (0, v1), (0, r2)] H2 (fun r3 H3 =>
            H3.2.1 r1 = 5 ∧ xCall d 50 [(2, r1), (0, v3), (0, 0)] H3 (fun r4 H4 =>
              H4.2.1 r1 = 5 ∧ xCall d 47 [(2, r1), (0, v4), (0, 1)] H4 (fun r5 H5 =>
                (r5 ≠ 0 →
                  xW d cd_154 Q (27, [(2, v0), (0, v1), u2, (0, v3), (0, v4), (0, w32 (v5 + 250)), (2, r1)], [], H5)) ∧
                (r5 = 0 →
                  True ∧ Q v5 H5)))))))) :
    xW d cd_154 Q (27, [(2, v0), (0, v1), u2, (0, v3), (0, v4), (0, v5), u6], [], M) := xWc_ok [27] 26 h
theorem sg_155_0 {d : Nat} {Q : Int → xH → Prop} {v0 v1 v2 : Int} {M : xH} (h :
    True ∧ xCall d 145 [(0, v1)] M (fun r1 H1 =>
      (r1 = 0 →
        True ∧ Q (-2000000000) H1) ∧
      (r1 ≠ 0 →
        H1.2.1 v0 = 11 ∧ H1.2.1 (H1.1 v0 5) = 10 ∧ xCall d 105 [(2, H1.1 v0 5)] H1 (fun r2 H2 =>
          (r2 ≠ 0 →
            H2.2.1 v0 = 11 ∧ xCall d 146 [(2, v0), (0, v1)] H2 (fun r3 H3 =>
              r3 ≠ 0 ∧ H3.2.1 v0 = 11 ∧ H3.2.1 (H3.1 v0 5) = 10 ∧ xCall d 106 [(2, H3.1 v0 5)] H3 (fun r4 H4 =>
                H4.2.1 r3 = 5 ∧ xCall d 50 [(2, r3), (0, 0), (0, r4)] H4 (fun r5 H5 =>
                  H5.2.1 v0 = 11 ∧ (r3 ≠ 0 ∧ H5.2.1 (H5.1 v0 11) = 3) ∧ xCall d 30 [(2, H5.1 v0 11), (2, r3)] H5 (fun r6 H6 =>
                    (v2 = 0 →
                      H6.2.1 v0 = 11 ∧ H6.2.1 (H6.1 v0 11) = 3 ∧ True ∧ Q (H6.1 (H6.1 v0 11) 1) H6) ∧
                    (v2 ≠ 0 →
                      H6.2.1 v0 = 11 ∧ H6.2.1 (H6.1 v0 11) = 3 ∧ True ∧ Q (H6.1 (H6.1 v0 11) 2) H6)))))) ∧
          (r2 = 0 →
            True ∧ Q (-2000000000) H2))))) :
    xW d cd_155 Q (0, [(2, v0), (0, v1), (0, v2), (9, 0)], [], M) := xWc_ok [] 28 h
theorem sg_156_0 {d : Nat} {Q : Int → xH → Prop} {v0 v1 : Int} {M : xH} (h :
    M.2.1 v0 = 11 ∧ M.2.1 (M.1 v0 5) = 10 ∧ xCall d 100 [(2, M.1 v0 5), (0, v1)] M (fun r1 H1 =>
      (r1 = 0 →
        True ∧ Q (-2000000000) H1) ∧
      (r1 ≠ 0 →
        H1.2.1 v0 = 11 ∧ H1.2.1 (H1.1 v0 5) = 10 ∧ xCall d 105 [(2, H1.1 v0 5)] H1 (fun r2 H2 =>
          (r2 ≠ 0 →
            H2.2.1 v0 = 11 ∧ xCall d 159 [(2, v0), (0, v1), (0, 100)] H2 (fun r3 H3 =>
              H3.2.1 v0 = 11 ∧ xCall d 160 [(2, v0)] H3 (fun r4 H4 =>
                True ∧ Q (w32 (r3 - r4)) H4))) ∧
          (r2 = 0 →
            True ∧ Q (-2000000000) H2))))) :
    xW d cd_156 Q (0, [(2, v0), (0, v1)], [], M) := xWc_ok [] 17 h
theorem sg_157_0 {d : Nat} {Q : Int → xH → Prop} {v0 v1 : Int} {M : xH} (h :
    M.2.1 v0 = 11 ∧ M.2.1 (M.1 v0 5) = 10 ∧ xCall d 100 [(2, M.1 v0 5), (0, v1)] M (fun r1 H1 =>
      (r1 = 0 →
        True ∧ Q (-2000000000) H1) ∧
      (r1 ≠ 0 →
        H1.2.1 v0 = 11 ∧ H1.2.1 (H1.1 v0 5) = 10 ∧ xCall d 105 [(2, H1.1 v0 5)] H1 (fun r2 H2 =>
          (r2 ≠ 0 →
            H2.2.1 v0 = 11 ∧ H2.2.1 (H2.1 v0 5) = 10 ∧ xCall d 116 [(2, H2.1 v0 5), (0, v1)] H2 (fun r3 H3 =>
              H3.2.1 v0 = 11 ∧ xCall d 159 [(2, v0), (0, v1), (0, 100)] H3 (fun r4 H4 =>
                H4.2.1 v0 = 11 ∧ xCall d 159 [(2, v0), (0, v1), (0, 0)] H4 (fun r5 H5 =>
                  True ∧ xCall d 161 [(0, r3), (0, r4), (0, r5)] H5 (fun r6 H6 =>
                    H6.2.1 v0 = 11 ∧ xCall d 160 [(2, v0)] H6 (fun r7 H7 =>
                      True ∧ Q (w32 (r6 - r7)) H7)))))) ∧
          (r2 = 0 →
            True ∧ Q (-2000000000) H2))))) :
    xW d cd_157 Q (0, [(2, v0), (0, v1), (9, 0), (9, 0), (9, 0)], [], M) := xWc_ok [] 32 h
theorem sg_158_0 {d : Nat} {Q : Int → xH → Prop} {v0 v1 : Int} {M : xH} (h :
    M.2.1 v0 = 11 ∧ M.2.1 (M.1 v0 5) = 10 ∧ xCall d 100 [(2, M.1 v0 5), (0, v1)] M (fun r1 H1 =>
      (r1 = 0 →
        xW d cd_158 Q (9, [(2, v0), (0, v1), (9, 0), (9, 0), (9, 0), (9, 0), (9, 0)], [], H1)) ∧
      (r1 ≠ 0 →
        H1.2.1 v0 = 11 ∧ H1.2.1 (H1.1 v0 5) = 10 ∧ xCall d 105 [(2, H1.1 v0 5)] H1 (fun r2 H2 =>
          (r2 ≠ 0 →
            H2.2.1 v0 = 11 ∧ H2.2.1 (H2.1 v0 5) = 10 ∧ (24 ≤ H2.2.1 (H2.1 (H2.1 v0 5) 0) ∧ (0 : Int) ≤ v1 ∧ v1 < H2.2.2.1 (H2.1 (H2.1 v0 5) 0)) ∧ H2.1 (H2.1 (H2.1 v0 5) 0) v1 ≠ 0 ∧ H2.2.1 v0 = 11 ∧ H2.2.1 (H2.1 v0 5) = 10 ∧ xCall d 116 [(2, H2.1 v0 5), (0, v1)] H2 (fun r3 H3 =>
              H3.2.1 (H2.1 (H2.1 (H2.1 v0 5) 0) v1) = 4 ∧ H3.2.1 (H2.1 (H2.1 (H2.1 v0 5) 0) v1) = 4 ∧ xW d cd_158 Q (34, [(2, v0), (0, v1), (2, H2.1 (H2.1 (H2.1 v0 5) 0) v1), (0, r3), (0, w32 ((w32 (r3 * (H3.1 (H2.1 (H2.1 (H2.1 v0 5) 0) v1) 5))) + (w32 ((w32 (100 - r3)) * (H3.1 (H2.1 (H2.1 (H2.1 v0 5) 0) v1) 6))))), (9, 0), (9, 0)], [], H3))) ∧
          (r2 = 0 →
            xW d cd_158 Q (9, [(2, v0), (0, v1), (9, 0), (9, 0), (9, 0), (9, 0), (9, 0)], [], H2)))))) :
    xW d cd_158 Q (0, [(2, v0), (0, v1), (9, 0), (9, 0), (9, 0), (9, 0), (9, 0)], [], M) := xWc_ok [9, 34] 33 h
theorem sg_158_9 {d : Nat} {Q : Int → xH → Prop} {u0 u1 u2 u3 u4 u5 u6 : xV} {M : xH} (h :
    True ∧ Q (-2000000000) M) :
    xW d cd_158 Q (9, [u0, u1, u2, u3, u4, u5, u6], [], M) := xWc_ok [9, 34] 2 h
theorem sg_158_34 {d : Nat} {Q : Int → xH → Prop} {v0 v1 v2 v3 v4 : Int} {u5 u6 : xV} {M : xH} (h :
    M.2.1 v2 = 4 ∧ xCall d 38 [(2, v2), (0, v3), (0, 2)] M (fun r1 H1 =>
      H1.2.1 v0 = 11 ∧ xCall d 159 [(2, v0), (0, v1), (0, r1)] H1 (fun r2 H2 =>
        H2.2.1 v2 = 4 ∧ xCall d 38 [(2, v2), (0, v3), (0, 3)] H2 (fun r3 H3 =>
          H3.2.1 v0 = 11 ∧ xCall d 159 [(2, v0), (0, v1), (0, r3)] H3 (fun r4 H4 =>
            (10000 : Int) ≠ 0 ∧ H4.2.1 v0 = 11 ∧ xCall d 160 [(2, v0)] H4 (fun r5 H5 =>
              True ∧ Q (w32 ((w32 ((w32 ((w32 (v4 * r2)) + (w32 ((w32 (10000 - v4)) * r4)))).tdiv 10000)) - r5)) H5)))))) :
    xW d cd_158 Q (34, [(2, v0), (0, v1), (2, v2), (0, v3), (0, v4), u5, u6], [], M) := xWc_ok [9, 34] 31 h
