/-! the start that is told -/
def zRs (Z : tZ) : Prop := Z.2.1 12 = -1 ∨ (0 ≤ Z.2.1 12 ∧ Z.2.1 12 < Z.2.1 1)
theorem zRs_0 : zRs zZ0 := Or.inl rfl
theorem zP_12 {j v : Int} {Z : tZ} (h : j ≠ 12) : (zP j v Z).2.1 12 = Z.2.1 12 := sUp_ne (Ne.symm h)
theorem zPn_12 {T : tSm} {l h k : Int} {Z : tZ} (hk : k ≠ 12) : (zPn T l h k Z).2.1 12 = Z.2.1 12 := zP_12 hk
theorem zPs_12 {T : tSm} {h k : Int} {Z : tZ} (hk : k ≠ 12) : (zPs T h k Z).2.1 12 = Z.2.1 12 := zP_12 hk
theorem zPt_12 {T : tSm} {s l h k : Int} {Z : tZ} (hk : k ≠ 12) : (zPt T s l h k Z).2.1 12 = Z.2.1 12 := zP_12 hk
theorem zIn_12 {c : Int} {Z : tZ} (hk : c ≠ 12) : (zIn c Z).2.1 12 = Z.2.1 12 := zP_12 hk
theorem zGo_12 {T : tSm} {Z : tZ} : (zGo T Z).2.1 12 = Z.2.1 12 := by unfold zGo; split <;> rfl
theorem zHm_12 {T : tSm} {Z : tZ} : (zHm T Z).2.1 12 = Z.2.1 12 := by unfold zHm; split <;> rfl
theorem zSp_12 {T : tSm} {Z : tZ} (h : 0 ≤ Z.2.1 3) : (zSp T Z).2.1 12 = Z.2.1 12 := (zIn_12 (by decide)).trans ((zPt_12 (k := 144 + 2 * Z.2.1 3 + 1) (by omega)).trans (zPn_12 (k := 144 + 2 * Z.2.1 3) (by omega)))
theorem zPl1_12 {T : tSm} {Z : tZ} (hp : 0 ≤ Z.2.1 1) : (zPl1 T Z).2.1 12 = Z.2.1 12 := zP_12 (j := 20 + 8 * Z.2.1 1) (by omega)
theorem zPl2_12 {T : tSm} {k : Int} {Z : tZ} (h1 : k + 1 ≠ 12) (h2 : k + 2 ≠ 12) : (zPl2 T k Z).2.1 12 = Z.2.1 12 := (zIn_12 (by decide)).trans ((zP_12 h2).trans (zP_12 (Z := Z) (v := 1) h1))
theorem zPl3_12 {k : Int} {Z : tZ} (h1 : k + 1 ≠ 12) : (zPl3 k Z).2.1 12 = Z.2.1 12 := (zIn_12 (by decide)).trans (zP_12 h1)
theorem zPl_12 {T : tSm} {Z : tZ} (hp : 0 ≤ Z.2.1 1) : (zPl T Z).2.1 12 = Z.2.1 12 := by
  unfold zPl
  split
  · exact (zPl2_12 (by omega) (by omega)).trans (zPl1_12 hp)
  · split
    · exact (zPl3_12 (by omega)).trans (zGo_12.trans (zHm_12.trans (zPl1_12 hp)))
    · exact (zIn_12 (by decide)).trans (zPl1_12 hp)
theorem zPp_12 {T : tSm} {k : Int} {Z : tZ} (hk : k ≠ 12) : (zPp T k Z).2.1 12 = Z.2.1 12 := zP_12 hk
theorem zLa_12 {T : tSm} {k : Int} {Z : tZ} (h : 84 ≤ k) : (zLa T k Z).2.1 12 = Z.2.1 12 := (zPs_12 (k := k + 3) (by omega)).trans ((zPn_12 (k := k + 2) (by omega)).trans (zPp_12 (k := k + 1) (by omega)))
theorem zLb_12 {T : tSm} {k : Int} {Z : tZ} (h : 84 ≤ k) : (zLb T k Z).2.1 12 = Z.2.1 12 := zPs_12 (k := k + 4) (by omega)
theorem zLc_12 {T : tSm} {k : Int} {Z : tZ} (h : 84 ≤ k) : (zLc T k Z).2.1 12 = Z.2.1 12 := by
  unfold zLc
  split
  · exact zPn_12 (k := k + 5) (by omega)
  · rfl
theorem zLe2_12 {T : tSm} {k : Int} {Z : tZ} (h : 84 ≤ k) : (zLe2 T k Z).2.1 12 = Z.2.1 12 := (zLc_12 h).trans ((zLb_12 h).trans (zLa_12 h))
theorem zBl_12 {T : tSm} {k : Int} {Z : tZ} : (zBl T k Z).2.1 12 = Z.2.1 12 := by unfold zBl; split <;> rfl
theorem zLe_12 {T : tSm} {Z : tZ} (h : 0 ≤ Z.2.1 2) : (zLe T Z).2.1 12 = Z.2.1 12 := (zIn_12 (by decide)).trans ((zLe2_12 (by omega)).trans (zBl_12.trans (zPp_12 (by omega))))
theorem zBf_12 {T : tSm} {Z : tZ} : (zBf T Z).2.1 12 = Z.2.1 12 := by unfold zBf; split <;> rfl
theorem zLi2_12 {T : tSm} {q : Int} {Z : tZ} (h : 20 ≤ q) : (zLi2 T q Z).2.1 12 = Z.2.1 12 := by
  unfold zLi2
  split
  · exact (zPn_12 (by omega)).trans (zPn_12 (k := q + 6) (by omega))
  · rfl
theorem zLi1_12 {T : tSm} {q c u : Int} {Z : tZ} (h : 20 ≤ q) : (zLi1 T q c u Z).2.1 12 = Z.2.1 12 := by
  unfold zLi1
  split
  · exact (zLi2_12 h).trans ((zP_12 (by omega)).trans ((zP_12 (by omega)).trans (zP_12 (by omega))))
  · rfl
theorem vPq_12 {T : tSm} {Z : tZ} : 20 ≤ 20 + 8 * vPq T Z := by
  have w := sNm_v (T := T) (S := Z.1) (lo := 0) (hi := Z.2.1 1 - 1)
  unfold vPq
  omega
theorem zLi_12 {T : tSm} {Z : tZ} : (zLi T Z).2.1 12 = Z.2.1 12 := (zLi1_12 vPq_12).trans (zBf_12 (T := T) (Z := Z))
theorem zBp_12 {T : tSm} {Z : tZ} : (zBp T Z).2.1 12 = Z.2.1 12 := by unfold zBp; split <;> rfl
theorem zPo1_12 {p : Int} {Z : tZ} : (zPo1 p Z).2.1 12 = Z.2.1 12 := by
  unfold zPo1
  split
  · exact zP_12 (by decide)
  · rfl
theorem zPo_12 {T : tSm} {Z : tZ} : (zPo T Z).2.1 12 = Z.2.1 12 := zPo1_12.trans (zBp_12 (T := T) (Z := Z))
theorem zP_1 {j v : Int} {Z : tZ} (h : j ≠ 1) : (zP j v Z).2.1 1 = Z.2.1 1 := sUp_ne (Ne.symm h)
theorem zPn_1 {T : tSm} {l h k : Int} {Z : tZ} (hk : k ≠ 1) : (zPn T l h k Z).2.1 1 = Z.2.1 1 := zP_1 hk
theorem zPs_1 {T : tSm} {h k : Int} {Z : tZ} (hk : k ≠ 1) : (zPs T h k Z).2.1 1 = Z.2.1 1 := zP_1 hk
theorem zPt_1 {T : tSm} {s l h k : Int} {Z : tZ} (hk : k ≠ 1) : (zPt T s l h k Z).2.1 1 = Z.2.1 1 := zP_1 hk
theorem zIn_1 {c : Int} {Z : tZ} (hk : c ≠ 1) : (zIn c Z).2.1 1 = Z.2.1 1 := zP_1 hk
theorem zSt1_1 {p h : Int} {Z : tZ} : (zSt1 p h Z).2.1 1 = Z.2.1 1 := by
  unfold zSt1
  split
  · exact (zP_1 (j := 13) (by decide)).trans (zP_1 (j := 12) (by decide))
  · rfl
theorem zSt_1 {T : tSm} {Z : tZ} : (zSt T Z).2.1 1 = Z.2.1 1 := zSt1_1.trans (zP_1 (j := 14) (by decide))
theorem zOn_1 {T : tSm} {k : Int} {Z : tZ} (_ : 0 ≤ k) : (zOn T k Z).2.1 1 = Z.2.1 1 := by
  have e : (zOn0 T k Z).2.1 1 = Z.2.1 1 := zP_1 (by decide)
  unfold zOn
  (repeat' split)
  · rw [zPn_1 (by decide), e]
  · rw [zPn_1 (by decide), e]
  · rw [zPn_1 (by decide), e]
  · rw [zPn_1 (by decide), e]
  · rw [zPt_1 (by decide), zPt_1 (by decide), zPt_1 (by decide), e]
  · rw [zSt_1, e]
theorem zGo_1 {T : tSm} {Z : tZ} : (zGo T Z).2.1 1 = Z.2.1 1 := by unfold zGo; split <;> rfl
theorem zHm_1 {T : tSm} {Z : tZ} : (zHm T Z).2.1 1 = Z.2.1 1 := by unfold zHm; split <;> rfl
theorem zSp_1 {T : tSm} {Z : tZ} (h : 0 ≤ Z.2.1 3) : (zSp T Z).2.1 1 = Z.2.1 1 := (zIn_1 (by decide)).trans ((zPt_1 (k := 144 + 2 * Z.2.1 3 + 1) (by omega)).trans (zPn_1 (k := 144 + 2 * Z.2.1 3) (by omega)))
theorem zPp_1 {T : tSm} {k : Int} {Z : tZ} (hk : k ≠ 1) : (zPp T k Z).2.1 1 = Z.2.1 1 := zP_1 hk
theorem zLa_1 {T : tSm} {k : Int} {Z : tZ} (h : 84 ≤ k) : (zLa T k Z).2.1 1 = Z.2.1 1 := (zPs_1 (k := k + 3) (by omega)).trans ((zPn_1 (k := k + 2) (by omega)).trans (zPp_1 (k := k + 1) (by omega)))
theorem zLb_1 {T : tSm} {k : Int} {Z : tZ} (h : 84 ≤ k) : (zLb T k Z).2.1 1 = Z.2.1 1 := zPs_1 (k := k + 4) (by omega)
theorem zLc_1 {T : tSm} {k : Int} {Z : tZ} (h : 84 ≤ k) : (zLc T k Z).2.1 1 = Z.2.1 1 := by
  unfold zLc
  split
  · exact zPn_1 (k := k + 5) (by omega)
  · rfl
theorem zLe2_1 {T : tSm} {k : Int} {Z : tZ} (h : 84 ≤ k) : (zLe2 T k Z).2.1 1 = Z.2.1 1 := (zLc_1 h).trans ((zLb_1 h).trans (zLa_1 h))
theorem zBl_1 {T : tSm} {k : Int} {Z : tZ} : (zBl T k Z).2.1 1 = Z.2.1 1 := by unfold zBl; split <;> rfl
theorem zLe_1 {T : tSm} {Z : tZ} (h : 0 ≤ Z.2.1 2) : (zLe T Z).2.1 1 = Z.2.1 1 := (zIn_1 (by decide)).trans ((zLe2_1 (by omega)).trans (zBl_1.trans (zPp_1 (by omega))))
theorem zBf_1 {T : tSm} {Z : tZ} : (zBf T Z).2.1 1 = Z.2.1 1 := by unfold zBf; split <;> rfl
theorem zLi2_1 {T : tSm} {q : Int} {Z : tZ} (h : 20 ≤ q) : (zLi2 T q Z).2.1 1 = Z.2.1 1 := by
  unfold zLi2
  split
  · exact (zPn_1 (by omega)).trans (zPn_1 (k := q + 6) (by omega))
  · rfl
theorem zLi1_1 {T : tSm} {q c u : Int} {Z : tZ} (h : 20 ≤ q) : (zLi1 T q c u Z).2.1 1 = Z.2.1 1 := by
  unfold zLi1
  split
  · exact (zLi2_1 h).trans ((zP_1 (by omega)).trans ((zP_1 (by omega)).trans (zP_1 (by omega))))
  · rfl
theorem vPq_1 {T : tSm} {Z : tZ} : 20 ≤ 20 + 8 * vPq T Z := by
  have w := sNm_v (T := T) (S := Z.1) (lo := 0) (hi := Z.2.1 1 - 1)
  unfold vPq
  omega
theorem zLi_1 {T : tSm} {Z : tZ} : (zLi T Z).2.1 1 = Z.2.1 1 := (zLi1_1 vPq_1).trans (zBf_1 (T := T) (Z := Z))
theorem zBp_1 {T : tSm} {Z : tZ} : (zBp T Z).2.1 1 = Z.2.1 1 := by unfold zBp; split <;> rfl
theorem zPo1_1 {p : Int} {Z : tZ} : (zPo1 p Z).2.1 1 = Z.2.1 1 := by
  unfold zPo1
  split
  · exact zP_1 (by decide)
  · rfl
theorem zPo_1 {T : tSm} {Z : tZ} : (zPo T Z).2.1 1 = Z.2.1 1 := zPo1_1.trans (zBp_1 (T := T) (Z := Z))
theorem zIn_e {c : Int} {Z : tZ} : (zIn c Z).2.1 c = Z.2.1 c + 1 := sUp_eq
theorem zPl1_e {T : tSm} {Z : tZ} (hp : 0 ≤ Z.2.1 1) : (zPl1 T Z).2.1 1 = Z.2.1 1 := sUp_ne (by omega)
theorem zPl_e {T : tSm} {Z : tZ} (hp : 0 ≤ Z.2.1 1) : (zPl T Z).2.1 1 = Z.2.1 1 + 1 := by
  have e := zPl1_e (T := T) hp
  unfold zPl
  split
  · refine zIn_e.trans ?_
    rw [show (zP (20 + 8 * Z.2.1 1 + 2) (sNm T (zTk T (-15) (zPl1 T Z)).1 0 999).1 (zNm T 0 999 (zP (20 + 8 * Z.2.1 1 + 1) 1 (zTk T (-15) (zPl1 T Z))))).2.1 1 = (zPl1 T Z).2.1 1 from (sUp_ne (by omega)).trans (sUp_ne (R := (zPl1 T Z).2.1) (j := 20 + 8 * Z.2.1 1 + 1) (v := 1) (i := 1) (by omega)), e]
  · split
    · refine zIn_e.trans ?_
      have g : (zGo T (zHm T (zPl1 T Z))).2.1 = (zPl1 T Z).2.1 := by
        rw [zGo_2]
        unfold zHm
        split <;> rfl
      rw [show (zP (20 + 8 * Z.2.1 1 + 1) 2 ((zGo T (zHm T (zPl1 T Z))).1, (zGo T (zHm T (zPl1 T Z))).2.1, 1)).2.1 1 = (zGo T (zHm T (zPl1 T Z))).2.1 1 from sUp_ne (by omega), g, e]
    · exact zIn_e.trans (by rw [e])
theorem zOn0_12 {T : tSm} {k : Int} {Z : tZ} : (zOn0 T k Z).2.1 12 = Z.2.1 12 := zP_12 (by decide)
theorem zOn0_1 {T : tSm} {k : Int} {Z : tZ} : (zOn0 T k Z).2.1 1 = Z.2.1 1 := zP_1 (by decide)
/-- a start that is told without a fault is at a place -/
theorem zSt_s {T : tSm} {Z : tZ} (h : (zSt T Z).1.2.1 = 0) : 0 ≤ (zSt T Z).2.1 12 ∧ (zSt T Z).2.1 12 < Z.2.1 1 := by
  have key : ∀ W : tZ, W.1.2.1 = (zSt1 (vPq T Z) (vTd T (-27) 0 60 (zPq T Z)) W).1.2.1 := fun W => by
    unfold zSt1
    split <;> rfl
  have f1 := (key _).trans h
  have f2 : (zTd T (-27) 0 60 (zPq T Z)).1.2.1 = 0 := sTk_0 (T := T) (S := (zTd T (-27) 0 60 (zPq T Z)).1) (s := -28) f1
  have f3 : (zPq T Z).1.2.1 = 0 := sNd_0 (T := T) (S := (zPq T Z).1) (s := -27) (sNm_0 (l := 0) (m := 60) f2).1
  have v := (sNm_0 (T := T) (S := Z.1) (l := 0) (m := Z.2.1 1 - 1) f3).2
  have e0 : ∀ (W : tZ) (q : Int), W.1.2.1 = 0 → (zSt1 (vPq T Z) q W).2.1 12 = vPq T Z := fun W q hW => by
    rw [show zSt1 (vPq T Z) q W = zP 13 q (zP 12 (vPq T Z) W) from if_pos hW, zP_12 (by decide)]
    show sUp W.2.1 12 (vPq T Z) 12 = vPq T Z
    exact sUp_eq
  have e : (zSt T Z).2.1 12 = vPq T Z := e0 _ _ f1
  rw [e]
  unfold vPq
  omega
theorem zRs_ln {T : tSm} {Z : tZ} (hw : zRw Z) (hs : zRs Z) (hg : Z.1.2.1 = 0) (hf : (zLn T Z).1.2.1 = 0) : zRs (zLn T Z) := by
  obtain ⟨k1, k2, k3, k4⟩ := zLn_ok hf
  have er : (zLn T Z).2.1 = sUp (zBd T Z).2.1 0 ((zBd T Z).2.1 0 + 1) := by rw [k4]; exact zEd_r
  have fb : (zBd T Z).1.2.1 = 0 := by
    rw [k4] at hf
    by_cases z : (zBd T Z).1.2.1 = 0
    · exact z
    · have e1 : zE1 T (zBd T Z) = zBd T Z := if_neg (fun y => z y.1)
      have e2 : (zEd T (zBd T Z)).1 = (zBd T Z).1 := by
        show (zGo T (zE1 T (zBd T Z))).1 = _
        rw [e1, show zGo T (zBd T Z) = zBd T Z from if_neg z]
      rw [e2] at hf
      exact hf
  have hb : zRs (zBd T Z) := by
    obtain ⟨c, ⟨c0, c1⟩, hc⟩ := zKn_c hg k1
    obtain rfl | rfl | rfl | rfl | rfl | rfl | rfl | rfl | rfl | rfl | rfl : c = 0 ∨ c = 1 ∨ c = 2 ∨ c = 3 ∨ c = 4 ∨ c = 5 ∨ c = 6 ∨ c = 7 ∨ c = 8 ∨ c = 9 ∨ c = 10 := by omega
    · have z := zk_0 hg hc
      rw [z.2.1]
      unfold zRs at hs ⊢
      rw [show (zPl T (zNx T Z)).2.1 12 = Z.2.1 12 from zPl_12 (T := T) (Z := zNx T Z) hw.2.1.1, show (zPl T (zNx T Z)).2.1 1 = Z.2.1 1 + 1 from zPl_e (T := T) (Z := zNx T Z) hw.2.1.1]
      omega
    · have z := zk_1 hg hc
      rw [z.2.1]
      unfold zRs at hs ⊢
      rw [show (zLe T (zNx T Z)).2.1 12 = Z.2.1 12 from zLe_12 (T := T) (Z := zNx T Z) hw.2.2.1.1, show (zLe T (zNx T Z)).2.1 1 = Z.2.1 1 from zLe_1 (T := T) (Z := zNx T Z) hw.2.2.1.1]
      exact hs
    · have z := zk_2 hg hc
      rw [z.2.1]
      unfold zRs at hs ⊢
      rw [show (zLi T (zNx T Z)).2.1 12 = Z.2.1 12 from zLi_12 , show (zLi T (zNx T Z)).2.1 1 = Z.2.1 1 from zLi_1 ]
      exact hs
    · have z := zk_3 hg hc
      rw [z.2.1]
      unfold zRs at hs ⊢
      rw [show (zSp T (zNx T Z)).2.1 12 = Z.2.1 12 from zSp_12 (T := T) (Z := zNx T Z) hw.2.2.2.1.1, show (zSp T (zNx T Z)).2.1 1 = Z.2.1 1 from zSp_1 (T := T) (Z := zNx T Z) hw.2.2.2.1.1]
      exact hs
    · have z := zk_4 hg hc
      rw [z.2.1]
      unfold zRs at hs ⊢
      rw [show (zPo T (zNx T Z)).2.1 12 = Z.2.1 12 from zPo_12 , show (zPo T (zNx T Z)).2.1 1 = Z.2.1 1 from zPo_1 ]
      exact hs
    · have z := zk_5 hg hc
      rw [z.2.1, show zOn T 0 Z = zPn T 0 999 5 (zOn0 T 0 Z) from rfl]
      unfold zRs at hs ⊢
      rw [show (zPn T 0 999 5 (zOn0 T 0 Z)).2.1 12 = Z.2.1 12 from (zPn_12 (by decide)).trans zOn0_12, show (zPn T 0 999 5 (zOn0 T 0 Z)).2.1 1 = Z.2.1 1 from (zPn_1 (by decide)).trans zOn0_1]
      exact hs
    · have z := zk_6 hg hc
      rw [z.2.1, show zOn T 1 Z = zPn T 0 50 6 (zOn0 T 1 Z) from rfl]
      unfold zRs at hs ⊢
      rw [show (zPn T 0 50 6 (zOn0 T 1 Z)).2.1 12 = Z.2.1 12 from (zPn_12 (by decide)).trans zOn0_12, show (zPn T 0 50 6 (zOn0 T 1 Z)).2.1 1 = Z.2.1 1 from (zPn_1 (by decide)).trans zOn0_1]
      exact hs
    · have z := zk_7 hg hc
      rw [z.2.1, show zOn T 2 Z = zPn T 31 60 7 (zOn0 T 2 Z) from rfl]
      unfold zRs at hs ⊢
      rw [show (zPn T 31 60 7 (zOn0 T 2 Z)).2.1 12 = Z.2.1 12 from (zPn_12 (by decide)).trans zOn0_12, show (zPn T 31 60 7 (zOn0 T 2 Z)).2.1 1 = Z.2.1 1 from (zPn_1 (by decide)).trans zOn0_1]
      exact hs
    · have z := zk_8 hg hc
      rw [z.2.1, show zOn T 3 Z = zPn T 1 47 8 (zOn0 T 3 Z) from rfl]
      unfold zRs at hs ⊢
      rw [show (zPn T 1 47 8 (zOn0 T 3 Z)).2.1 12 = Z.2.1 12 from (zPn_12 (by decide)).trans zOn0_12, show (zPn T 1 47 8 (zOn0 T 3 Z)).2.1 1 = Z.2.1 1 from (zPn_1 (by decide)).trans zOn0_1]
      exact hs
    · have z := zk_9 hg hc
      rw [z.2.1, show zOn T 4 Z = zPt T (-26) 0 9999 11 (zPt T (-25) 0 99 10 (zPt T (-14) 0 9999 9 (zOn0 T 4 Z))) from rfl]
      unfold zRs at hs ⊢
      rw [show (zPt T (-26) 0 9999 11 (zPt T (-25) 0 99 10 (zPt T (-14) 0 9999 9 (zOn0 T 4 Z)))).2.1 12 = Z.2.1 12 from ((zPt_12 (by decide)).trans ((zPt_12 (by decide)).trans (zPt_12 (by decide)))).trans zOn0_12, show (zPt T (-26) 0 9999 11 (zPt T (-25) 0 99 10 (zPt T (-14) 0 9999 9 (zOn0 T 4 Z)))).2.1 1 = Z.2.1 1 from ((zPt_1 (by decide)).trans ((zPt_1 (by decide)).trans (zPt_1 (by decide)))).trans zOn0_1]
      exact hs
    · have z := zk_10 hg hc
      rw [z.2.1, show zOn T 5 Z = zSt T (zOn0 T 5 Z) from rfl] at fb ⊢
      have u := zSt_s fb
      have e1 : (zSt T (zOn0 T 5 Z)).2.1 1 = (zOn0 T 5 Z).2.1 1 := zSt_1
      exact Or.inr ⟨u.1, by rw [e1]; exact u.2⟩
  unfold zRs at hb ⊢
  rw [er, sUp_ne (by decide), sUp_ne (by decide)]
  exact hb
