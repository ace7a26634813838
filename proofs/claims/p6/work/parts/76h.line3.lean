/-! a line, by the stream of tokens -/
abbrev sI (T : tSm) (Z : tZ) (s : Int) : Prop := Z.1.2.1 = 0 ∧ sW T Z.1.1 s = true
noncomputable def oH (T : tSm) (Z : tZ) : Int := if sI T Z (-7) then 0 else if sI T Z (-8) then 1 else if sI T Z (-9) then 2 else if sI T Z (-10) then 3 else if sI T Z (-11) then 4 else if sI T Z (-12) then 5 else -1
theorem oH_in (T : tSm) (Z : tZ) : -1 ≤ oH T Z ∧ oH T Z ≤ 5 := by unfold oH; (repeat' split) <;> decide
noncomputable def zSp (T : tSm) (Z : tZ) : tZ := zIn 3 (zPt T (-24) 1 999 (144 + 2 * Z.2.1 3 + 1) (zPn T 20 150 (144 + 2 * Z.2.1 3) Z))
noncomputable def zBd (T : tSm) (Z : tZ) : tZ :=
  if oH T Z ≠ -1 then zOn T (oH T Z) Z else if (sTk T Z.1 (-2)).1 = true then zPl T (zTk T (-2) Z) else if (sTk T Z.1 (-3)).1 = true then zLe T (zTk T (-3) Z)
  else if (sTk T Z.1 (-4)).1 = true then zLi T (zTk T (-4) Z) else if (sTk T Z.1 (-5)).1 = true then zSp T (zTk T (-5) Z) else zPo T (zNx T Z)
def zE1 (T : tSm) (Z : tZ) : tZ := if Z.1.2.1 = 0 ∧ T.2.1 Z.1.1 ≠ 3 then zEr T 1 Z else Z
def zEd (T : tSm) (Z : tZ) : tZ := zIn 0 (zGo T (zE1 T Z))
def zFu (T : tSm) (Z : tZ) : Prop := Z.2.1 0 = 60 ∨ (sI T Z (-2) ∧ Z.2.1 1 = 8) ∨ (sI T Z (-3) ∧ Z.2.1 2 = 10) ∨ (sI T Z (-5) ∧ Z.2.1 3 = 6) ∨ (sI T Z (-6) ∧ yyP (Z.2.1 15) = 3)
def zKn (T : tSm) (Z : tZ) : Prop := oH T Z = -1 → sI T Z (-2) ∨ sI T Z (-3) ∨ sI T Z (-4) ∨ sI T Z (-5) ∨ sI T Z (-6)
def zTw (T : tSm) (Z : tZ) : Prop := oH T Z ≠ -1 ∧ yyHb (Z.2.1 16) (oH T Z) = 1
noncomputable def zLn (T : tSm) (Z : tZ) : tZ := @ite tZ (¬ zKn T Z) (Classical.propDecidable _) (zEr T 1 Z) (@ite tZ (zTw T Z) (Classical.propDecidable _) (zEr T 2 Z) (@ite tZ (zFu T Z) (Classical.propDecidable _) (zEr T 3 Z) (zEd T (zBd T Z))))
theorem zEr_n {T : tSm} {k : Int} {Z : tZ} (h : k ≠ 0) : (zEr T k Z).1.2.1 ≠ 0 := by
  unfold zEr sEr
  split
  · exact h
  · rename_i w; exact w
theorem zEr_f {T : tSm} {k : Int} {Z : tZ} (h : Z.1.2.1 ≠ 0) : zEr T k Z = Z := by
  unfold zEr sEr
  rw [if_neg h]
theorem sTk_t {T : tSm} {S : tSa} {s : Int} (h : (sTk T S s).1 = true) : S.2.1 = 0 ∧ sW T S.1 s = true := by
  unfold sTk at h
  split at h
  · rename_i w; exact w
  · simp at h
theorem sTk_n {T : tSm} {S : tSa} {s : Int} (h : (sTk T S s).1 = false) : ¬ (S.2.1 = 0 ∧ sW T S.1 s = true) := by
  unfold sTk at h
  split at h
  · simp at h
  · rename_i w; exact w
theorem zEr_0 {T : tSm} {k : Int} {Z : tZ} : (zEr T k Z).2.1 0 = Z.2.1 0 := rfl
theorem zP_0 {j v : Int} {Z : tZ} (h : j ≠ 0) : (zP j v Z).2.1 0 = Z.2.1 0 := sUp_ne (Ne.symm h)
theorem zPn_0 {T : tSm} {l h k : Int} {Z : tZ} (hk : k ≠ 0) : (zPn T l h k Z).2.1 0 = Z.2.1 0 := zP_0 hk
theorem zPs_0 {T : tSm} {h k : Int} {Z : tZ} (hk : k ≠ 0) : (zPs T h k Z).2.1 0 = Z.2.1 0 := zP_0 hk
theorem zPt_0 {T : tSm} {s l h k : Int} {Z : tZ} (hk : k ≠ 0) : (zPt T s l h k Z).2.1 0 = Z.2.1 0 := zP_0 hk
theorem zIn_0 {c : Int} {Z : tZ} (hk : c ≠ 0) : (zIn c Z).2.1 0 = Z.2.1 0 := zP_0 hk
theorem zSt1_0 {p h : Int} {Z : tZ} : (zSt1 p h Z).2.1 0 = Z.2.1 0 := by
  unfold zSt1
  split
  · exact (zP_0 (j := 13) (by decide)).trans (zP_0 (j := 12) (by decide))
  · rfl
theorem zSt_0 {T : tSm} {Z : tZ} : (zSt T Z).2.1 0 = Z.2.1 0 := zSt1_0.trans (zP_0 (j := 14) (by decide))
theorem zOn_0 {T : tSm} {k : Int} {Z : tZ} (_ : 0 ≤ k) : (zOn T k Z).2.1 0 = Z.2.1 0 := by
  have e : (zOn0 T k Z).2.1 0 = Z.2.1 0 := zP_0 (by decide)
  unfold zOn
  (repeat' split)
  · rw [zPn_0 (by decide), e]
  · rw [zPn_0 (by decide), e]
  · rw [zPn_0 (by decide), e]
  · rw [zPn_0 (by decide), e]
  · rw [zPt_0 (by decide), zPt_0 (by decide), zPt_0 (by decide), e]
  · rw [zSt_0, e]
theorem zGo_0 {T : tSm} {Z : tZ} : (zGo T Z).2.1 0 = Z.2.1 0 := by unfold zGo; split <;> rfl
theorem zHm_0 {T : tSm} {Z : tZ} : (zHm T Z).2.1 0 = Z.2.1 0 := by unfold zHm; split <;> rfl
theorem zSp_0 {T : tSm} {Z : tZ} (h : 0 ≤ Z.2.1 3) : (zSp T Z).2.1 0 = Z.2.1 0 := (zIn_0 (by decide)).trans ((zPt_0 (k := 144 + 2 * Z.2.1 3 + 1) (by omega)).trans (zPn_0 (k := 144 + 2 * Z.2.1 3) (by omega)))
theorem zPl1_0 {T : tSm} {Z : tZ} : (zPl1 T Z).2.1 0 = Z.2.1 0 := zP_0 (j := 20 + 8 * Z.2.1 1) (by omega)
theorem zPl2_0 {T : tSm} {k : Int} {Z : tZ} (h1 : k + 1 ≠ 0) (h2 : k + 2 ≠ 0) : (zPl2 T k Z).2.1 0 = Z.2.1 0 := (zIn_0 (by decide)).trans ((zP_0 h2).trans (zP_0 (Z := Z) (v := 1) h1))
theorem zPl3_0 {k : Int} {Z : tZ} (h1 : k + 1 ≠ 0) : (zPl3 k Z).2.1 0 = Z.2.1 0 := (zIn_0 (by decide)).trans (zP_0 h1)
theorem zPl_0 {T : tSm} {Z : tZ} : (zPl T Z).2.1 0 = Z.2.1 0 := by
  unfold zPl
  split
  · exact (zPl2_0 (by omega) (by omega)).trans zPl1_0
  · split
    · exact (zPl3_0 (by omega)).trans (zGo_0.trans (zHm_0.trans zPl1_0))
    · exact (zIn_0 (by decide)).trans zPl1_0
theorem zPp_0 {T : tSm} {k : Int} {Z : tZ} (hk : k ≠ 0) : (zPp T k Z).2.1 0 = Z.2.1 0 := zP_0 hk
theorem zLa_0 {T : tSm} {k : Int} {Z : tZ} (h : 0 ≤ k) : (zLa T k Z).2.1 0 = Z.2.1 0 := (zPs_0 (k := k + 3) (by omega)).trans ((zPn_0 (k := k + 2) (by omega)).trans (zPp_0 (k := k + 1) (by omega)))
theorem zLb_0 {T : tSm} {k : Int} {Z : tZ} (h : 0 ≤ k) : (zLb T k Z).2.1 0 = Z.2.1 0 := zPs_0 (k := k + 4) (by omega)
theorem zLc_0 {T : tSm} {k : Int} {Z : tZ} (h : 0 ≤ k) : (zLc T k Z).2.1 0 = Z.2.1 0 := by
  unfold zLc
  split
  · exact zPn_0 (k := k + 5) (by omega)
  · rfl
theorem zLe2_0 {T : tSm} {k : Int} {Z : tZ} (h : 0 ≤ k) : (zLe2 T k Z).2.1 0 = Z.2.1 0 := (zLc_0 h).trans ((zLb_0 h).trans (zLa_0 h))
theorem zBl_0 {T : tSm} {k : Int} {Z : tZ} : (zBl T k Z).2.1 0 = Z.2.1 0 := by unfold zBl; split <;> rfl
theorem zLe_0 {T : tSm} {Z : tZ} (h : 0 ≤ Z.2.1 2) : (zLe T Z).2.1 0 = Z.2.1 0 := (zIn_0 (by decide)).trans ((zLe2_0 (by omega)).trans (zBl_0.trans (zPp_0 (by omega))))
theorem zBf_0 {T : tSm} {Z : tZ} : (zBf T Z).2.1 0 = Z.2.1 0 := by unfold zBf; split <;> rfl
theorem zLi2_0 {T : tSm} {q : Int} {Z : tZ} (h : 0 ≤ q) : (zLi2 T q Z).2.1 0 = Z.2.1 0 := by
  unfold zLi2
  split
  · exact (zPn_0 (by omega)).trans (zPn_0 (k := q + 6) (by omega))
  · rfl
theorem zLi1_0 {T : tSm} {q c u : Int} {Z : tZ} (h : 0 ≤ q) : (zLi1 T q c u Z).2.1 0 = Z.2.1 0 := by
  unfold zLi1
  split
  · exact (zLi2_0 h).trans ((zP_0 (by omega)).trans ((zP_0 (by omega)).trans (zP_0 (by omega))))
  · rfl
theorem vPq_0 {T : tSm} {Z : tZ} : 0 ≤ 20 + 8 * vPq T Z := by
  have w := sNm_v (T := T) (S := Z.1) (lo := 0) (hi := Z.2.1 1 - 1)
  unfold vPq
  omega
theorem zLi_0 {T : tSm} {Z : tZ} : (zLi T Z).2.1 0 = Z.2.1 0 := (zLi1_0 vPq_0).trans (zBf_0 (T := T) (Z := Z))
theorem zBp_0 {T : tSm} {Z : tZ} : (zBp T Z).2.1 0 = Z.2.1 0 := by unfold zBp; split <;> rfl
theorem zPo1_0 {p : Int} {Z : tZ} : (zPo1 p Z).2.1 0 = Z.2.1 0 := by
  unfold zPo1
  split
  · exact zP_0 (by decide)
  · rfl
theorem zPo_0 {T : tSm} {Z : tZ} : (zPo T Z).2.1 0 = Z.2.1 0 := zPo1_0.trans (zBp_0 (T := T) (Z := Z))
theorem la_readOnce {k : Int} (k0 : 0 ≤ k) (k5 : k ≤ 5) {dd : Nat} (hd : 11 ≤ dd) {I H : xH} {T : tSm} {n : Int} (hO : sOk T n) {W0 : tZ} (zA0 : rA T n I H W0) {Q : Int → xH → Prop} (hq : ∀ J, rA T n I J (zOn T k W0) → Q 0 J) : xCall dd 231 [(2, 183), (0, k)] H Q := by
  obtain rfl | rfl | rfl | rfl | rfl | rfl : k = 0 ∨ k = 1 ∨ k = 2 ∨ k = 3 ∨ k = 4 ∨ k = 5 := by omega
  · exact la_readOnce0 hd hO zA0 hq
  · exact la_readOnce1 hd hO zA0 hq
  · exact la_readOnce2 hd hO zA0 hq
  · exact la_readOnce3 hd hO zA0 hq
  · exact la_readOnce4 hd hO zA0 hq
  · exact la_readOnce5 hd hO zA0 hq
theorem la_onceHere {dd : Nat} (hd : 7 ≤ dd) {I H : xH} {T : tSm} {n : Int} (hO : sOk T n) {W0 : tZ} (zA0 : rA T n I H W0) {Q : Int → xH → Prop} (hq : Q (oH T W0) H) : xCall dd 230 [(2, 183)] H Q := by
  obtain ⟨e, rfl, he⟩ := ttRun0 (n := 6) hd
  have he : 6 ≤ e := he
  have hT := zA0.1
  refine xC_of (L := [(2, 183)]) (cd := cd_230) rfl rfl rfl ?_
  refine q_al (pc := 0) (i := 0) (x := 183) rfl rfl ?_
  refine q_sc (pc := 1) (j := 5) rfl ?_
  refine q_iv (pc := 2) (q := 1728968) rfl rfl rfl ⟨by omega, (ttKc hT (a := 183) (κ := 12) (len := 0) ⟨rfl, rfl⟩ (by decide) (by decide)).1⟩ ?_
  refine la_is (by decide) (by decide) (by omega) hO zA0 (fun ji2 => ?_) (fun ji2 => ?_)
  · skip
    refine q_if (pc := 3) rfl (fun h3 => ?_) (fun h3 => ?_)
    · replace h3 : (1 : Int) = 0 := h3
      omega
    · replace h3 : (1 : Int) ≠ 0 := h3
      refine q_ic (pc := 4) (v := 0) rfl ?_
      refine q_go (pc := 5) rfl ?_
      refine q_ri (pc := 37) rfl ?_
      rw [show oH T W0 = 0 from if_pos ji2] at hq
      exact hq
  · skip
    refine q_if (pc := 3) rfl (fun h3 => ?_) (fun h3 => ?_)
    · replace h3 : (0 : Int) = 0 := h3
      refine q_al (pc := 6) (i := 0) (x := 183) rfl rfl ?_
      refine q_sc (pc := 7) (j := 6) rfl ?_
      refine q_iv (pc := 8) (q := 1728968) rfl rfl rfl ⟨by omega, (ttKc hT (a := 183) (κ := 12) (len := 0) ⟨rfl, rfl⟩ (by decide) (by decide)).1⟩ ?_
      refine la_is (by decide) (by decide) (by omega) hO zA0 (fun ji8 => ?_) (fun ji8 => ?_)
      · skip
        refine q_if (pc := 9) rfl (fun h9 => ?_) (fun h9 => ?_)
        · replace h9 : (1 : Int) = 0 := h9
          omega
        · replace h9 : (1 : Int) ≠ 0 := h9
          refine q_ic (pc := 10) (v := 1) rfl ?_
          refine q_go (pc := 11) rfl ?_
          refine q_ri (pc := 37) rfl ?_
          rw [show oH T W0 = 1 from (if_neg ji2).trans (if_pos ji8)] at hq
          exact hq
      · skip
        refine q_if (pc := 9) rfl (fun h9 => ?_) (fun h9 => ?_)
        · replace h9 : (0 : Int) = 0 := h9
          refine q_al (pc := 12) (i := 0) (x := 183) rfl rfl ?_
          refine q_sc (pc := 13) (j := 7) rfl ?_
          refine q_iv (pc := 14) (q := 1728968) rfl rfl rfl ⟨by omega, (ttKc hT (a := 183) (κ := 12) (len := 0) ⟨rfl, rfl⟩ (by decide) (by decide)).1⟩ ?_
          refine la_is (by decide) (by decide) (by omega) hO zA0 (fun ji14 => ?_) (fun ji14 => ?_)
          · skip
            refine q_if (pc := 15) rfl (fun h15 => ?_) (fun h15 => ?_)
            · replace h15 : (1 : Int) = 0 := h15
              omega
            · replace h15 : (1 : Int) ≠ 0 := h15
              refine q_ic (pc := 16) (v := 2) rfl ?_
              refine q_go (pc := 17) rfl ?_
              refine q_ri (pc := 37) rfl ?_
              rw [show oH T W0 = 2 from (if_neg ji2).trans ((if_neg ji8).trans (if_pos ji14))] at hq
              exact hq
          · skip
            refine q_if (pc := 15) rfl (fun h15 => ?_) (fun h15 => ?_)
            · replace h15 : (0 : Int) = 0 := h15
              refine q_al (pc := 18) (i := 0) (x := 183) rfl rfl ?_
              refine q_sc (pc := 19) (j := 8) rfl ?_
              refine q_iv (pc := 20) (q := 1728968) rfl rfl rfl ⟨by omega, (ttKc hT (a := 183) (κ := 12) (len := 0) ⟨rfl, rfl⟩ (by decide) (by decide)).1⟩ ?_
              refine la_is (by decide) (by decide) (by omega) hO zA0 (fun ji20 => ?_) (fun ji20 => ?_)
              · skip
                refine q_if (pc := 21) rfl (fun h21 => ?_) (fun h21 => ?_)
                · replace h21 : (1 : Int) = 0 := h21
                  omega
                · replace h21 : (1 : Int) ≠ 0 := h21
                  refine q_ic (pc := 22) (v := 3) rfl ?_
                  refine q_go (pc := 23) rfl ?_
                  refine q_ri (pc := 37) rfl ?_
                  rw [show oH T W0 = 3 from (if_neg ji2).trans ((if_neg ji8).trans ((if_neg ji14).trans (if_pos ji20)))] at hq
                  exact hq
              · skip
                refine q_if (pc := 21) rfl (fun h21 => ?_) (fun h21 => ?_)
                · replace h21 : (0 : Int) = 0 := h21
                  refine q_al (pc := 24) (i := 0) (x := 183) rfl rfl ?_
                  refine q_sc (pc := 25) (j := 9) rfl ?_
                  refine q_iv (pc := 26) (q := 1728968) rfl rfl rfl ⟨by omega, (ttKc hT (a := 183) (κ := 12) (len := 0) ⟨rfl, rfl⟩ (by decide) (by decide)).1⟩ ?_
                  refine la_is (by decide) (by decide) (by omega) hO zA0 (fun ji26 => ?_) (fun ji26 => ?_)
                  · skip
                    refine q_if (pc := 27) rfl (fun h27 => ?_) (fun h27 => ?_)
                    · replace h27 : (1 : Int) = 0 := h27
                      omega
                    · replace h27 : (1 : Int) ≠ 0 := h27
                      refine q_ic (pc := 28) (v := 4) rfl ?_
                      refine q_go (pc := 29) rfl ?_
                      refine q_ri (pc := 37) rfl ?_
                      rw [show oH T W0 = 4 from (if_neg ji2).trans ((if_neg ji8).trans ((if_neg ji14).trans ((if_neg ji20).trans (if_pos ji26))))] at hq
                      exact hq
                  · skip
                    refine q_if (pc := 27) rfl (fun h27 => ?_) (fun h27 => ?_)
                    · replace h27 : (0 : Int) = 0 := h27
                      refine q_al (pc := 30) (i := 0) (x := 183) rfl rfl ?_
                      refine q_sc (pc := 31) (j := 10) rfl ?_
                      refine q_iv (pc := 32) (q := 1728968) rfl rfl rfl ⟨by omega, (ttKc hT (a := 183) (κ := 12) (len := 0) ⟨rfl, rfl⟩ (by decide) (by decide)).1⟩ ?_
                      refine la_is (by decide) (by decide) (by omega) hO zA0 (fun ji32 => ?_) (fun ji32 => ?_)
                      · skip
                        refine q_if (pc := 33) rfl (fun h33 => ?_) (fun h33 => ?_)
                        · replace h33 : (1 : Int) = 0 := h33
                          omega
                        · replace h33 : (1 : Int) ≠ 0 := h33
                          refine q_ic (pc := 34) (v := 5) rfl ?_
                          refine q_go (pc := 35) rfl ?_
                          refine q_ri (pc := 37) rfl ?_
                          rw [show oH T W0 = 5 from (if_neg ji2).trans ((if_neg ji8).trans ((if_neg ji14).trans ((if_neg ji20).trans ((if_neg ji26).trans (if_pos ji32)))))] at hq
                          exact hq
                      · skip
                        refine q_if (pc := 33) rfl (fun h33 => ?_) (fun h33 => ?_)
                        · replace h33 : (0 : Int) = 0 := h33
                          refine q_ic (pc := 36) (v := (-1)) rfl ?_
                          refine q_ri (pc := 37) rfl ?_
                          rw [show oH T W0 = (-1) from (if_neg ji2).trans ((if_neg ji8).trans ((if_neg ji14).trans ((if_neg ji20).trans ((if_neg ji26).trans (if_neg ji32)))))] at hq
                          exact hq
                        · replace h33 : (0 : Int) ≠ 0 := h33
                          omega
                    · replace h27 : (0 : Int) ≠ 0 := h27
                      omega
                · replace h21 : (0 : Int) ≠ 0 := h21
                  omega
            · replace h15 : (0 : Int) ≠ 0 := h15
              omega
        · replace h9 : (0 : Int) ≠ 0 := h9
          omega
    · replace h3 : (0 : Int) ≠ 0 := h3
      omega
theorem ln_n98 {e : Nat} (he : 11 ≤ e) {I : xH} {T : tSm} {n : Int} (hO : sOk T n) {Q : Int → xH → Prop} (K : xH) (V : tZ) (x1 x2 : xV) (kA : rA T n I K V) (kn : V.1.2.1 ≠ 0) (kq : Q 0 K) : xW e cd_232 Q (98, [(2, 183), x1, x2], [], K) := by
  refine q_al (pc := 98) (i := 0) (x := 183) rfl rfl ?_
  refine q_iv (pc := 99) (q := 1712964) rfl rfl rfl (ttKc kA.1 (a := 183) (κ := 12) (len := 0) ⟨rfl, rfl⟩ (by decide) (by decide)).1 ?_
  refine la_good (by omega) kA (fun jg99 => ?_) (fun jg99 => ?_)
  · skip
    refine q_if (pc := 100) rfl (fun h100 => ?_) (fun h100 => ?_)
    · replace h100 : (1 : Int) ≠ 0 := h100
      exact absurd jg99 kn
    · replace h100 : (1 : Int) = 0 := h100
      omega
  · skip
    refine q_if (pc := 100) rfl (fun h100 => ?_) (fun h100 => ?_)
    · replace h100 : (0 : Int) ≠ 0 := h100
      omega
    · replace h100 : (0 : Int) = 0 := h100
      refine q_rv (pc := 101) rfl ?_
      exact kq
theorem ln_n95 {e : Nat} (he : 11 ≤ e) {I : xH} {T : tSm} {n : Int} (hO : sOk T n) {Q : Int → xH → Prop} (K : xH) (V : tZ) (x1 x2 : xV) (kA : rA T n I K V) (kq : (∀ J, rA T n I J (zEr T 3 V) → Q 0 J)) : xW e cd_232 Q (95, [(2, 183), x1, x2], [], K) := by
  refine q_al (pc := 95) (i := 0) (x := 183) rfl rfl ?_
  refine q_ic (pc := 96) (v := 3) rfl ?_
  refine q_iv (pc := 97) (q := 1720971) rfl rfl rfl (ttKc kA.1 (a := 183) (κ := 12) (len := 0) ⟨rfl, rfl⟩ (by decide) (by decide)).1 ?_
  refine la_errs (by omega) hO kA (by decide) (by decide) (fun J1 zA1 => ?_)
  obtain ⟨W1, jW1⟩ : ∃ Y : tZ, Y = zEr T 3 V := ⟨_, rfl⟩
  replace zA1 : rA T n I J1 W1 := by rw [jW1]; exact zA1
  exact ln_n98 he hO J1 W1 _ _ zA1 (by rw [jW1]; exact zEr_n (by decide)) (kq J1 (by rw [← jW1]; exact zA1))
theorem ln_n48 {e : Nat} (he : 11 ≤ e) {I : xH} {T : tSm} {n : Int} (hO : sOk T n) {Q : Int → xH → Prop} (K : xH) (V : tZ) (x1 x2 : xV) (kA : rA T n I K V) (kn : V.1.2.1 ≠ 0) (kq : (∀ J, rA T n I J V → Q 0 J)) : xW e cd_232 Q (48, [(2, 183), x1, x2], [], K) := by
  refine q_al (pc := 48) (i := 0) (x := 183) rfl rfl ?_
  refine q_gf (pc := 49) (m := 12142) (t := 2) (c := 14) rfl (ttKc kA.1 (a := 183) (κ := 12) (len := 0) ⟨rfl, rfl⟩ (by decide) (by decide)).1 rfl rfl ?_
  rw [show K.1 183 14 = 189 from ttFx kA.1 (by decide) (by decide) rfl rfl rfl]
  refine q_ic (pc := 50) (v := 0) rfl ?_
  refine q_ai (pc := 51) rfl (ttKc kA.1 (a := 189) (κ := 20) (len := 196) ⟨rfl, rfl⟩ (by decide) (by decide)).1 (by omega) (by rw [(ttKc kA.1 (a := 189) (κ := 20) (len := 196) ⟨rfl, rfl⟩ (by decide) (by decide)).2]; omega) ?_
  refine q_ic (pc := 52) (v := 60) rfl ?_
  refine q_i2 (pc := 53) rfl (fun h53 => ?_) (fun h53 => ?_)
  · replace h53 : (K.1 189 0) = 60 := h53
    exact ln_n95 he hO K V _ _ kA (fun J jA => kq J (by rw [zEr_f kn] at jA; exact jA))
  · replace h53 : (K.1 189 0) ≠ 60 := h53
    refine q_al (pc := 54) (i := 0) (x := 183) rfl rfl ?_
    refine q_sc (pc := 55) (j := 0) rfl ?_
    refine q_iv (pc := 56) (q := 1728968) rfl rfl rfl ⟨by omega, (ttKc kA.1 (a := 183) (κ := 12) (len := 0) ⟨rfl, rfl⟩ (by decide) (by decide)).1⟩ ?_
    refine la_is (by decide) (by decide) (by omega) hO kA (fun w => absurd w.1 kn) (fun _ => ?_)
    refine q_if (pc := 57) rfl (fun h57 => ?_) (fun h57 => ?_)
    · replace h57 : (0 : Int) = 0 := h57
      refine q_al (pc := 64) (i := 0) (x := 183) rfl rfl ?_
      refine q_sc (pc := 65) (j := 1) rfl ?_
      refine q_iv (pc := 66) (q := 1728968) rfl rfl rfl ⟨by omega, (ttKc kA.1 (a := 183) (κ := 12) (len := 0) ⟨rfl, rfl⟩ (by decide) (by decide)).1⟩ ?_
      refine la_is (by decide) (by decide) (by omega) hO kA (fun w => absurd w.1 kn) (fun _ => ?_)
      refine q_if (pc := 67) rfl (fun h67 => ?_) (fun h67 => ?_)
      · replace h67 : (0 : Int) = 0 := h67
        refine q_al (pc := 74) (i := 0) (x := 183) rfl rfl ?_
        refine q_sc (pc := 75) (j := 3) rfl ?_
        refine q_iv (pc := 76) (q := 1728968) rfl rfl rfl ⟨by omega, (ttKc kA.1 (a := 183) (κ := 12) (len := 0) ⟨rfl, rfl⟩ (by decide) (by decide)).1⟩ ?_
        refine la_is (by decide) (by decide) (by omega) hO kA (fun w => absurd w.1 kn) (fun _ => ?_)
        refine q_if (pc := 77) rfl (fun h77 => ?_) (fun h77 => ?_)
        · replace h77 : (0 : Int) = 0 := h77
          refine q_al (pc := 84) (i := 0) (x := 183) rfl rfl ?_
          refine q_sc (pc := 85) (j := 4) rfl ?_
          refine q_iv (pc := 86) (q := 1728968) rfl rfl rfl ⟨by omega, (ttKc kA.1 (a := 183) (κ := 12) (len := 0) ⟨rfl, rfl⟩ (by decide) (by decide)).1⟩ ?_
          refine la_is (by decide) (by decide) (by omega) hO kA (fun w => absurd w.1 kn) (fun _ => ?_)
          refine q_if (pc := 87) rfl (fun h87 => ?_) (fun h87 => ?_)
          · replace h87 : (0 : Int) = 0 := h87
            exact ln_n98 he hO K V _ _ kA kn (kq K kA)
          · replace h87 : (0 : Int) ≠ 0 := h87
            omega
        · replace h77 : (0 : Int) ≠ 0 := h77
          omega
      · replace h67 : (0 : Int) ≠ 0 := h67
        omega
    · replace h57 : (0 : Int) ≠ 0 := h57
      omega
theorem ln_n35 {e : Nat} (he : 11 ≤ e) {I : xH} {T : tSm} {n : Int} (hO : sOk T n) {Q : Int → xH → Prop} (K : xH) (V : tZ) (c : Int) (x2 : xV) (kA : rA T n I K V) (kn : V.1.2.1 ≠ 0) (kq : (∀ J, rA T n I J V → Q 0 J)) : xW e cd_232 Q (35, [(2, 183), (0, c), x2], [], K) := by
  refine q_il (pc := 35) (i := 1) (x := c) rfl rfl ?_
  refine q_ic (pc := 36) (v := (-1)) rfl ?_
  refine q_i2 (pc := 37) rfl (fun h37 => ?_) (fun h37 => ?_)
  · replace h37 : c = (-1) := h37
    exact ln_n48 he hO K V _ _ kA kn kq
  · replace h37 : c ≠ (-1) := h37
    refine q_al (pc := 38) (i := 0) (x := 183) rfl rfl ?_
    refine q_gf (pc := 39) (m := 12142) (t := 2) (c := 14) rfl (ttKc kA.1 (a := 183) (κ := 12) (len := 0) ⟨rfl, rfl⟩ (by decide) (by decide)).1 rfl rfl ?_
    rw [show K.1 183 14 = 189 from ttFx kA.1 (by decide) (by decide) rfl rfl rfl]
    refine q_ic (pc := 40) (v := 16) rfl ?_
    refine q_ai (pc := 41) rfl (ttKc kA.1 (a := 189) (κ := 20) (len := 196) ⟨rfl, rfl⟩ (by decide) (by decide)).1 (by omega) (by rw [(ttKc kA.1 (a := 189) (κ := 20) (len := 196) ⟨rfl, rfl⟩ (by decide) (by decide)).2]; omega) ?_
    refine q_il (pc := 42) (i := 1) (x := c) rfl rfl ?_
    refine q_ij (pc := 43) (q := 1623928) rfl rfl rfl trivial ?_
    refine lf_holds (by omega) (fun jh43 => ?_) (fun jh43 => ?_)
    · skip
      refine q_if (pc := 44) rfl (fun h44 => ?_) (fun h44 => ?_)
      · replace h44 : (1 : Int) = 0 := h44
        omega
      · replace h44 : (1 : Int) ≠ 0 := h44
        refine q_al (pc := 45) (i := 0) (x := 183) rfl rfl ?_
        refine q_ic (pc := 46) (v := 2) rfl ?_
        refine q_iv (pc := 47) (q := 1720971) rfl rfl rfl (ttKc kA.1 (a := 183) (κ := 12) (len := 0) ⟨rfl, rfl⟩ (by decide) (by decide)).1 ?_
        refine la_errs (by omega) hO kA (by decide) (by decide) (fun J1 zA1 => ?_)
        obtain ⟨W1, jW1⟩ : ∃ Y : tZ, Y = zEr T 2 V := ⟨_, rfl⟩
        replace zA1 : rA T n I J1 W1 := by rw [jW1]; exact zA1
        rw [jW1, zEr_f kn] at zA1
        exact ln_n48 he hO J1 V _ _ zA1 kn kq
    · skip
      refine q_if (pc := 44) rfl (fun h44 => ?_) (fun h44 => ?_)
      · replace h44 : (0 : Int) = 0 := h44
        exact ln_n48 he hO K V _ _ kA kn kq
      · replace h44 : (0 : Int) ≠ 0 := h44
        omega
theorem ln_h195 {e : Nat} (he : 11 ≤ e) {I : xH} {T : tSm} {n : Int} (hO : sOk T n) {Q : Int → xH → Prop} (K : xH) (V : tZ) (x1 x2 : xV) (kA : rA T n I K V) (l9 : V.2.1 0 ≤ 59) (kq : (∀ J, rA T n I J (zIn 0 V) → Q 0 J)) : xW e cd_232 Q (195, [(2, 183), x1, x2], [], K) := by
  have l0 := (rA_rw kA).1.1
  obtain ⟨l, jl⟩ : ∃ l, l = V.2.1 0 := ⟨_, rfl⟩
  have k0 : K.1 189 0 = l := ((kA.2.2.2.1 0 (by omega) (by omega))).trans jl.symm
  rw [← jl] at l9 l0
  refine q_al (pc := 195) (i := 0) (x := 183) rfl rfl ?_
  refine q_gf (pc := 196) (m := 12142) (t := 2) (c := 14) rfl (ttKc kA.1 (a := 183) (κ := 12) (len := 0) ⟨rfl, rfl⟩ (by decide) (by decide)).1 rfl rfl ?_
  rw [show K.1 183 14 = 189 from ttFx kA.1 (by decide) (by decide) rfl rfl rfl]
  refine q_ic (pc := 197) (v := 0) rfl ?_
  refine q_dd (pc := 198) rfl ?_
  refine q_ai (pc := 199) rfl (ttKc kA.1 (a := 189) (κ := 20) (len := 196) ⟨rfl, rfl⟩ (by decide) (by decide)).1 (by omega) (by rw [(ttKc kA.1 (a := 189) (κ := 20) (len := 196) ⟨rfl, rfl⟩ (by decide) (by decide)).2]; omega) ?_
  rw [k0]
  refine q_ic (pc := 200) (v := 1) rfl ?_
  refine q_ia (pc := 201) rfl (by omega) (by omega) ?_
  refine q_si (pc := 202) rfl (by decide) (ttKc kA.1 (a := 189) (κ := 20) (len := 196) ⟨rfl, rfl⟩ (by decide) (by decide)).1 (by omega) (by rw [(ttKc kA.1 (a := 189) (κ := 20) (len := 196) ⟨rfl, rfl⟩ (by decide) (by decide)).2]; omega) ?_
  have zA1 := rA_put kA (j := 0) (v := (l + 1)) (show (0 : Int) ≤ (l + 1) ∧ (l + 1) ≤ 60 from ⟨by omega, by omega⟩) (by omega) (by omega)
  obtain ⟨J1, ujzk1⟩ : ∃ X : xH, X = (xUp K.1 189 0 (l + 1), K.2) := ⟨_, rfl⟩
  rw [← ujzk1] at zA1 ⊢
  obtain ⟨W1, jW1⟩ : ∃ Y : tZ, Y = zP 0 (l + 1) V := ⟨_, rfl⟩
  replace zA1 : rA T n I J1 W1 := by rw [jW1]; exact zA1
  refine q_rv (pc := 203) rfl ?_
  refine kq J1 ?_
  unfold zIn
  rw [← jl, ← jW1]
  exact zA1
theorem ln_h190 {e : Nat} (he : 11 ≤ e) {I : xH} {T : tSm} {n : Int} (hO : sOk T n) {Q : Int → xH → Prop} (K : xH) (V : tZ) (x1 x2 : xV) (kA : rA T n I K V) (l9 : V.2.1 0 ≤ 59) (kq : (∀ J, rA T n I J (zIn 0 (zGo T V)) → Q 0 J)) : xW e cd_232 Q (190, [(2, 183), x1, x2], [], K) := by
  refine q_al (pc := 190) (i := 0) (x := 183) rfl rfl ?_
  refine q_iv (pc := 191) (q := 1712964) rfl rfl rfl (ttKc kA.1 (a := 183) (κ := 12) (len := 0) ⟨rfl, rfl⟩ (by decide) (by decide)).1 ?_
  refine la_good (by omega) kA (fun jg191 => ?_) (fun jg191 => ?_)
  · skip
    refine q_if (pc := 192) rfl (fun h192 => ?_) (fun h192 => ?_)
    · replace h192 : (1 : Int) = 0 := h192
      omega
    · replace h192 : (1 : Int) ≠ 0 := h192
      refine q_al (pc := 193) (i := 0) (x := 183) rfl rfl ?_
      refine q_iv (pc := 194) (q := 1704967) rfl rfl rfl (ttKc kA.1 (a := 183) (κ := 12) (len := 0) ⟨rfl, rfl⟩ (by decide) (by decide)).1 ?_
      refine la_adv (by omega) hO kA (fun J1 zA1 => ?_)
      obtain ⟨W1, jW1⟩ : ∃ Y : tZ, Y = zNx T V := ⟨_, rfl⟩
      replace zA1 : rA T n I J1 W1 := by rw [jW1]; exact zA1
      exact ln_h195 he hO J1 W1 _ _ zA1 (by rw [jW1]; exact l9) (by rw [jW1]; rw [show zGo T V = zNx T V from if_pos jg191] at kq; exact kq)
  · skip
    refine q_if (pc := 192) rfl (fun h192 => ?_) (fun h192 => ?_)
    · replace h192 : (0 : Int) = 0 := h192
      exact ln_h195 he hO K V _ _ kA l9 (by rw [show zGo T V = V from if_neg jg191] at kq; exact kq)
    · replace h192 : (0 : Int) ≠ 0 := h192
      omega
theorem ln_h180 {e : Nat} (he : 11 ≤ e) {I : xH} {T : tSm} {n : Int} (hO : sOk T n) {Q : Int → xH → Prop} (K : xH) (V : tZ) (x1 x2 : xV) (kA : rA T n I K V) (l9 : V.2.1 0 ≤ 59) (kq : (∀ J, rA T n I J (zEd T V) → Q 0 J)) : xW e cd_232 Q (180, [(2, 183), x1, x2], [], K) := by
  refine q_al (pc := 180) (i := 0) (x := 183) rfl rfl ?_
  refine q_iv (pc := 181) (q := 1712964) rfl rfl rfl (ttKc kA.1 (a := 183) (κ := 12) (len := 0) ⟨rfl, rfl⟩ (by decide) (by decide)).1 ?_
  refine la_good (by omega) kA (fun jg181 => ?_) (fun jg181 => ?_)
  · skip
    refine q_if (pc := 182) rfl (fun h182 => ?_) (fun h182 => ?_)
    · replace h182 : (1 : Int) = 0 := h182
      omega
    · replace h182 : (1 : Int) ≠ 0 := h182
      refine q_al (pc := 183) (i := 0) (x := 183) rfl rfl ?_
      refine q_gf (pc := 184) (m := 12100) (t := 0) (c := 10) rfl (ttKc kA.1 (a := 183) (κ := 12) (len := 0) ⟨rfl, rfl⟩ (by decide) (by decide)).1 rfl rfl ?_
      rw [kA.2.2.1.1.2.2.2.1.1]
      refine q_ic (pc := 185) (v := 3) rfl ?_
      refine q_i2 (pc := 186) rfl (fun h186 => ?_) (fun h186 => ?_)
      · replace h186 : (T.2.1 V.1.1) = 3 := h186
        exact ln_h190 he hO K V _ _ kA l9 (by unfold zEd at kq; rw [show zE1 T V = V from if_neg (fun z => z.2 h186)] at kq; exact kq)
      · replace h186 : (T.2.1 V.1.1) ≠ 3 := h186
        refine q_al (pc := 187) (i := 0) (x := 183) rfl rfl ?_
        refine q_ic (pc := 188) (v := 1) rfl ?_
        refine q_iv (pc := 189) (q := 1720971) rfl rfl rfl (ttKc kA.1 (a := 183) (κ := 12) (len := 0) ⟨rfl, rfl⟩ (by decide) (by decide)).1 ?_
        refine la_errs (by omega) hO kA (by decide) (by decide) (fun J1 zA1 => ?_)
        obtain ⟨W1, jW1⟩ : ∃ Y : tZ, Y = zEr T 1 V := ⟨_, rfl⟩
        replace zA1 : rA T n I J1 W1 := by rw [jW1]; exact zA1
        exact ln_h190 he hO J1 W1 _ _ zA1 (by rw [jW1]; exact l9) (by unfold zEd at kq; rw [show zE1 T V = zEr T 1 V from if_pos ⟨jg181, h186⟩, ← jW1] at kq; exact kq)
  · skip
    refine q_if (pc := 182) rfl (fun h182 => ?_) (fun h182 => ?_)
    · replace h182 : (0 : Int) = 0 := h182
      exact ln_h190 he hO K V _ _ kA l9 (by unfold zEd at kq; rw [show zE1 T V = V from if_neg (fun z => jg181 z.1)] at kq; exact kq)
    · replace h182 : (0 : Int) ≠ 0 := h182
      omega
theorem ln_h134 {e : Nat} (he : 11 ≤ e) {I : xH} {T : tSm} {n : Int} (hO : sOk T n) {Q : Int → xH → Prop} (K : xH) (V : tZ) (x1 x2 : xV) (kA : rA T n I K V) (s6 : V.2.1 3 ≠ 6) (l9 : V.2.1 0 ≤ 59) (kq : (∀ J, rA T n I J (zEd T (zSp T V)) → Q 0 J)) : xW e cd_232 Q (134, [(2, 183), x1, x2], [], K) := by
  have s0 := (rA_rw kA).2.2.2
  obtain ⟨s, js⟩ : ∃ s, s = V.2.1 3 := ⟨_, rfl⟩
  have k3 : K.1 189 3 = s := ((kA.2.2.2.1 3 (by omega) (by omega))).trans js.symm
  rw [← js] at s0 s6
  refine q_al (pc := 134) (i := 0) (x := 183) rfl rfl ?_
  refine q_gf (pc := 135) (m := 12142) (t := 2) (c := 14) rfl (ttKc kA.1 (a := 183) (κ := 12) (len := 0) ⟨rfl, rfl⟩ (by decide) (by decide)).1 rfl rfl ?_
  rw [show K.1 183 14 = 189 from ttFx kA.1 (by decide) (by decide) rfl rfl rfl]
  refine q_ic (pc := 136) (v := 144) rfl ?_
  refine q_ic (pc := 137) (v := 2) rfl ?_
  refine q_al (pc := 138) (i := 0) (x := 183) rfl rfl ?_
  refine q_gf (pc := 139) (m := 12142) (t := 2) (c := 14) rfl (ttKc kA.1 (a := 183) (κ := 12) (len := 0) ⟨rfl, rfl⟩ (by decide) (by decide)).1 rfl rfl ?_
  rw [show K.1 183 14 = 189 from ttFx kA.1 (by decide) (by decide) rfl rfl rfl]
  refine q_ic (pc := 140) (v := 3) rfl ?_
  refine q_ai (pc := 141) rfl (ttKc kA.1 (a := 189) (κ := 20) (len := 196) ⟨rfl, rfl⟩ (by decide) (by decide)).1 (by omega) (by rw [(ttKc kA.1 (a := 189) (κ := 20) (len := 196) ⟨rfl, rfl⟩ (by decide) (by decide)).2]; omega) ?_
  rw [k3]
  refine q_im (pc := 142) rfl (by omega) (by omega) ?_
  refine q_ia (pc := 143) rfl (by omega) (by omega) ?_
  refine q_al (pc := 144) (i := 0) (x := 183) rfl rfl ?_
  refine q_ic (pc := 145) (v := 20) rfl ?_
  refine q_ic (pc := 146) (v := 150) rfl ?_
  refine q_iv (pc := 147) (q := 1752972) rfl rfl rfl (ttKc kA.1 (a := 183) (κ := 12) (len := 0) ⟨rfl, rfl⟩ (by decide) (by decide)).1 ?_
  refine la_number (by decide) (by omega) hO kA (fun ujr1 J1 zA1 jr1 => ?_)
  have jv1 : ujr1 = (sNm T V.1 20 150).1 := jr1
  obtain ⟨W1, jW1⟩ : ∃ Y : tZ, Y = zNm T 20 150 V := ⟨_, rfl⟩
  replace zA1 : rA T n I J1 W1 := by rw [jW1]; exact zA1
  have c1 : W1.2.1 3 = s := by rw [jW1]; exact js.symm
  have jb1 : ujr1 = 0 ∨ 20 ≤ ujr1 ∧ ujr1 ≤ 150 := by rw [jv1]; exact sNm_v
  refine q_si (pc := 148) rfl (by decide) (ttKc zA1.1 (a := 189) (κ := 20) (len := 196) ⟨rfl, rfl⟩ (by decide) (by decide)).1 (by omega) (by rw [(ttKc zA1.1 (a := 189) (κ := 20) (len := 196) ⟨rfl, rfl⟩ (by decide) (by decide)).2]; omega) ?_
  have zA2 := rA_put zA1 (j := (144 + (2 * s))) (v := ujr1) (by rw [show (144 + (2 * s)) = 144 + 2 * s + ((0 : Nat) : Int) from by omega, ty_fs s0.1 (by omega) 0 (by decide)]; exact (show (0 : Int) ≤ ujr1 ∧ ujr1 ≤ 150 from ⟨by omega, by omega⟩)) (by omega) (by omega)
  obtain ⟨J2, ujzk2⟩ : ∃ X : xH, X = (xUp J1.1 189 (144 + (2 * s)) ujr1, J1.2) := ⟨_, rfl⟩
  rw [← ujzk2] at zA2 ⊢
  obtain ⟨W2, jW2⟩ : ∃ Y : tZ, Y = zP (144 + (2 * s)) ujr1 W1 := ⟨_, rfl⟩
  replace zA2 : rA T n I J2 W2 := by rw [jW2]; exact zA2
  have c2 : W2.2.1 3 = s := by rw [jW2]; exact (sUp_ne (by omega)).trans c1
  refine q_al (pc := 149) (i := 0) (x := 183) rfl rfl ?_
  refine q_gf (pc := 150) (m := 12142) (t := 2) (c := 14) rfl (ttKc zA2.1 (a := 183) (κ := 12) (len := 0) ⟨rfl, rfl⟩ (by decide) (by decide)).1 rfl rfl ?_
  rw [show J2.1 183 14 = 189 from ttFx zA2.1 (by decide) (by decide) rfl rfl rfl]
  refine q_ic (pc := 151) (v := 144) rfl ?_
  refine q_ic (pc := 152) (v := 2) rfl ?_
  refine q_al (pc := 153) (i := 0) (x := 183) rfl rfl ?_
  refine q_gf (pc := 154) (m := 12142) (t := 2) (c := 14) rfl (ttKc zA2.1 (a := 183) (κ := 12) (len := 0) ⟨rfl, rfl⟩ (by decide) (by decide)).1 rfl rfl ?_
  rw [show J2.1 183 14 = 189 from ttFx zA2.1 (by decide) (by decide) rfl rfl rfl]
  refine q_ic (pc := 155) (v := 3) rfl ?_
  refine q_ai (pc := 156) rfl (ttKc zA2.1 (a := 189) (κ := 20) (len := 196) ⟨rfl, rfl⟩ (by decide) (by decide)).1 (by omega) (by rw [(ttKc zA2.1 (a := 189) (κ := 20) (len := 196) ⟨rfl, rfl⟩ (by decide) (by decide)).2]; omega) ?_
  rw [(zA2.2.2.2.1 3 (by omega) (by omega)), c2]
  refine q_im (pc := 157) rfl (by omega) (by omega) ?_
  refine q_ia (pc := 158) rfl (by omega) (by omega) ?_
  refine q_ic (pc := 159) (v := 1) rfl ?_
  refine q_ia (pc := 160) rfl (by omega) (by omega) ?_
  refine q_al (pc := 161) (i := 0) (x := 183) rfl rfl ?_
  refine q_sc (pc := 162) (j := 22) rfl ?_
  refine q_ic (pc := 163) (v := 1) rfl ?_
  refine q_ic (pc := 164) (v := 999) rfl ?_
  refine q_iv (pc := 165) (q := 1760976) rfl rfl rfl ⟨by omega, (ttKc zA2.1 (a := 183) (κ := 12) (len := 0) ⟨rfl, rfl⟩ (by decide) (by decide)).1⟩ ?_
  refine la_told (by decide) (by decide) (by decide) (by omega) hO zA2 (fun ujr3 J3 zA3 jr3 => ?_)
  have jv3 : ujr3 = (sNm T (sNd T W2.1 (-24)) 1 999).1 := jr3
  obtain ⟨W3, jW3⟩ : ∃ Y : tZ, Y = zNm T 1 999 (zNd T (-24) W2) := ⟨_, rfl⟩
  replace zA3 : rA T n I J3 W3 := by rw [jW3]; exact zA3
  have c3 : W3.2.1 3 = s := by rw [jW3]; exact c2
  have jb3 : ujr3 = 0 ∨ 1 ≤ ujr3 ∧ ujr3 ≤ 999 := by rw [jv3]; exact sNm_v
  refine q_si (pc := 166) rfl (by decide) (ttKc zA3.1 (a := 189) (κ := 20) (len := 196) ⟨rfl, rfl⟩ (by decide) (by decide)).1 (by omega) (by rw [(ttKc zA3.1 (a := 189) (κ := 20) (len := 196) ⟨rfl, rfl⟩ (by decide) (by decide)).2]; omega) ?_
  have zA4 := rA_put zA3 (j := ((144 + (2 * s)) + 1)) (v := ujr3) (by rw [show ((144 + (2 * s)) + 1) = 144 + 2 * s + ((1 : Nat) : Int) from by omega, ty_fs s0.1 (by omega) 1 (by decide)]; exact (show (0 : Int) ≤ ujr3 ∧ ujr3 ≤ 999 from ⟨by omega, by omega⟩)) (by omega) (by omega)
  obtain ⟨J4, ujzk4⟩ : ∃ X : xH, X = (xUp J3.1 189 ((144 + (2 * s)) + 1) ujr3, J3.2) := ⟨_, rfl⟩
  rw [← ujzk4] at zA4 ⊢
  obtain ⟨W4, jW4⟩ : ∃ Y : tZ, Y = zP ((144 + (2 * s)) + 1) ujr3 W3 := ⟨_, rfl⟩
  replace zA4 : rA T n I J4 W4 := by rw [jW4]; exact zA4
  have c4 : W4.2.1 3 = s := by rw [jW4]; exact (sUp_ne (by omega)).trans c3
  refine q_al (pc := 167) (i := 0) (x := 183) rfl rfl ?_
  refine q_gf (pc := 168) (m := 12142) (t := 2) (c := 14) rfl (ttKc zA4.1 (a := 183) (κ := 12) (len := 0) ⟨rfl, rfl⟩ (by decide) (by decide)).1 rfl rfl ?_
  rw [show J4.1 183 14 = 189 from ttFx zA4.1 (by decide) (by decide) rfl rfl rfl]
  refine q_ic (pc := 169) (v := 3) rfl ?_
  refine q_dd (pc := 170) rfl ?_
  refine q_ai (pc := 171) rfl (ttKc zA4.1 (a := 189) (κ := 20) (len := 196) ⟨rfl, rfl⟩ (by decide) (by decide)).1 (by omega) (by rw [(ttKc zA4.1 (a := 189) (κ := 20) (len := 196) ⟨rfl, rfl⟩ (by decide) (by decide)).2]; omega) ?_
  rw [(zA4.2.2.2.1 3 (by omega) (by omega)), c4]
  refine q_ic (pc := 172) (v := 1) rfl ?_
  refine q_ia (pc := 173) rfl (by omega) (by omega) ?_
  refine q_si (pc := 174) rfl (by decide) (ttKc zA4.1 (a := 189) (κ := 20) (len := 196) ⟨rfl, rfl⟩ (by decide) (by decide)).1 (by omega) (by rw [(ttKc zA4.1 (a := 189) (κ := 20) (len := 196) ⟨rfl, rfl⟩ (by decide) (by decide)).2]; omega) ?_
  have zA5 := rA_put zA4 (j := 3) (v := (s + 1)) (show (0 : Int) ≤ (s + 1) ∧ (s + 1) ≤ 6 from ⟨by omega, by omega⟩) (by omega) (by omega)
  obtain ⟨J5, ujzk5⟩ : ∃ X : xH, X = (xUp J4.1 189 3 (s + 1), J4.2) := ⟨_, rfl⟩
  rw [← ujzk5] at zA5 ⊢
  obtain ⟨W5, jW5⟩ : ∃ Y : tZ, Y = zP 3 (s + 1) W4 := ⟨_, rfl⟩
  replace zA5 : rA T n I J5 W5 := by rw [jW5]; exact zA5
  refine q_go (pc := 175) rfl ?_
  have e5 : zSp T V = W5 := by
    unfold zSp zIn
    have e4 : zPt T (-24) 1 999 (144 + 2 * V.2.1 3 + 1) (zPn T 20 150 (144 + 2 * V.2.1 3) V) = W4 := by rw [jW4, jv3, jW3, jW2, jv1, jW1, js]; rfl
    rw [e4, c4, jW5]
  exact ln_h180 he hO J5 W5 _ _ zA5 (by rw [← e5, zSp_0 (by omega)]; exact l9) (by rw [← e5]; exact kq)
theorem ln_h98 {e : Nat} (he : 11 ≤ e) {I : xH} {T : tSm} {n : Int} (hO : sOk T n) {Q : Int → xH → Prop} {H : xH} {W0 : tZ} (zA0 : rA T n I H W0) (hg : W0.1.2.1 = 0) (hq : ∀ J, rA T n I J (zLn T W0) → Q 0 J) (c : Int) (x2 : xV) (jc : c = oH T W0) (kk : zKn T W0) (kt : ¬ zTw T W0) (kf : ¬ zFu T W0) : xW e cd_232 Q (98, [(2, 183), (0, c), x2], [], H) := by
  have hT := zA0.1
  have wb := rA_rw zA0
  have w5 := rA_15 zA0
  have ci := oH_in T W0
  rw [← jc] at ci
  have l9 : W0.2.1 0 ≤ 59 := by
    have z : W0.2.1 0 ≠ 60 := fun z => kf (Or.inl z)
    omega
  have eq : zLn T W0 = zEd T (zBd T W0) := (if_neg (fun z => z kk)).trans ((if_neg kt).trans (if_neg kf))
  rw [eq] at hq
  refine q_al (pc := 98) (i := 0) (x := 183) rfl rfl ?_
  refine q_iv (pc := 99) (q := 1712964) rfl rfl rfl (ttKc hT (a := 183) (κ := 12) (len := 0) ⟨rfl, rfl⟩ (by decide) (by decide)).1 ?_
  refine la_good (by omega) zA0 (fun jg99 => ?_) (fun jg99 => ?_)
  · skip
    refine q_if (pc := 100) rfl (fun h100 => ?_) (fun h100 => ?_)
    · replace h100 : (1 : Int) ≠ 0 := h100
      refine q_il (pc := 102) (i := 1) (x := c) rfl rfl ?_
      refine q_ic (pc := 103) (v := (-1)) rfl ?_
      refine q_i2 (pc := 104) rfl (fun h104 => ?_) (fun h104 => ?_)
      · replace h104 : c = (-1) := h104
        refine q_al (pc := 109) (i := 0) (x := 183) rfl rfl ?_
        refine q_sc (pc := 110) (j := 0) rfl ?_
        refine q_iv (pc := 111) (q := 1736968) rfl rfl rfl ⟨by omega, (ttKc hT (a := 183) (κ := 12) (len := 0) ⟨rfl, rfl⟩ (by decide) (by decide)).1⟩ ?_
        refine la_takes (by decide) (by decide) (by omega) hO zA0 (fun r ujK2 kA2 jr2 => ?_)
        rcases jr2 with ⟨rfl, jk2⟩ | ⟨rfl, jk2⟩
        · replace jk2 : (sTk T W0.1 (-2)).1 = true := jk2
          replace kA2 : rA T n I ujK2 (zTk T (-2) W0) := kA2
          refine q_if (pc := 112) rfl (fun h112 => ?_) (fun h112 => ?_)
          · replace h112 : (1 : Int) = 0 := h112
            omega
          · replace h112 : (1 : Int) ≠ 0 := h112
            refine q_al (pc := 113) (i := 0) (x := 183) rfl rfl ?_
            refine q_iv (pc := 114) (q := 1792967) rfl rfl rfl (ttKc kA2.1 (a := 183) (κ := 12) (len := 0) ⟨rfl, rfl⟩ (by decide) (by decide)).1 ?_
            have hc : oH T W0 = -1 := by rw [← jc]; exact h104
            rw [show zBd T W0 = zPl T (zTk T (-2) W0) from (if_neg (fun z => z hc)).trans (if_pos jk2)] at hq
            refine la_readPlace (by omega) hO kA2 (by have z : W0.2.1 1 ≠ 8 := fun y => kf (Or.inr ((Or.inl ⟨sTk_t jk2, y⟩))); have y := wb; show W0.2.1 1 ≤ 7; omega) (fun J jA => ?_)
            refine q_go (pc := 115) rfl ?_
            exact ln_h180 he hO J _ _ _ jA (by rw [zPl_0]; exact l9) hq
        · rw [zTk_f jk2] at kA2
          replace jk2 : (sTk T W0.1 (-2)).1 = false := jk2
          refine q_if (pc := 112) rfl (fun h112 => ?_) (fun h112 => ?_)
          · replace h112 : (0 : Int) = 0 := h112
            refine q_al (pc := 116) (i := 0) (x := 183) rfl rfl ?_
            refine q_sc (pc := 117) (j := 1) rfl ?_
            refine q_iv (pc := 118) (q := 1736968) rfl rfl rfl ⟨by omega, (ttKc kA2.1 (a := 183) (κ := 12) (len := 0) ⟨rfl, rfl⟩ (by decide) (by decide)).1⟩ ?_
            refine la_takes (by decide) (by decide) (by omega) hO kA2 (fun r ujK3 kA3 jr3 => ?_)
            rcases jr3 with ⟨rfl, jk3⟩ | ⟨rfl, jk3⟩
            · replace jk3 : (sTk T W0.1 (-3)).1 = true := jk3
              replace kA3 : rA T n I ujK3 (zTk T (-3) W0) := kA3
              refine q_if (pc := 119) rfl (fun h119 => ?_) (fun h119 => ?_)
              · replace h119 : (1 : Int) = 0 := h119
                omega
              · replace h119 : (1 : Int) ≠ 0 := h119
                refine q_al (pc := 120) (i := 0) (x := 183) rfl rfl ?_
                refine q_iv (pc := 121) (q := 1800967) rfl rfl rfl (ttKc kA3.1 (a := 183) (κ := 12) (len := 0) ⟨rfl, rfl⟩ (by decide) (by decide)).1 ?_
                have hc : oH T W0 = -1 := by rw [← jc]; exact h104
                rw [show zBd T W0 = zLe T (zTk T (-3) W0) from (if_neg (fun z => z hc)).trans ((if_neg (fun z => by rw [jk2] at z; exact absurd z (by decide))).trans (if_pos jk3))] at hq
                refine la_readLeg (by omega) hO kA3 (by have z : W0.2.1 2 ≠ 10 := fun y => kf (Or.inr (Or.inr ((Or.inl ⟨sTk_t jk3, y⟩)))); have y := wb; show W0.2.1 2 ≤ 9; omega) (fun J jA => ?_)
                refine q_go (pc := 122) rfl ?_
                exact ln_h180 he hO J _ _ _ jA (by rw [zLe_0 (T := T) (Z := zTk T (-3) W0) (show 0 ≤ W0.2.1 2 from wb.2.2.1.1)]; exact l9) hq
            · rw [zTk_f jk3] at kA3
              replace jk3 : (sTk T W0.1 (-3)).1 = false := jk3
              refine q_if (pc := 119) rfl (fun h119 => ?_) (fun h119 => ?_)
              · replace h119 : (0 : Int) = 0 := h119
                refine q_al (pc := 123) (i := 0) (x := 183) rfl rfl ?_
                refine q_sc (pc := 124) (j := 2) rfl ?_
                refine q_iv (pc := 125) (q := 1736968) rfl rfl rfl ⟨by omega, (ttKc kA3.1 (a := 183) (κ := 12) (len := 0) ⟨rfl, rfl⟩ (by decide) (by decide)).1⟩ ?_
                refine la_takes (by decide) (by decide) (by omega) hO kA3 (fun r ujK4 kA4 jr4 => ?_)
                rcases jr4 with ⟨rfl, jk4⟩ | ⟨rfl, jk4⟩
                · replace jk4 : (sTk T W0.1 (-4)).1 = true := jk4
                  replace kA4 : rA T n I ujK4 (zTk T (-4) W0) := kA4
                  refine q_if (pc := 126) rfl (fun h126 => ?_) (fun h126 => ?_)
                  · replace h126 : (1 : Int) = 0 := h126
                    omega
                  · replace h126 : (1 : Int) ≠ 0 := h126
                    refine q_al (pc := 127) (i := 0) (x := 183) rfl rfl ?_
                    refine q_iv (pc := 128) (q := 1808967) rfl rfl rfl (ttKc kA4.1 (a := 183) (κ := 12) (len := 0) ⟨rfl, rfl⟩ (by decide) (by decide)).1 ?_
                    have hc : oH T W0 = -1 := by rw [← jc]; exact h104
                    rw [show zBd T W0 = zLi T (zTk T (-4) W0) from (if_neg (fun z => z hc)).trans ((if_neg (fun z => by rw [jk2] at z; exact absurd z (by decide))).trans ((if_neg (fun z => by rw [jk3] at z; exact absurd z (by decide))).trans (if_pos jk4)))] at hq
                    refine la_readLift (by omega) hO kA4 (fun J jA => ?_)
                    refine q_go (pc := 129) rfl ?_
                    exact ln_h180 he hO J _ _ _ jA (by rw [zLi_0]; exact l9) hq
                · rw [zTk_f jk4] at kA4
                  replace jk4 : (sTk T W0.1 (-4)).1 = false := jk4
                  refine q_if (pc := 126) rfl (fun h126 => ?_) (fun h126 => ?_)
                  · replace h126 : (0 : Int) = 0 := h126
                    refine q_al (pc := 130) (i := 0) (x := 183) rfl rfl ?_
                    refine q_sc (pc := 131) (j := 3) rfl ?_
                    refine q_iv (pc := 132) (q := 1736968) rfl rfl rfl ⟨by omega, (ttKc kA4.1 (a := 183) (κ := 12) (len := 0) ⟨rfl, rfl⟩ (by decide) (by decide)).1⟩ ?_
                    refine la_takes (by decide) (by decide) (by omega) hO kA4 (fun r ujK5 kA5 jr5 => ?_)
                    rcases jr5 with ⟨rfl, jk5⟩ | ⟨rfl, jk5⟩
                    · replace jk5 : (sTk T W0.1 (-5)).1 = true := jk5
                      replace kA5 : rA T n I ujK5 (zTk T (-5) W0) := kA5
                      refine q_if (pc := 133) rfl (fun h133 => ?_) (fun h133 => ?_)
                      · replace h133 : (1 : Int) = 0 := h133
                        omega
                      · replace h133 : (1 : Int) ≠ 0 := h133
                        have hc : oH T W0 = -1 := by rw [← jc]; exact h104
                        rw [show zBd T W0 = zSp T (zTk T (-5) W0) from (if_neg (fun z => z hc)).trans ((if_neg (fun z => by rw [jk2] at z; exact absurd z (by decide))).trans ((if_neg (fun z => by rw [jk3] at z; exact absurd z (by decide))).trans ((if_neg (fun z => by rw [jk4] at z; exact absurd z (by decide))).trans (if_pos jk5))))] at hq
                        exact ln_h134 he hO ujK5 _ _ _ kA5 (fun y => kf (Or.inr (Or.inr (Or.inr (Or.inl ⟨sTk_t jk5, y⟩))))) l9 hq
                    · rw [zTk_f jk5] at kA5
                      replace jk5 : (sTk T W0.1 (-5)).1 = false := jk5
                      refine q_if (pc := 133) rfl (fun h133 => ?_) (fun h133 => ?_)
                      · replace h133 : (0 : Int) = 0 := h133
                        refine q_al (pc := 176) (i := 0) (x := 183) rfl rfl ?_
                        refine q_iv (pc := 177) (q := 1704967) rfl rfl rfl (ttKc kA5.1 (a := 183) (κ := 12) (len := 0) ⟨rfl, rfl⟩ (by decide) (by decide)).1 ?_
                        refine la_adv (by omega) hO kA5 (fun Y yA => ?_)
                        refine q_al (pc := 178) (i := 0) (x := 183) rfl rfl ?_
                        refine q_iv (pc := 179) (q := 1816967) rfl rfl rfl (ttKc yA.1 (a := 183) (κ := 12) (len := 0) ⟨rfl, rfl⟩ (by decide) (by decide)).1 ?_
                        have hc : oH T W0 = -1 := by rw [← jc]; exact h104
                        rw [show zBd T W0 = zPo T (zNx T W0) from (if_neg (fun z => z hc)).trans ((if_neg (fun z => by rw [jk2] at z; exact absurd z (by decide))).trans ((if_neg (fun z => by rw [jk3] at z; exact absurd z (by decide))).trans ((if_neg (fun z => by rw [jk4] at z; exact absurd z (by decide))).trans (if_neg (fun z => by rw [jk5] at z; exact absurd z (by decide))))))] at hq
                        refine la_readPoint (by omega) hO yA (fun J jA => ?_)
                        exact ln_h180 he hO J _ _ _ jA (by rw [zPo_0]; exact l9) hq
                      · replace h133 : (0 : Int) ≠ 0 := h133
                        omega
                  · replace h126 : (0 : Int) ≠ 0 := h126
                    omega
              · replace h119 : (0 : Int) ≠ 0 := h119
                omega
          · replace h112 : (0 : Int) ≠ 0 := h112
            omega
      · replace h104 : c ≠ (-1) := h104
        refine q_al (pc := 105) (i := 0) (x := 183) rfl rfl ?_
        refine q_il (pc := 106) (i := 1) (x := c) rfl rfl ?_
        refine q_iv (pc := 107) (q := 1848971) rfl rfl rfl (ttKc hT (a := 183) (κ := 12) (len := 0) ⟨rfl, rfl⟩ (by decide) (by decide)).1 ?_
        have hc : oH T W0 ≠ -1 := by rw [← jc]; exact h104
        rw [show zBd T W0 = zOn T (oH T W0) W0 from if_pos hc, ← jc] at hq
        refine la_readOnce (by omega) ci.2 (by omega) hO zA0 (fun K kA => ?_)
        refine q_go (pc := 108) rfl ?_
        exact ln_h180 he hO K _ _ _ kA (by rw [zOn_0 (by omega)]; exact l9) hq
    · replace h100 : (1 : Int) = 0 := h100
      omega
  · skip
    refine q_if (pc := 100) rfl (fun h100 => ?_) (fun h100 => ?_)
    · replace h100 : (0 : Int) ≠ 0 := h100
      omega
    · replace h100 : (0 : Int) = 0 := h100
      refine q_rv (pc := 101) rfl ?_
      exact absurd hg jg99
theorem ln_h84 {e : Nat} (he : 11 ≤ e) {I : xH} {T : tSm} {n : Int} (hO : sOk T n) {Q : Int → xH → Prop} {H : xH} {W0 : tZ} (zA0 : rA T n I H W0) (hg : W0.1.2.1 = 0) (hq : ∀ J, rA T n I J (zLn T W0) → Q 0 J) (c : Int) (x2 : xV) (jc : c = oH T W0) (kk : zKn T W0) (kt : ¬ zTw T W0) (f0 : W0.2.1 0 ≠ 60) (f1 : ¬ (sI T W0 (-2) ∧ W0.2.1 1 = 8)) (f2 : ¬ (sI T W0 (-3) ∧ W0.2.1 2 = 10)) (f3 : ¬ (sI T W0 (-5) ∧ W0.2.1 3 = 6)) : xW e cd_232 Q (84, [(2, 183), (0, c), x2], [], H) := by
  have hT := zA0.1
  have wb := rA_rw zA0
  have w5 := rA_15 zA0
  refine q_al (pc := 84) (i := 0) (x := 183) rfl rfl ?_
  refine q_sc (pc := 85) (j := 4) rfl ?_
  refine q_iv (pc := 86) (q := 1728968) rfl rfl rfl ⟨by omega, (ttKc hT (a := 183) (κ := 12) (len := 0) ⟨rfl, rfl⟩ (by decide) (by decide)).1⟩ ?_
  refine la_is (by decide) (by decide) (by omega) hO zA0 (fun ji86 => ?_) (fun ji86 => ?_)
  · skip
    refine q_if (pc := 87) rfl (fun h87 => ?_) (fun h87 => ?_)
    · replace h87 : (1 : Int) = 0 := h87
      omega
    · replace h87 : (1 : Int) ≠ 0 := h87
      refine q_al (pc := 88) (i := 0) (x := 183) rfl rfl ?_
      refine q_gf (pc := 89) (m := 12142) (t := 2) (c := 14) rfl (ttKc hT (a := 183) (κ := 12) (len := 0) ⟨rfl, rfl⟩ (by decide) (by decide)).1 rfl rfl ?_
      rw [show H.1 183 14 = 189 from ttFx hT (by decide) (by decide) rfl rfl rfl]
      refine q_ic (pc := 90) (v := 15) rfl ?_
      refine q_ai (pc := 91) rfl (ttKc hT (a := 189) (κ := 20) (len := 196) ⟨rfl, rfl⟩ (by decide) (by decide)).1 (by omega) (by rw [(ttKc hT (a := 189) (κ := 20) (len := 196) ⟨rfl, rfl⟩ (by decide) (by decide)).2]; omega) ?_
      rw [(zA0.2.2.2.1 15 (by omega) (by omega))]
      refine q_ij (pc := 92) (q := 1839924) rfl rfl rfl trivial ?_
      refine lf_ones (by omega) w5.1.1 w5.1.2 ?_
      refine q_ic (pc := 93) (v := 3) rfl ?_
      refine q_i2 (pc := 94) rfl (fun h94 => ?_) (fun h94 => ?_)
      · replace h94 : (yyP (W0.2.1 15)) ≠ 3 := h94
        exact ln_h98 he hO zA0 hg hq c _ jc kk kt (fun z => by
          rcases z with z | z | z | z | z
          · exact f0 z
          · exact f1 z
          · exact f2 z
          · exact f3 z
          · exact (fun z => h94 z.2) z)
      · replace h94 : (yyP (W0.2.1 15)) = 3 := h94
        exact ln_n95 he hO H W0 _ _ zA0 (fun J jA => hq J (by rw [show zLn T W0 = zEr T 3 W0 from (if_neg (fun z => z kk)).trans ((if_neg kt).trans (if_pos (Or.inr (Or.inr (Or.inr (Or.inr ⟨ji86, h94⟩))))))]; exact jA))
  · skip
    refine q_if (pc := 87) rfl (fun h87 => ?_) (fun h87 => ?_)
    · replace h87 : (0 : Int) = 0 := h87
      exact ln_h98 he hO zA0 hg hq c _ jc kk kt (fun z => by
        rcases z with z | z | z | z | z
        · exact f0 z
        · exact f1 z
        · exact f2 z
        · exact f3 z
        · exact (fun z => ji86 z.1) z)
    · replace h87 : (0 : Int) ≠ 0 := h87
      omega
theorem ln_h74 {e : Nat} (he : 11 ≤ e) {I : xH} {T : tSm} {n : Int} (hO : sOk T n) {Q : Int → xH → Prop} {H : xH} {W0 : tZ} (zA0 : rA T n I H W0) (hg : W0.1.2.1 = 0) (hq : ∀ J, rA T n I J (zLn T W0) → Q 0 J) (c : Int) (x2 : xV) (jc : c = oH T W0) (kk : zKn T W0) (kt : ¬ zTw T W0) (f0 : W0.2.1 0 ≠ 60) (f1 : ¬ (sI T W0 (-2) ∧ W0.2.1 1 = 8)) (f2 : ¬ (sI T W0 (-3) ∧ W0.2.1 2 = 10)) : xW e cd_232 Q (74, [(2, 183), (0, c), x2], [], H) := by
  have hT := zA0.1
  have wb := rA_rw zA0
  have w5 := rA_15 zA0
  refine q_al (pc := 74) (i := 0) (x := 183) rfl rfl ?_
  refine q_sc (pc := 75) (j := 3) rfl ?_
  refine q_iv (pc := 76) (q := 1728968) rfl rfl rfl ⟨by omega, (ttKc hT (a := 183) (κ := 12) (len := 0) ⟨rfl, rfl⟩ (by decide) (by decide)).1⟩ ?_
  refine la_is (by decide) (by decide) (by omega) hO zA0 (fun ji76 => ?_) (fun ji76 => ?_)
  · skip
    refine q_if (pc := 77) rfl (fun h77 => ?_) (fun h77 => ?_)
    · replace h77 : (1 : Int) = 0 := h77
      omega
    · replace h77 : (1 : Int) ≠ 0 := h77
      refine q_al (pc := 78) (i := 0) (x := 183) rfl rfl ?_
      refine q_gf (pc := 79) (m := 12142) (t := 2) (c := 14) rfl (ttKc hT (a := 183) (κ := 12) (len := 0) ⟨rfl, rfl⟩ (by decide) (by decide)).1 rfl rfl ?_
      rw [show H.1 183 14 = 189 from ttFx hT (by decide) (by decide) rfl rfl rfl]
      refine q_ic (pc := 80) (v := 3) rfl ?_
      refine q_ai (pc := 81) rfl (ttKc hT (a := 189) (κ := 20) (len := 196) ⟨rfl, rfl⟩ (by decide) (by decide)).1 (by omega) (by rw [(ttKc hT (a := 189) (κ := 20) (len := 196) ⟨rfl, rfl⟩ (by decide) (by decide)).2]; omega) ?_
      rw [(zA0.2.2.2.1 3 (by omega) (by omega))]
      refine q_ic (pc := 82) (v := 6) rfl ?_
      refine q_i2 (pc := 83) rfl (fun h83 => ?_) (fun h83 => ?_)
      · replace h83 : (W0.2.1 3) = 6 := h83
        exact ln_n95 he hO H W0 _ _ zA0 (fun J jA => hq J (by rw [show zLn T W0 = zEr T 3 W0 from (if_neg (fun z => z kk)).trans ((if_neg kt).trans (if_pos (Or.inr (Or.inr (Or.inr (Or.inl ⟨ji76, h83⟩))))))]; exact jA))
      · replace h83 : (W0.2.1 3) ≠ 6 := h83
        exact ln_h84 he hO zA0 hg hq c _ jc kk kt f0 f1 f2 (fun z => h83 z.2)
  · skip
    refine q_if (pc := 77) rfl (fun h77 => ?_) (fun h77 => ?_)
    · replace h77 : (0 : Int) = 0 := h77
      exact ln_h84 he hO zA0 hg hq c _ jc kk kt f0 f1 f2 (fun z => ji76 z.1)
    · replace h77 : (0 : Int) ≠ 0 := h77
      omega
theorem ln_h64 {e : Nat} (he : 11 ≤ e) {I : xH} {T : tSm} {n : Int} (hO : sOk T n) {Q : Int → xH → Prop} {H : xH} {W0 : tZ} (zA0 : rA T n I H W0) (hg : W0.1.2.1 = 0) (hq : ∀ J, rA T n I J (zLn T W0) → Q 0 J) (c : Int) (x2 : xV) (jc : c = oH T W0) (kk : zKn T W0) (kt : ¬ zTw T W0) (f0 : W0.2.1 0 ≠ 60) (f1 : ¬ (sI T W0 (-2) ∧ W0.2.1 1 = 8)) : xW e cd_232 Q (64, [(2, 183), (0, c), x2], [], H) := by
  have hT := zA0.1
  have wb := rA_rw zA0
  have w5 := rA_15 zA0
  refine q_al (pc := 64) (i := 0) (x := 183) rfl rfl ?_
  refine q_sc (pc := 65) (j := 1) rfl ?_
  refine q_iv (pc := 66) (q := 1728968) rfl rfl rfl ⟨by omega, (ttKc hT (a := 183) (κ := 12) (len := 0) ⟨rfl, rfl⟩ (by decide) (by decide)).1⟩ ?_
  refine la_is (by decide) (by decide) (by omega) hO zA0 (fun ji66 => ?_) (fun ji66 => ?_)
  · skip
    refine q_if (pc := 67) rfl (fun h67 => ?_) (fun h67 => ?_)
    · replace h67 : (1 : Int) = 0 := h67
      omega
    · replace h67 : (1 : Int) ≠ 0 := h67
      refine q_al (pc := 68) (i := 0) (x := 183) rfl rfl ?_
      refine q_gf (pc := 69) (m := 12142) (t := 2) (c := 14) rfl (ttKc hT (a := 183) (κ := 12) (len := 0) ⟨rfl, rfl⟩ (by decide) (by decide)).1 rfl rfl ?_
      rw [show H.1 183 14 = 189 from ttFx hT (by decide) (by decide) rfl rfl rfl]
      refine q_ic (pc := 70) (v := 2) rfl ?_
      refine q_ai (pc := 71) rfl (ttKc hT (a := 189) (κ := 20) (len := 196) ⟨rfl, rfl⟩ (by decide) (by decide)).1 (by omega) (by rw [(ttKc hT (a := 189) (κ := 20) (len := 196) ⟨rfl, rfl⟩ (by decide) (by decide)).2]; omega) ?_
      rw [(zA0.2.2.2.1 2 (by omega) (by omega))]
      refine q_ic (pc := 72) (v := 10) rfl ?_
      refine q_i2 (pc := 73) rfl (fun h73 => ?_) (fun h73 => ?_)
      · replace h73 : (W0.2.1 2) = 10 := h73
        exact ln_n95 he hO H W0 _ _ zA0 (fun J jA => hq J (by rw [show zLn T W0 = zEr T 3 W0 from (if_neg (fun z => z kk)).trans ((if_neg kt).trans (if_pos (Or.inr (Or.inr (Or.inl ⟨ji66, h73⟩)))))]; exact jA))
      · replace h73 : (W0.2.1 2) ≠ 10 := h73
        exact ln_h74 he hO zA0 hg hq c _ jc kk kt f0 f1 (fun z => h73 z.2)
  · skip
    refine q_if (pc := 67) rfl (fun h67 => ?_) (fun h67 => ?_)
    · replace h67 : (0 : Int) = 0 := h67
      exact ln_h74 he hO zA0 hg hq c _ jc kk kt f0 f1 (fun z => ji66 z.1)
    · replace h67 : (0 : Int) ≠ 0 := h67
      omega
theorem ln_h54 {e : Nat} (he : 11 ≤ e) {I : xH} {T : tSm} {n : Int} (hO : sOk T n) {Q : Int → xH → Prop} {H : xH} {W0 : tZ} (zA0 : rA T n I H W0) (hg : W0.1.2.1 = 0) (hq : ∀ J, rA T n I J (zLn T W0) → Q 0 J) (c : Int) (x2 : xV) (jc : c = oH T W0) (kk : zKn T W0) (kt : ¬ zTw T W0) (f0 : W0.2.1 0 ≠ 60) : xW e cd_232 Q (54, [(2, 183), (0, c), x2], [], H) := by
  have hT := zA0.1
  have wb := rA_rw zA0
  have w5 := rA_15 zA0
  refine q_al (pc := 54) (i := 0) (x := 183) rfl rfl ?_
  refine q_sc (pc := 55) (j := 0) rfl ?_
  refine q_iv (pc := 56) (q := 1728968) rfl rfl rfl ⟨by omega, (ttKc hT (a := 183) (κ := 12) (len := 0) ⟨rfl, rfl⟩ (by decide) (by decide)).1⟩ ?_
  refine la_is (by decide) (by decide) (by omega) hO zA0 (fun ji56 => ?_) (fun ji56 => ?_)
  · skip
    refine q_if (pc := 57) rfl (fun h57 => ?_) (fun h57 => ?_)
    · replace h57 : (1 : Int) = 0 := h57
      omega
    · replace h57 : (1 : Int) ≠ 0 := h57
      refine q_al (pc := 58) (i := 0) (x := 183) rfl rfl ?_
      refine q_gf (pc := 59) (m := 12142) (t := 2) (c := 14) rfl (ttKc hT (a := 183) (κ := 12) (len := 0) ⟨rfl, rfl⟩ (by decide) (by decide)).1 rfl rfl ?_
      rw [show H.1 183 14 = 189 from ttFx hT (by decide) (by decide) rfl rfl rfl]
      refine q_ic (pc := 60) (v := 1) rfl ?_
      refine q_ai (pc := 61) rfl (ttKc hT (a := 189) (κ := 20) (len := 196) ⟨rfl, rfl⟩ (by decide) (by decide)).1 (by omega) (by rw [(ttKc hT (a := 189) (κ := 20) (len := 196) ⟨rfl, rfl⟩ (by decide) (by decide)).2]; omega) ?_
      rw [(zA0.2.2.2.1 1 (by omega) (by omega))]
      refine q_ic (pc := 62) (v := 8) rfl ?_
      refine q_i2 (pc := 63) rfl (fun h63 => ?_) (fun h63 => ?_)
      · replace h63 : (W0.2.1 1) = 8 := h63
        exact ln_n95 he hO H W0 _ _ zA0 (fun J jA => hq J (by rw [show zLn T W0 = zEr T 3 W0 from (if_neg (fun z => z kk)).trans ((if_neg kt).trans (if_pos (Or.inr (Or.inl ⟨ji56, h63⟩))))]; exact jA))
      · replace h63 : (W0.2.1 1) ≠ 8 := h63
        exact ln_h64 he hO zA0 hg hq c _ jc kk kt f0 (fun z => h63 z.2)
  · skip
    refine q_if (pc := 57) rfl (fun h57 => ?_) (fun h57 => ?_)
    · replace h57 : (0 : Int) = 0 := h57
      exact ln_h64 he hO zA0 hg hq c _ jc kk kt f0 (fun z => ji56 z.1)
    · replace h57 : (0 : Int) ≠ 0 := h57
      omega
theorem ln_h48 {e : Nat} (he : 11 ≤ e) {I : xH} {T : tSm} {n : Int} (hO : sOk T n) {Q : Int → xH → Prop} {H : xH} {W0 : tZ} (zA0 : rA T n I H W0) (hg : W0.1.2.1 = 0) (hq : ∀ J, rA T n I J (zLn T W0) → Q 0 J) (c : Int) (x2 : xV) (jc : c = oH T W0) (kk : zKn T W0) (kt : ¬ zTw T W0) : xW e cd_232 Q (48, [(2, 183), (0, c), x2], [], H) := by
  have hT := zA0.1
  have wb := rA_rw zA0
  have w5 := rA_15 zA0
  refine q_al (pc := 48) (i := 0) (x := 183) rfl rfl ?_
  refine q_gf (pc := 49) (m := 12142) (t := 2) (c := 14) rfl (ttKc hT (a := 183) (κ := 12) (len := 0) ⟨rfl, rfl⟩ (by decide) (by decide)).1 rfl rfl ?_
  rw [show H.1 183 14 = 189 from ttFx hT (by decide) (by decide) rfl rfl rfl]
  refine q_ic (pc := 50) (v := 0) rfl ?_
  refine q_ai (pc := 51) rfl (ttKc hT (a := 189) (κ := 20) (len := 196) ⟨rfl, rfl⟩ (by decide) (by decide)).1 (by omega) (by rw [(ttKc hT (a := 189) (κ := 20) (len := 196) ⟨rfl, rfl⟩ (by decide) (by decide)).2]; omega) ?_
  rw [(zA0.2.2.2.1 0 (by omega) (by omega))]
  refine q_ic (pc := 52) (v := 60) rfl ?_
  refine q_i2 (pc := 53) rfl (fun h53 => ?_) (fun h53 => ?_)
  · replace h53 : (W0.2.1 0) = 60 := h53
    exact ln_n95 he hO H W0 _ _ zA0 (fun J jA => hq J (by rw [show zLn T W0 = zEr T 3 W0 from (if_neg (fun z => z kk)).trans ((if_neg kt).trans (if_pos (Or.inl h53)))]; exact jA))
  · replace h53 : (W0.2.1 0) ≠ 60 := h53
    exact ln_h54 he hO zA0 hg hq c _ jc kk kt h53
theorem ln_h35 {e : Nat} (he : 11 ≤ e) {I : xH} {T : tSm} {n : Int} (hO : sOk T n) {Q : Int → xH → Prop} {H : xH} {W0 : tZ} (zA0 : rA T n I H W0) (hg : W0.1.2.1 = 0) (hq : ∀ J, rA T n I J (zLn T W0) → Q 0 J) (c : Int) (x2 : xV) (jc : c = oH T W0) (kk : zKn T W0) : xW e cd_232 Q (35, [(2, 183), (0, c), x2], [], H) := by
  have hT := zA0.1
  have wb := rA_rw zA0
  have w5 := rA_15 zA0
  refine q_il (pc := 35) (i := 1) (x := c) rfl rfl ?_
  refine q_ic (pc := 36) (v := (-1)) rfl ?_
  refine q_i2 (pc := 37) rfl (fun h37 => ?_) (fun h37 => ?_)
  · replace h37 : c = (-1) := h37
    exact ln_h48 he hO zA0 hg hq c _ jc kk (fun z => z.1 (by rw [← jc]; exact h37))
  · replace h37 : c ≠ (-1) := h37
    refine q_al (pc := 38) (i := 0) (x := 183) rfl rfl ?_
    refine q_gf (pc := 39) (m := 12142) (t := 2) (c := 14) rfl (ttKc hT (a := 183) (κ := 12) (len := 0) ⟨rfl, rfl⟩ (by decide) (by decide)).1 rfl rfl ?_
    rw [show H.1 183 14 = 189 from ttFx hT (by decide) (by decide) rfl rfl rfl]
    refine q_ic (pc := 40) (v := 16) rfl ?_
    refine q_ai (pc := 41) rfl (ttKc hT (a := 189) (κ := 20) (len := 196) ⟨rfl, rfl⟩ (by decide) (by decide)).1 (by omega) (by rw [(ttKc hT (a := 189) (κ := 20) (len := 196) ⟨rfl, rfl⟩ (by decide) (by decide)).2]; omega) ?_
    rw [(zA0.2.2.2.1 16 (by omega) (by omega))]
    refine q_il (pc := 42) (i := 1) (x := c) rfl rfl ?_
    refine q_ij (pc := 43) (q := 1623928) rfl rfl rfl trivial ?_
    refine lf_holds (by omega) (fun jh43 => ?_) (fun jh43 => ?_)
    · skip
      refine q_if (pc := 44) rfl (fun h44 => ?_) (fun h44 => ?_)
      · replace h44 : (1 : Int) = 0 := h44
        omega
      · replace h44 : (1 : Int) ≠ 0 := h44
        refine q_al (pc := 45) (i := 0) (x := 183) rfl rfl ?_
        refine q_ic (pc := 46) (v := 2) rfl ?_
        refine q_iv (pc := 47) (q := 1720971) rfl rfl rfl (ttKc hT (a := 183) (κ := 12) (len := 0) ⟨rfl, rfl⟩ (by decide) (by decide)).1 ?_
        refine la_errs (by omega) hO zA0 (by decide) (by decide) (fun J1 zA1 => ?_)
        obtain ⟨W1, jW1⟩ : ∃ Y : tZ, Y = zEr T 2 W0 := ⟨_, rfl⟩
        replace zA1 : rA T n I J1 W1 := by rw [jW1]; exact zA1
        exact ln_n48 he hO J1 W1 _ _ zA1 (by rw [jW1]; exact zEr_n (by decide)) (fun J jA => hq J (by rw [show zLn T W0 = zEr T 2 W0 from (if_neg (fun z => z kk)).trans (if_pos ⟨by rw [← jc]; exact h37, by rw [← jc]; exact jh43⟩), ← jW1]; exact jA))
    · skip
      refine q_if (pc := 44) rfl (fun h44 => ?_) (fun h44 => ?_)
      · replace h44 : (0 : Int) = 0 := h44
        exact ln_h48 he hO zA0 hg hq c _ jc kk (fun z => by have w := z.2; rw [← jc, jh43] at w; exact absurd w (by decide))
      · replace h44 : (0 : Int) ≠ 0 := h44
        omega
theorem la_readLine {dd : Nat} (hd : 12 ≤ dd) {I H : xH} {T : tSm} {n : Int} (hO : sOk T n) {W0 : tZ} (zA0 : rA T n I H W0) (hg : W0.1.2.1 = 0) {Q : Int → xH → Prop} (hq : ∀ J, rA T n I J (zLn T W0) → Q 0 J) : xCall dd 232 [(2, 183)] H Q := by
  obtain ⟨e, rfl, he⟩ := ttRun0 (n := 11) hd
  have he : 11 ≤ e := he
  have hT := zA0.1
  have wb := rA_rw zA0
  have w5 := rA_15 zA0
  refine xC_of (L := [(2, 183), (9, 0), (9, 0)]) (cd := cd_232) rfl rfl rfl ?_
  refine q_al (pc := 0) (i := 0) (x := 183) rfl rfl ?_
  refine q_iv (pc := 1) (q := 1840964) rfl rfl rfl (ttKc hT (a := 183) (κ := 12) (len := 0) ⟨rfl, rfl⟩ (by decide) (by decide)).1 ?_
  refine la_onceHere (by omega) hO zA0 ?_
  obtain ⟨c, jc⟩ : ∃ c, c = oH T W0 := ⟨_, rfl⟩
  rw [← jc]
  refine q_is (pc := 2) (i := 1) (L' := [(2, 183), (0, c), (9, 0)]) rfl rfl rfl ?_
  refine q_il (pc := 3) (i := 1) (x := c) rfl rfl ?_
  refine q_ic (pc := 4) (v := (-1)) rfl ?_
  refine q_i2 (pc := 5) rfl (fun h5 => ?_) (fun h5 => ?_)
  · replace h5 : c ≠ (-1) := h5
    refine q_ic (pc := 26) (v := 1) rfl ?_
    refine q_go (pc := 27) rfl ?_
    refine q_is (pc := 29) (i := 2) (L' := [(2, 183), (0, c), (0, 1)]) rfl rfl rfl ?_
    refine q_il (pc := 30) (i := 2) (x := 1) rfl rfl ?_
    refine q_if (pc := 31) rfl (fun h31 => ?_) (fun h31 => ?_)
    · replace h31 : (1 : Int) ≠ 0 := h31
      exact ln_h35 he hO zA0 hg hq c _ jc (fun z => absurd (jc.trans z) h5)
    · replace h31 : (1 : Int) = 0 := h31
      omega
  · replace h5 : c = (-1) := h5
    refine q_al (pc := 6) (i := 0) (x := 183) rfl rfl ?_
    refine q_sc (pc := 7) (j := 0) rfl ?_
    refine q_iv (pc := 8) (q := 1728968) rfl rfl rfl ⟨by omega, (ttKc hT (a := 183) (κ := 12) (len := 0) ⟨rfl, rfl⟩ (by decide) (by decide)).1⟩ ?_
    refine la_is (by decide) (by decide) (by omega) hO zA0 (fun ji8 => ?_) (fun ji8 => ?_)
    · skip
      refine q_if (pc := 9) rfl (fun h9 => ?_) (fun h9 => ?_)
      · replace h9 : (1 : Int) ≠ 0 := h9
        refine q_ic (pc := 26) (v := 1) rfl ?_
        refine q_go (pc := 27) rfl ?_
        refine q_is (pc := 29) (i := 2) (L' := [(2, 183), (0, c), (0, 1)]) rfl rfl rfl ?_
        refine q_il (pc := 30) (i := 2) (x := 1) rfl rfl ?_
        refine q_if (pc := 31) rfl (fun h31 => ?_) (fun h31 => ?_)
        · replace h31 : (1 : Int) ≠ 0 := h31
          exact ln_h35 he hO zA0 hg hq c _ jc (fun _ => Or.inl ji8)
        · replace h31 : (1 : Int) = 0 := h31
          omega
      · replace h9 : (1 : Int) = 0 := h9
        omega
    · skip
      refine q_if (pc := 9) rfl (fun h9 => ?_) (fun h9 => ?_)
      · replace h9 : (0 : Int) ≠ 0 := h9
        omega
      · replace h9 : (0 : Int) = 0 := h9
        refine q_al (pc := 10) (i := 0) (x := 183) rfl rfl ?_
        refine q_sc (pc := 11) (j := 1) rfl ?_
        refine q_iv (pc := 12) (q := 1728968) rfl rfl rfl ⟨by omega, (ttKc hT (a := 183) (κ := 12) (len := 0) ⟨rfl, rfl⟩ (by decide) (by decide)).1⟩ ?_
        refine la_is (by decide) (by decide) (by omega) hO zA0 (fun ji12 => ?_) (fun ji12 => ?_)
        · skip
          refine q_if (pc := 13) rfl (fun h13 => ?_) (fun h13 => ?_)
          · replace h13 : (1 : Int) ≠ 0 := h13
            refine q_ic (pc := 26) (v := 1) rfl ?_
            refine q_go (pc := 27) rfl ?_
            refine q_is (pc := 29) (i := 2) (L' := [(2, 183), (0, c), (0, 1)]) rfl rfl rfl ?_
            refine q_il (pc := 30) (i := 2) (x := 1) rfl rfl ?_
            refine q_if (pc := 31) rfl (fun h31 => ?_) (fun h31 => ?_)
            · replace h31 : (1 : Int) ≠ 0 := h31
              exact ln_h35 he hO zA0 hg hq c _ jc (fun _ => Or.inr (Or.inl ji12))
            · replace h31 : (1 : Int) = 0 := h31
              omega
          · replace h13 : (1 : Int) = 0 := h13
            omega
        · skip
          refine q_if (pc := 13) rfl (fun h13 => ?_) (fun h13 => ?_)
          · replace h13 : (0 : Int) ≠ 0 := h13
            omega
          · replace h13 : (0 : Int) = 0 := h13
            refine q_al (pc := 14) (i := 0) (x := 183) rfl rfl ?_
            refine q_sc (pc := 15) (j := 2) rfl ?_
            refine q_iv (pc := 16) (q := 1728968) rfl rfl rfl ⟨by omega, (ttKc hT (a := 183) (κ := 12) (len := 0) ⟨rfl, rfl⟩ (by decide) (by decide)).1⟩ ?_
            refine la_is (by decide) (by decide) (by omega) hO zA0 (fun ji16 => ?_) (fun ji16 => ?_)
            · skip
              refine q_if (pc := 17) rfl (fun h17 => ?_) (fun h17 => ?_)
              · replace h17 : (1 : Int) ≠ 0 := h17
                refine q_ic (pc := 26) (v := 1) rfl ?_
                refine q_go (pc := 27) rfl ?_
                refine q_is (pc := 29) (i := 2) (L' := [(2, 183), (0, c), (0, 1)]) rfl rfl rfl ?_
                refine q_il (pc := 30) (i := 2) (x := 1) rfl rfl ?_
                refine q_if (pc := 31) rfl (fun h31 => ?_) (fun h31 => ?_)
                · replace h31 : (1 : Int) ≠ 0 := h31
                  exact ln_h35 he hO zA0 hg hq c _ jc (fun _ => Or.inr (Or.inr (Or.inl ji16)))
                · replace h31 : (1 : Int) = 0 := h31
                  omega
              · replace h17 : (1 : Int) = 0 := h17
                omega
            · skip
              refine q_if (pc := 17) rfl (fun h17 => ?_) (fun h17 => ?_)
              · replace h17 : (0 : Int) ≠ 0 := h17
                omega
              · replace h17 : (0 : Int) = 0 := h17
                refine q_al (pc := 18) (i := 0) (x := 183) rfl rfl ?_
                refine q_sc (pc := 19) (j := 3) rfl ?_
                refine q_iv (pc := 20) (q := 1728968) rfl rfl rfl ⟨by omega, (ttKc hT (a := 183) (κ := 12) (len := 0) ⟨rfl, rfl⟩ (by decide) (by decide)).1⟩ ?_
                refine la_is (by decide) (by decide) (by omega) hO zA0 (fun ji20 => ?_) (fun ji20 => ?_)
                · skip
                  refine q_if (pc := 21) rfl (fun h21 => ?_) (fun h21 => ?_)
                  · replace h21 : (1 : Int) ≠ 0 := h21
                    refine q_ic (pc := 26) (v := 1) rfl ?_
                    refine q_go (pc := 27) rfl ?_
                    refine q_is (pc := 29) (i := 2) (L' := [(2, 183), (0, c), (0, 1)]) rfl rfl rfl ?_
                    refine q_il (pc := 30) (i := 2) (x := 1) rfl rfl ?_
                    refine q_if (pc := 31) rfl (fun h31 => ?_) (fun h31 => ?_)
                    · replace h31 : (1 : Int) ≠ 0 := h31
                      exact ln_h35 he hO zA0 hg hq c _ jc (fun _ => Or.inr (Or.inr (Or.inr (Or.inl ji20))))
                    · replace h31 : (1 : Int) = 0 := h31
                      omega
                  · replace h21 : (1 : Int) = 0 := h21
                    omega
                · skip
                  refine q_if (pc := 21) rfl (fun h21 => ?_) (fun h21 => ?_)
                  · replace h21 : (0 : Int) ≠ 0 := h21
                    omega
                  · replace h21 : (0 : Int) = 0 := h21
                    refine q_al (pc := 22) (i := 0) (x := 183) rfl rfl ?_
                    refine q_sc (pc := 23) (j := 4) rfl ?_
                    refine q_iv (pc := 24) (q := 1728968) rfl rfl rfl ⟨by omega, (ttKc hT (a := 183) (κ := 12) (len := 0) ⟨rfl, rfl⟩ (by decide) (by decide)).1⟩ ?_
                    refine la_is (by decide) (by decide) (by omega) hO zA0 (fun ji24 => ?_) (fun ji24 => ?_)
                    · skip
                      refine q_if (pc := 25) rfl (fun h25 => ?_) (fun h25 => ?_)
                      · replace h25 : (1 : Int) = 0 := h25
                        omega
                      · replace h25 : (1 : Int) ≠ 0 := h25
                        refine q_ic (pc := 26) (v := 1) rfl ?_
                        refine q_go (pc := 27) rfl ?_
                        refine q_is (pc := 29) (i := 2) (L' := [(2, 183), (0, c), (0, 1)]) rfl rfl rfl ?_
                        refine q_il (pc := 30) (i := 2) (x := 1) rfl rfl ?_
                        refine q_if (pc := 31) rfl (fun h31 => ?_) (fun h31 => ?_)
                        · replace h31 : (1 : Int) ≠ 0 := h31
                          exact ln_h35 he hO zA0 hg hq c _ jc (fun _ => Or.inr (Or.inr (Or.inr (Or.inr (ji24)))))
                        · replace h31 : (1 : Int) = 0 := h31
                          omega
                    · skip
                      refine q_if (pc := 25) rfl (fun h25 => ?_) (fun h25 => ?_)
                      · replace h25 : (0 : Int) = 0 := h25
                        refine q_ic (pc := 28) (v := 0) rfl ?_
                        refine q_is (pc := 29) (i := 2) (L' := [(2, 183), (0, c), (0, 0)]) rfl rfl rfl ?_
                        refine q_il (pc := 30) (i := 2) (x := 0) rfl rfl ?_
                        refine q_if (pc := 31) rfl (fun h31 => ?_) (fun h31 => ?_)
                        · replace h31 : (0 : Int) ≠ 0 := h31
                          omega
                        · replace h31 : (0 : Int) = 0 := h31
                          refine q_al (pc := 32) (i := 0) (x := 183) rfl rfl ?_
                          refine q_ic (pc := 33) (v := 1) rfl ?_
                          refine q_iv (pc := 34) (q := 1720971) rfl rfl rfl (ttKc hT (a := 183) (κ := 12) (len := 0) ⟨rfl, rfl⟩ (by decide) (by decide)).1 ?_
                          refine la_errs (by omega) hO zA0 (by decide) (by decide) (fun J1 zA1 => ?_)
                          obtain ⟨W1, jW1⟩ : ∃ Y : tZ, Y = zEr T 1 W0 := ⟨_, rfl⟩
                          replace zA1 : rA T n I J1 W1 := by rw [jW1]; exact zA1
                          have nk : ¬ zKn T W0 := fun z => by
                            rcases z (by rw [← jc]; exact h5) with z | z | z | z | z
                            · exact ji8 z
                            · exact ji12 z
                            · exact ji16 z
                            · exact ji20 z
                            · exact ji24 z
                          exact ln_n35 he hO J1 W1 c _ zA1 (by rw [jW1]; exact zEr_n (by decide)) (fun J jA => hq J (by rw [show zLn T W0 = zEr T 1 W0 from if_pos nk, ← jW1]; exact jA))
                      · replace h25 : (0 : Int) ≠ 0 := h25
                        omega
