/-! what a line tells, by the stream of tokens: a row of numbers -/
abbrev tZ : Type := tSa × (Int → Int) × Int
def sUp (R : Int → Int) (j v : Int) : Int → Int := fun i => if i = j then v else R i
theorem sUp_eq {R : Int → Int} {j v : Int} : sUp R j v j = v := if_pos rfl
theorem sUp_ne {R : Int → Int} {j v i : Int} (h : i ≠ j) : sUp R j v i = R i := if_neg h
def zP (j v : Int) (Z : tZ) : tZ := (Z.1, sUp Z.2.1 j v, Z.2.2)
noncomputable def zNd (T : tSm) (s : Int) (Z : tZ) : tZ := (sNd T Z.1 s, Z.2)
noncomputable def zTk (T : tSm) (s : Int) (Z : tZ) : tZ := ((sTk T Z.1 s).2, Z.2)
def zNm (T : tSm) (l h : Int) (Z : tZ) : tZ := ((sNm T Z.1 l h).2, Z.2)
noncomputable def zSg (T : tSm) (h : Int) (Z : tZ) : tZ := ((sSg T Z.1 h).2, Z.2)
def zEr (T : tSm) (k : Int) (Z : tZ) : tZ := (sEr T Z.1 k, Z.2)
def zNx (T : tSm) (Z : tZ) : tZ := ((sNx T Z.1.1, Z.1.2), Z.2)
/-- memory K, reached from H, tells Z -/
def rA (T : tSm) (n : Int) (H K : xH) (Z : tZ) : Prop := ttTI K ∧ ttFr yyE0 H K ∧ (rR T n K Z.1.1 ∧ rS K Z.1.1 = Z.1) ∧ (∀ j : Int, 0 ≤ j → j ≤ 195 → K.1 189 j = Z.2.1 j) ∧ K.1 183 15 = Z.2.2
theorem rA_0 {T : tSm} {n i : Int} {H : xH} (hT : ttTI H) (hR : rR T n H i) : rA T n H H (rS H i, H.1 189, H.1 183 15) := ⟨hT, ttFr_rf _ H, ⟨hR, rfl⟩, fun _ _ _ => rfl, rfl⟩
theorem rA_n {T : tSm} {n : Int} {H K : xH} {Z : tZ} (h : rA T n H K Z) : 210 ≤ (K.2.2.2.1 : Int) := by have := h.1.1; omega
theorem rA_S {T : tSm} {n : Int} {H K : xH} {Z : tZ} (h : rA T n H K Z) : K.1 183 12 = Z.1.2.1 := by
  have w : (rS K Z.1.1).2.1 = Z.1.2.1 := by rw [h.2.2.1.2]
  exact w
theorem rA_fr {T : tSm} {n : Int} {H K J : xH} {Z : tZ} {S : tSa} (h : rA T n H K Z) (jT : ttTI J) (jF : ttFr (true, [(183, 8, 13)]) K J) (jR : rR T n J S.1) (jS : rS J S.1 = S) : rA T n H J (S, Z.2) := by
  have hn := rA_n h
  obtain ⟨a1, a2, -, a4, a5⟩ := h
  exact ⟨jT, ttFr_tr a2 jF (fun _ => rfl) (by decide), ⟨jR, jS⟩, fun j ujj0 ujj1 => (fr_no jF 189 (by omega) rfl (by decide)).trans (a4 j ujj0 ujj1), (fr_cl jF (a := 183) (j := 15) (by omega) (by decide)).trans a5⟩
theorem rA_put {T : tSm} {n : Int} {H K : xH} {Z : tZ} {j v : Int} (h : rA T n H K Z) (hm : ttM (K.2.2.2.1 : Int) (ttTy (ttTb 189) j) v) (ujj0 : 0 ≤ j) (ujj1 : j ≤ 195) : rA T n H (xUp K.1 189 j v, K.2) (zP j v Z) := by
  have hn := rA_n h
  obtain ⟨a1, a2, ⟨a3, a6⟩, a4, a5⟩ := h
  have c := ttPuT a1 a2 (a := 189) (j := j) (x := v) (by decide) (fun _ _ => hm) ⟨(189, 0, 195), by simp [yyE0], ⟨⟨by decide, rfl⟩, ujj0, ujj1⟩⟩
  have d := ttPuT a1 (ttFr_rf (true, [(189, 0, 195)]) K) (a := 189) (j := j) (x := v) (by decide) (fun _ _ => hm) ⟨(189, 0, 195), by simp, ⟨⟨by decide, rfl⟩, ujj0, ujj1⟩⟩
  refine ⟨c.1, c.2, ⟨rR_fr d.2 hn (by decide) (by decide) a3, ?_⟩, fun i i0 i1 => ?_, ?_⟩
  · refine (show rS (xUp K.1 189 j v, K.2) Z.1.1 = rS K Z.1.1 from ?_).trans a6
    unfold rS
    rw [fr_no d.2 183 (by omega) rfl (by decide), fr_no d.2 183 (by omega) rfl (by decide)]
  · show xUp K.1 189 j v 189 i = if i = j then v else Z.2.1 i
    by_cases z : i = j
    · rw [if_pos z, z]; exact up_eq (D := K.1) (a := 189) (j := j) (x := v)
    · rw [if_neg z, ← a4 i i0 i1]; exact up_ne (fun y => z y.2)
  · exact (fr_no d.2 183 (by omega) rfl (by decide)).trans a5
theorem la_errs {T : tSm} {n k : Int} {dd : Nat} (hd : 2 ≤ dd) {H K : xH} {Z : tZ} (hO : sOk T n) (h : rA T n H K Z) (k1 : 1 ≤ k) (k3 : k ≤ 3) {Q : Int → xH → Prop} (hq : ∀ J, rA T n H J (zEr T k Z) → Q 0 J) : xCall dd 215 [(2, 183), (0, k)] K Q :=
  ly_errs hd h.1 hO h.2.2.1.1 k1 k3 (fun J jT jF jR jS => hq J (rA_fr h jT jF (by rw [sEr_at]; exact jR) (by rw [sEr_at, jS, h.2.2.1.2])))
theorem la_adv {T : tSm} {n : Int} {dd : Nat} (hd : 2 ≤ dd) {H K : xH} {Z : tZ} (hO : sOk T n) (h : rA T n H K Z) {Q : Int → xH → Prop} (hq : ∀ J, rA T n H J (zNx T Z) → Q 0 J) : xCall dd 213 [(2, 183)] K Q :=
  ly_adv hd h.1 hO h.2.2.1.1 (fun J jT jF jR jS => hq J (rA_fr h jT jF jR (jS.trans (by rw [h.2.2.1.2]))))
theorem la_takes {T : tSm} {n s : Int} (s0 : s ≤ -2) (s1 : -29 < s) {dd : Nat} (hd : 7 ≤ dd) {H K : xH} {Z : tZ} (hO : sOk T n) (h : rA T n H K Z) {Q : Int → xH → Prop} (hq : ∀ r J, rA T n H J (zTk T s Z) → (r = 1 ∧ (sTk T Z.1 s).1 = true ∨ r = 0 ∧ (sTk T Z.1 s).1 = false) → Q r J) : xCall dd 217 [(2, 183), (2, s)] K Q :=
  ly_takes s0 s1 hd h.1 hO h.2.2.1.1 (fun r J jT jF jR jS jr => by
    rw [h.2.2.1.2] at jR jS jr
    exact hq r J (rA_fr h jT jF jR jS) jr)
theorem la_needs {T : tSm} {n s : Int} (s0 : s ≤ -2) (s1 : -29 < s) {dd : Nat} (hd : 8 ≤ dd) {H K : xH} {Z : tZ} (hO : sOk T n) (h : rA T n H K Z) {Q : Int → xH → Prop} (hq : ∀ J, rA T n H J (zNd T s Z) → Q 0 J) : xCall dd 218 [(2, 183), (2, s)] K Q :=
  ly_needs s0 s1 hd h.1 hO h.2.2.1.1 (fun J jT jF jR jS => by
    rw [h.2.2.1.2] at jR jS
    exact hq J (rA_fr h jT jF jR jS))
theorem la_number {T : tSm} {n l m : Int} (m9 : m ≤ 9999) {dd : Nat} (hd : 3 ≤ dd) {H K : xH} {Z : tZ} (hO : sOk T n) (h : rA T n H K Z) {Q : Int → xH → Prop} (hq : ∀ r J, rA T n H J (zNm T l m Z) → r = (sNm T Z.1 l m).1 → Q r J) : xCall dd 219 [(2, 183), (0, l), (0, m)] K Q :=
  ly_number hd h.1 hO h.2.2.1.1 m9 (fun r J jT jF jR jS jr => by
    rw [h.2.2.1.2] at jR jS jr
    exact hq r J (rA_fr h jT jF jR jS) jr)
theorem la_is {T : tSm} {n s : Int} (s0 : s ≤ -2) (s1 : -29 < s) {dd : Nat} (hd : 6 ≤ dd) {H K : xH} {Z : tZ} (hO : sOk T n) (h : rA T n H K Z) {Q : Int → xH → Prop} (hy : Z.1.2.1 = 0 ∧ sW T Z.1.1 s = true → Q 1 K) (hn : ¬ (Z.1.2.1 = 0 ∧ sW T Z.1.1 s = true) → Q 0 K) : xCall dd 216 [(2, 183), (2, s)] K Q :=
  lf_is s0 s1 hd h.1 (fun y => hy (by
    rw [rW hO h.2.2.1.1, rA_S h] at y
    exact ⟨y.1, sW_t y.2⟩)) (fun y => hn (fun w => y (by
    rw [rW hO h.2.2.1.1, rA_S h]
    exact ⟨w.1, Classical.byContradiction (fun u => by have v := w.2; rw [sW_f u] at v; exact absurd v (by decide))⟩)))
theorem la_good {T : tSm} {n : Int} {dd : Nat} (hd : 1 ≤ dd) {H K : xH} {Z : tZ} (h : rA T n H K Z) {Q : Int → xH → Prop} (hy : Z.1.2.1 = 0 → Q 1 K) (hn : Z.1.2.1 ≠ 0 → Q 0 K) : xCall dd 214 [(2, 183)] K Q :=
  lf_good hd h.1 (fun y => hy ((rA_S h).symm.trans y)) (fun y => hn (fun w => y ((rA_S h).trans w)))
theorem sTk_f {T : tSm} {S : tSa} {s : Int} (h : (sTk T S s).1 = false) : (sTk T S s).2 = S := by
  unfold sTk at h ⊢
  split at h
  · simp at h
  · rename_i w; rw [if_neg w]
theorem zTk_f {T : tSm} {Z : tZ} {s : Int} (h : (sTk T Z.1 s).1 = false) : zTk T s Z = Z := by
  unfold zTk
  rw [sTk_f h]
theorem rA_rw {T : tSm} {n : Int} {H K : xH} {Z : tZ} (h : rA T n H K Z) : (0 ≤ Z.2.1 0 ∧ Z.2.1 0 ≤ 60) ∧ (0 ≤ Z.2.1 1 ∧ Z.2.1 1 ≤ 8) ∧ (0 ≤ Z.2.1 2 ∧ Z.2.1 2 ≤ 10) ∧ (0 ≤ Z.2.1 3 ∧ Z.2.1 3 ≤ 6) := by
  obtain ⟨a1, -, -, a4, -⟩ := h
  rw [← a4 0 (by decide) (by decide), ← a4 1 (by decide) (by decide), ← a4 2 (by decide) (by decide), ← a4 3 (by decide) (by decide)]
  exact ⟨ttMc a1 (a := 189) (j := 0) (by decide) (by decide) (by decide) (by decide), ttMc a1 (a := 189) (j := 1) (by decide) (by decide) (by decide) (by decide), ttMc a1 (a := 189) (j := 2) (by decide) (by decide) (by decide) (by decide), ttMc a1 (a := 189) (j := 3) (by decide) (by decide) (by decide) (by decide)⟩
theorem sSg_v {T : tSm} {S : tSa} {h : Int} (h0 : 0 ≤ h) : -h ≤ (sSg T S h).1 ∧ (sSg T S h).1 ≤ h := by
  have k := sNm_v (T := T) (S := S) (lo := 0) (hi := h)
  unfold sSg
  split
  · show -h ≤ -(sNm T S 0 h).1 ∧ -(sNm T S 0 h).1 ≤ h
    omega
  · omega
def zPn (T : tSm) (l h k : Int) (Z : tZ) : tZ := zP k (sNm T Z.1 l h).1 (zNm T l h Z)
noncomputable def zPs (T : tSm) (h k : Int) (Z : tZ) : tZ := zP k (sSg T Z.1 h).1 (zSg T h Z)
def zPp (T : tSm) (k : Int) (Z : tZ) : tZ := zPn T 0 (Z.2.1 1 - 1) k Z
/-- a place's line -/
noncomputable def zPl1 (T : tSm) (Z : tZ) : tZ := zP (20 + 8 * Z.2.1 1) (sNm T (sNd T Z.1 (-13)) 0 30).1 (zNm T 0 30 (zNd T (-13) Z))
def zIn (c : Int) (Z : tZ) : tZ := zP c (Z.2.1 c + 1) Z
noncomputable def zPl2 (T : tSm) (k : Int) (Z : tZ) : tZ := zIn 1 (zP (k + 2) (sNm T Z.1 0 999).1 (zNm T 0 999 (zP (k + 1) 1 Z)))
def zPl3 (k : Int) (Z : tZ) : tZ := zIn 1 (zP (k + 1) 2 (Z.1, Z.2.1, 1))
def zHm (T : tSm) (Z : tZ) : tZ := if Z.2.2 = 0 then Z else zEr T 2 Z
def zGo (T : tSm) (Z : tZ) : tZ := if Z.1.2.1 = 0 then zNx T Z else Z
noncomputable def zPl (T : tSm) (Z : tZ) : tZ :=
  if (sTk T (zPl1 T Z).1 (-15)).1 = true then zPl2 T (20 + 8 * Z.2.1 1) (zTk T (-15) (zPl1 T Z))
  else if (zPl1 T Z).1.2.1 = 0 ∧ sW T (zPl1 T Z).1.1 (-14) = true then zPl3 (20 + 8 * Z.2.1 1) (zGo T (zHm T (zPl1 T Z)))
  else zIn 1 (zPl1 T Z)
/-- a leg's line -/
def zBl (T : tSm) (k : Int) (Z : tZ) : tZ := if Z.1.2.1 = 0 ∧ T.2.1 Z.1.1 = 2 ∧ min 99999 (sVt T Z.1.1) = Z.2.1 k then zEr T 2 Z else Z
noncomputable def zLa (T : tSm) (k : Int) (Z : tZ) : tZ := zPs T 999 (k + 3) (zNd T (-17) (zPn T 1 60 (k + 2) (zNd T (-16) (zPp T (k + 1) Z))))
noncomputable def zLb (T : tSm) (k : Int) (Z : tZ) : tZ := zPs T 60 (k + 4) (zNd T (-19) Z)
noncomputable def zLc (T : tSm) (k : Int) (Z : tZ) : tZ := if (sTk T Z.1 (-20)).1 = true then zPn T 0 40 (k + 5) (zTk T (-20) Z) else Z
noncomputable def zLe2 (T : tSm) (k : Int) (Z : tZ) : tZ := zLc T k (zLb T k (zLa T k Z))
noncomputable def zLe (T : tSm) (Z : tZ) : tZ := zIn 2 (zLe2 T (84 + 6 * Z.2.1 2) (zBl T (84 + 6 * Z.2.1 2) (zPp T (84 + 6 * Z.2.1 2) Z)))
/-- a lift's line -/
def zBf (T : tSm) (Z : tZ) : tZ := if Z.1.2.1 = 0 ∧ T.2.1 Z.1.1 = 2 ∧ (0 ≤ min 99999 (sVt T Z.1.1) ∧ min 99999 (sVt T Z.1.1) ≤ Z.2.1 1 - 1) ∧ Z.2.1 (20 + 8 * min 99999 (sVt T Z.1.1) + 3) = 1 then zEr T 2 Z else Z
def zPq (T : tSm) (Z : tZ) : tZ := zNm T 0 (Z.2.1 1 - 1) Z
def vPq (T : tSm) (Z : tZ) : Int := (sNm T Z.1 0 (Z.2.1 1 - 1)).1
noncomputable def zTd (T : tSm) (s l h : Int) (Z : tZ) : tZ := zNm T l h (zNd T s Z)
noncomputable def vTd (T : tSm) (s l h : Int) (Z : tZ) : Int := (sNm T (sNd T Z.1 s) l h).1
noncomputable def zLi2 (T : tSm) (q : Int) (Z : tZ) : tZ := if (sTk T Z.1 (-23)).1 = true then zPn T 0 100 (q + 7) (zPn T 0 100 (q + 6) (zTk T (-23) Z)) else Z
noncomputable def zLi1 (T : tSm) (q c u : Int) (Z : tZ) : tZ := if Z.1.2.1 = 0 then zLi2 T q (zP (q + 5) u (zP (q + 4) c (zP (q + 3) 1 Z))) else Z
noncomputable def zLi (T : tSm) (Z : tZ) : tZ := zLi1 T (20 + 8 * vPq T (zBf T Z)) (vTd T (-21) 0 100 (zPq T (zBf T Z))) (vTd T (-22) 0 2000 (zTd T (-21) 0 100 (zPq T (zBf T Z)))) (zTd T (-22) 0 2000 (zTd T (-21) 0 100 (zPq T (zBf T Z))))
/-- a point's line -/
def zBp (T : tSm) (Z : tZ) : tZ := if Z.1.2.1 = 0 ∧ T.2.1 Z.1.1 = 2 ∧ (0 ≤ min 99999 (sVt T Z.1.1) ∧ min 99999 (sVt T Z.1.1) ≤ Z.2.1 1 - 1) ∧ xAnd (xShr (Z.2.1 15) (min 99999 (sVt T Z.1.1))) 1 = 1 then zEr T 2 Z else Z
def zPo1 (p : Int) (Z : tZ) : tZ := if Z.1.2.1 = 0 then zP 15 (xOr (Z.2.1 15) (xShl 1 p)) Z else Z
def zPo (T : tSm) (Z : tZ) : tZ := zPo1 (vPq T (zBp T Z)) (zPq T (zBp T Z))
/-- a start's line -/
def zSt1 (p h : Int) (Z : tZ) : tZ := if Z.1.2.1 = 0 then zP 13 h (zP 12 p Z) else Z
noncomputable def zSt (T : tSm) (Z : tZ) : tZ := zSt1 (vPq T Z) (vTd T (-27) 0 60 (zPq T Z)) (zP 14 (if (sTk T (zTd T (-27) 0 60 (zPq T Z)).1 (-28)).1 = true then 1 else 0) (zTk T (-28) (zTd T (-27) 0 60 (zPq T Z))))
/-- what is told once -/
noncomputable def zPt (T : tSm) (s l h k : Int) (Z : tZ) : tZ := zP k (vTd T s l h Z) (zTd T s l h Z)
def zOn0 (T : tSm) (k : Int) (Z : tZ) : tZ := zP 16 (xOr (Z.2.1 16) (xShl 1 k)) (zNx T Z)
noncomputable def zOn (T : tSm) (k : Int) (Z : tZ) : tZ :=
  if k = 0 then zPn T 0 999 5 (zOn0 T k Z) else if k = 1 then zPn T 0 50 6 (zOn0 T k Z) else if k = 2 then zPn T 31 60 7 (zOn0 T k Z) else if k = 3 then zPn T 1 47 8 (zOn0 T k Z)
  else if k = 4 then zPt T (-26) 0 9999 11 (zPt T (-25) 0 99 10 (zPt T (-14) 0 9999 9 (zOn0 T k Z))) else zSt T (zOn0 T k Z)
theorem rA_15 {T : tSm} {n : Int} {H K : xH} {Z : tZ} (h : rA T n H K Z) : (0 ≤ Z.2.1 15 ∧ Z.2.1 15 ≤ 255) ∧ (0 ≤ Z.2.1 16 ∧ Z.2.1 16 ≤ 63) := by
  obtain ⟨a1, -, -, a4, -⟩ := h
  rw [← a4 15 (by decide) (by decide), ← a4 16 (by decide) (by decide)]
  exact ⟨ttMc a1 (a := 189) (j := 15) (by decide) (by decide) (by decide) (by decide), ttMc a1 (a := 189) (j := 16) (by decide) (by decide) (by decide) (by decide)⟩
theorem la_told {dd : Nat} {s l m : Int} (s0 : s ≤ -2) (s1 : -29 < s) (m9 : m ≤ 9999) (hd : 9 ≤ dd) {I H : xH} {T : tSm} {n : Int} (hO : sOk T n) {W0 : tZ} (zA0 : rA T n I H W0) {Q : Int → xH → Prop} (hq : ∀ r J, rA T n I J (zNm T l m (zNd T s W0)) → r = (sNm T (sNd T W0.1 s) l m).1 → Q r J) : xCall dd 220 [(2, 183), (2, s), (0, l), (0, m)] H Q := by
  obtain ⟨e, rfl, he⟩ := ttRun0 (n := 8) hd
  have he : 8 ≤ e := he
  have hT := zA0.1
  refine xC_of (L := [(2, 183), (2, s), (0, l), (0, m)]) (cd := cd_220) rfl rfl rfl ?_
  refine q_al (pc := 0) (i := 0) (x := 183) rfl rfl ?_
  refine q_al (pc := 1) (i := 1) (x := s) rfl rfl ?_
  refine q_iv (pc := 2) (q := 1744971) rfl rfl rfl ⟨by omega, (ttKc hT (a := 183) (κ := 12) (len := 0) ⟨rfl, rfl⟩ (by decide) (by decide)).1⟩ ?_
  refine la_needs s0 s1 (by omega) hO zA0 (fun J1 zA1 => ?_)
  obtain ⟨W1, jW1⟩ : ∃ Y : tZ, Y = zNd T s W0 := ⟨_, rfl⟩
  replace zA1 : rA T n I J1 W1 := by rw [jW1]; exact zA1
  refine q_al (pc := 3) (i := 0) (x := 183) rfl rfl ?_
  refine q_il (pc := 4) (i := 2) (x := l) rfl rfl ?_
  refine q_il (pc := 5) (i := 3) (x := m) rfl rfl ?_
  refine q_iv (pc := 6) (q := 1752972) rfl rfl rfl (ttKc zA1.1 (a := 183) (κ := 12) (len := 0) ⟨rfl, rfl⟩ (by decide) (by decide)).1 ?_
  refine la_number m9 (by omega) hO zA1 (fun ujr2 J2 zA2 jr2 => ?_)
  have jv2 : ujr2 = (sNm T W1.1 l m).1 := jr2
  obtain ⟨W2, jW2⟩ : ∃ Y : tZ, Y = zNm T l m W1 := ⟨_, rfl⟩
  replace zA2 : rA T n I J2 W2 := by rw [jW2]; exact zA2
  refine q_ri (pc := 7) rfl ?_
  subst jW1
  subst jW2
  exact hq _ _ zA2 jv2
theorem la_place {dd : Nat} (hd : 4 ≤ dd) {I H : xH} {T : tSm} {n : Int} (hO : sOk T n) {W0 : tZ} (zA0 : rA T n I H W0) {Q : Int → xH → Prop} (hq : ∀ r J, rA T n I J (zNm T 0 (W0.2.1 1 - 1) W0) → r = (sNm T W0.1 0 (W0.2.1 1 - 1)).1 → Q r J) : xCall dd 222 [(2, 183)] H Q := by
  obtain ⟨e, rfl, he⟩ := ttRun0 (n := 3) hd
  have he : 3 ≤ e := he
  have hT := zA0.1
  have zb := (rA_rw zA0).2.1
  refine xC_of (L := [(2, 183)]) (cd := cd_222) rfl rfl rfl ?_
  refine q_al (pc := 0) (i := 0) (x := 183) rfl rfl ?_
  refine q_ic (pc := 1) (v := 0) rfl ?_
  refine q_al (pc := 2) (i := 0) (x := 183) rfl rfl ?_
  refine q_gf (pc := 3) (m := 12142) (t := 2) (c := 14) rfl (ttKc hT (a := 183) (κ := 12) (len := 0) ⟨rfl, rfl⟩ (by decide) (by decide)).1 rfl rfl ?_
  rw [show H.1 183 14 = 189 from ttFx hT (by decide) (by decide) rfl rfl rfl]
  refine q_ic (pc := 4) (v := 1) rfl ?_
  refine q_ai (pc := 5) rfl (ttKc hT (a := 189) (κ := 20) (len := 196) ⟨rfl, rfl⟩ (by decide) (by decide)).1 (by omega) (by rw [(ttKc hT (a := 189) (κ := 20) (len := 196) ⟨rfl, rfl⟩ (by decide) (by decide)).2]; omega) ?_
  rw [(zA0.2.2.2.1 1 (by omega) (by omega))]
  refine q_ic (pc := 6) (v := 1) rfl ?_
  refine q_ib (pc := 7) rfl (by omega) (by omega) ?_
  refine q_iv (pc := 8) (q := 1752972) rfl rfl rfl (ttKc hT (a := 183) (κ := 12) (len := 0) ⟨rfl, rfl⟩ (by decide) (by decide)).1 ?_
  refine la_number (by omega) (by omega) hO zA0 (fun ujr1 J1 zA1 jr1 => ?_)
  have jv1 : ujr1 = (sNm T W0.1 0 ((W0.2.1 1) - 1)).1 := jr1
  obtain ⟨W1, jW1⟩ : ∃ Y : tZ, Y = zNm T 0 ((W0.2.1 1) - 1) W0 := ⟨_, rfl⟩
  replace zA1 : rA T n I J1 W1 := by rw [jW1]; exact zA1
  refine q_ri (pc := 9) rfl ?_
  subst jW1
  exact hq _ _ zA1 jv1
theorem la_signed {dd : Nat} {m : Int} (m9 : m ≤ 999) (hd : 8 ≤ dd) {I H : xH} {T : tSm} {n : Int} (hO : sOk T n) {W0 : tZ} (zA0 : rA T n I H W0) {Q : Int → xH → Prop} (hq : ∀ r J, rA T n I J (zSg T m W0) → r = (sSg T W0.1 m).1 → Q r J) : xCall dd 223 [(2, 183), (0, m)] H Q := by
  obtain ⟨e, rfl, he⟩ := ttRun0 (n := 7) hd
  have he : 7 ≤ e := he
  have hT := zA0.1
  refine xC_of (L := [(2, 183), (0, m), (9, 0)]) (cd := cd_223) rfl rfl rfl ?_
  refine q_al (pc := 0) (i := 0) (x := 183) rfl rfl ?_
  refine q_ic (pc := 1) (v := 0) rfl ?_
  refine q_il (pc := 2) (i := 1) (x := m) rfl rfl ?_
  refine q_iv (pc := 3) (q := 1752972) rfl rfl rfl (ttKc hT (a := 183) (κ := 12) (len := 0) ⟨rfl, rfl⟩ (by decide) (by decide)).1 ?_
  refine la_number (by omega) (by omega) hO zA0 (fun ujr1 J1 zA1 jr1 => ?_)
  have jv1 : ujr1 = (sNm T W0.1 0 m).1 := jr1
  obtain ⟨W1, jW1⟩ : ∃ Y : tZ, Y = zNm T 0 m W0 := ⟨_, rfl⟩
  replace zA1 : rA T n I J1 W1 := by rw [jW1]; exact zA1
  have jb1 : ujr1 = 0 ∨ 0 ≤ ujr1 ∧ ujr1 ≤ m := by rw [jv1]; exact sNm_v
  refine q_is (pc := 4) (i := 2) (L' := [(2, 183), (0, m), (0, ujr1)]) rfl rfl rfl ?_
  refine q_al (pc := 5) (i := 0) (x := 183) rfl rfl ?_
  refine q_sc (pc := 6) (j := 16) rfl ?_
  refine q_iv (pc := 7) (q := 1736968) rfl rfl rfl ⟨by omega, (ttKc zA1.1 (a := 183) (κ := 12) (len := 0) ⟨rfl, rfl⟩ (by decide) (by decide)).1⟩ ?_
  refine la_takes (by decide) (by decide) (by omega) hO zA1 (fun r J2 zA2 jr2 => ?_)
  obtain ⟨W2, jW2⟩ : ∃ Y : tZ, Y = zTk T (-18) W1 := ⟨_, rfl⟩
  replace zA2 : rA T n I J2 W2 := by rw [jW2]; exact zA2
  rcases jr2 with ⟨rfl, jk2⟩ | ⟨rfl, jk2⟩
  · replace jk2 : (sTk T W1.1 (-18)).1 = true := jk2
    refine q_if (pc := 8) rfl (fun h8 => ?_) (fun h8 => ?_)
    · replace h8 : (1 : Int) = 0 := h8
      omega
    · replace h8 : (1 : Int) ≠ 0 := h8
      refine q_il (pc := 9) (i := 2) (x := ujr1) rfl rfl ?_
      refine q_in (pc := 10) rfl ?_
      refine q_go (pc := 11) rfl ?_
      refine q_ri (pc := 13) rfl ?_
      have eq : sSg T W0.1 m = (-ujr1, W2.1) := by
        rw [jv1, jW2]
        rw [jW1] at jk2 ⊢
        exact if_pos jk2
      have e2 : zSg T m W0 = W2 := by
        unfold zSg
        rw [eq, jW2, jW1]
        rfl
      rw [e2, eq] at hq
      exact hq _ _ zA2 (by show w32 (-ujr1) = -ujr1; exact w32_eq ⟨by omega, by omega⟩)
  · replace jk2 : (sTk T W1.1 (-18)).1 = false := jk2
    refine q_if (pc := 8) rfl (fun h8 => ?_) (fun h8 => ?_)
    · replace h8 : (0 : Int) = 0 := h8
      refine q_il (pc := 12) (i := 2) (x := ujr1) rfl rfl ?_
      refine q_ri (pc := 13) rfl ?_
      have eq : sSg T W0.1 m = sNm T W0.1 0 m := by
        rw [jW1] at jk2
        exact if_neg (fun z => by rw [show (sTk T (sNm T W0.1 0 m).2 (-18)).1 = false from jk2] at z; exact absurd z (by decide))
      have e2 : zSg T m W0 = W2 := by
        unfold zSg
        rw [eq, jW2, zTk_f jk2, jW1]
        rfl
      rw [e2, eq] at hq
      exact hq _ _ zA2 jv1
    · replace h8 : (0 : Int) ≠ 0 := h8
      omega
theorem la_readPlace {dd : Nat} (hd : 10 ≤ dd) {I H : xH} {T : tSm} {n : Int} (hO : sOk T n) {W0 : tZ} (zA0 : rA T n I H W0) (m1 : W0.2.1 1 ≤ 7) {Q : Int → xH → Prop} (hq : ∀ J, rA T n I J (zPl T W0) → Q 0 J) : xCall dd 224 [(2, 183)] H Q := by
  obtain ⟨e, rfl, he⟩ := ttRun0 (n := 9) hd
  have he : 9 ≤ e := he
  have hT := zA0.1
  have m0 := (rA_rw zA0).2.1.1
  obtain ⟨m, jm⟩ : ∃ m, m = W0.2.1 1 := ⟨_, rfl⟩
  have em : H.1 189 1 = m := ((zA0.2.2.2.1 1 (by omega) (by omega))).trans jm.symm
  rw [← jm] at m0 m1
  obtain ⟨k, jk⟩ : ∃ k, k = 20 + 8 * m := ⟨_, rfl⟩
  have h67 : ∀ (K : xH) (V : tZ), rA T n I K V → V.2.1 1 = m → (∀ J, rA T n I J (zIn 1 V) → Q 0 J) → xW e cd_224 Q (67, [(2, 183), (0, k)], [], K) := by
    intro K V kA k1 kq
    refine q_al (pc := 67) (i := 0) (x := 183) rfl rfl ?_
    refine q_gf (pc := 68) (m := 12142) (t := 2) (c := 14) rfl (ttKc kA.1 (a := 183) (κ := 12) (len := 0) ⟨rfl, rfl⟩ (by decide) (by decide)).1 rfl rfl ?_
    rw [show K.1 183 14 = 189 from ttFx kA.1 (by decide) (by decide) rfl rfl rfl]
    refine q_ic (pc := 69) (v := 1) rfl ?_
    refine q_dd (pc := 70) rfl ?_
    refine q_ai (pc := 71) rfl (ttKc kA.1 (a := 189) (κ := 20) (len := 196) ⟨rfl, rfl⟩ (by decide) (by decide)).1 (by omega) (by rw [(ttKc kA.1 (a := 189) (κ := 20) (len := 196) ⟨rfl, rfl⟩ (by decide) (by decide)).2]; omega) ?_
    rw [(kA.2.2.2.1 1 (by omega) (by omega)), k1]
    refine q_ic (pc := 72) (v := 1) rfl ?_
    refine q_ia (pc := 73) rfl (by omega) (by omega) ?_
    refine q_si (pc := 74) rfl (by decide) (ttKc kA.1 (a := 189) (κ := 20) (len := 196) ⟨rfl, rfl⟩ (by decide) (by decide)).1 (by omega) (by rw [(ttKc kA.1 (a := 189) (κ := 20) (len := 196) ⟨rfl, rfl⟩ (by decide) (by decide)).2]; omega) ?_
    have zA1 := rA_put kA (j := 1) (v := (m + 1)) (show (0 : Int) ≤ (m + 1) ∧ (m + 1) ≤ 8 from ⟨by omega, by omega⟩) (by omega) (by omega)
    obtain ⟨J1, ujzk1⟩ : ∃ X : xH, X = (xUp K.1 189 1 (m + 1), K.2) := ⟨_, rfl⟩
    rw [← ujzk1] at zA1 ⊢
    obtain ⟨W1, jW1⟩ : ∃ Y : tZ, Y = zP 1 (m + 1) V := ⟨_, rfl⟩
    replace zA1 : rA T n I J1 W1 := by rw [jW1]; exact zA1
    refine q_rv (pc := 75) rfl ?_
    refine kq J1 ?_
    unfold zIn
    rw [k1, ← jW1]
    exact zA1
  have h57 : ∀ (K : xH) (V : tZ), rA T n I K V → V.2.1 1 = m → (∀ J, rA T n I J (zPl3 k V) → Q 0 J) → xW e cd_224 Q (57, [(2, 183), (0, k)], [], K) := by
    intro K V kA k1 kq
    have kn := rA_n kA
    refine q_al (pc := 57) (i := 0) (x := 183) rfl rfl ?_
    refine q_ic (pc := 58) (v := 1) rfl ?_
    refine q_pf (pc := 59) (m := 12153) (c := 15) rfl (show xPt 3 0 _ _ from ⟨(ttKc kA.1 (a := 183) (κ := 12) (len := 0) ⟨rfl, rfl⟩ (by decide) (by decide)).1, by omega⟩) rfl ?_
    have zc := ttPuT kA.1 kA.2.1 (a := 183) (j := 15) (x := 1) (by decide) (fun _ _ => show (0 : Int) ≤ 1 ∧ (1 : Int) ≤ 1 from by decide) ⟨(183, 15, 15), by simp [yyE0], ⟨⟨by decide, rfl⟩, by decide, by decide⟩⟩
    have zd := ttPuT kA.1 (ttFr_rf (true, [(183, 15, 15)]) K) (a := 183) (j := 15) (x := 1) (by decide) (fun _ _ => show (0 : Int) ≤ 1 ∧ (1 : Int) ≤ 1 from by decide) ⟨(183, 15, 15), by simp, ⟨⟨by decide, rfl⟩, by decide, by decide⟩⟩
    obtain ⟨Y, jY⟩ : ∃ X : xH, X = (xUp K.1 183 15 1, K.2) := ⟨_, rfl⟩
    rw [← jY] at zc zd ⊢
    have yA : rA T n I Y (V.1, V.2.1, 1) := ⟨zc.1, zc.2, ⟨rR_fr zd.2 kn (by decide) (by decide) kA.2.2.1.1, by
        rw [show rS Y V.1.1 = rS K V.1.1 from by unfold rS; rw [fr_cl zd.2 (a := 183) (j := 12) (by omega) (by decide), fr_cl zd.2 (a := 183) (j := 13) (by omega) (by decide)]]
        exact kA.2.2.1.2⟩, fun j ujj0 ujj1 => (fr_no zd.2 189 (by omega) rfl (by decide)).trans (kA.2.2.2.1 j ujj0 ujj1), by rw [jY]; exact up_eq (D := K.1) (a := 183) (j := 15) (x := 1)⟩
    refine q_al (pc := 60) (i := 0) (x := 183) rfl rfl ?_
    refine q_gf (pc := 61) (m := 12142) (t := 2) (c := 14) rfl (ttKc yA.1 (a := 183) (κ := 12) (len := 0) ⟨rfl, rfl⟩ (by decide) (by decide)).1 rfl rfl ?_
    rw [show Y.1 183 14 = 189 from ttFx yA.1 (by decide) (by decide) rfl rfl rfl]
    refine q_il (pc := 62) (i := 1) (x := k) rfl rfl ?_
    refine q_ic (pc := 63) (v := 1) rfl ?_
    refine q_ia (pc := 64) rfl (by omega) (by omega) ?_
    refine q_ic (pc := 65) (v := 2) rfl ?_
    refine q_si (pc := 66) rfl (by decide) (ttKc yA.1 (a := 189) (κ := 20) (len := 196) ⟨rfl, rfl⟩ (by decide) (by decide)).1 (by omega) (by rw [(ttKc yA.1 (a := 189) (κ := 20) (len := 196) ⟨rfl, rfl⟩ (by decide) (by decide)).2]; omega) ?_
    have zA1 := rA_put yA (j := (k + 1)) (v := 2) (by rw [show (k + 1) = 20 + 8 * m + ((1 : Nat) : Int) from by omega, ty_fp m0 m1 1 (by decide)]; exact (show (0 : Int) ≤ 2 ∧ 2 ≤ 2 from ⟨by omega, by omega⟩)) (by omega) (by omega)
    obtain ⟨J1, ujzk1⟩ : ∃ X : xH, X = (xUp Y.1 189 (k + 1) 2, Y.2) := ⟨_, rfl⟩
    rw [← ujzk1] at zA1 ⊢
    obtain ⟨W1, jW1⟩ : ∃ Y : tZ, Y = zP (k + 1) 2 (V.1, V.2.1, 1) := ⟨_, rfl⟩
    replace zA1 : rA T n I J1 W1 := by rw [jW1]; exact zA1
    exact h67 J1 W1 zA1 (by rw [jW1]; exact (sUp_ne (by omega)).trans k1) (by rw [jW1]; exact kq)
  have h52 : ∀ (K : xH) (V : tZ), rA T n I K V → V.2.1 1 = m → (∀ J, rA T n I J (zPl3 k (zGo T V)) → Q 0 J) → xW e cd_224 Q (52, [(2, 183), (0, k)], [], K) := by
    intro K V kA k1 kq
    refine q_al (pc := 52) (i := 0) (x := 183) rfl rfl ?_
    refine q_iv (pc := 53) (q := 1712964) rfl rfl rfl (ttKc kA.1 (a := 183) (κ := 12) (len := 0) ⟨rfl, rfl⟩ (by decide) (by decide)).1 ?_
    refine la_good (by omega) kA (fun jg53 => ?_) (fun jg53 => ?_)
    · skip
      refine q_if (pc := 54) rfl (fun h54 => ?_) (fun h54 => ?_)
      · replace h54 : (1 : Int) = 0 := h54
        omega
      · replace h54 : (1 : Int) ≠ 0 := h54
        refine q_al (pc := 55) (i := 0) (x := 183) rfl rfl ?_
        refine q_iv (pc := 56) (q := 1704967) rfl rfl rfl (ttKc kA.1 (a := 183) (κ := 12) (len := 0) ⟨rfl, rfl⟩ (by decide) (by decide)).1 ?_
        refine la_adv (by omega) hO kA (fun J1 zA1 => ?_)
        obtain ⟨W1, jW1⟩ : ∃ Y : tZ, Y = zNx T V := ⟨_, rfl⟩
        replace zA1 : rA T n I J1 W1 := by rw [jW1]; exact zA1
        exact h57 J1 W1 zA1 (by rw [jW1]; exact k1) (by rw [jW1]; rw [show zGo T V = zNx T V from if_pos jg53] at kq; exact kq)
    · skip
      refine q_if (pc := 54) rfl (fun h54 => ?_) (fun h54 => ?_)
      · replace h54 : (0 : Int) = 0 := h54
        exact h57 K V kA k1 (by rw [show zGo T V = V from if_neg jg53] at kq; exact kq)
      · replace h54 : (0 : Int) ≠ 0 := h54
        omega
  refine xC_of (L := [(2, 183), (9, 0)]) (cd := cd_224) rfl rfl rfl ?_
  refine q_ic (pc := 0) (v := 20) rfl ?_
  refine q_ic (pc := 1) (v := 8) rfl ?_
  refine q_al (pc := 2) (i := 0) (x := 183) rfl rfl ?_
  refine q_gf (pc := 3) (m := 12142) (t := 2) (c := 14) rfl (ttKc hT (a := 183) (κ := 12) (len := 0) ⟨rfl, rfl⟩ (by decide) (by decide)).1 rfl rfl ?_
  rw [show H.1 183 14 = 189 from ttFx hT (by decide) (by decide) rfl rfl rfl]
  refine q_ic (pc := 4) (v := 1) rfl ?_
  refine q_ai (pc := 5) rfl (ttKc hT (a := 189) (κ := 20) (len := 196) ⟨rfl, rfl⟩ (by decide) (by decide)).1 (by omega) (by rw [(ttKc hT (a := 189) (κ := 20) (len := 196) ⟨rfl, rfl⟩ (by decide) (by decide)).2]; omega) ?_
  rw [em]
  refine q_im (pc := 6) rfl (by omega) (by omega) ?_
  refine q_ia (pc := 7) rfl (by omega) (by omega) ?_
  rw [show (20 + (8 * m)) = k from by omega]
  refine q_is (pc := 8) (i := 1) (L' := [(2, 183), (0, k)]) rfl rfl rfl ?_
  refine q_al (pc := 9) (i := 0) (x := 183) rfl rfl ?_
  refine q_gf (pc := 10) (m := 12142) (t := 2) (c := 14) rfl (ttKc hT (a := 183) (κ := 12) (len := 0) ⟨rfl, rfl⟩ (by decide) (by decide)).1 rfl rfl ?_
  rw [show H.1 183 14 = 189 from ttFx hT (by decide) (by decide) rfl rfl rfl]
  refine q_il (pc := 11) (i := 1) (x := k) rfl rfl ?_
  refine q_ic (pc := 12) (v := 0) rfl ?_
  refine q_ia (pc := 13) rfl (by omega) (by omega) ?_
  refine q_al (pc := 14) (i := 0) (x := 183) rfl rfl ?_
  refine q_sc (pc := 15) (j := 11) rfl ?_
  refine q_ic (pc := 16) (v := 0) rfl ?_
  refine q_ic (pc := 17) (v := 30) rfl ?_
  refine q_iv (pc := 18) (q := 1760976) rfl rfl rfl ⟨by omega, (ttKc hT (a := 183) (κ := 12) (len := 0) ⟨rfl, rfl⟩ (by decide) (by decide)).1⟩ ?_
  refine la_told (by decide) (by decide) (by decide) (by omega) hO zA0 (fun ujr1 J1 zA1 jr1 => ?_)
  have jv1 : ujr1 = (sNm T (sNd T W0.1 (-13)) 0 30).1 := jr1
  obtain ⟨W1, jW1⟩ : ∃ Y : tZ, Y = zNm T 0 30 (zNd T (-13) W0) := ⟨_, rfl⟩
  replace zA1 : rA T n I J1 W1 := by rw [jW1]; exact zA1
  have jb1 : ujr1 = 0 ∨ 0 ≤ ujr1 ∧ ujr1 ≤ 30 := by rw [jv1]; exact sNm_v
  refine q_si (pc := 19) rfl (by decide) (ttKc zA1.1 (a := 189) (κ := 20) (len := 196) ⟨rfl, rfl⟩ (by decide) (by decide)).1 (by omega) (by rw [(ttKc zA1.1 (a := 189) (κ := 20) (len := 196) ⟨rfl, rfl⟩ (by decide) (by decide)).2]; omega) ?_
  have zA2 := rA_put zA1 (j := (k + 0)) (v := ujr1) (by rw [show (k + 0) = 20 + 8 * m + ((0 : Nat) : Int) from by omega, ty_fp m0 m1 0 (by decide)]; exact (show (0 : Int) ≤ ujr1 ∧ ujr1 ≤ 30 from ⟨by omega, by omega⟩)) (by omega) (by omega)
  obtain ⟨J2, ujzk2⟩ : ∃ X : xH, X = (xUp J1.1 189 (k + 0) ujr1, J1.2) := ⟨_, rfl⟩
  rw [← ujzk2] at zA2 ⊢
  obtain ⟨W2, jW2⟩ : ∃ Y : tZ, Y = zP (k + 0) ujr1 W1 := ⟨_, rfl⟩
  replace zA2 : rA T n I J2 W2 := by rw [jW2]; exact zA2
  have e1 : W2 = zPl1 T W0 := by rw [jW2, jv1, jW1, show (k + 0) = 20 + 8 * W0.2.1 1 from by omega]; rfl
  have e3 : W2.2.1 1 = m := by rw [jW2]; exact (sUp_ne (by omega)).trans (by rw [jW1]; exact jm.symm)
  have ek : k = 20 + 8 * W0.2.1 1 := by omega
  have zq : ∀ Z, zPl T W0 = Z → ∀ J, rA T n I J Z → Q 0 J := fun Z ez J jA => hq J (by rw [ez]; exact jA)
  refine q_al (pc := 20) (i := 0) (x := 183) rfl rfl ?_
  refine q_sc (pc := 21) (j := 13) rfl ?_
  refine q_iv (pc := 22) (q := 1736968) rfl rfl rfl ⟨by omega, (ttKc zA2.1 (a := 183) (κ := 12) (len := 0) ⟨rfl, rfl⟩ (by decide) (by decide)).1⟩ ?_
  refine la_takes (by decide) (by decide) (by omega) hO zA2 (fun r J3 zA3 jr3 => ?_)
  obtain ⟨W3, jW3⟩ : ∃ Y : tZ, Y = zTk T (-15) W2 := ⟨_, rfl⟩
  replace zA3 : rA T n I J3 W3 := by rw [jW3]; exact zA3
  rcases jr3 with ⟨rfl, jk3⟩ | ⟨rfl, jk3⟩
  · replace jk3 : (sTk T W2.1 (-15)).1 = true := jk3
    refine q_if (pc := 23) rfl (fun h23 => ?_) (fun h23 => ?_)
    · replace h23 : (1 : Int) = 0 := h23
      omega
    · replace h23 : (1 : Int) ≠ 0 := h23
      refine q_al (pc := 24) (i := 0) (x := 183) rfl rfl ?_
      refine q_gf (pc := 25) (m := 12142) (t := 2) (c := 14) rfl (ttKc zA3.1 (a := 183) (κ := 12) (len := 0) ⟨rfl, rfl⟩ (by decide) (by decide)).1 rfl rfl ?_
      rw [show J3.1 183 14 = 189 from ttFx zA3.1 (by decide) (by decide) rfl rfl rfl]
      refine q_il (pc := 26) (i := 1) (x := k) rfl rfl ?_
      refine q_ic (pc := 27) (v := 1) rfl ?_
      refine q_ia (pc := 28) rfl (by omega) (by omega) ?_
      refine q_ic (pc := 29) (v := 1) rfl ?_
      refine q_si (pc := 30) rfl (by decide) (ttKc zA3.1 (a := 189) (κ := 20) (len := 196) ⟨rfl, rfl⟩ (by decide) (by decide)).1 (by omega) (by rw [(ttKc zA3.1 (a := 189) (κ := 20) (len := 196) ⟨rfl, rfl⟩ (by decide) (by decide)).2]; omega) ?_
      have zA4 := rA_put zA3 (j := (k + 1)) (v := 1) (by rw [show (k + 1) = 20 + 8 * m + ((1 : Nat) : Int) from by omega, ty_fp m0 m1 1 (by decide)]; exact (show (0 : Int) ≤ 1 ∧ 1 ≤ 2 from ⟨by omega, by omega⟩)) (by omega) (by omega)
      obtain ⟨J4, ujzk4⟩ : ∃ X : xH, X = (xUp J3.1 189 (k + 1) 1, J3.2) := ⟨_, rfl⟩
      rw [← ujzk4] at zA4 ⊢
      obtain ⟨W4, jW4⟩ : ∃ Y : tZ, Y = zP (k + 1) 1 W3 := ⟨_, rfl⟩
      replace zA4 : rA T n I J4 W4 := by rw [jW4]; exact zA4
      refine q_al (pc := 31) (i := 0) (x := 183) rfl rfl ?_
      refine q_gf (pc := 32) (m := 12142) (t := 2) (c := 14) rfl (ttKc zA4.1 (a := 183) (κ := 12) (len := 0) ⟨rfl, rfl⟩ (by decide) (by decide)).1 rfl rfl ?_
      rw [show J4.1 183 14 = 189 from ttFx zA4.1 (by decide) (by decide) rfl rfl rfl]
      refine q_il (pc := 33) (i := 1) (x := k) rfl rfl ?_
      refine q_ic (pc := 34) (v := 2) rfl ?_
      refine q_ia (pc := 35) rfl (by omega) (by omega) ?_
      refine q_al (pc := 36) (i := 0) (x := 183) rfl rfl ?_
      refine q_ic (pc := 37) (v := 0) rfl ?_
      refine q_ic (pc := 38) (v := 999) rfl ?_
      refine q_iv (pc := 39) (q := 1752972) rfl rfl rfl (ttKc zA4.1 (a := 183) (κ := 12) (len := 0) ⟨rfl, rfl⟩ (by decide) (by decide)).1 ?_
      refine la_number (by decide) (by omega) hO zA4 (fun ujr5 J5 zA5 jr5 => ?_)
      have jv5 : ujr5 = (sNm T W4.1 0 999).1 := jr5
      obtain ⟨W5, jW5⟩ : ∃ Y : tZ, Y = zNm T 0 999 W4 := ⟨_, rfl⟩
      replace zA5 : rA T n I J5 W5 := by rw [jW5]; exact zA5
      have jb5 : ujr5 = 0 ∨ 0 ≤ ujr5 ∧ ujr5 ≤ 999 := by rw [jv5]; exact sNm_v
      refine q_si (pc := 40) rfl (by decide) (ttKc zA5.1 (a := 189) (κ := 20) (len := 196) ⟨rfl, rfl⟩ (by decide) (by decide)).1 (by omega) (by rw [(ttKc zA5.1 (a := 189) (κ := 20) (len := 196) ⟨rfl, rfl⟩ (by decide) (by decide)).2]; omega) ?_
      have zA6 := rA_put zA5 (j := (k + 2)) (v := ujr5) (by rw [show (k + 2) = 20 + 8 * m + ((2 : Nat) : Int) from by omega, ty_fp m0 m1 2 (by decide)]; exact (show (0 : Int) ≤ ujr5 ∧ ujr5 ≤ 999 from ⟨by omega, by omega⟩)) (by omega) (by omega)
      obtain ⟨J6, ujzk6⟩ : ∃ X : xH, X = (xUp J5.1 189 (k + 2) ujr5, J5.2) := ⟨_, rfl⟩
      rw [← ujzk6] at zA6 ⊢
      obtain ⟨W6, jW6⟩ : ∃ Y : tZ, Y = zP (k + 2) ujr5 W5 := ⟨_, rfl⟩
      replace zA6 : rA T n I J6 W6 := by rw [jW6]; exact zA6
      refine q_go (pc := 41) rfl ?_
      have e9 : zPl T W0 = zPl2 T (20 + 8 * W0.2.1 1) (zTk T (-15) (zPl1 T W0)) := if_pos (by rw [← e1]; exact jk3)
      have c3 : W3.2.1 1 = m := by rw [jW3]; exact e3
      have c4 : W4.2.1 1 = m := by rw [jW4]; exact (sUp_ne (by omega)).trans c3
      have c5 : W5.2.1 1 = m := by rw [jW5]; exact c4
      have c6 : W6.2.1 1 = m := by rw [jW6]; exact (sUp_ne (by omega)).trans c5
      refine h67 J6 W6 zA6 c6 (zq _ ?_)
      rw [e9, ← e1, ← jW3, ← ek, jW6, jv5, jW5, jW4]
      rfl
  · replace jk3 : (sTk T W2.1 (-15)).1 = false := jk3
    refine q_if (pc := 23) rfl (fun h23 => ?_) (fun h23 => ?_)
    · replace h23 : (0 : Int) = 0 := h23
      refine q_al (pc := 42) (i := 0) (x := 183) rfl rfl ?_
      refine q_sc (pc := 43) (j := 12) rfl ?_
      refine q_iv (pc := 44) (q := 1728968) rfl rfl rfl ⟨by omega, (ttKc zA3.1 (a := 183) (κ := 12) (len := 0) ⟨rfl, rfl⟩ (by decide) (by decide)).1⟩ ?_
      refine la_is (by decide) (by decide) (by omega) hO zA3 (fun ji44 => ?_) (fun ji44 => ?_)
      · skip
        refine q_if (pc := 45) rfl (fun h45 => ?_) (fun h45 => ?_)
        · replace h45 : (1 : Int) = 0 := h45
          omega
        · replace h45 : (1 : Int) ≠ 0 := h45
          refine q_al (pc := 46) (i := 0) (x := 183) rfl rfl ?_
          refine q_gf (pc := 47) (m := 12150) (t := 0) (c := 15) rfl (ttKc zA3.1 (a := 183) (κ := 12) (len := 0) ⟨rfl, rfl⟩ (by decide) (by decide)).1 rfl rfl ?_
          rw [zA3.2.2.2.2]
          refine q_if (pc := 48) rfl (fun h48 => ?_) (fun h48 => ?_)
          · replace h48 : (W3.2.2) = 0 := h48
            have nf : ¬ (sTk T (zPl1 T W0).1 (-15)).1 = true := fun z => by rw [← e1, jk3] at z; exact absurd z (by decide)
            have e7 : W3 = zPl1 T W0 := by rw [jW3, zTk_f jk3, e1]
            have c3 : W3.2.1 1 = m := by rw [e7, ← e1]; exact e3
            have e9 : zPl T W0 = zPl3 (20 + 8 * W0.2.1 1) (zGo T (zHm T (zPl1 T W0))) := (if_neg nf).trans (if_pos (by rw [← e7]; exact ji44))
            rw [← ek, ← e7] at e9
            refine h52 J3 W3 zA3 c3 (zq _ ?_)
            rw [e9, show zHm T W3 = W3 from if_pos h48]
          · replace h48 : (W3.2.2) ≠ 0 := h48
            refine q_al (pc := 49) (i := 0) (x := 183) rfl rfl ?_
            refine q_ic (pc := 50) (v := 2) rfl ?_
            refine q_iv (pc := 51) (q := 1720971) rfl rfl rfl (ttKc zA3.1 (a := 183) (κ := 12) (len := 0) ⟨rfl, rfl⟩ (by decide) (by decide)).1 ?_
            refine la_errs (by omega) hO zA3 (by decide) (by decide) (fun J7 zA7 => ?_)
            obtain ⟨W7, jW7⟩ : ∃ Y : tZ, Y = zEr T 2 W3 := ⟨_, rfl⟩
            replace zA7 : rA T n I J7 W7 := by rw [jW7]; exact zA7
            have nf : ¬ (sTk T (zPl1 T W0).1 (-15)).1 = true := fun z => by rw [← e1, jk3] at z; exact absurd z (by decide)
            have e7 : W3 = zPl1 T W0 := by rw [jW3, zTk_f jk3, e1]
            have c3 : W3.2.1 1 = m := by rw [e7, ← e1]; exact e3
            have e9 : zPl T W0 = zPl3 (20 + 8 * W0.2.1 1) (zGo T (zHm T (zPl1 T W0))) := (if_neg nf).trans (if_pos (by rw [← e7]; exact ji44))
            rw [← ek, ← e7] at e9
            refine h52 J7 W7 zA7 (by rw [jW7]; exact c3) (zq _ ?_)
            rw [e9, show zHm T W3 = zEr T 2 W3 from if_neg h48, ← jW7]
      · skip
        refine q_if (pc := 45) rfl (fun h45 => ?_) (fun h45 => ?_)
        · replace h45 : (0 : Int) = 0 := h45
          have nf : ¬ (sTk T (zPl1 T W0).1 (-15)).1 = true := fun z => by rw [← e1, jk3] at z; exact absurd z (by decide)
          have e7 : W3 = zPl1 T W0 := by rw [jW3, zTk_f jk3, e1]
          have c3 : W3.2.1 1 = m := by rw [e7, ← e1]; exact e3
          refine h67 J3 W3 zA3 c3 (zq _ ?_)
          rw [e7]
          exact (if_neg nf).trans (if_neg (by rw [← e7]; exact ji44))
        · replace h45 : (0 : Int) ≠ 0 := h45
          omega
    · replace h23 : (0 : Int) ≠ 0 := h23
      omega
theorem lg_91 {e : Nat} (he : 9 ≤ e) {I : xH} {T : tSm} {n : Int} (hO : sOk T n) {l k : Int} (l0 : 0 ≤ l) (l1 : l ≤ 9) (jk : k = 84 + 6 * l) {Q : Int → xH → Prop} {K : xH} {V : tZ} (kA : rA T n I K V) (k1 : V.2.1 2 = l) (kq : ∀ J, rA T n I J (zIn 2 V) → Q 0 J) : xW e cd_225 Q (91, [(2, 183), (0, k)], [], K) := by
  refine q_al (pc := 91) (i := 0) (x := 183) rfl rfl ?_
  refine q_gf (pc := 92) (m := 12142) (t := 2) (c := 14) rfl (ttKc kA.1 (a := 183) (κ := 12) (len := 0) ⟨rfl, rfl⟩ (by decide) (by decide)).1 rfl rfl ?_
  rw [show K.1 183 14 = 189 from ttFx kA.1 (by decide) (by decide) rfl rfl rfl]
  refine q_ic (pc := 93) (v := 2) rfl ?_
  refine q_dd (pc := 94) rfl ?_
  refine q_ai (pc := 95) rfl (ttKc kA.1 (a := 189) (κ := 20) (len := 196) ⟨rfl, rfl⟩ (by decide) (by decide)).1 (by omega) (by rw [(ttKc kA.1 (a := 189) (κ := 20) (len := 196) ⟨rfl, rfl⟩ (by decide) (by decide)).2]; omega) ?_
  rw [(kA.2.2.2.1 2 (by omega) (by omega)), k1]
  refine q_ic (pc := 96) (v := 1) rfl ?_
  refine q_ia (pc := 97) rfl (by omega) (by omega) ?_
  refine q_si (pc := 98) rfl (by decide) (ttKc kA.1 (a := 189) (κ := 20) (len := 196) ⟨rfl, rfl⟩ (by decide) (by decide)).1 (by omega) (by rw [(ttKc kA.1 (a := 189) (κ := 20) (len := 196) ⟨rfl, rfl⟩ (by decide) (by decide)).2]; omega) ?_
  have zA1 := rA_put kA (j := 2) (v := (l + 1)) (show (0 : Int) ≤ (l + 1) ∧ (l + 1) ≤ 10 from ⟨by omega, by omega⟩) (by omega) (by omega)
  obtain ⟨J1, ujzk1⟩ : ∃ X : xH, X = (xUp K.1 189 2 (l + 1), K.2) := ⟨_, rfl⟩
  rw [← ujzk1] at zA1 ⊢
  obtain ⟨W1, jW1⟩ : ∃ Y : tZ, Y = zP 2 (l + 1) V := ⟨_, rfl⟩
  replace zA1 : rA T n I J1 W1 := by rw [jW1]; exact zA1
  refine q_rv (pc := 99) rfl ?_
  refine kq J1 ?_
  unfold zIn
  rw [k1, ← jW1]
  exact zA1
theorem lg_77 {e : Nat} (he : 9 ≤ e) {I : xH} {T : tSm} {n : Int} (hO : sOk T n) {l k : Int} (l0 : 0 ≤ l) (l1 : l ≤ 9) (jk : k = 84 + 6 * l) {Q : Int → xH → Prop} {K : xH} {V : tZ} (kA : rA T n I K V) (k1 : V.2.1 2 = l) (kq : ∀ J, rA T n I J (zIn 2 (zLc T k V)) → Q 0 J) : xW e cd_225 Q (77, [(2, 183), (0, k)], [], K) := by
  refine q_al (pc := 77) (i := 0) (x := 183) rfl rfl ?_
  refine q_sc (pc := 78) (j := 18) rfl ?_
  refine q_iv (pc := 79) (q := 1736968) rfl rfl rfl ⟨by omega, (ttKc kA.1 (a := 183) (κ := 12) (len := 0) ⟨rfl, rfl⟩ (by decide) (by decide)).1⟩ ?_
  refine la_takes (by decide) (by decide) (by omega) hO kA (fun r J1 zA1 jr1 => ?_)
  obtain ⟨W1, jW1⟩ : ∃ Y : tZ, Y = zTk T (-20) V := ⟨_, rfl⟩
  replace zA1 : rA T n I J1 W1 := by rw [jW1]; exact zA1
  have c1 : W1.2.1 2 = l := by rw [jW1]; exact k1
  rcases jr1 with ⟨rfl, jk1⟩ | ⟨rfl, jk1⟩
  · replace jk1 : (sTk T V.1 (-20)).1 = true := jk1
    refine q_if (pc := 80) rfl (fun h80 => ?_) (fun h80 => ?_)
    · replace h80 : (1 : Int) = 0 := h80
      omega
    · replace h80 : (1 : Int) ≠ 0 := h80
      refine q_al (pc := 81) (i := 0) (x := 183) rfl rfl ?_
      refine q_gf (pc := 82) (m := 12142) (t := 2) (c := 14) rfl (ttKc zA1.1 (a := 183) (κ := 12) (len := 0) ⟨rfl, rfl⟩ (by decide) (by decide)).1 rfl rfl ?_
      rw [show J1.1 183 14 = 189 from ttFx zA1.1 (by decide) (by decide) rfl rfl rfl]
      refine q_il (pc := 83) (i := 1) (x := k) rfl rfl ?_
      refine q_ic (pc := 84) (v := 5) rfl ?_
      refine q_ia (pc := 85) rfl (by omega) (by omega) ?_
      refine q_al (pc := 86) (i := 0) (x := 183) rfl rfl ?_
      refine q_ic (pc := 87) (v := 0) rfl ?_
      refine q_ic (pc := 88) (v := 40) rfl ?_
      refine q_iv (pc := 89) (q := 1752972) rfl rfl rfl (ttKc zA1.1 (a := 183) (κ := 12) (len := 0) ⟨rfl, rfl⟩ (by decide) (by decide)).1 ?_
      refine la_number (by decide) (by omega) hO zA1 (fun ujr2 J2 zA2 jr2 => ?_)
      have jv2 : ujr2 = (sNm T W1.1 0 40).1 := jr2
      obtain ⟨W2, jW2⟩ : ∃ Y : tZ, Y = zNm T 0 40 W1 := ⟨_, rfl⟩
      replace zA2 : rA T n I J2 W2 := by rw [jW2]; exact zA2
      have c2 : W2.2.1 2 = l := by rw [jW2]; exact c1
      have jb2 : ujr2 = 0 ∨ 0 ≤ ujr2 ∧ ujr2 ≤ 40 := by rw [jv2]; exact sNm_v
      refine q_si (pc := 90) rfl (by decide) (ttKc zA2.1 (a := 189) (κ := 20) (len := 196) ⟨rfl, rfl⟩ (by decide) (by decide)).1 (by omega) (by rw [(ttKc zA2.1 (a := 189) (κ := 20) (len := 196) ⟨rfl, rfl⟩ (by decide) (by decide)).2]; omega) ?_
      have zA3 := rA_put zA2 (j := (k + 5)) (v := ujr2) (by rw [show (k + 5) = 84 + 6 * l + ((5 : Nat) : Int) from by omega, ty_fl l0 l1 5 (by decide)]; exact (show (0 : Int) ≤ ujr2 ∧ ujr2 ≤ 40 from ⟨by omega, by omega⟩)) (by omega) (by omega)
      obtain ⟨J3, ujzk3⟩ : ∃ X : xH, X = (xUp J2.1 189 (k + 5) ujr2, J2.2) := ⟨_, rfl⟩
      rw [← ujzk3] at zA3 ⊢
      obtain ⟨W3, jW3⟩ : ∃ Y : tZ, Y = zP (k + 5) ujr2 W2 := ⟨_, rfl⟩
      replace zA3 : rA T n I J3 W3 := by rw [jW3]; exact zA3
      have c3 : W3.2.1 2 = l := by rw [jW3]; exact (sUp_ne (by omega)).trans c2
      refine lg_91 he hO l0 l1 jk zA3 c3 (fun J jA => kq J ?_)
      rw [show zLc T k V = W3 from (if_pos jk1).trans (by rw [jW3, jv2, jW2, jW1]; rfl)]
      exact jA
  · replace jk1 : (sTk T V.1 (-20)).1 = false := jk1
    refine q_if (pc := 80) rfl (fun h80 => ?_) (fun h80 => ?_)
    · replace h80 : (0 : Int) = 0 := h80
      refine lg_91 he hO l0 l1 jk zA1 c1 (fun J jA => kq J ?_)
      rw [show zLc T k V = V from if_neg (fun z => by rw [jk1] at z; exact absurd z (by decide))]
      rw [jW1, zTk_f jk1] at jA
      exact jA
    · replace h80 : (0 : Int) ≠ 0 := h80
      omega
theorem lg_65 {e : Nat} (he : 9 ≤ e) {I : xH} {T : tSm} {n : Int} (hO : sOk T n) {l k : Int} (l0 : 0 ≤ l) (l1 : l ≤ 9) (jk : k = 84 + 6 * l) {Q : Int → xH → Prop} {K : xH} {V : tZ} (kA : rA T n I K V) (k1 : V.2.1 2 = l) (kq : ∀ J, rA T n I J (zIn 2 (zLc T k (zLb T k V))) → Q 0 J) : xW e cd_225 Q (65, [(2, 183), (0, k)], [], K) := by
  refine q_al (pc := 65) (i := 0) (x := 183) rfl rfl ?_
  refine q_sc (pc := 66) (j := 17) rfl ?_
  refine q_iv (pc := 67) (q := 1744971) rfl rfl rfl ⟨by omega, (ttKc kA.1 (a := 183) (κ := 12) (len := 0) ⟨rfl, rfl⟩ (by decide) (by decide)).1⟩ ?_
  refine la_needs (by decide) (by decide) (by omega) hO kA (fun J1 zA1 => ?_)
  obtain ⟨W1, jW1⟩ : ∃ Y : tZ, Y = zNd T (-19) V := ⟨_, rfl⟩
  replace zA1 : rA T n I J1 W1 := by rw [jW1]; exact zA1
  have c1 : W1.2.1 2 = l := by rw [jW1]; exact k1
  refine q_al (pc := 68) (i := 0) (x := 183) rfl rfl ?_
  refine q_gf (pc := 69) (m := 12142) (t := 2) (c := 14) rfl (ttKc zA1.1 (a := 183) (κ := 12) (len := 0) ⟨rfl, rfl⟩ (by decide) (by decide)).1 rfl rfl ?_
  rw [show J1.1 183 14 = 189 from ttFx zA1.1 (by decide) (by decide) rfl rfl rfl]
  refine q_il (pc := 70) (i := 1) (x := k) rfl rfl ?_
  refine q_ic (pc := 71) (v := 4) rfl ?_
  refine q_ia (pc := 72) rfl (by omega) (by omega) ?_
  refine q_al (pc := 73) (i := 0) (x := 183) rfl rfl ?_
  refine q_ic (pc := 74) (v := 60) rfl ?_
  refine q_iv (pc := 75) (q := 1784968) rfl rfl rfl (ttKc zA1.1 (a := 183) (κ := 12) (len := 0) ⟨rfl, rfl⟩ (by decide) (by decide)).1 ?_
  refine la_signed (by decide) (by omega) hO zA1 (fun ujr2 J2 zA2 jr2 => ?_)
  have jv2 : ujr2 = (sSg T W1.1 60).1 := jr2
  obtain ⟨W2, jW2⟩ : ∃ Y : tZ, Y = zSg T 60 W1 := ⟨_, rfl⟩
  replace zA2 : rA T n I J2 W2 := by rw [jW2]; exact zA2
  have c2 : W2.2.1 2 = l := by rw [jW2]; exact c1
  have jb2 : -60 ≤ ujr2 ∧ ujr2 ≤ 60 := by rw [jv2]; exact sSg_v (by decide)
  refine q_si (pc := 76) rfl (by decide) (ttKc zA2.1 (a := 189) (κ := 20) (len := 196) ⟨rfl, rfl⟩ (by decide) (by decide)).1 (by omega) (by rw [(ttKc zA2.1 (a := 189) (κ := 20) (len := 196) ⟨rfl, rfl⟩ (by decide) (by decide)).2]; omega) ?_
  have zA3 := rA_put zA2 (j := (k + 4)) (v := ujr2) (by rw [show (k + 4) = 84 + 6 * l + ((4 : Nat) : Int) from by omega, ty_fl l0 l1 4 (by decide)]; exact (show ((-60) : Int) ≤ ujr2 ∧ ujr2 ≤ 60 from ⟨by omega, by omega⟩)) (by omega) (by omega)
  obtain ⟨J3, ujzk3⟩ : ∃ X : xH, X = (xUp J2.1 189 (k + 4) ujr2, J2.2) := ⟨_, rfl⟩
  rw [← ujzk3] at zA3 ⊢
  obtain ⟨W3, jW3⟩ : ∃ Y : tZ, Y = zP (k + 4) ujr2 W2 := ⟨_, rfl⟩
  replace zA3 : rA T n I J3 W3 := by rw [jW3]; exact zA3
  have c3 : W3.2.1 2 = l := by rw [jW3]; exact (sUp_ne (by omega)).trans c2
  have e1 : W3 = zLb T k V := by
    rw [jW3, jv2, jW2, jW1]
    rfl
  exact lg_77 he hO l0 l1 jk zA3 c3 (by rw [e1]; exact kq)
theorem lg_32 {e : Nat} (he : 9 ≤ e) {I : xH} {T : tSm} {n : Int} (hO : sOk T n) {l k : Int} (l0 : 0 ≤ l) (l1 : l ≤ 9) (jk : k = 84 + 6 * l) {Q : Int → xH → Prop} {K : xH} {V : tZ} (kA : rA T n I K V) (k1 : V.2.1 2 = l) (kq : ∀ J, rA T n I J (zIn 2 (zLe2 T k V)) → Q 0 J) : xW e cd_225 Q (32, [(2, 183), (0, k)], [], K) := by
  refine q_al (pc := 32) (i := 0) (x := 183) rfl rfl ?_
  refine q_gf (pc := 33) (m := 12142) (t := 2) (c := 14) rfl (ttKc kA.1 (a := 183) (κ := 12) (len := 0) ⟨rfl, rfl⟩ (by decide) (by decide)).1 rfl rfl ?_
  rw [show K.1 183 14 = 189 from ttFx kA.1 (by decide) (by decide) rfl rfl rfl]
  refine q_il (pc := 34) (i := 1) (x := k) rfl rfl ?_
  refine q_ic (pc := 35) (v := 1) rfl ?_
  refine q_ia (pc := 36) rfl (by omega) (by omega) ?_
  refine q_al (pc := 37) (i := 0) (x := 183) rfl rfl ?_
  refine q_iv (pc := 38) (q := 1776964) rfl rfl rfl (ttKc kA.1 (a := 183) (κ := 12) (len := 0) ⟨rfl, rfl⟩ (by decide) (by decide)).1 ?_
  refine la_place (by omega) hO kA (fun ujr1 J1 zA1 jr1 => ?_)
  have jv1 : ujr1 = (sNm T V.1 0 (V.2.1 1 - 1)).1 := jr1
  obtain ⟨W1, jW1⟩ : ∃ Y : tZ, Y = zNm T 0 (V.2.1 1 - 1) V := ⟨_, rfl⟩
  replace zA1 : rA T n I J1 W1 := by rw [jW1]; exact zA1
  have c1 : W1.2.1 2 = l := by rw [jW1]; exact k1
  have zb1 := (rA_rw zA1).2.1
  rw [show W1.2.1 1 = V.2.1 1 from by rw [jW1]; rfl] at zb1
  have jb1 : ujr1 = 0 ∨ 0 ≤ ujr1 ∧ ujr1 ≤ V.2.1 1 - 1 := by rw [jv1]; exact sNm_v
  refine q_si (pc := 39) rfl (by decide) (ttKc zA1.1 (a := 189) (κ := 20) (len := 196) ⟨rfl, rfl⟩ (by decide) (by decide)).1 (by omega) (by rw [(ttKc zA1.1 (a := 189) (κ := 20) (len := 196) ⟨rfl, rfl⟩ (by decide) (by decide)).2]; omega) ?_
  have zA2 := rA_put zA1 (j := (k + 1)) (v := ujr1) (by rw [show (k + 1) = 84 + 6 * l + ((1 : Nat) : Int) from by omega, ty_fl l0 l1 1 (by decide)]; exact (show (0 : Int) ≤ ujr1 ∧ ujr1 ≤ 7 from ⟨by omega, by omega⟩)) (by omega) (by omega)
  obtain ⟨J2, ujzk2⟩ : ∃ X : xH, X = (xUp J1.1 189 (k + 1) ujr1, J1.2) := ⟨_, rfl⟩
  rw [← ujzk2] at zA2 ⊢
  obtain ⟨W2, jW2⟩ : ∃ Y : tZ, Y = zP (k + 1) ujr1 W1 := ⟨_, rfl⟩
  replace zA2 : rA T n I J2 W2 := by rw [jW2]; exact zA2
  have c2 : W2.2.1 2 = l := by rw [jW2]; exact (sUp_ne (by omega)).trans c1
  refine q_al (pc := 40) (i := 0) (x := 183) rfl rfl ?_
  refine q_sc (pc := 41) (j := 14) rfl ?_
  refine q_iv (pc := 42) (q := 1744971) rfl rfl rfl ⟨by omega, (ttKc zA2.1 (a := 183) (κ := 12) (len := 0) ⟨rfl, rfl⟩ (by decide) (by decide)).1⟩ ?_
  refine la_needs (by decide) (by decide) (by omega) hO zA2 (fun J3 zA3 => ?_)
  obtain ⟨W3, jW3⟩ : ∃ Y : tZ, Y = zNd T (-16) W2 := ⟨_, rfl⟩
  replace zA3 : rA T n I J3 W3 := by rw [jW3]; exact zA3
  have c3 : W3.2.1 2 = l := by rw [jW3]; exact c2
  refine q_al (pc := 43) (i := 0) (x := 183) rfl rfl ?_
  refine q_gf (pc := 44) (m := 12142) (t := 2) (c := 14) rfl (ttKc zA3.1 (a := 183) (κ := 12) (len := 0) ⟨rfl, rfl⟩ (by decide) (by decide)).1 rfl rfl ?_
  rw [show J3.1 183 14 = 189 from ttFx zA3.1 (by decide) (by decide) rfl rfl rfl]
  refine q_il (pc := 45) (i := 1) (x := k) rfl rfl ?_
  refine q_ic (pc := 46) (v := 2) rfl ?_
  refine q_ia (pc := 47) rfl (by omega) (by omega) ?_
  refine q_al (pc := 48) (i := 0) (x := 183) rfl rfl ?_
  refine q_ic (pc := 49) (v := 1) rfl ?_
  refine q_ic (pc := 50) (v := 60) rfl ?_
  refine q_iv (pc := 51) (q := 1752972) rfl rfl rfl (ttKc zA3.1 (a := 183) (κ := 12) (len := 0) ⟨rfl, rfl⟩ (by decide) (by decide)).1 ?_
  refine la_number (by decide) (by omega) hO zA3 (fun ujr4 J4 zA4 jr4 => ?_)
  have jv4 : ujr4 = (sNm T W3.1 1 60).1 := jr4
  obtain ⟨W4, jW4⟩ : ∃ Y : tZ, Y = zNm T 1 60 W3 := ⟨_, rfl⟩
  replace zA4 : rA T n I J4 W4 := by rw [jW4]; exact zA4
  have c4 : W4.2.1 2 = l := by rw [jW4]; exact c3
  have jb4 : ujr4 = 0 ∨ 1 ≤ ujr4 ∧ ujr4 ≤ 60 := by rw [jv4]; exact sNm_v
  refine q_si (pc := 52) rfl (by decide) (ttKc zA4.1 (a := 189) (κ := 20) (len := 196) ⟨rfl, rfl⟩ (by decide) (by decide)).1 (by omega) (by rw [(ttKc zA4.1 (a := 189) (κ := 20) (len := 196) ⟨rfl, rfl⟩ (by decide) (by decide)).2]; omega) ?_
  have zA5 := rA_put zA4 (j := (k + 2)) (v := ujr4) (by rw [show (k + 2) = 84 + 6 * l + ((2 : Nat) : Int) from by omega, ty_fl l0 l1 2 (by decide)]; exact (show (0 : Int) ≤ ujr4 ∧ ujr4 ≤ 60 from ⟨by omega, by omega⟩)) (by omega) (by omega)
  obtain ⟨J5, ujzk5⟩ : ∃ X : xH, X = (xUp J4.1 189 (k + 2) ujr4, J4.2) := ⟨_, rfl⟩
  rw [← ujzk5] at zA5 ⊢
  obtain ⟨W5, jW5⟩ : ∃ Y : tZ, Y = zP (k + 2) ujr4 W4 := ⟨_, rfl⟩
  replace zA5 : rA T n I J5 W5 := by rw [jW5]; exact zA5
  have c5 : W5.2.1 2 = l := by rw [jW5]; exact (sUp_ne (by omega)).trans c4
  refine q_al (pc := 53) (i := 0) (x := 183) rfl rfl ?_
  refine q_sc (pc := 54) (j := 15) rfl ?_
  refine q_iv (pc := 55) (q := 1744971) rfl rfl rfl ⟨by omega, (ttKc zA5.1 (a := 183) (κ := 12) (len := 0) ⟨rfl, rfl⟩ (by decide) (by decide)).1⟩ ?_
  refine la_needs (by decide) (by decide) (by omega) hO zA5 (fun J6 zA6 => ?_)
  obtain ⟨W6, jW6⟩ : ∃ Y : tZ, Y = zNd T (-17) W5 := ⟨_, rfl⟩
  replace zA6 : rA T n I J6 W6 := by rw [jW6]; exact zA6
  have c6 : W6.2.1 2 = l := by rw [jW6]; exact c5
  refine q_al (pc := 56) (i := 0) (x := 183) rfl rfl ?_
  refine q_gf (pc := 57) (m := 12142) (t := 2) (c := 14) rfl (ttKc zA6.1 (a := 183) (κ := 12) (len := 0) ⟨rfl, rfl⟩ (by decide) (by decide)).1 rfl rfl ?_
  rw [show J6.1 183 14 = 189 from ttFx zA6.1 (by decide) (by decide) rfl rfl rfl]
  refine q_il (pc := 58) (i := 1) (x := k) rfl rfl ?_
  refine q_ic (pc := 59) (v := 3) rfl ?_
  refine q_ia (pc := 60) rfl (by omega) (by omega) ?_
  refine q_al (pc := 61) (i := 0) (x := 183) rfl rfl ?_
  refine q_ic (pc := 62) (v := 999) rfl ?_
  refine q_iv (pc := 63) (q := 1784968) rfl rfl rfl (ttKc zA6.1 (a := 183) (κ := 12) (len := 0) ⟨rfl, rfl⟩ (by decide) (by decide)).1 ?_
  refine la_signed (by decide) (by omega) hO zA6 (fun ujr7 J7 zA7 jr7 => ?_)
  have jv7 : ujr7 = (sSg T W6.1 999).1 := jr7
  obtain ⟨W7, jW7⟩ : ∃ Y : tZ, Y = zSg T 999 W6 := ⟨_, rfl⟩
  replace zA7 : rA T n I J7 W7 := by rw [jW7]; exact zA7
  have c7 : W7.2.1 2 = l := by rw [jW7]; exact c6
  have jb7 : -999 ≤ ujr7 ∧ ujr7 ≤ 999 := by rw [jv7]; exact sSg_v (by decide)
  refine q_si (pc := 64) rfl (by decide) (ttKc zA7.1 (a := 189) (κ := 20) (len := 196) ⟨rfl, rfl⟩ (by decide) (by decide)).1 (by omega) (by rw [(ttKc zA7.1 (a := 189) (κ := 20) (len := 196) ⟨rfl, rfl⟩ (by decide) (by decide)).2]; omega) ?_
  have zA8 := rA_put zA7 (j := (k + 3)) (v := ujr7) (by rw [show (k + 3) = 84 + 6 * l + ((3 : Nat) : Int) from by omega, ty_fl l0 l1 3 (by decide)]; exact (show ((-999) : Int) ≤ ujr7 ∧ ujr7 ≤ 999 from ⟨by omega, by omega⟩)) (by omega) (by omega)
  obtain ⟨J8, ujzk8⟩ : ∃ X : xH, X = (xUp J7.1 189 (k + 3) ujr7, J7.2) := ⟨_, rfl⟩
  rw [← ujzk8] at zA8 ⊢
  obtain ⟨W8, jW8⟩ : ∃ Y : tZ, Y = zP (k + 3) ujr7 W7 := ⟨_, rfl⟩
  replace zA8 : rA T n I J8 W8 := by rw [jW8]; exact zA8
  have c8 : W8.2.1 2 = l := by rw [jW8]; exact (sUp_ne (by omega)).trans c7
  have e1 : W8 = zLa T k V := by
    rw [jW8, jv7, jW7, jW6, jW5, jv4, jW4, jW3, jW2, jv1, jW1]
    rfl
  exact lg_65 he hO l0 l1 jk zA8 c8 (by rw [e1]; exact kq)
theorem la_readLeg {dd : Nat} (hd : 10 ≤ dd) {I H : xH} {T : tSm} {n : Int} (hO : sOk T n) {W0 : tZ} (zA0 : rA T n I H W0) (l1 : W0.2.1 2 ≤ 9) {Q : Int → xH → Prop} (hq : ∀ J, rA T n I J (zLe T W0) → Q 0 J) : xCall dd 225 [(2, 183)] H Q := by
  obtain ⟨e, rfl, he⟩ := ttRun0 (n := 9) hd
  have he : 9 ≤ e := he
  have hT := zA0.1
  have l0 := (rA_rw zA0).2.2.1.1
  obtain ⟨l, jl⟩ : ∃ l, l = W0.2.1 2 := ⟨_, rfl⟩
  have em : H.1 189 2 = l := ((zA0.2.2.2.1 2 (by omega) (by omega))).trans jl.symm
  rw [← jl] at l0 l1
  obtain ⟨k, jk⟩ : ∃ k, k = 84 + 6 * l := ⟨_, rfl⟩
  refine xC_of (L := [(2, 183), (9, 0)]) (cd := cd_225) rfl rfl rfl ?_
  refine q_ic (pc := 0) (v := 84) rfl ?_
  refine q_ic (pc := 1) (v := 6) rfl ?_
  refine q_al (pc := 2) (i := 0) (x := 183) rfl rfl ?_
  refine q_gf (pc := 3) (m := 12142) (t := 2) (c := 14) rfl (ttKc hT (a := 183) (κ := 12) (len := 0) ⟨rfl, rfl⟩ (by decide) (by decide)).1 rfl rfl ?_
  rw [show H.1 183 14 = 189 from ttFx hT (by decide) (by decide) rfl rfl rfl]
  refine q_ic (pc := 4) (v := 2) rfl ?_
  refine q_ai (pc := 5) rfl (ttKc hT (a := 189) (κ := 20) (len := 196) ⟨rfl, rfl⟩ (by decide) (by decide)).1 (by omega) (by rw [(ttKc hT (a := 189) (κ := 20) (len := 196) ⟨rfl, rfl⟩ (by decide) (by decide)).2]; omega) ?_
  rw [em]
  refine q_im (pc := 6) rfl (by omega) (by omega) ?_
  refine q_ia (pc := 7) rfl (by omega) (by omega) ?_
  rw [show (84 + (6 * l)) = k from by omega]
  refine q_is (pc := 8) (i := 1) (L' := [(2, 183), (0, k)]) rfl rfl rfl ?_
  refine q_al (pc := 9) (i := 0) (x := 183) rfl rfl ?_
  refine q_gf (pc := 10) (m := 12142) (t := 2) (c := 14) rfl (ttKc hT (a := 183) (κ := 12) (len := 0) ⟨rfl, rfl⟩ (by decide) (by decide)).1 rfl rfl ?_
  rw [show H.1 183 14 = 189 from ttFx hT (by decide) (by decide) rfl rfl rfl]
  refine q_il (pc := 11) (i := 1) (x := k) rfl rfl ?_
  refine q_al (pc := 12) (i := 0) (x := 183) rfl rfl ?_
  refine q_iv (pc := 13) (q := 1776964) rfl rfl rfl (ttKc hT (a := 183) (κ := 12) (len := 0) ⟨rfl, rfl⟩ (by decide) (by decide)).1 ?_
  refine la_place (by omega) hO zA0 (fun ujr1 J1 zA1 jr1 => ?_)
  have jv1 : ujr1 = (sNm T W0.1 0 (W0.2.1 1 - 1)).1 := jr1
  obtain ⟨W1, jW1⟩ : ∃ Y : tZ, Y = zNm T 0 (W0.2.1 1 - 1) W0 := ⟨_, rfl⟩
  replace zA1 : rA T n I J1 W1 := by rw [jW1]; exact zA1
  have c1 : W1.2.1 2 = l := by rw [jW1]; exact jl.symm
  have zb1 := (rA_rw zA1).2.1
  rw [show W1.2.1 1 = W0.2.1 1 from by rw [jW1]; rfl] at zb1
  have jb1 : ujr1 = 0 ∨ 0 ≤ ujr1 ∧ ujr1 ≤ W0.2.1 1 - 1 := by rw [jv1]; exact sNm_v
  refine q_si (pc := 14) rfl (by decide) (ttKc zA1.1 (a := 189) (κ := 20) (len := 196) ⟨rfl, rfl⟩ (by decide) (by decide)).1 (by omega) (by rw [(ttKc zA1.1 (a := 189) (κ := 20) (len := 196) ⟨rfl, rfl⟩ (by decide) (by decide)).2]; omega) ?_
  have zA2 := rA_put zA1 (j := k) (v := ujr1) (by rw [show k = 84 + 6 * l + ((0 : Nat) : Int) from by omega, ty_fl l0 l1 0 (by decide)]; exact (show (0 : Int) ≤ ujr1 ∧ ujr1 ≤ 7 from ⟨by omega, by omega⟩)) (by omega) (by omega)
  obtain ⟨J2, ujzk2⟩ : ∃ X : xH, X = (xUp J1.1 189 k ujr1, J1.2) := ⟨_, rfl⟩
  rw [← ujzk2] at zA2 ⊢
  obtain ⟨W2, jW2⟩ : ∃ Y : tZ, Y = zP k ujr1 W1 := ⟨_, rfl⟩
  replace zA2 : rA T n I J2 W2 := by rw [jW2]; exact zA2
  have c2 : W2.2.1 2 = l := by rw [jW2]; exact (sUp_ne (by omega)).trans c1
  have ek : k = 84 + 6 * W0.2.1 2 := by omega
  have e1 : W2 = zPp T (84 + 6 * W0.2.1 2) W0 := by rw [jW2, jv1, jW1, ek]; rfl
  have zq : ∀ Z, zLe T W0 = Z → ∀ J, rA T n I J Z → Q 0 J := fun Z ez J jA => hq J (by rw [ez]; exact jA)
  have e9 : zLe T W0 = zIn 2 (zLe2 T k (zBl T k W2)) := by rw [e1, ek]; rfl
  refine q_al (pc := 15) (i := 0) (x := 183) rfl rfl ?_
  refine q_iv (pc := 16) (q := 1712964) rfl rfl rfl (ttKc zA2.1 (a := 183) (κ := 12) (len := 0) ⟨rfl, rfl⟩ (by decide) (by decide)).1 ?_
  refine la_good (by omega) zA2 (fun jg16 => ?_) (fun jg16 => ?_)
  · skip
    refine q_if (pc := 17) rfl (fun h17 => ?_) (fun h17 => ?_)
    · replace h17 : (1 : Int) = 0 := h17
      omega
    · replace h17 : (1 : Int) ≠ 0 := h17
      refine q_al (pc := 18) (i := 0) (x := 183) rfl rfl ?_
      refine q_gf (pc := 19) (m := 12100) (t := 0) (c := 10) rfl (ttKc zA2.1 (a := 183) (κ := 12) (len := 0) ⟨rfl, rfl⟩ (by decide) (by decide)).1 rfl rfl ?_
      rw [zA2.2.2.1.1.2.2.2.1.1]
      refine q_ic (pc := 20) (v := 2) rfl ?_
      refine q_i2 (pc := 21) rfl (fun h21 => ?_) (fun h21 => ?_)
      · replace h21 : (T.2.1 W2.1.1) ≠ 2 := h21
        refine lg_32 he hO l0 l1 jk zA2 c2 (zq _ ?_)
        rw [e9, show zBl T k W2 = W2 from if_neg (fun z => h21 z.2.1)]
      · replace h21 : (T.2.1 W2.1.1) = 2 := h21
        refine q_al (pc := 22) (i := 0) (x := 183) rfl rfl ?_
        refine q_gf (pc := 23) (m := 12110) (t := 0) (c := 11) rfl (ttKc zA2.1 (a := 183) (κ := 12) (len := 0) ⟨rfl, rfl⟩ (by decide) (by decide)).1 rfl rfl ?_
        rw [zA2.2.2.1.1.2.2.2.2 h21]
        refine q_al (pc := 24) (i := 0) (x := 183) rfl rfl ?_
        refine q_gf (pc := 25) (m := 12142) (t := 2) (c := 14) rfl (ttKc zA2.1 (a := 183) (κ := 12) (len := 0) ⟨rfl, rfl⟩ (by decide) (by decide)).1 rfl rfl ?_
        rw [show J2.1 183 14 = 189 from ttFx zA2.1 (by decide) (by decide) rfl rfl rfl]
        refine q_il (pc := 26) (i := 1) (x := k) rfl rfl ?_
        refine q_ai (pc := 27) rfl (ttKc zA2.1 (a := 189) (κ := 20) (len := 196) ⟨rfl, rfl⟩ (by decide) (by decide)).1 (by omega) (by rw [(ttKc zA2.1 (a := 189) (κ := 20) (len := 196) ⟨rfl, rfl⟩ (by decide) (by decide)).2]; omega) ?_
        rw [(zA2.2.2.2.1 k (by omega) (by omega))]
        refine q_i2 (pc := 28) rfl (fun h28 => ?_) (fun h28 => ?_)
        · replace h28 : (min 99999 (sVt T W2.1.1)) ≠ (W2.2.1 k) := h28
          refine lg_32 he hO l0 l1 jk zA2 c2 (zq _ ?_)
          rw [e9, show zBl T k W2 = W2 from if_neg (fun z => h28 z.2.2)]
        · replace h28 : (min 99999 (sVt T W2.1.1)) = (W2.2.1 k) := h28
          refine q_al (pc := 29) (i := 0) (x := 183) rfl rfl ?_
          refine q_ic (pc := 30) (v := 2) rfl ?_
          refine q_iv (pc := 31) (q := 1720971) rfl rfl rfl (ttKc zA2.1 (a := 183) (κ := 12) (len := 0) ⟨rfl, rfl⟩ (by decide) (by decide)).1 ?_
          refine la_errs (by omega) hO zA2 (by decide) (by decide) (fun J3 zA3 => ?_)
          obtain ⟨W3, jW3⟩ : ∃ Y : tZ, Y = zEr T 2 W2 := ⟨_, rfl⟩
          replace zA3 : rA T n I J3 W3 := by rw [jW3]; exact zA3
          have c3 : W3.2.1 2 = l := by rw [jW3]; exact c2
          refine lg_32 he hO l0 l1 jk zA3 c3 (zq _ ?_)
          rw [e9, show zBl T k W2 = zEr T 2 W2 from if_pos ⟨jg16, h21, h28⟩, ← jW3]
  · skip
    refine q_if (pc := 17) rfl (fun h17 => ?_) (fun h17 => ?_)
    · replace h17 : (0 : Int) = 0 := h17
      refine lg_32 he hO l0 l1 jk zA2 c2 (zq _ ?_)
      rw [e9, show zBl T k W2 = W2 from if_neg (fun z => jg16 z.1)]
    · replace h17 : (0 : Int) ≠ 0 := h17
      omega
theorem la_readLift {dd : Nat} (hd : 10 ≤ dd) {I H : xH} {T : tSm} {n : Int} (hO : sOk T n) {W0 : tZ} (zA0 : rA T n I H W0) {Q : Int → xH → Prop} (hq : ∀ J, rA T n I J (zLi T W0) → Q 0 J) : xCall dd 226 [(2, 183)] H Q := by
  obtain ⟨e, rfl, he⟩ := ttRun0 (n := 9) hd
  have he : 9 ≤ e := he
  have hT := zA0.1
  have h36 : ∀ (K : xH) (V : tZ), rA T n I K V → zLi T W0 = zLi1 T (20 + 8 * vPq T V) (vTd T (-21) 0 100 (zPq T V)) (vTd T (-22) 0 2000 (zTd T (-21) 0 100 (zPq T V))) (zTd T (-22) 0 2000 (zTd T (-21) 0 100 (zPq T V))) → xW e cd_226 Q (36, [(2, 183), (9, 0), (9, 0), (9, 0)], [], K) := by
    intro K V kA ke
    refine q_ic (pc := 36) (v := 20) rfl ?_
    refine q_ic (pc := 37) (v := 8) rfl ?_
    refine q_al (pc := 38) (i := 0) (x := 183) rfl rfl ?_
    refine q_iv (pc := 39) (q := 1776964) rfl rfl rfl (ttKc kA.1 (a := 183) (κ := 12) (len := 0) ⟨rfl, rfl⟩ (by decide) (by decide)).1 ?_
    refine la_place (by omega) hO kA (fun ujr1 J1 zA1 jr1 => ?_)
    have jv1 : ujr1 = (sNm T V.1 0 (V.2.1 1 - 1)).1 := jr1
    obtain ⟨W1, jW1⟩ : ∃ Y : tZ, Y = zNm T 0 (V.2.1 1 - 1) V := ⟨_, rfl⟩
    replace zA1 : rA T n I J1 W1 := by rw [jW1]; exact zA1
    have zb1 := (rA_rw zA1).2.1
    rw [show W1.2.1 1 = V.2.1 1 from by rw [jW1]; rfl] at zb1
    have jb1 : ujr1 = 0 ∨ 0 ≤ ujr1 ∧ ujr1 ≤ V.2.1 1 - 1 := by rw [jv1]; exact sNm_v
    refine q_im (pc := 40) rfl (by omega) (by omega) ?_
    refine q_ia (pc := 41) rfl (by omega) (by omega) ?_
    have pb : 0 ≤ ujr1 ∧ ujr1 ≤ 7 := by omega
    obtain ⟨q, jq⟩ : ∃ q, q = (20 + (8 * ujr1)) := ⟨_, rfl⟩
    rw [← jq]
    refine q_is (pc := 42) (i := 1) (L' := [(2, 183), (0, q), (9, 0), (9, 0)]) rfl rfl rfl ?_
    refine q_al (pc := 43) (i := 0) (x := 183) rfl rfl ?_
    refine q_sc (pc := 44) (j := 19) rfl ?_
    refine q_ic (pc := 45) (v := 0) rfl ?_
    refine q_ic (pc := 46) (v := 100) rfl ?_
    refine q_iv (pc := 47) (q := 1760976) rfl rfl rfl ⟨by omega, (ttKc zA1.1 (a := 183) (κ := 12) (len := 0) ⟨rfl, rfl⟩ (by decide) (by decide)).1⟩ ?_
    refine la_told (by decide) (by decide) (by decide) (by omega) hO zA1 (fun ujr2 J2 zA2 jr2 => ?_)
    have jv2 : ujr2 = (sNm T (sNd T W1.1 (-21)) 0 100).1 := jr2
    obtain ⟨W2, jW2⟩ : ∃ Y : tZ, Y = zNm T 0 100 (zNd T (-21) W1) := ⟨_, rfl⟩
    replace zA2 : rA T n I J2 W2 := by rw [jW2]; exact zA2
    have jb2 : ujr2 = 0 ∨ 0 ≤ ujr2 ∧ ujr2 ≤ 100 := by rw [jv2]; exact sNm_v
    refine q_is (pc := 48) (i := 2) (L' := [(2, 183), (0, q), (0, ujr2), (9, 0)]) rfl rfl rfl ?_
    refine q_al (pc := 49) (i := 0) (x := 183) rfl rfl ?_
    refine q_sc (pc := 50) (j := 20) rfl ?_
    refine q_ic (pc := 51) (v := 0) rfl ?_
    refine q_ic (pc := 52) (v := 2000) rfl ?_
    refine q_iv (pc := 53) (q := 1760976) rfl rfl rfl ⟨by omega, (ttKc zA2.1 (a := 183) (κ := 12) (len := 0) ⟨rfl, rfl⟩ (by decide) (by decide)).1⟩ ?_
    refine la_told (by decide) (by decide) (by decide) (by omega) hO zA2 (fun ujr3 J3 zA3 jr3 => ?_)
    have jv3 : ujr3 = (sNm T (sNd T W2.1 (-22)) 0 2000).1 := jr3
    obtain ⟨W3, jW3⟩ : ∃ Y : tZ, Y = zNm T 0 2000 (zNd T (-22) W2) := ⟨_, rfl⟩
    replace zA3 : rA T n I J3 W3 := by rw [jW3]; exact zA3
    have jb3 : ujr3 = 0 ∨ 0 ≤ ujr3 ∧ ujr3 ≤ 2000 := by rw [jv3]; exact sNm_v
    refine q_is (pc := 54) (i := 3) (L' := [(2, 183), (0, q), (0, ujr2), (0, ujr3)]) rfl rfl rfl ?_
    refine q_al (pc := 55) (i := 0) (x := 183) rfl rfl ?_
    refine q_iv (pc := 56) (q := 1712964) rfl rfl rfl (ttKc zA3.1 (a := 183) (κ := 12) (len := 0) ⟨rfl, rfl⟩ (by decide) (by decide)).1 ?_
    refine la_good (by omega) zA3 (fun jg56 => ?_) (fun jg56 => ?_)
    · skip
      refine q_if (pc := 57) rfl (fun h57 => ?_) (fun h57 => ?_)
      · replace h57 : (1 : Int) ≠ 0 := h57
        refine q_al (pc := 59) (i := 0) (x := 183) rfl rfl ?_
        refine q_gf (pc := 60) (m := 12142) (t := 2) (c := 14) rfl (ttKc zA3.1 (a := 183) (κ := 12) (len := 0) ⟨rfl, rfl⟩ (by decide) (by decide)).1 rfl rfl ?_
        rw [show J3.1 183 14 = 189 from ttFx zA3.1 (by decide) (by decide) rfl rfl rfl]
        refine q_il (pc := 61) (i := 1) (x := q) rfl rfl ?_
        refine q_ic (pc := 62) (v := 3) rfl ?_
        refine q_ia (pc := 63) rfl (by omega) (by omega) ?_
        refine q_ic (pc := 64) (v := 1) rfl ?_
        refine q_si (pc := 65) rfl (by decide) (ttKc zA3.1 (a := 189) (κ := 20) (len := 196) ⟨rfl, rfl⟩ (by decide) (by decide)).1 (by omega) (by rw [(ttKc zA3.1 (a := 189) (κ := 20) (len := 196) ⟨rfl, rfl⟩ (by decide) (by decide)).2]; omega) ?_
        have zA4 := rA_put zA3 (j := (q + 3)) (v := 1) (by rw [show (q + 3) = 20 + 8 * ujr1 + ((3 : Nat) : Int) from by omega, ty_fp pb.1 pb.2 3 (by decide)]; exact (show (0 : Int) ≤ 1 ∧ 1 ≤ 1 from ⟨by omega, by omega⟩)) (by omega) (by omega)
        obtain ⟨J4, ujzk4⟩ : ∃ X : xH, X = (xUp J3.1 189 (q + 3) 1, J3.2) := ⟨_, rfl⟩
        rw [← ujzk4] at zA4 ⊢
        obtain ⟨W4, jW4⟩ : ∃ Y : tZ, Y = zP (q + 3) 1 W3 := ⟨_, rfl⟩
        replace zA4 : rA T n I J4 W4 := by rw [jW4]; exact zA4
        refine q_al (pc := 66) (i := 0) (x := 183) rfl rfl ?_
        refine q_gf (pc := 67) (m := 12142) (t := 2) (c := 14) rfl (ttKc zA4.1 (a := 183) (κ := 12) (len := 0) ⟨rfl, rfl⟩ (by decide) (by decide)).1 rfl rfl ?_
        rw [show J4.1 183 14 = 189 from ttFx zA4.1 (by decide) (by decide) rfl rfl rfl]
        refine q_il (pc := 68) (i := 1) (x := q) rfl rfl ?_
        refine q_ic (pc := 69) (v := 4) rfl ?_
        refine q_ia (pc := 70) rfl (by omega) (by omega) ?_
        refine q_il (pc := 71) (i := 2) (x := ujr2) rfl rfl ?_
        refine q_si (pc := 72) rfl (by decide) (ttKc zA4.1 (a := 189) (κ := 20) (len := 196) ⟨rfl, rfl⟩ (by decide) (by decide)).1 (by omega) (by rw [(ttKc zA4.1 (a := 189) (κ := 20) (len := 196) ⟨rfl, rfl⟩ (by decide) (by decide)).2]; omega) ?_
        have zA5 := rA_put zA4 (j := (q + 4)) (v := ujr2) (by rw [show (q + 4) = 20 + 8 * ujr1 + ((4 : Nat) : Int) from by omega, ty_fp pb.1 pb.2 4 (by decide)]; exact (show (0 : Int) ≤ ujr2 ∧ ujr2 ≤ 100 from ⟨by omega, by omega⟩)) (by omega) (by omega)
        obtain ⟨J5, ujzk5⟩ : ∃ X : xH, X = (xUp J4.1 189 (q + 4) ujr2, J4.2) := ⟨_, rfl⟩
        rw [← ujzk5] at zA5 ⊢
        obtain ⟨W5, jW5⟩ : ∃ Y : tZ, Y = zP (q + 4) ujr2 W4 := ⟨_, rfl⟩
        replace zA5 : rA T n I J5 W5 := by rw [jW5]; exact zA5
        refine q_al (pc := 73) (i := 0) (x := 183) rfl rfl ?_
        refine q_gf (pc := 74) (m := 12142) (t := 2) (c := 14) rfl (ttKc zA5.1 (a := 183) (κ := 12) (len := 0) ⟨rfl, rfl⟩ (by decide) (by decide)).1 rfl rfl ?_
        rw [show J5.1 183 14 = 189 from ttFx zA5.1 (by decide) (by decide) rfl rfl rfl]
        refine q_il (pc := 75) (i := 1) (x := q) rfl rfl ?_
        refine q_ic (pc := 76) (v := 5) rfl ?_
        refine q_ia (pc := 77) rfl (by omega) (by omega) ?_
        refine q_il (pc := 78) (i := 3) (x := ujr3) rfl rfl ?_
        refine q_si (pc := 79) rfl (by decide) (ttKc zA5.1 (a := 189) (κ := 20) (len := 196) ⟨rfl, rfl⟩ (by decide) (by decide)).1 (by omega) (by rw [(ttKc zA5.1 (a := 189) (κ := 20) (len := 196) ⟨rfl, rfl⟩ (by decide) (by decide)).2]; omega) ?_
        have zA6 := rA_put zA5 (j := (q + 5)) (v := ujr3) (by rw [show (q + 5) = 20 + 8 * ujr1 + ((5 : Nat) : Int) from by omega, ty_fp pb.1 pb.2 5 (by decide)]; exact (show (0 : Int) ≤ ujr3 ∧ ujr3 ≤ 2000 from ⟨by omega, by omega⟩)) (by omega) (by omega)
        obtain ⟨J6, ujzk6⟩ : ∃ X : xH, X = (xUp J5.1 189 (q + 5) ujr3, J5.2) := ⟨_, rfl⟩
        rw [← ujzk6] at zA6 ⊢
        obtain ⟨W6, jW6⟩ : ∃ Y : tZ, Y = zP (q + 5) ujr3 W5 := ⟨_, rfl⟩
        replace zA6 : rA T n I J6 W6 := by rw [jW6]; exact zA6
        refine q_al (pc := 80) (i := 0) (x := 183) rfl rfl ?_
        refine q_sc (pc := 81) (j := 21) rfl ?_
        refine q_iv (pc := 82) (q := 1736968) rfl rfl rfl ⟨by omega, (ttKc zA6.1 (a := 183) (κ := 12) (len := 0) ⟨rfl, rfl⟩ (by decide) (by decide)).1⟩ ?_
        refine la_takes (by decide) (by decide) (by omega) hO zA6 (fun r J7 zA7 jr7 => ?_)
        obtain ⟨W7, jW7⟩ : ∃ Y : tZ, Y = zTk T (-23) W6 := ⟨_, rfl⟩
        replace zA7 : rA T n I J7 W7 := by rw [jW7]; exact zA7
        rcases jr7 with ⟨rfl, jk7⟩ | ⟨rfl, jk7⟩
        · replace jk7 : (sTk T W6.1 (-23)).1 = true := jk7
          refine q_if (pc := 83) rfl (fun h83 => ?_) (fun h83 => ?_)
          · replace h83 : (1 : Int) ≠ 0 := h83
            refine q_al (pc := 85) (i := 0) (x := 183) rfl rfl ?_
            refine q_gf (pc := 86) (m := 12142) (t := 2) (c := 14) rfl (ttKc zA7.1 (a := 183) (κ := 12) (len := 0) ⟨rfl, rfl⟩ (by decide) (by decide)).1 rfl rfl ?_
            rw [show J7.1 183 14 = 189 from ttFx zA7.1 (by decide) (by decide) rfl rfl rfl]
            refine q_il (pc := 87) (i := 1) (x := q) rfl rfl ?_
            refine q_ic (pc := 88) (v := 6) rfl ?_
            refine q_ia (pc := 89) rfl (by omega) (by omega) ?_
            refine q_al (pc := 90) (i := 0) (x := 183) rfl rfl ?_
            refine q_ic (pc := 91) (v := 0) rfl ?_
            refine q_ic (pc := 92) (v := 100) rfl ?_
            refine q_iv (pc := 93) (q := 1752972) rfl rfl rfl (ttKc zA7.1 (a := 183) (κ := 12) (len := 0) ⟨rfl, rfl⟩ (by decide) (by decide)).1 ?_
            refine la_number (by decide) (by omega) hO zA7 (fun ujr8 J8 zA8 jr8 => ?_)
            have jv8 : ujr8 = (sNm T W7.1 0 100).1 := jr8
            obtain ⟨W8, jW8⟩ : ∃ Y : tZ, Y = zNm T 0 100 W7 := ⟨_, rfl⟩
            replace zA8 : rA T n I J8 W8 := by rw [jW8]; exact zA8
            have jb8 : ujr8 = 0 ∨ 0 ≤ ujr8 ∧ ujr8 ≤ 100 := by rw [jv8]; exact sNm_v
            refine q_si (pc := 94) rfl (by decide) (ttKc zA8.1 (a := 189) (κ := 20) (len := 196) ⟨rfl, rfl⟩ (by decide) (by decide)).1 (by omega) (by rw [(ttKc zA8.1 (a := 189) (κ := 20) (len := 196) ⟨rfl, rfl⟩ (by decide) (by decide)).2]; omega) ?_
            have zA9 := rA_put zA8 (j := (q + 6)) (v := ujr8) (by rw [show (q + 6) = 20 + 8 * ujr1 + ((6 : Nat) : Int) from by omega, ty_fp pb.1 pb.2 6 (by decide)]; exact (show (0 : Int) ≤ ujr8 ∧ ujr8 ≤ 100 from ⟨by omega, by omega⟩)) (by omega) (by omega)
            obtain ⟨J9, ujzk9⟩ : ∃ X : xH, X = (xUp J8.1 189 (q + 6) ujr8, J8.2) := ⟨_, rfl⟩
            rw [← ujzk9] at zA9 ⊢
            obtain ⟨W9, jW9⟩ : ∃ Y : tZ, Y = zP (q + 6) ujr8 W8 := ⟨_, rfl⟩
            replace zA9 : rA T n I J9 W9 := by rw [jW9]; exact zA9
            refine q_al (pc := 95) (i := 0) (x := 183) rfl rfl ?_
            refine q_gf (pc := 96) (m := 12142) (t := 2) (c := 14) rfl (ttKc zA9.1 (a := 183) (κ := 12) (len := 0) ⟨rfl, rfl⟩ (by decide) (by decide)).1 rfl rfl ?_
            rw [show J9.1 183 14 = 189 from ttFx zA9.1 (by decide) (by decide) rfl rfl rfl]
            refine q_il (pc := 97) (i := 1) (x := q) rfl rfl ?_
            refine q_ic (pc := 98) (v := 7) rfl ?_
            refine q_ia (pc := 99) rfl (by omega) (by omega) ?_
            refine q_al (pc := 100) (i := 0) (x := 183) rfl rfl ?_
            refine q_ic (pc := 101) (v := 0) rfl ?_
            refine q_ic (pc := 102) (v := 100) rfl ?_
            refine q_iv (pc := 103) (q := 1752972) rfl rfl rfl (ttKc zA9.1 (a := 183) (κ := 12) (len := 0) ⟨rfl, rfl⟩ (by decide) (by decide)).1 ?_
            refine la_number (by decide) (by omega) hO zA9 (fun ujr10 J10 zA10 jr10 => ?_)
            have jv10 : ujr10 = (sNm T W9.1 0 100).1 := jr10
            obtain ⟨W10, jW10⟩ : ∃ Y : tZ, Y = zNm T 0 100 W9 := ⟨_, rfl⟩
            replace zA10 : rA T n I J10 W10 := by rw [jW10]; exact zA10
            have jb10 : ujr10 = 0 ∨ 0 ≤ ujr10 ∧ ujr10 ≤ 100 := by rw [jv10]; exact sNm_v
            refine q_si (pc := 104) rfl (by decide) (ttKc zA10.1 (a := 189) (κ := 20) (len := 196) ⟨rfl, rfl⟩ (by decide) (by decide)).1 (by omega) (by rw [(ttKc zA10.1 (a := 189) (κ := 20) (len := 196) ⟨rfl, rfl⟩ (by decide) (by decide)).2]; omega) ?_
            have zA11 := rA_put zA10 (j := (q + 7)) (v := ujr10) (by rw [show (q + 7) = 20 + 8 * ujr1 + ((7 : Nat) : Int) from by omega, ty_fp pb.1 pb.2 7 (by decide)]; exact (show (0 : Int) ≤ ujr10 ∧ ujr10 ≤ 100 from ⟨by omega, by omega⟩)) (by omega) (by omega)
            obtain ⟨J11, ujzk11⟩ : ∃ X : xH, X = (xUp J10.1 189 (q + 7) ujr10, J10.2) := ⟨_, rfl⟩
            rw [← ujzk11] at zA11 ⊢
            obtain ⟨W11, jW11⟩ : ∃ Y : tZ, Y = zP (q + 7) ujr10 W10 := ⟨_, rfl⟩
            replace zA11 : rA T n I J11 W11 := by rw [jW11]; exact zA11
            refine q_rv (pc := 105) rfl ?_
            have eq : q = 20 + 8 * vPq T V := by rw [jq, jv1]; rfl
            have e3 : W3 = zTd T (-22) 0 2000 (zTd T (-21) 0 100 (zPq T V)) := by rw [jW3, jW2, jW1]; rfl
            have e4 : ujr2 = vTd T (-21) 0 100 (zPq T V) := by rw [jv2, jW1]; rfl
            have e5 : ujr3 = vTd T (-22) 0 2000 (zTd T (-21) 0 100 (zPq T V)) := by rw [jv3, jW2, jW1]; rfl
            rw [← eq, ← e4, ← e5, ← e3] at ke
            have e6 : W6 = zP (q + 5) ujr3 (zP (q + 4) ujr2 (zP (q + 3) 1 W3)) := by rw [jW6, jW5, jW4]
            rw [show zLi1 T q ujr2 ujr3 W3 = zLi2 T q W6 from (if_pos jg56).trans (by rw [e6])] at ke
            refine hq J11 ?_
            rw [ke, show zLi2 T q W6 = W11 from (if_pos jk7).trans (by rw [jW11, jv10, jW10, jW9, jv8, jW8, jW7]; rfl)]
            exact zA11
          · replace h83 : (1 : Int) = 0 := h83
            omega
        · replace jk7 : (sTk T W6.1 (-23)).1 = false := jk7
          refine q_if (pc := 83) rfl (fun h83 => ?_) (fun h83 => ?_)
          · replace h83 : (0 : Int) ≠ 0 := h83
            omega
          · replace h83 : (0 : Int) = 0 := h83
            refine q_rv (pc := 84) rfl ?_
            have eq : q = 20 + 8 * vPq T V := by rw [jq, jv1]; rfl
            have e3 : W3 = zTd T (-22) 0 2000 (zTd T (-21) 0 100 (zPq T V)) := by rw [jW3, jW2, jW1]; rfl
            have e4 : ujr2 = vTd T (-21) 0 100 (zPq T V) := by rw [jv2, jW1]; rfl
            have e5 : ujr3 = vTd T (-22) 0 2000 (zTd T (-21) 0 100 (zPq T V)) := by rw [jv3, jW2, jW1]; rfl
            rw [← eq, ← e4, ← e5, ← e3] at ke
            have e6 : W6 = zP (q + 5) ujr3 (zP (q + 4) ujr2 (zP (q + 3) 1 W3)) := by rw [jW6, jW5, jW4]
            rw [show zLi1 T q ujr2 ujr3 W3 = zLi2 T q W6 from (if_pos jg56).trans (by rw [e6])] at ke
            refine hq J7 ?_
            rw [ke, show zLi2 T q W6 = W6 from if_neg (fun z => by rw [jk7] at z; exact absurd z (by decide))]
            rw [jW7, zTk_f jk7] at zA7
            exact zA7
      · replace h57 : (1 : Int) = 0 := h57
        omega
    · skip
      refine q_if (pc := 57) rfl (fun h57 => ?_) (fun h57 => ?_)
      · replace h57 : (0 : Int) ≠ 0 := h57
        omega
      · replace h57 : (0 : Int) = 0 := h57
        refine q_rv (pc := 58) rfl ?_
        have eq : q = 20 + 8 * vPq T V := by rw [jq, jv1]; rfl
        have e3 : W3 = zTd T (-22) 0 2000 (zTd T (-21) 0 100 (zPq T V)) := by rw [jW3, jW2, jW1]; rfl
        have e4 : ujr2 = vTd T (-21) 0 100 (zPq T V) := by rw [jv2, jW1]; rfl
        have e5 : ujr3 = vTd T (-22) 0 2000 (zTd T (-21) 0 100 (zPq T V)) := by rw [jv3, jW2, jW1]; rfl
        rw [← eq, ← e4, ← e5, ← e3] at ke
        refine hq J3 ?_
        rw [ke, show zLi1 T q ujr2 ujr3 W3 = W3 from if_neg jg56]
        exact zA3
  refine xC_of (L := [(2, 183), (9, 0), (9, 0), (9, 0)]) (cd := cd_226) rfl rfl rfl ?_
  obtain ⟨v, jv⟩ : ∃ v, v = min 99999 (sVt T W0.1.1) := ⟨_, rfl⟩
  have wb := rA_rw zA0
  refine q_al (pc := 0) (i := 0) (x := 183) rfl rfl ?_
  refine q_iv (pc := 1) (q := 1712964) rfl rfl rfl (ttKc hT (a := 183) (κ := 12) (len := 0) ⟨rfl, rfl⟩ (by decide) (by decide)).1 ?_
  refine la_good (by omega) zA0 (fun jg1 => ?_) (fun jg1 => ?_)
  · skip
    refine q_if (pc := 2) rfl (fun h2 => ?_) (fun h2 => ?_)
    · replace h2 : (1 : Int) = 0 := h2
      omega
    · replace h2 : (1 : Int) ≠ 0 := h2
      refine q_al (pc := 3) (i := 0) (x := 183) rfl rfl ?_
      refine q_gf (pc := 4) (m := 12100) (t := 0) (c := 10) rfl (ttKc hT (a := 183) (κ := 12) (len := 0) ⟨rfl, rfl⟩ (by decide) (by decide)).1 rfl rfl ?_
      rw [zA0.2.2.1.1.2.2.2.1.1]
      refine q_ic (pc := 5) (v := 2) rfl ?_
      refine q_i2 (pc := 6) rfl (fun h6 => ?_) (fun h6 => ?_)
      · replace h6 : (T.2.1 W0.1.1) ≠ 2 := h6
        exact h36 H W0 zA0 (by unfold zLi; rw [show zBf T W0 = W0 from if_neg (fun z => h6 z.2.1)])
      · replace h6 : (T.2.1 W0.1.1) = 2 := h6
        refine q_al (pc := 7) (i := 0) (x := 183) rfl rfl ?_
        refine q_gf (pc := 8) (m := 12110) (t := 0) (c := 11) rfl (ttKc hT (a := 183) (κ := 12) (len := 0) ⟨rfl, rfl⟩ (by decide) (by decide)).1 rfl rfl ?_
        rw [zA0.2.2.1.1.2.2.2.2 h6, ← jv]
        refine q_2l (pc := 9) rfl ?_
        refine q_lc (pc := 10) (v := 0) rfl ?_
        refine q_al (pc := 11) (i := 0) (x := 183) rfl rfl ?_
        refine q_gf (pc := 12) (m := 12142) (t := 2) (c := 14) rfl (ttKc hT (a := 183) (κ := 12) (len := 0) ⟨rfl, rfl⟩ (by decide) (by decide)).1 rfl rfl ?_
        rw [show H.1 183 14 = 189 from ttFx hT (by decide) (by decide) rfl rfl rfl]
        refine q_ic (pc := 13) (v := 1) rfl ?_
        refine q_ai (pc := 14) rfl (ttKc hT (a := 189) (κ := 20) (len := 196) ⟨rfl, rfl⟩ (by decide) (by decide)).1 (by omega) (by rw [(ttKc hT (a := 189) (κ := 20) (len := 196) ⟨rfl, rfl⟩ (by decide) (by decide)).2]; omega) ?_
        rw [(zA0.2.2.2.1 1 (by omega) (by omega))]
        refine q_ic (pc := 15) (v := 1) rfl ?_
        refine q_ib (pc := 16) rfl (by omega) (by omega) ?_
        refine q_2l (pc := 17) rfl ?_
        refine q_ij (pc := 18) (q := 1615932) rfl rfl rfl trivial ?_
        refine lf_in (by omega) (fun jn18 => ?_) (fun jn18 => ?_)
        · skip
          refine q_if (pc := 19) rfl (fun h19 => ?_) (fun h19 => ?_)
          · replace h19 : (1 : Int) = 0 := h19
            omega
          · replace h19 : (1 : Int) ≠ 0 := h19
            refine q_al (pc := 20) (i := 0) (x := 183) rfl rfl ?_
            refine q_gf (pc := 21) (m := 12142) (t := 2) (c := 14) rfl (ttKc hT (a := 183) (κ := 12) (len := 0) ⟨rfl, rfl⟩ (by decide) (by decide)).1 rfl rfl ?_
            rw [show H.1 183 14 = 189 from ttFx hT (by decide) (by decide) rfl rfl rfl]
            refine q_ic (pc := 22) (v := 20) rfl ?_
            refine q_ic (pc := 23) (v := 8) rfl ?_
            refine q_al (pc := 24) (i := 0) (x := 183) rfl rfl ?_
            refine q_gf (pc := 25) (m := 12110) (t := 0) (c := 11) rfl (ttKc hT (a := 183) (κ := 12) (len := 0) ⟨rfl, rfl⟩ (by decide) (by decide)).1 rfl rfl ?_
            rw [zA0.2.2.1.1.2.2.2.2 h6, ← jv]
            refine q_im (pc := 26) rfl (by omega) (by omega) ?_
            refine q_ia (pc := 27) rfl (by omega) (by omega) ?_
            refine q_ic (pc := 28) (v := 3) rfl ?_
            refine q_ia (pc := 29) rfl (by omega) (by omega) ?_
            refine q_ai (pc := 30) rfl (ttKc hT (a := 189) (κ := 20) (len := 196) ⟨rfl, rfl⟩ (by decide) (by decide)).1 (by omega) (by rw [(ttKc hT (a := 189) (κ := 20) (len := 196) ⟨rfl, rfl⟩ (by decide) (by decide)).2]; omega) ?_
            rw [(zA0.2.2.2.1 (20 + 8 * v + 3) (by omega) (by omega))]
            refine q_ic (pc := 31) (v := 1) rfl ?_
            refine q_i2 (pc := 32) rfl (fun h32 => ?_) (fun h32 => ?_)
            · replace h32 : (W0.2.1 (20 + 8 * v + 3)) ≠ 1 := h32
              exact h36 H W0 zA0 (by unfold zLi; rw [show zBf T W0 = W0 from if_neg (fun z => h32 (by have w := z.2.2.2; rw [← jv] at w; exact w))])
            · replace h32 : (W0.2.1 (20 + 8 * v + 3)) = 1 := h32
              refine q_al (pc := 33) (i := 0) (x := 183) rfl rfl ?_
              refine q_ic (pc := 34) (v := 2) rfl ?_
              refine q_iv (pc := 35) (q := 1720971) rfl rfl rfl (ttKc hT (a := 183) (κ := 12) (len := 0) ⟨rfl, rfl⟩ (by decide) (by decide)).1 ?_
              refine la_errs (by omega) hO zA0 (by decide) (by decide) (fun J1 zA1 => ?_)
              obtain ⟨W1, jW1⟩ : ∃ Y : tZ, Y = zEr T 2 W0 := ⟨_, rfl⟩
              replace zA1 : rA T n I J1 W1 := by rw [jW1]; exact zA1
              exact h36 J1 W1 zA1 (by unfold zLi; rw [show zBf T W0 = W1 from (if_pos ⟨jg1, h6, by rw [← jv]; exact jn18, by rw [← jv]; exact h32⟩).trans jW1.symm])
        · skip
          refine q_if (pc := 19) rfl (fun h19 => ?_) (fun h19 => ?_)
          · replace h19 : (0 : Int) = 0 := h19
            exact h36 H W0 zA0 (by unfold zLi; rw [show zBf T W0 = W0 from if_neg (fun z => jn18 (by have w := z.2.2.1; rw [← jv] at w; exact w))])
          · replace h19 : (0 : Int) ≠ 0 := h19
            omega
  · skip
    refine q_if (pc := 2) rfl (fun h2 => ?_) (fun h2 => ?_)
    · replace h2 : (0 : Int) = 0 := h2
      exact h36 H W0 zA0 (by unfold zLi; rw [show zBf T W0 = W0 from if_neg (fun z => jg1 z.1)])
    · replace h2 : (0 : Int) ≠ 0 := h2
      omega
theorem la_readStart {dd : Nat} (hd : 10 ≤ dd) {I H : xH} {T : tSm} {n : Int} (hO : sOk T n) {W0 : tZ} (zA0 : rA T n I H W0) {Q : Int → xH → Prop} (hq : ∀ J, rA T n I J (zSt T W0) → Q 0 J) : xCall dd 228 [(2, 183)] H Q := by
  obtain ⟨e, rfl, he⟩ := ttRun0 (n := 9) hd
  have he : 9 ≤ e := he
  have hT := zA0.1
  refine xC_of (L := [(2, 183), (9, 0), (9, 0)]) (cd := cd_228) rfl rfl rfl ?_
  refine q_al (pc := 0) (i := 0) (x := 183) rfl rfl ?_
  refine q_iv (pc := 1) (q := 1776964) rfl rfl rfl (ttKc hT (a := 183) (κ := 12) (len := 0) ⟨rfl, rfl⟩ (by decide) (by decide)).1 ?_
  refine la_place (by omega) hO zA0 (fun ujr1 J1 zA1 jr1 => ?_)
  have jv1 : ujr1 = (sNm T W0.1 0 (W0.2.1 1 - 1)).1 := jr1
  obtain ⟨W1, jW1⟩ : ∃ Y : tZ, Y = zNm T 0 (W0.2.1 1 - 1) W0 := ⟨_, rfl⟩
  replace zA1 : rA T n I J1 W1 := by rw [jW1]; exact zA1
  have zb1 := (rA_rw zA1).2.1
  rw [show W1.2.1 1 = W0.2.1 1 from by rw [jW1]; rfl] at zb1
  have jb1 : ujr1 = 0 ∨ 0 ≤ ujr1 ∧ ujr1 ≤ W0.2.1 1 - 1 := by rw [jv1]; exact sNm_v
  have pb : 0 ≤ ujr1 ∧ ujr1 ≤ 7 := by omega
  refine q_is (pc := 2) (i := 1) (L' := [(2, 183), (0, ujr1), (9, 0)]) rfl rfl rfl ?_
  refine q_al (pc := 3) (i := 0) (x := 183) rfl rfl ?_
  refine q_sc (pc := 4) (j := 25) rfl ?_
  refine q_ic (pc := 5) (v := 0) rfl ?_
  refine q_ic (pc := 6) (v := 60) rfl ?_
  refine q_iv (pc := 7) (q := 1760976) rfl rfl rfl ⟨by omega, (ttKc zA1.1 (a := 183) (κ := 12) (len := 0) ⟨rfl, rfl⟩ (by decide) (by decide)).1⟩ ?_
  refine la_told (by decide) (by decide) (by decide) (by omega) hO zA1 (fun ujr2 J2 zA2 jr2 => ?_)
  have jv2 : ujr2 = (sNm T (sNd T W1.1 (-27)) 0 60).1 := jr2
  obtain ⟨W2, jW2⟩ : ∃ Y : tZ, Y = zNm T 0 60 (zNd T (-27) W1) := ⟨_, rfl⟩
  replace zA2 : rA T n I J2 W2 := by rw [jW2]; exact zA2
  have jb2 : ujr2 = 0 ∨ 0 ≤ ujr2 ∧ ujr2 ≤ 60 := by rw [jv2]; exact sNm_v
  refine q_is (pc := 8) (i := 2) (L' := [(2, 183), (0, ujr1), (0, ujr2)]) rfl rfl rfl ?_
  refine q_al (pc := 9) (i := 0) (x := 183) rfl rfl ?_
  refine q_gf (pc := 10) (m := 12142) (t := 2) (c := 14) rfl (ttKc zA2.1 (a := 183) (κ := 12) (len := 0) ⟨rfl, rfl⟩ (by decide) (by decide)).1 rfl rfl ?_
  rw [show J2.1 183 14 = 189 from ttFx zA2.1 (by decide) (by decide) rfl rfl rfl]
  refine q_ic (pc := 11) (v := 14) rfl ?_
  refine q_al (pc := 12) (i := 0) (x := 183) rfl rfl ?_
  refine q_sc (pc := 13) (j := 26) rfl ?_
  refine q_iv (pc := 14) (q := 1736968) rfl rfl rfl ⟨by omega, (ttKc zA2.1 (a := 183) (κ := 12) (len := 0) ⟨rfl, rfl⟩ (by decide) (by decide)).1⟩ ?_
  refine la_takes (by decide) (by decide) (by omega) hO zA2 (fun r J3 zA3 jr3 => ?_)
  obtain ⟨W3, jW3⟩ : ∃ Y : tZ, Y = zTk T (-28) W2 := ⟨_, rfl⟩
  replace zA3 : rA T n I J3 W3 := by rw [jW3]; exact zA3
  rcases jr3 with ⟨rfl, jk3⟩ | ⟨rfl, jk3⟩
  · replace jk3 : (sTk T W2.1 (-28)).1 = true := jk3
    refine q_if (pc := 15) rfl (fun h15 => ?_) (fun h15 => ?_)
    · replace h15 : (1 : Int) = 0 := h15
      omega
    · replace h15 : (1 : Int) ≠ 0 := h15
      refine q_ic (pc := 16) (v := 1) rfl ?_
      refine q_go (pc := 17) rfl ?_
      refine q_si (pc := 19) rfl (by decide) (ttKc zA3.1 (a := 189) (κ := 20) (len := 196) ⟨rfl, rfl⟩ (by decide) (by decide)).1 (by omega) (by rw [(ttKc zA3.1 (a := 189) (κ := 20) (len := 196) ⟨rfl, rfl⟩ (by decide) (by decide)).2]; omega) ?_
      have zA4 := rA_put zA3 (j := 14) (v := 1) (show (0 : Int) ≤ 1 ∧ 1 ≤ 1 from ⟨by omega, by omega⟩) (by omega) (by omega)
      obtain ⟨J4, ujzk4⟩ : ∃ X : xH, X = (xUp J3.1 189 14 1, J3.2) := ⟨_, rfl⟩
      rw [← ujzk4] at zA4 ⊢
      obtain ⟨W4, jW4⟩ : ∃ Y : tZ, Y = zP 14 1 W3 := ⟨_, rfl⟩
      replace zA4 : rA T n I J4 W4 := by rw [jW4]; exact zA4
      refine q_al (pc := 20) (i := 0) (x := 183) rfl rfl ?_
      refine q_iv (pc := 21) (q := 1712964) rfl rfl rfl (ttKc zA4.1 (a := 183) (κ := 12) (len := 0) ⟨rfl, rfl⟩ (by decide) (by decide)).1 ?_
      refine la_good (by omega) zA4 (fun jg21 => ?_) (fun jg21 => ?_)
      · skip
        refine q_if (pc := 22) rfl (fun h22 => ?_) (fun h22 => ?_)
        · replace h22 : (1 : Int) ≠ 0 := h22
          refine q_al (pc := 24) (i := 0) (x := 183) rfl rfl ?_
          refine q_gf (pc := 25) (m := 12142) (t := 2) (c := 14) rfl (ttKc zA4.1 (a := 183) (κ := 12) (len := 0) ⟨rfl, rfl⟩ (by decide) (by decide)).1 rfl rfl ?_
          rw [show J4.1 183 14 = 189 from ttFx zA4.1 (by decide) (by decide) rfl rfl rfl]
          refine q_ic (pc := 26) (v := 12) rfl ?_
          refine q_il (pc := 27) (i := 1) (x := ujr1) rfl rfl ?_
          refine q_si (pc := 28) rfl (by decide) (ttKc zA4.1 (a := 189) (κ := 20) (len := 196) ⟨rfl, rfl⟩ (by decide) (by decide)).1 (by omega) (by rw [(ttKc zA4.1 (a := 189) (κ := 20) (len := 196) ⟨rfl, rfl⟩ (by decide) (by decide)).2]; omega) ?_
          have zA5 := rA_put zA4 (j := 12) (v := ujr1) (show ((-1) : Int) ≤ ujr1 ∧ ujr1 ≤ 7 from ⟨by omega, by omega⟩) (by omega) (by omega)
          obtain ⟨J5, ujzk5⟩ : ∃ X : xH, X = (xUp J4.1 189 12 ujr1, J4.2) := ⟨_, rfl⟩
          rw [← ujzk5] at zA5 ⊢
          obtain ⟨W5, jW5⟩ : ∃ Y : tZ, Y = zP 12 ujr1 W4 := ⟨_, rfl⟩
          replace zA5 : rA T n I J5 W5 := by rw [jW5]; exact zA5
          refine q_al (pc := 29) (i := 0) (x := 183) rfl rfl ?_
          refine q_gf (pc := 30) (m := 12142) (t := 2) (c := 14) rfl (ttKc zA5.1 (a := 183) (κ := 12) (len := 0) ⟨rfl, rfl⟩ (by decide) (by decide)).1 rfl rfl ?_
          rw [show J5.1 183 14 = 189 from ttFx zA5.1 (by decide) (by decide) rfl rfl rfl]
          refine q_ic (pc := 31) (v := 13) rfl ?_
          refine q_il (pc := 32) (i := 2) (x := ujr2) rfl rfl ?_
          refine q_si (pc := 33) rfl (by decide) (ttKc zA5.1 (a := 189) (κ := 20) (len := 196) ⟨rfl, rfl⟩ (by decide) (by decide)).1 (by omega) (by rw [(ttKc zA5.1 (a := 189) (κ := 20) (len := 196) ⟨rfl, rfl⟩ (by decide) (by decide)).2]; omega) ?_
          have zA6 := rA_put zA5 (j := 13) (v := ujr2) (show (0 : Int) ≤ ujr2 ∧ ujr2 ≤ 60 from ⟨by omega, by omega⟩) (by omega) (by omega)
          obtain ⟨J6, ujzk6⟩ : ∃ X : xH, X = (xUp J5.1 189 13 ujr2, J5.2) := ⟨_, rfl⟩
          rw [← ujzk6] at zA6 ⊢
          obtain ⟨W6, jW6⟩ : ∃ Y : tZ, Y = zP 13 ujr2 W5 := ⟨_, rfl⟩
          replace zA6 : rA T n I J6 W6 := by rw [jW6]; exact zA6
          refine q_rv (pc := 34) rfl ?_
          have e2 : W2 = zTd T (-27) 0 60 (zPq T W0) := by rw [jW2, jW1]; rfl
          have e3 : ujr1 = vPq T W0 := jv1
          have e4 : ujr2 = vTd T (-27) 0 60 (zPq T W0) := by rw [jv2, jW1]; rfl
          have e5 : zSt T W0 = zSt1 ujr1 ujr2 W4 := by
            rw [jW4, jW3, e2, e3, e4]
            unfold zSt
            rw [if_pos (by rw [← e2]; exact jk3)]
          refine hq J6 ?_
          rw [e5, show zSt1 ujr1 ujr2 W4 = W6 from (if_pos jg21).trans (by rw [jW6, jW5])]
          exact zA6
        · replace h22 : (1 : Int) = 0 := h22
          omega
      · skip
        refine q_if (pc := 22) rfl (fun h22 => ?_) (fun h22 => ?_)
        · replace h22 : (0 : Int) ≠ 0 := h22
          omega
        · replace h22 : (0 : Int) = 0 := h22
          refine q_rv (pc := 23) rfl ?_
          have e2 : W2 = zTd T (-27) 0 60 (zPq T W0) := by rw [jW2, jW1]; rfl
          have e3 : ujr1 = vPq T W0 := jv1
          have e4 : ujr2 = vTd T (-27) 0 60 (zPq T W0) := by rw [jv2, jW1]; rfl
          have e5 : zSt T W0 = zSt1 ujr1 ujr2 W4 := by
            rw [jW4, jW3, e2, e3, e4]
            unfold zSt
            rw [if_pos (by rw [← e2]; exact jk3)]
          refine hq J4 ?_
          rw [e5, show zSt1 ujr1 ujr2 W4 = W4 from if_neg jg21]
          exact zA4
  · replace jk3 : (sTk T W2.1 (-28)).1 = false := jk3
    refine q_if (pc := 15) rfl (fun h15 => ?_) (fun h15 => ?_)
    · replace h15 : (0 : Int) = 0 := h15
      refine q_ic (pc := 18) (v := 0) rfl ?_
      refine q_si (pc := 19) rfl (by decide) (ttKc zA3.1 (a := 189) (κ := 20) (len := 196) ⟨rfl, rfl⟩ (by decide) (by decide)).1 (by omega) (by rw [(ttKc zA3.1 (a := 189) (κ := 20) (len := 196) ⟨rfl, rfl⟩ (by decide) (by decide)).2]; omega) ?_
      have zA7 := rA_put zA3 (j := 14) (v := 0) (show (0 : Int) ≤ 0 ∧ 0 ≤ 1 from ⟨by omega, by omega⟩) (by omega) (by omega)
      obtain ⟨J7, ujzk7⟩ : ∃ X : xH, X = (xUp J3.1 189 14 0, J3.2) := ⟨_, rfl⟩
      rw [← ujzk7] at zA7 ⊢
      obtain ⟨W7, jW7⟩ : ∃ Y : tZ, Y = zP 14 0 W3 := ⟨_, rfl⟩
      replace zA7 : rA T n I J7 W7 := by rw [jW7]; exact zA7
      refine q_al (pc := 20) (i := 0) (x := 183) rfl rfl ?_
      refine q_iv (pc := 21) (q := 1712964) rfl rfl rfl (ttKc zA7.1 (a := 183) (κ := 12) (len := 0) ⟨rfl, rfl⟩ (by decide) (by decide)).1 ?_
      refine la_good (by omega) zA7 (fun jg21 => ?_) (fun jg21 => ?_)
      · skip
        refine q_if (pc := 22) rfl (fun h22 => ?_) (fun h22 => ?_)
        · replace h22 : (1 : Int) ≠ 0 := h22
          refine q_al (pc := 24) (i := 0) (x := 183) rfl rfl ?_
          refine q_gf (pc := 25) (m := 12142) (t := 2) (c := 14) rfl (ttKc zA7.1 (a := 183) (κ := 12) (len := 0) ⟨rfl, rfl⟩ (by decide) (by decide)).1 rfl rfl ?_
          rw [show J7.1 183 14 = 189 from ttFx zA7.1 (by decide) (by decide) rfl rfl rfl]
          refine q_ic (pc := 26) (v := 12) rfl ?_
          refine q_il (pc := 27) (i := 1) (x := ujr1) rfl rfl ?_
          refine q_si (pc := 28) rfl (by decide) (ttKc zA7.1 (a := 189) (κ := 20) (len := 196) ⟨rfl, rfl⟩ (by decide) (by decide)).1 (by omega) (by rw [(ttKc zA7.1 (a := 189) (κ := 20) (len := 196) ⟨rfl, rfl⟩ (by decide) (by decide)).2]; omega) ?_
          have zA8 := rA_put zA7 (j := 12) (v := ujr1) (show ((-1) : Int) ≤ ujr1 ∧ ujr1 ≤ 7 from ⟨by omega, by omega⟩) (by omega) (by omega)
          obtain ⟨J8, ujzk8⟩ : ∃ X : xH, X = (xUp J7.1 189 12 ujr1, J7.2) := ⟨_, rfl⟩
          rw [← ujzk8] at zA8 ⊢
          obtain ⟨W8, jW8⟩ : ∃ Y : tZ, Y = zP 12 ujr1 W7 := ⟨_, rfl⟩
          replace zA8 : rA T n I J8 W8 := by rw [jW8]; exact zA8
          refine q_al (pc := 29) (i := 0) (x := 183) rfl rfl ?_
          refine q_gf (pc := 30) (m := 12142) (t := 2) (c := 14) rfl (ttKc zA8.1 (a := 183) (κ := 12) (len := 0) ⟨rfl, rfl⟩ (by decide) (by decide)).1 rfl rfl ?_
          rw [show J8.1 183 14 = 189 from ttFx zA8.1 (by decide) (by decide) rfl rfl rfl]
          refine q_ic (pc := 31) (v := 13) rfl ?_
          refine q_il (pc := 32) (i := 2) (x := ujr2) rfl rfl ?_
          refine q_si (pc := 33) rfl (by decide) (ttKc zA8.1 (a := 189) (κ := 20) (len := 196) ⟨rfl, rfl⟩ (by decide) (by decide)).1 (by omega) (by rw [(ttKc zA8.1 (a := 189) (κ := 20) (len := 196) ⟨rfl, rfl⟩ (by decide) (by decide)).2]; omega) ?_
          have zA9 := rA_put zA8 (j := 13) (v := ujr2) (show (0 : Int) ≤ ujr2 ∧ ujr2 ≤ 60 from ⟨by omega, by omega⟩) (by omega) (by omega)
          obtain ⟨J9, ujzk9⟩ : ∃ X : xH, X = (xUp J8.1 189 13 ujr2, J8.2) := ⟨_, rfl⟩
          rw [← ujzk9] at zA9 ⊢
          obtain ⟨W9, jW9⟩ : ∃ Y : tZ, Y = zP 13 ujr2 W8 := ⟨_, rfl⟩
          replace zA9 : rA T n I J9 W9 := by rw [jW9]; exact zA9
          refine q_rv (pc := 34) rfl ?_
          have e2 : W2 = zTd T (-27) 0 60 (zPq T W0) := by rw [jW2, jW1]; rfl
          have e3 : ujr1 = vPq T W0 := jv1
          have e4 : ujr2 = vTd T (-27) 0 60 (zPq T W0) := by rw [jv2, jW1]; rfl
          have e5 : zSt T W0 = zSt1 ujr1 ujr2 W7 := by
            rw [jW7, jW3, e2, e3, e4]
            unfold zSt
            rw [if_neg (fun z => by rw [← e2, jk3] at z; exact absurd z (by decide))]
          refine hq J9 ?_
          rw [e5, show zSt1 ujr1 ujr2 W7 = W9 from (if_pos jg21).trans (by rw [jW9, jW8])]
          exact zA9
        · replace h22 : (1 : Int) = 0 := h22
          omega
      · skip
        refine q_if (pc := 22) rfl (fun h22 => ?_) (fun h22 => ?_)
        · replace h22 : (0 : Int) ≠ 0 := h22
          omega
        · replace h22 : (0 : Int) = 0 := h22
          refine q_rv (pc := 23) rfl ?_
          have e2 : W2 = zTd T (-27) 0 60 (zPq T W0) := by rw [jW2, jW1]; rfl
          have e3 : ujr1 = vPq T W0 := jv1
          have e4 : ujr2 = vTd T (-27) 0 60 (zPq T W0) := by rw [jv2, jW1]; rfl
          have e5 : zSt T W0 = zSt1 ujr1 ujr2 W7 := by
            rw [jW7, jW3, e2, e3, e4]
            unfold zSt
            rw [if_neg (fun z => by rw [← e2, jk3] at z; exact absurd z (by decide))]
          refine hq J7 ?_
          rw [e5, show zSt1 ujr1 ujr2 W7 = W7 from if_neg jg21]
          exact zA7
    · replace h15 : (0 : Int) ≠ 0 := h15
      omega
theorem la_readPoint {dd : Nat} (hd : 10 ≤ dd) {I H : xH} {T : tSm} {n : Int} (hO : sOk T n) {W0 : tZ} (zA0 : rA T n I H W0) {Q : Int → xH → Prop} (hq : ∀ J, rA T n I J (zPo T W0) → Q 0 J) : xCall dd 227 [(2, 183)] H Q := by
  obtain ⟨e, rfl, he⟩ := ttRun0 (n := 9) hd
  have he : 9 ≤ e := he
  have hT := zA0.1
  have h31 : ∀ (K : xH) (V : tZ), rA T n I K V → zPo T W0 = zPo1 (vPq T V) (zPq T V) → xW e cd_227 Q (31, [(2, 183), (9, 0)], [], K) := by
    intro K V kA ke
    refine q_al (pc := 31) (i := 0) (x := 183) rfl rfl ?_
    refine q_iv (pc := 32) (q := 1776964) rfl rfl rfl (ttKc kA.1 (a := 183) (κ := 12) (len := 0) ⟨rfl, rfl⟩ (by decide) (by decide)).1 ?_
    refine la_place (by omega) hO kA (fun ujr1 J1 zA1 jr1 => ?_)
    have jv1 : ujr1 = (sNm T V.1 0 (V.2.1 1 - 1)).1 := jr1
    obtain ⟨W1, jW1⟩ : ∃ Y : tZ, Y = zNm T 0 (V.2.1 1 - 1) V := ⟨_, rfl⟩
    replace zA1 : rA T n I J1 W1 := by rw [jW1]; exact zA1
    have zb1 := (rA_rw zA1).2.1
    rw [show W1.2.1 1 = V.2.1 1 from by rw [jW1]; rfl] at zb1
    have jb1 : ujr1 = 0 ∨ 0 ≤ ujr1 ∧ ujr1 ≤ V.2.1 1 - 1 := by rw [jv1]; exact sNm_v
    have pb : 0 ≤ ujr1 ∧ ujr1 ≤ 7 := by omega
    have e1 : W1 = zPq T V := by rw [jW1]; rfl
    have e2 : ujr1 = vPq T V := jv1
    rw [← e1, ← e2] at ke
    refine q_is (pc := 33) (i := 1) (L' := [(2, 183), (0, ujr1)]) rfl rfl rfl ?_
    refine q_al (pc := 34) (i := 0) (x := 183) rfl rfl ?_
    refine q_iv (pc := 35) (q := 1712964) rfl rfl rfl (ttKc zA1.1 (a := 183) (κ := 12) (len := 0) ⟨rfl, rfl⟩ (by decide) (by decide)).1 ?_
    refine la_good (by omega) zA1 (fun jg35 => ?_) (fun jg35 => ?_)
    · skip
      refine q_if (pc := 36) rfl (fun h36 => ?_) (fun h36 => ?_)
      · replace h36 : (1 : Int) = 0 := h36
        omega
      · replace h36 : (1 : Int) ≠ 0 := h36
        refine q_al (pc := 37) (i := 0) (x := 183) rfl rfl ?_
        refine q_gf (pc := 38) (m := 12142) (t := 2) (c := 14) rfl (ttKc zA1.1 (a := 183) (κ := 12) (len := 0) ⟨rfl, rfl⟩ (by decide) (by decide)).1 rfl rfl ?_
        rw [show J1.1 183 14 = 189 from ttFx zA1.1 (by decide) (by decide) rfl rfl rfl]
        refine q_ic (pc := 39) (v := 15) rfl ?_
        refine q_dd (pc := 40) rfl ?_
        refine q_ai (pc := 41) rfl (ttKc zA1.1 (a := 189) (κ := 20) (len := 196) ⟨rfl, rfl⟩ (by decide) (by decide)).1 (by omega) (by rw [(ttKc zA1.1 (a := 189) (κ := 20) (len := 196) ⟨rfl, rfl⟩ (by decide) (by decide)).2]; omega) ?_
        rw [(zA1.2.2.2.1 15 (by omega) (by omega))]
        have ob := pt_or2 (rA_15 zA1).1.1 (rA_15 zA1).1.2 pb.1 pb.2
        refine q_ic (pc := 42) (v := 1) rfl ?_
        refine q_il (pc := 43) (i := 1) (x := ujr1) rfl rfl ?_
        refine q_sl (pc := 44) rfl ?_
        refine q_or (pc := 45) rfl ?_
        refine q_si (pc := 46) rfl (by decide) (ttKc zA1.1 (a := 189) (κ := 20) (len := 196) ⟨rfl, rfl⟩ (by decide) (by decide)).1 (by omega) (by rw [(ttKc zA1.1 (a := 189) (κ := 20) (len := 196) ⟨rfl, rfl⟩ (by decide) (by decide)).2]; omega) ?_
        have zA2 := rA_put zA1 (j := 15) (v := (xOr (W1.2.1 15) (xShl 1 ujr1))) (show (0 : Int) ≤ (xOr (W1.2.1 15) (xShl 1 ujr1)) ∧ (xOr (W1.2.1 15) (xShl 1 ujr1)) ≤ 255 from ⟨by omega, by omega⟩) (by omega) (by omega)
        obtain ⟨J2, ujzk2⟩ : ∃ X : xH, X = (xUp J1.1 189 15 (xOr (W1.2.1 15) (xShl 1 ujr1)), J1.2) := ⟨_, rfl⟩
        rw [← ujzk2] at zA2 ⊢
        obtain ⟨W2, jW2⟩ : ∃ Y : tZ, Y = zP 15 (xOr (W1.2.1 15) (xShl 1 ujr1)) W1 := ⟨_, rfl⟩
        replace zA2 : rA T n I J2 W2 := by rw [jW2]; exact zA2
        refine q_rv (pc := 47) rfl ?_
        refine hq J2 ?_
        rw [ke, show zPo1 ujr1 W1 = W2 from (if_pos jg35).trans jW2.symm]
        exact zA2
    · skip
      refine q_if (pc := 36) rfl (fun h36 => ?_) (fun h36 => ?_)
      · replace h36 : (0 : Int) = 0 := h36
        refine q_rv (pc := 47) rfl ?_
        refine hq J1 ?_
        rw [ke, show zPo1 ujr1 W1 = W1 from if_neg jg35]
        exact zA1
      · replace h36 : (0 : Int) ≠ 0 := h36
        omega
  refine xC_of (L := [(2, 183), (9, 0)]) (cd := cd_227) rfl rfl rfl ?_
  obtain ⟨v, jv⟩ : ∃ v, v = min 99999 (sVt T W0.1.1) := ⟨_, rfl⟩
  have wb := rA_rw zA0
  refine q_al (pc := 0) (i := 0) (x := 183) rfl rfl ?_
  refine q_iv (pc := 1) (q := 1712964) rfl rfl rfl (ttKc hT (a := 183) (κ := 12) (len := 0) ⟨rfl, rfl⟩ (by decide) (by decide)).1 ?_
  refine la_good (by omega) zA0 (fun jg1 => ?_) (fun jg1 => ?_)
  · skip
    refine q_if (pc := 2) rfl (fun h2 => ?_) (fun h2 => ?_)
    · replace h2 : (1 : Int) = 0 := h2
      omega
    · replace h2 : (1 : Int) ≠ 0 := h2
      refine q_al (pc := 3) (i := 0) (x := 183) rfl rfl ?_
      refine q_gf (pc := 4) (m := 12100) (t := 0) (c := 10) rfl (ttKc hT (a := 183) (κ := 12) (len := 0) ⟨rfl, rfl⟩ (by decide) (by decide)).1 rfl rfl ?_
      rw [zA0.2.2.1.1.2.2.2.1.1]
      refine q_ic (pc := 5) (v := 2) rfl ?_
      refine q_i2 (pc := 6) rfl (fun h6 => ?_) (fun h6 => ?_)
      · replace h6 : (T.2.1 W0.1.1) ≠ 2 := h6
        exact h31 H W0 zA0 (by unfold zPo; rw [show zBp T W0 = W0 from if_neg (fun z => h6 z.2.1)])
      · replace h6 : (T.2.1 W0.1.1) = 2 := h6
        refine q_al (pc := 7) (i := 0) (x := 183) rfl rfl ?_
        refine q_gf (pc := 8) (m := 12110) (t := 0) (c := 11) rfl (ttKc hT (a := 183) (κ := 12) (len := 0) ⟨rfl, rfl⟩ (by decide) (by decide)).1 rfl rfl ?_
        rw [zA0.2.2.1.1.2.2.2.2 h6, ← jv]
        refine q_2l (pc := 9) rfl ?_
        refine q_lc (pc := 10) (v := 0) rfl ?_
        refine q_al (pc := 11) (i := 0) (x := 183) rfl rfl ?_
        refine q_gf (pc := 12) (m := 12142) (t := 2) (c := 14) rfl (ttKc hT (a := 183) (κ := 12) (len := 0) ⟨rfl, rfl⟩ (by decide) (by decide)).1 rfl rfl ?_
        rw [show H.1 183 14 = 189 from ttFx hT (by decide) (by decide) rfl rfl rfl]
        refine q_ic (pc := 13) (v := 1) rfl ?_
        refine q_ai (pc := 14) rfl (ttKc hT (a := 189) (κ := 20) (len := 196) ⟨rfl, rfl⟩ (by decide) (by decide)).1 (by omega) (by rw [(ttKc hT (a := 189) (κ := 20) (len := 196) ⟨rfl, rfl⟩ (by decide) (by decide)).2]; omega) ?_
        rw [(zA0.2.2.2.1 1 (by omega) (by omega))]
        refine q_ic (pc := 15) (v := 1) rfl ?_
        refine q_ib (pc := 16) rfl (by omega) (by omega) ?_
        refine q_2l (pc := 17) rfl ?_
        refine q_ij (pc := 18) (q := 1615932) rfl rfl rfl trivial ?_
        refine lf_in (by omega) (fun jn18 => ?_) (fun jn18 => ?_)
        · skip
          refine q_if (pc := 19) rfl (fun h19 => ?_) (fun h19 => ?_)
          · replace h19 : (1 : Int) = 0 := h19
            omega
          · replace h19 : (1 : Int) ≠ 0 := h19
            refine q_al (pc := 20) (i := 0) (x := 183) rfl rfl ?_
            refine q_gf (pc := 21) (m := 12142) (t := 2) (c := 14) rfl (ttKc hT (a := 183) (κ := 12) (len := 0) ⟨rfl, rfl⟩ (by decide) (by decide)).1 rfl rfl ?_
            rw [show H.1 183 14 = 189 from ttFx hT (by decide) (by decide) rfl rfl rfl]
            refine q_ic (pc := 22) (v := 15) rfl ?_
            refine q_ai (pc := 23) rfl (ttKc hT (a := 189) (κ := 20) (len := 196) ⟨rfl, rfl⟩ (by decide) (by decide)).1 (by omega) (by rw [(ttKc hT (a := 189) (κ := 20) (len := 196) ⟨rfl, rfl⟩ (by decide) (by decide)).2]; omega) ?_
            rw [(zA0.2.2.2.1 15 (by omega) (by omega))]
            refine q_al (pc := 24) (i := 0) (x := 183) rfl rfl ?_
            refine q_gf (pc := 25) (m := 12110) (t := 0) (c := 11) rfl (ttKc hT (a := 183) (κ := 12) (len := 0) ⟨rfl, rfl⟩ (by decide) (by decide)).1 rfl rfl ?_
            rw [zA0.2.2.1.1.2.2.2.2 h6, ← jv]
            refine q_ij (pc := 26) (q := 1623928) rfl rfl rfl trivial ?_
            refine lf_holds (by omega) (fun jh26 => ?_) (fun jh26 => ?_)
            · skip
              refine q_if (pc := 27) rfl (fun h27 => ?_) (fun h27 => ?_)
              · replace h27 : (1 : Int) = 0 := h27
                omega
              · replace h27 : (1 : Int) ≠ 0 := h27
                refine q_al (pc := 28) (i := 0) (x := 183) rfl rfl ?_
                refine q_ic (pc := 29) (v := 2) rfl ?_
                refine q_iv (pc := 30) (q := 1720971) rfl rfl rfl (ttKc hT (a := 183) (κ := 12) (len := 0) ⟨rfl, rfl⟩ (by decide) (by decide)).1 ?_
                refine la_errs (by omega) hO zA0 (by decide) (by decide) (fun J1 zA1 => ?_)
                obtain ⟨W1, jW1⟩ : ∃ Y : tZ, Y = zEr T 2 W0 := ⟨_, rfl⟩
                replace zA1 : rA T n I J1 W1 := by rw [jW1]; exact zA1
                exact h31 J1 W1 zA1 (by unfold zPo; rw [show zBp T W0 = W1 from (if_pos ⟨jg1, h6, by rw [← jv]; exact jn18, by rw [← jv]; exact jh26⟩).trans jW1.symm])
            · skip
              refine q_if (pc := 27) rfl (fun h27 => ?_) (fun h27 => ?_)
              · replace h27 : (0 : Int) = 0 := h27
                exact h31 H W0 zA0 (by unfold zPo; rw [show zBp T W0 = W0 from if_neg (fun z => by have w := z.2.2.2; rw [← jv] at w; exact absurd ((show yyHb (W0.2.1 15) v = 1 from w).symm.trans jh26) (by decide))])
              · replace h27 : (0 : Int) ≠ 0 := h27
                omega
        · skip
          refine q_if (pc := 19) rfl (fun h19 => ?_) (fun h19 => ?_)
          · replace h19 : (0 : Int) = 0 := h19
            exact h31 H W0 zA0 (by unfold zPo; rw [show zBp T W0 = W0 from if_neg (fun z => jn18 (by have w := z.2.2.1; rw [← jv] at w; exact w))])
          · replace h19 : (0 : Int) ≠ 0 := h19
            omega
  · skip
    refine q_if (pc := 2) rfl (fun h2 => ?_) (fun h2 => ?_)
    · replace h2 : (0 : Int) = 0 := h2
      exact h31 H W0 zA0 (by unfold zPo; rw [show zBp T W0 = W0 from if_neg (fun z => jg1 z.1)])
    · replace h2 : (0 : Int) ≠ 0 := h2
      omega
theorem la_readOnce0 {dd : Nat} (hd : 11 ≤ dd) {I H : xH} {T : tSm} {n : Int} (hO : sOk T n) {W0 : tZ} (zA0 : rA T n I H W0) {Q : Int → xH → Prop} (hq : ∀ J, rA T n I J (zOn T 0 W0) → Q 0 J) : xCall dd 231 [(2, 183), (0, 0)] H Q := by
  obtain ⟨e, rfl, he⟩ := ttRun0 (n := 10) hd
  have he : 10 ≤ e := he
  have hT := zA0.1
  refine xC_of (L := [(2, 183), (0, 0)]) (cd := cd_231) rfl rfl rfl ?_
  refine q_al (pc := 0) (i := 0) (x := 183) rfl rfl ?_
  refine q_iv (pc := 1) (q := 1704967) rfl rfl rfl (ttKc hT (a := 183) (κ := 12) (len := 0) ⟨rfl, rfl⟩ (by decide) (by decide)).1 ?_
  refine la_adv (by omega) hO zA0 (fun J1 zA1 => ?_)
  obtain ⟨W1, jW1⟩ : ∃ Y : tZ, Y = zNx T W0 := ⟨_, rfl⟩
  replace zA1 : rA T n I J1 W1 := by rw [jW1]; exact zA1
  refine q_al (pc := 2) (i := 0) (x := 183) rfl rfl ?_
  refine q_gf (pc := 3) (m := 12142) (t := 2) (c := 14) rfl (ttKc zA1.1 (a := 183) (κ := 12) (len := 0) ⟨rfl, rfl⟩ (by decide) (by decide)).1 rfl rfl ?_
  rw [show J1.1 183 14 = 189 from ttFx zA1.1 (by decide) (by decide) rfl rfl rfl]
  refine q_ic (pc := 4) (v := 16) rfl ?_
  refine q_dd (pc := 5) rfl ?_
  refine q_ai (pc := 6) rfl (ttKc zA1.1 (a := 189) (κ := 20) (len := 196) ⟨rfl, rfl⟩ (by decide) (by decide)).1 (by omega) (by rw [(ttKc zA1.1 (a := 189) (κ := 20) (len := 196) ⟨rfl, rfl⟩ (by decide) (by decide)).2]; omega) ?_
  rw [(zA1.2.2.2.1 16 (by omega) (by omega))]
  have ob := od_or2 (rA_15 zA1).2.1 (rA_15 zA1).2.2 (p := 0) (by decide) (by decide)
  refine q_ic (pc := 7) (v := 1) rfl ?_
  refine q_il (pc := 8) (i := 1) (x := 0) rfl rfl ?_
  refine q_sl (pc := 9) rfl ?_
  refine q_or (pc := 10) rfl ?_
  refine q_si (pc := 11) rfl (by decide) (ttKc zA1.1 (a := 189) (κ := 20) (len := 196) ⟨rfl, rfl⟩ (by decide) (by decide)).1 (by omega) (by rw [(ttKc zA1.1 (a := 189) (κ := 20) (len := 196) ⟨rfl, rfl⟩ (by decide) (by decide)).2]; omega) ?_
  have zA2 := rA_put zA1 (j := 16) (v := (xOr (W1.2.1 16) (xShl 1 0))) (show (0 : Int) ≤ (xOr (W1.2.1 16) (xShl 1 0)) ∧ (xOr (W1.2.1 16) (xShl 1 0)) ≤ 63 from ⟨by omega, by omega⟩) (by omega) (by omega)
  obtain ⟨J2, ujzk2⟩ : ∃ X : xH, X = (xUp J1.1 189 16 (xOr (W1.2.1 16) (xShl 1 0)), J1.2) := ⟨_, rfl⟩
  rw [← ujzk2] at zA2 ⊢
  obtain ⟨W2, jW2⟩ : ∃ Y : tZ, Y = zP 16 (xOr (W1.2.1 16) (xShl 1 0)) W1 := ⟨_, rfl⟩
  replace zA2 : rA T n I J2 W2 := by rw [jW2]; exact zA2
  have e0 : W2 = zOn0 T 0 W0 := by rw [jW2, jW1]; rfl
  refine q_il (pc := 12) (i := 1) (x := 0) rfl rfl ?_
  refine q_if (pc := 13) rfl (fun h13 => ?_) (fun h13 => ?_)
  · replace h13 : (0 : Int) ≠ 0 := h13
    omega
  · replace h13 : (0 : Int) = 0 := h13
    refine q_al (pc := 14) (i := 0) (x := 183) rfl rfl ?_
    refine q_gf (pc := 15) (m := 12142) (t := 2) (c := 14) rfl (ttKc zA2.1 (a := 183) (κ := 12) (len := 0) ⟨rfl, rfl⟩ (by decide) (by decide)).1 rfl rfl ?_
    rw [show J2.1 183 14 = 189 from ttFx zA2.1 (by decide) (by decide) rfl rfl rfl]
    refine q_ic (pc := 16) (v := 5) rfl ?_
    refine q_al (pc := 17) (i := 0) (x := 183) rfl rfl ?_
    refine q_ic (pc := 18) (v := 0) rfl ?_
    refine q_ic (pc := 19) (v := 999) rfl ?_
    refine q_iv (pc := 20) (q := 1752972) rfl rfl rfl (ttKc zA2.1 (a := 183) (κ := 12) (len := 0) ⟨rfl, rfl⟩ (by decide) (by decide)).1 ?_
    refine la_number (by decide) (by omega) hO zA2 (fun ujr3 J3 zA3 jr3 => ?_)
    have jv3 : ujr3 = (sNm T W2.1 0 999).1 := jr3
    obtain ⟨W3, jW3⟩ : ∃ Y : tZ, Y = zNm T 0 999 W2 := ⟨_, rfl⟩
    replace zA3 : rA T n I J3 W3 := by rw [jW3]; exact zA3
    have jb3 : ujr3 = 0 ∨ 0 ≤ ujr3 ∧ ujr3 ≤ 999 := by rw [jv3]; exact sNm_v
    refine q_si (pc := 21) rfl (by decide) (ttKc zA3.1 (a := 189) (κ := 20) (len := 196) ⟨rfl, rfl⟩ (by decide) (by decide)).1 (by omega) (by rw [(ttKc zA3.1 (a := 189) (κ := 20) (len := 196) ⟨rfl, rfl⟩ (by decide) (by decide)).2]; omega) ?_
    have zA4 := rA_put zA3 (j := 5) (v := ujr3) (show (0 : Int) ≤ ujr3 ∧ ujr3 ≤ 999 from ⟨by omega, by omega⟩) (by omega) (by omega)
    obtain ⟨J4, ujzk4⟩ : ∃ X : xH, X = (xUp J3.1 189 5 ujr3, J3.2) := ⟨_, rfl⟩
    rw [← ujzk4] at zA4 ⊢
    obtain ⟨W4, jW4⟩ : ∃ Y : tZ, Y = zP 5 ujr3 W3 := ⟨_, rfl⟩
    replace zA4 : rA T n I J4 W4 := by rw [jW4]; exact zA4
    refine q_il (pc := 22) (i := 1) (x := 0) rfl rfl ?_
    refine q_ic (pc := 23) (v := 1) rfl ?_
    refine q_i2 (pc := 24) rfl (fun h24 => ?_) (fun h24 => ?_)
    · replace h24 : (0 : Int) ≠ 1 := h24
      refine q_il (pc := 33) (i := 1) (x := 0) rfl rfl ?_
      refine q_ic (pc := 34) (v := 2) rfl ?_
      refine q_i2 (pc := 35) rfl (fun h35 => ?_) (fun h35 => ?_)
      · replace h35 : (0 : Int) ≠ 2 := h35
        refine q_il (pc := 44) (i := 1) (x := 0) rfl rfl ?_
        refine q_ic (pc := 45) (v := 3) rfl ?_
        refine q_i2 (pc := 46) rfl (fun h46 => ?_) (fun h46 => ?_)
        · replace h46 : (0 : Int) ≠ 3 := h46
          refine q_il (pc := 55) (i := 1) (x := 0) rfl rfl ?_
          refine q_ic (pc := 56) (v := 4) rfl ?_
          refine q_i2 (pc := 57) rfl (fun h57 => ?_) (fun h57 => ?_)
          · replace h57 : (0 : Int) ≠ 4 := h57
            refine q_il (pc := 85) (i := 1) (x := 0) rfl rfl ?_
            refine q_ic (pc := 86) (v := 5) rfl ?_
            refine q_i2 (pc := 87) rfl (fun h87 => ?_) (fun h87 => ?_)
            · replace h87 : (0 : Int) ≠ 5 := h87
              refine q_rv (pc := 90) rfl ?_
              refine hq J4 ?_
              rw [show zOn T 0 W0 = W4 from by rw [jW4, jv3, jW3, e0]; rfl]
              exact zA4
            · replace h87 : (0 : Int) = 5 := h87
              omega
          · replace h57 : (0 : Int) = 4 := h57
            omega
        · replace h46 : (0 : Int) = 3 := h46
          omega
      · replace h35 : (0 : Int) = 2 := h35
        omega
    · replace h24 : (0 : Int) = 1 := h24
      omega
theorem la_readOnce1 {dd : Nat} (hd : 11 ≤ dd) {I H : xH} {T : tSm} {n : Int} (hO : sOk T n) {W0 : tZ} (zA0 : rA T n I H W0) {Q : Int → xH → Prop} (hq : ∀ J, rA T n I J (zOn T 1 W0) → Q 0 J) : xCall dd 231 [(2, 183), (0, 1)] H Q := by
  obtain ⟨e, rfl, he⟩ := ttRun0 (n := 10) hd
  have he : 10 ≤ e := he
  have hT := zA0.1
  refine xC_of (L := [(2, 183), (0, 1)]) (cd := cd_231) rfl rfl rfl ?_
  refine q_al (pc := 0) (i := 0) (x := 183) rfl rfl ?_
  refine q_iv (pc := 1) (q := 1704967) rfl rfl rfl (ttKc hT (a := 183) (κ := 12) (len := 0) ⟨rfl, rfl⟩ (by decide) (by decide)).1 ?_
  refine la_adv (by omega) hO zA0 (fun J1 zA1 => ?_)
  obtain ⟨W1, jW1⟩ : ∃ Y : tZ, Y = zNx T W0 := ⟨_, rfl⟩
  replace zA1 : rA T n I J1 W1 := by rw [jW1]; exact zA1
  refine q_al (pc := 2) (i := 0) (x := 183) rfl rfl ?_
  refine q_gf (pc := 3) (m := 12142) (t := 2) (c := 14) rfl (ttKc zA1.1 (a := 183) (κ := 12) (len := 0) ⟨rfl, rfl⟩ (by decide) (by decide)).1 rfl rfl ?_
  rw [show J1.1 183 14 = 189 from ttFx zA1.1 (by decide) (by decide) rfl rfl rfl]
  refine q_ic (pc := 4) (v := 16) rfl ?_
  refine q_dd (pc := 5) rfl ?_
  refine q_ai (pc := 6) rfl (ttKc zA1.1 (a := 189) (κ := 20) (len := 196) ⟨rfl, rfl⟩ (by decide) (by decide)).1 (by omega) (by rw [(ttKc zA1.1 (a := 189) (κ := 20) (len := 196) ⟨rfl, rfl⟩ (by decide) (by decide)).2]; omega) ?_
  rw [(zA1.2.2.2.1 16 (by omega) (by omega))]
  have ob := od_or2 (rA_15 zA1).2.1 (rA_15 zA1).2.2 (p := 1) (by decide) (by decide)
  refine q_ic (pc := 7) (v := 1) rfl ?_
  refine q_il (pc := 8) (i := 1) (x := 1) rfl rfl ?_
  refine q_sl (pc := 9) rfl ?_
  refine q_or (pc := 10) rfl ?_
  refine q_si (pc := 11) rfl (by decide) (ttKc zA1.1 (a := 189) (κ := 20) (len := 196) ⟨rfl, rfl⟩ (by decide) (by decide)).1 (by omega) (by rw [(ttKc zA1.1 (a := 189) (κ := 20) (len := 196) ⟨rfl, rfl⟩ (by decide) (by decide)).2]; omega) ?_
  have zA2 := rA_put zA1 (j := 16) (v := (xOr (W1.2.1 16) (xShl 1 1))) (show (0 : Int) ≤ (xOr (W1.2.1 16) (xShl 1 1)) ∧ (xOr (W1.2.1 16) (xShl 1 1)) ≤ 63 from ⟨by omega, by omega⟩) (by omega) (by omega)
  obtain ⟨J2, ujzk2⟩ : ∃ X : xH, X = (xUp J1.1 189 16 (xOr (W1.2.1 16) (xShl 1 1)), J1.2) := ⟨_, rfl⟩
  rw [← ujzk2] at zA2 ⊢
  obtain ⟨W2, jW2⟩ : ∃ Y : tZ, Y = zP 16 (xOr (W1.2.1 16) (xShl 1 1)) W1 := ⟨_, rfl⟩
  replace zA2 : rA T n I J2 W2 := by rw [jW2]; exact zA2
  have e0 : W2 = zOn0 T 1 W0 := by rw [jW2, jW1]; rfl
  refine q_il (pc := 12) (i := 1) (x := 1) rfl rfl ?_
  refine q_if (pc := 13) rfl (fun h13 => ?_) (fun h13 => ?_)
  · replace h13 : (1 : Int) ≠ 0 := h13
    refine q_il (pc := 22) (i := 1) (x := 1) rfl rfl ?_
    refine q_ic (pc := 23) (v := 1) rfl ?_
    refine q_i2 (pc := 24) rfl (fun h24 => ?_) (fun h24 => ?_)
    · replace h24 : (1 : Int) ≠ 1 := h24
      omega
    · replace h24 : (1 : Int) = 1 := h24
      refine q_al (pc := 25) (i := 0) (x := 183) rfl rfl ?_
      refine q_gf (pc := 26) (m := 12142) (t := 2) (c := 14) rfl (ttKc zA2.1 (a := 183) (κ := 12) (len := 0) ⟨rfl, rfl⟩ (by decide) (by decide)).1 rfl rfl ?_
      rw [show J2.1 183 14 = 189 from ttFx zA2.1 (by decide) (by decide) rfl rfl rfl]
      refine q_ic (pc := 27) (v := 6) rfl ?_
      refine q_al (pc := 28) (i := 0) (x := 183) rfl rfl ?_
      refine q_ic (pc := 29) (v := 0) rfl ?_
      refine q_ic (pc := 30) (v := 50) rfl ?_
      refine q_iv (pc := 31) (q := 1752972) rfl rfl rfl (ttKc zA2.1 (a := 183) (κ := 12) (len := 0) ⟨rfl, rfl⟩ (by decide) (by decide)).1 ?_
      refine la_number (by decide) (by omega) hO zA2 (fun ujr3 J3 zA3 jr3 => ?_)
      have jv3 : ujr3 = (sNm T W2.1 0 50).1 := jr3
      obtain ⟨W3, jW3⟩ : ∃ Y : tZ, Y = zNm T 0 50 W2 := ⟨_, rfl⟩
      replace zA3 : rA T n I J3 W3 := by rw [jW3]; exact zA3
      have jb3 : ujr3 = 0 ∨ 0 ≤ ujr3 ∧ ujr3 ≤ 50 := by rw [jv3]; exact sNm_v
      refine q_si (pc := 32) rfl (by decide) (ttKc zA3.1 (a := 189) (κ := 20) (len := 196) ⟨rfl, rfl⟩ (by decide) (by decide)).1 (by omega) (by rw [(ttKc zA3.1 (a := 189) (κ := 20) (len := 196) ⟨rfl, rfl⟩ (by decide) (by decide)).2]; omega) ?_
      have zA4 := rA_put zA3 (j := 6) (v := ujr3) (show (0 : Int) ≤ ujr3 ∧ ujr3 ≤ 50 from ⟨by omega, by omega⟩) (by omega) (by omega)
      obtain ⟨J4, ujzk4⟩ : ∃ X : xH, X = (xUp J3.1 189 6 ujr3, J3.2) := ⟨_, rfl⟩
      rw [← ujzk4] at zA4 ⊢
      obtain ⟨W4, jW4⟩ : ∃ Y : tZ, Y = zP 6 ujr3 W3 := ⟨_, rfl⟩
      replace zA4 : rA T n I J4 W4 := by rw [jW4]; exact zA4
      refine q_il (pc := 33) (i := 1) (x := 1) rfl rfl ?_
      refine q_ic (pc := 34) (v := 2) rfl ?_
      refine q_i2 (pc := 35) rfl (fun h35 => ?_) (fun h35 => ?_)
      · replace h35 : (1 : Int) ≠ 2 := h35
        refine q_il (pc := 44) (i := 1) (x := 1) rfl rfl ?_
        refine q_ic (pc := 45) (v := 3) rfl ?_
        refine q_i2 (pc := 46) rfl (fun h46 => ?_) (fun h46 => ?_)
        · replace h46 : (1 : Int) ≠ 3 := h46
          refine q_il (pc := 55) (i := 1) (x := 1) rfl rfl ?_
          refine q_ic (pc := 56) (v := 4) rfl ?_
          refine q_i2 (pc := 57) rfl (fun h57 => ?_) (fun h57 => ?_)
          · replace h57 : (1 : Int) ≠ 4 := h57
            refine q_il (pc := 85) (i := 1) (x := 1) rfl rfl ?_
            refine q_ic (pc := 86) (v := 5) rfl ?_
            refine q_i2 (pc := 87) rfl (fun h87 => ?_) (fun h87 => ?_)
            · replace h87 : (1 : Int) ≠ 5 := h87
              refine q_rv (pc := 90) rfl ?_
              refine hq J4 ?_
              rw [show zOn T 1 W0 = W4 from by rw [jW4, jv3, jW3, e0]; rfl]
              exact zA4
            · replace h87 : (1 : Int) = 5 := h87
              omega
          · replace h57 : (1 : Int) = 4 := h57
            omega
        · replace h46 : (1 : Int) = 3 := h46
          omega
      · replace h35 : (1 : Int) = 2 := h35
        omega
  · replace h13 : (1 : Int) = 0 := h13
    omega
theorem la_readOnce2 {dd : Nat} (hd : 11 ≤ dd) {I H : xH} {T : tSm} {n : Int} (hO : sOk T n) {W0 : tZ} (zA0 : rA T n I H W0) {Q : Int → xH → Prop} (hq : ∀ J, rA T n I J (zOn T 2 W0) → Q 0 J) : xCall dd 231 [(2, 183), (0, 2)] H Q := by
  obtain ⟨e, rfl, he⟩ := ttRun0 (n := 10) hd
  have he : 10 ≤ e := he
  have hT := zA0.1
  refine xC_of (L := [(2, 183), (0, 2)]) (cd := cd_231) rfl rfl rfl ?_
  refine q_al (pc := 0) (i := 0) (x := 183) rfl rfl ?_
  refine q_iv (pc := 1) (q := 1704967) rfl rfl rfl (ttKc hT (a := 183) (κ := 12) (len := 0) ⟨rfl, rfl⟩ (by decide) (by decide)).1 ?_
  refine la_adv (by omega) hO zA0 (fun J1 zA1 => ?_)
  obtain ⟨W1, jW1⟩ : ∃ Y : tZ, Y = zNx T W0 := ⟨_, rfl⟩
  replace zA1 : rA T n I J1 W1 := by rw [jW1]; exact zA1
  refine q_al (pc := 2) (i := 0) (x := 183) rfl rfl ?_
  refine q_gf (pc := 3) (m := 12142) (t := 2) (c := 14) rfl (ttKc zA1.1 (a := 183) (κ := 12) (len := 0) ⟨rfl, rfl⟩ (by decide) (by decide)).1 rfl rfl ?_
  rw [show J1.1 183 14 = 189 from ttFx zA1.1 (by decide) (by decide) rfl rfl rfl]
  refine q_ic (pc := 4) (v := 16) rfl ?_
  refine q_dd (pc := 5) rfl ?_
  refine q_ai (pc := 6) rfl (ttKc zA1.1 (a := 189) (κ := 20) (len := 196) ⟨rfl, rfl⟩ (by decide) (by decide)).1 (by omega) (by rw [(ttKc zA1.1 (a := 189) (κ := 20) (len := 196) ⟨rfl, rfl⟩ (by decide) (by decide)).2]; omega) ?_
  rw [(zA1.2.2.2.1 16 (by omega) (by omega))]
  have ob := od_or2 (rA_15 zA1).2.1 (rA_15 zA1).2.2 (p := 2) (by decide) (by decide)
  refine q_ic (pc := 7) (v := 1) rfl ?_
  refine q_il (pc := 8) (i := 1) (x := 2) rfl rfl ?_
  refine q_sl (pc := 9) rfl ?_
  refine q_or (pc := 10) rfl ?_
  refine q_si (pc := 11) rfl (by decide) (ttKc zA1.1 (a := 189) (κ := 20) (len := 196) ⟨rfl, rfl⟩ (by decide) (by decide)).1 (by omega) (by rw [(ttKc zA1.1 (a := 189) (κ := 20) (len := 196) ⟨rfl, rfl⟩ (by decide) (by decide)).2]; omega) ?_
  have zA2 := rA_put zA1 (j := 16) (v := (xOr (W1.2.1 16) (xShl 1 2))) (show (0 : Int) ≤ (xOr (W1.2.1 16) (xShl 1 2)) ∧ (xOr (W1.2.1 16) (xShl 1 2)) ≤ 63 from ⟨by omega, by omega⟩) (by omega) (by omega)
  obtain ⟨J2, ujzk2⟩ : ∃ X : xH, X = (xUp J1.1 189 16 (xOr (W1.2.1 16) (xShl 1 2)), J1.2) := ⟨_, rfl⟩
  rw [← ujzk2] at zA2 ⊢
  obtain ⟨W2, jW2⟩ : ∃ Y : tZ, Y = zP 16 (xOr (W1.2.1 16) (xShl 1 2)) W1 := ⟨_, rfl⟩
  replace zA2 : rA T n I J2 W2 := by rw [jW2]; exact zA2
  have e0 : W2 = zOn0 T 2 W0 := by rw [jW2, jW1]; rfl
  refine q_il (pc := 12) (i := 1) (x := 2) rfl rfl ?_
  refine q_if (pc := 13) rfl (fun h13 => ?_) (fun h13 => ?_)
  · replace h13 : (2 : Int) ≠ 0 := h13
    refine q_il (pc := 22) (i := 1) (x := 2) rfl rfl ?_
    refine q_ic (pc := 23) (v := 1) rfl ?_
    refine q_i2 (pc := 24) rfl (fun h24 => ?_) (fun h24 => ?_)
    · replace h24 : (2 : Int) ≠ 1 := h24
      refine q_il (pc := 33) (i := 1) (x := 2) rfl rfl ?_
      refine q_ic (pc := 34) (v := 2) rfl ?_
      refine q_i2 (pc := 35) rfl (fun h35 => ?_) (fun h35 => ?_)
      · replace h35 : (2 : Int) ≠ 2 := h35
        omega
      · replace h35 : (2 : Int) = 2 := h35
        refine q_al (pc := 36) (i := 0) (x := 183) rfl rfl ?_
        refine q_gf (pc := 37) (m := 12142) (t := 2) (c := 14) rfl (ttKc zA2.1 (a := 183) (κ := 12) (len := 0) ⟨rfl, rfl⟩ (by decide) (by decide)).1 rfl rfl ?_
        rw [show J2.1 183 14 = 189 from ttFx zA2.1 (by decide) (by decide) rfl rfl rfl]
        refine q_ic (pc := 38) (v := 7) rfl ?_
        refine q_al (pc := 39) (i := 0) (x := 183) rfl rfl ?_
        refine q_ic (pc := 40) (v := 31) rfl ?_
        refine q_ic (pc := 41) (v := 60) rfl ?_
        refine q_iv (pc := 42) (q := 1752972) rfl rfl rfl (ttKc zA2.1 (a := 183) (κ := 12) (len := 0) ⟨rfl, rfl⟩ (by decide) (by decide)).1 ?_
        refine la_number (by decide) (by omega) hO zA2 (fun ujr3 J3 zA3 jr3 => ?_)
        have jv3 : ujr3 = (sNm T W2.1 31 60).1 := jr3
        obtain ⟨W3, jW3⟩ : ∃ Y : tZ, Y = zNm T 31 60 W2 := ⟨_, rfl⟩
        replace zA3 : rA T n I J3 W3 := by rw [jW3]; exact zA3
        have jb3 : ujr3 = 0 ∨ 31 ≤ ujr3 ∧ ujr3 ≤ 60 := by rw [jv3]; exact sNm_v
        refine q_si (pc := 43) rfl (by decide) (ttKc zA3.1 (a := 189) (κ := 20) (len := 196) ⟨rfl, rfl⟩ (by decide) (by decide)).1 (by omega) (by rw [(ttKc zA3.1 (a := 189) (κ := 20) (len := 196) ⟨rfl, rfl⟩ (by decide) (by decide)).2]; omega) ?_
        have zA4 := rA_put zA3 (j := 7) (v := ujr3) (show (0 : Int) ≤ ujr3 ∧ ujr3 ≤ 60 from ⟨by omega, by omega⟩) (by omega) (by omega)
        obtain ⟨J4, ujzk4⟩ : ∃ X : xH, X = (xUp J3.1 189 7 ujr3, J3.2) := ⟨_, rfl⟩
        rw [← ujzk4] at zA4 ⊢
        obtain ⟨W4, jW4⟩ : ∃ Y : tZ, Y = zP 7 ujr3 W3 := ⟨_, rfl⟩
        replace zA4 : rA T n I J4 W4 := by rw [jW4]; exact zA4
        refine q_il (pc := 44) (i := 1) (x := 2) rfl rfl ?_
        refine q_ic (pc := 45) (v := 3) rfl ?_
        refine q_i2 (pc := 46) rfl (fun h46 => ?_) (fun h46 => ?_)
        · replace h46 : (2 : Int) ≠ 3 := h46
          refine q_il (pc := 55) (i := 1) (x := 2) rfl rfl ?_
          refine q_ic (pc := 56) (v := 4) rfl ?_
          refine q_i2 (pc := 57) rfl (fun h57 => ?_) (fun h57 => ?_)
          · replace h57 : (2 : Int) ≠ 4 := h57
            refine q_il (pc := 85) (i := 1) (x := 2) rfl rfl ?_
            refine q_ic (pc := 86) (v := 5) rfl ?_
            refine q_i2 (pc := 87) rfl (fun h87 => ?_) (fun h87 => ?_)
            · replace h87 : (2 : Int) ≠ 5 := h87
              refine q_rv (pc := 90) rfl ?_
              refine hq J4 ?_
              rw [show zOn T 2 W0 = W4 from by rw [jW4, jv3, jW3, e0]; rfl]
              exact zA4
            · replace h87 : (2 : Int) = 5 := h87
              omega
          · replace h57 : (2 : Int) = 4 := h57
            omega
        · replace h46 : (2 : Int) = 3 := h46
          omega
    · replace h24 : (2 : Int) = 1 := h24
      omega
  · replace h13 : (2 : Int) = 0 := h13
    omega
theorem la_readOnce3 {dd : Nat} (hd : 11 ≤ dd) {I H : xH} {T : tSm} {n : Int} (hO : sOk T n) {W0 : tZ} (zA0 : rA T n I H W0) {Q : Int → xH → Prop} (hq : ∀ J, rA T n I J (zOn T 3 W0) → Q 0 J) : xCall dd 231 [(2, 183), (0, 3)] H Q := by
  obtain ⟨e, rfl, he⟩ := ttRun0 (n := 10) hd
  have he : 10 ≤ e := he
  have hT := zA0.1
  refine xC_of (L := [(2, 183), (0, 3)]) (cd := cd_231) rfl rfl rfl ?_
  refine q_al (pc := 0) (i := 0) (x := 183) rfl rfl ?_
  refine q_iv (pc := 1) (q := 1704967) rfl rfl rfl (ttKc hT (a := 183) (κ := 12) (len := 0) ⟨rfl, rfl⟩ (by decide) (by decide)).1 ?_
  refine la_adv (by omega) hO zA0 (fun J1 zA1 => ?_)
  obtain ⟨W1, jW1⟩ : ∃ Y : tZ, Y = zNx T W0 := ⟨_, rfl⟩
  replace zA1 : rA T n I J1 W1 := by rw [jW1]; exact zA1
  refine q_al (pc := 2) (i := 0) (x := 183) rfl rfl ?_
  refine q_gf (pc := 3) (m := 12142) (t := 2) (c := 14) rfl (ttKc zA1.1 (a := 183) (κ := 12) (len := 0) ⟨rfl, rfl⟩ (by decide) (by decide)).1 rfl rfl ?_
  rw [show J1.1 183 14 = 189 from ttFx zA1.1 (by decide) (by decide) rfl rfl rfl]
  refine q_ic (pc := 4) (v := 16) rfl ?_
  refine q_dd (pc := 5) rfl ?_
  refine q_ai (pc := 6) rfl (ttKc zA1.1 (a := 189) (κ := 20) (len := 196) ⟨rfl, rfl⟩ (by decide) (by decide)).1 (by omega) (by rw [(ttKc zA1.1 (a := 189) (κ := 20) (len := 196) ⟨rfl, rfl⟩ (by decide) (by decide)).2]; omega) ?_
  rw [(zA1.2.2.2.1 16 (by omega) (by omega))]
  have ob := od_or2 (rA_15 zA1).2.1 (rA_15 zA1).2.2 (p := 3) (by decide) (by decide)
  refine q_ic (pc := 7) (v := 1) rfl ?_
  refine q_il (pc := 8) (i := 1) (x := 3) rfl rfl ?_
  refine q_sl (pc := 9) rfl ?_
  refine q_or (pc := 10) rfl ?_
  refine q_si (pc := 11) rfl (by decide) (ttKc zA1.1 (a := 189) (κ := 20) (len := 196) ⟨rfl, rfl⟩ (by decide) (by decide)).1 (by omega) (by rw [(ttKc zA1.1 (a := 189) (κ := 20) (len := 196) ⟨rfl, rfl⟩ (by decide) (by decide)).2]; omega) ?_
  have zA2 := rA_put zA1 (j := 16) (v := (xOr (W1.2.1 16) (xShl 1 3))) (show (0 : Int) ≤ (xOr (W1.2.1 16) (xShl 1 3)) ∧ (xOr (W1.2.1 16) (xShl 1 3)) ≤ 63 from ⟨by omega, by omega⟩) (by omega) (by omega)
  obtain ⟨J2, ujzk2⟩ : ∃ X : xH, X = (xUp J1.1 189 16 (xOr (W1.2.1 16) (xShl 1 3)), J1.2) := ⟨_, rfl⟩
  rw [← ujzk2] at zA2 ⊢
  obtain ⟨W2, jW2⟩ : ∃ Y : tZ, Y = zP 16 (xOr (W1.2.1 16) (xShl 1 3)) W1 := ⟨_, rfl⟩
  replace zA2 : rA T n I J2 W2 := by rw [jW2]; exact zA2
  have e0 : W2 = zOn0 T 3 W0 := by rw [jW2, jW1]; rfl
  refine q_il (pc := 12) (i := 1) (x := 3) rfl rfl ?_
  refine q_if (pc := 13) rfl (fun h13 => ?_) (fun h13 => ?_)
  · replace h13 : (3 : Int) ≠ 0 := h13
    refine q_il (pc := 22) (i := 1) (x := 3) rfl rfl ?_
    refine q_ic (pc := 23) (v := 1) rfl ?_
    refine q_i2 (pc := 24) rfl (fun h24 => ?_) (fun h24 => ?_)
    · replace h24 : (3 : Int) ≠ 1 := h24
      refine q_il (pc := 33) (i := 1) (x := 3) rfl rfl ?_
      refine q_ic (pc := 34) (v := 2) rfl ?_
      refine q_i2 (pc := 35) rfl (fun h35 => ?_) (fun h35 => ?_)
      · replace h35 : (3 : Int) ≠ 2 := h35
        refine q_il (pc := 44) (i := 1) (x := 3) rfl rfl ?_
        refine q_ic (pc := 45) (v := 3) rfl ?_
        refine q_i2 (pc := 46) rfl (fun h46 => ?_) (fun h46 => ?_)
        · replace h46 : (3 : Int) ≠ 3 := h46
          omega
        · replace h46 : (3 : Int) = 3 := h46
          refine q_al (pc := 47) (i := 0) (x := 183) rfl rfl ?_
          refine q_gf (pc := 48) (m := 12142) (t := 2) (c := 14) rfl (ttKc zA2.1 (a := 183) (κ := 12) (len := 0) ⟨rfl, rfl⟩ (by decide) (by decide)).1 rfl rfl ?_
          rw [show J2.1 183 14 = 189 from ttFx zA2.1 (by decide) (by decide) rfl rfl rfl]
          refine q_ic (pc := 49) (v := 8) rfl ?_
          refine q_al (pc := 50) (i := 0) (x := 183) rfl rfl ?_
          refine q_ic (pc := 51) (v := 1) rfl ?_
          refine q_ic (pc := 52) (v := 47) rfl ?_
          refine q_iv (pc := 53) (q := 1752972) rfl rfl rfl (ttKc zA2.1 (a := 183) (κ := 12) (len := 0) ⟨rfl, rfl⟩ (by decide) (by decide)).1 ?_
          refine la_number (by decide) (by omega) hO zA2 (fun ujr3 J3 zA3 jr3 => ?_)
          have jv3 : ujr3 = (sNm T W2.1 1 47).1 := jr3
          obtain ⟨W3, jW3⟩ : ∃ Y : tZ, Y = zNm T 1 47 W2 := ⟨_, rfl⟩
          replace zA3 : rA T n I J3 W3 := by rw [jW3]; exact zA3
          have jb3 : ujr3 = 0 ∨ 1 ≤ ujr3 ∧ ujr3 ≤ 47 := by rw [jv3]; exact sNm_v
          refine q_si (pc := 54) rfl (by decide) (ttKc zA3.1 (a := 189) (κ := 20) (len := 196) ⟨rfl, rfl⟩ (by decide) (by decide)).1 (by omega) (by rw [(ttKc zA3.1 (a := 189) (κ := 20) (len := 196) ⟨rfl, rfl⟩ (by decide) (by decide)).2]; omega) ?_
          have zA4 := rA_put zA3 (j := 8) (v := ujr3) (show (0 : Int) ≤ ujr3 ∧ ujr3 ≤ 47 from ⟨by omega, by omega⟩) (by omega) (by omega)
          obtain ⟨J4, ujzk4⟩ : ∃ X : xH, X = (xUp J3.1 189 8 ujr3, J3.2) := ⟨_, rfl⟩
          rw [← ujzk4] at zA4 ⊢
          obtain ⟨W4, jW4⟩ : ∃ Y : tZ, Y = zP 8 ujr3 W3 := ⟨_, rfl⟩
          replace zA4 : rA T n I J4 W4 := by rw [jW4]; exact zA4
          refine q_il (pc := 55) (i := 1) (x := 3) rfl rfl ?_
          refine q_ic (pc := 56) (v := 4) rfl ?_
          refine q_i2 (pc := 57) rfl (fun h57 => ?_) (fun h57 => ?_)
          · replace h57 : (3 : Int) ≠ 4 := h57
            refine q_il (pc := 85) (i := 1) (x := 3) rfl rfl ?_
            refine q_ic (pc := 86) (v := 5) rfl ?_
            refine q_i2 (pc := 87) rfl (fun h87 => ?_) (fun h87 => ?_)
            · replace h87 : (3 : Int) ≠ 5 := h87
              refine q_rv (pc := 90) rfl ?_
              refine hq J4 ?_
              rw [show zOn T 3 W0 = W4 from by rw [jW4, jv3, jW3, e0]; rfl]
              exact zA4
            · replace h87 : (3 : Int) = 5 := h87
              omega
          · replace h57 : (3 : Int) = 4 := h57
            omega
      · replace h35 : (3 : Int) = 2 := h35
        omega
    · replace h24 : (3 : Int) = 1 := h24
      omega
  · replace h13 : (3 : Int) = 0 := h13
    omega
theorem la_readOnce4 {dd : Nat} (hd : 11 ≤ dd) {I H : xH} {T : tSm} {n : Int} (hO : sOk T n) {W0 : tZ} (zA0 : rA T n I H W0) {Q : Int → xH → Prop} (hq : ∀ J, rA T n I J (zOn T 4 W0) → Q 0 J) : xCall dd 231 [(2, 183), (0, 4)] H Q := by
  obtain ⟨e, rfl, he⟩ := ttRun0 (n := 10) hd
  have he : 10 ≤ e := he
  have hT := zA0.1
  refine xC_of (L := [(2, 183), (0, 4)]) (cd := cd_231) rfl rfl rfl ?_
  refine q_al (pc := 0) (i := 0) (x := 183) rfl rfl ?_
  refine q_iv (pc := 1) (q := 1704967) rfl rfl rfl (ttKc hT (a := 183) (κ := 12) (len := 0) ⟨rfl, rfl⟩ (by decide) (by decide)).1 ?_
  refine la_adv (by omega) hO zA0 (fun J1 zA1 => ?_)
  obtain ⟨W1, jW1⟩ : ∃ Y : tZ, Y = zNx T W0 := ⟨_, rfl⟩
  replace zA1 : rA T n I J1 W1 := by rw [jW1]; exact zA1
  refine q_al (pc := 2) (i := 0) (x := 183) rfl rfl ?_
  refine q_gf (pc := 3) (m := 12142) (t := 2) (c := 14) rfl (ttKc zA1.1 (a := 183) (κ := 12) (len := 0) ⟨rfl, rfl⟩ (by decide) (by decide)).1 rfl rfl ?_
  rw [show J1.1 183 14 = 189 from ttFx zA1.1 (by decide) (by decide) rfl rfl rfl]
  refine q_ic (pc := 4) (v := 16) rfl ?_
  refine q_dd (pc := 5) rfl ?_
  refine q_ai (pc := 6) rfl (ttKc zA1.1 (a := 189) (κ := 20) (len := 196) ⟨rfl, rfl⟩ (by decide) (by decide)).1 (by omega) (by rw [(ttKc zA1.1 (a := 189) (κ := 20) (len := 196) ⟨rfl, rfl⟩ (by decide) (by decide)).2]; omega) ?_
  rw [(zA1.2.2.2.1 16 (by omega) (by omega))]
  have ob := od_or2 (rA_15 zA1).2.1 (rA_15 zA1).2.2 (p := 4) (by decide) (by decide)
  refine q_ic (pc := 7) (v := 1) rfl ?_
  refine q_il (pc := 8) (i := 1) (x := 4) rfl rfl ?_
  refine q_sl (pc := 9) rfl ?_
  refine q_or (pc := 10) rfl ?_
  refine q_si (pc := 11) rfl (by decide) (ttKc zA1.1 (a := 189) (κ := 20) (len := 196) ⟨rfl, rfl⟩ (by decide) (by decide)).1 (by omega) (by rw [(ttKc zA1.1 (a := 189) (κ := 20) (len := 196) ⟨rfl, rfl⟩ (by decide) (by decide)).2]; omega) ?_
  have zA2 := rA_put zA1 (j := 16) (v := (xOr (W1.2.1 16) (xShl 1 4))) (show (0 : Int) ≤ (xOr (W1.2.1 16) (xShl 1 4)) ∧ (xOr (W1.2.1 16) (xShl 1 4)) ≤ 63 from ⟨by omega, by omega⟩) (by omega) (by omega)
  obtain ⟨J2, ujzk2⟩ : ∃ X : xH, X = (xUp J1.1 189 16 (xOr (W1.2.1 16) (xShl 1 4)), J1.2) := ⟨_, rfl⟩
  rw [← ujzk2] at zA2 ⊢
  obtain ⟨W2, jW2⟩ : ∃ Y : tZ, Y = zP 16 (xOr (W1.2.1 16) (xShl 1 4)) W1 := ⟨_, rfl⟩
  replace zA2 : rA T n I J2 W2 := by rw [jW2]; exact zA2
  have e0 : W2 = zOn0 T 4 W0 := by rw [jW2, jW1]; rfl
  refine q_il (pc := 12) (i := 1) (x := 4) rfl rfl ?_
  refine q_if (pc := 13) rfl (fun h13 => ?_) (fun h13 => ?_)
  · replace h13 : (4 : Int) ≠ 0 := h13
    refine q_il (pc := 22) (i := 1) (x := 4) rfl rfl ?_
    refine q_ic (pc := 23) (v := 1) rfl ?_
    refine q_i2 (pc := 24) rfl (fun h24 => ?_) (fun h24 => ?_)
    · replace h24 : (4 : Int) ≠ 1 := h24
      refine q_il (pc := 33) (i := 1) (x := 4) rfl rfl ?_
      refine q_ic (pc := 34) (v := 2) rfl ?_
      refine q_i2 (pc := 35) rfl (fun h35 => ?_) (fun h35 => ?_)
      · replace h35 : (4 : Int) ≠ 2 := h35
        refine q_il (pc := 44) (i := 1) (x := 4) rfl rfl ?_
        refine q_ic (pc := 45) (v := 3) rfl ?_
        refine q_i2 (pc := 46) rfl (fun h46 => ?_) (fun h46 => ?_)
        · replace h46 : (4 : Int) ≠ 3 := h46
          refine q_il (pc := 55) (i := 1) (x := 4) rfl rfl ?_
          refine q_ic (pc := 56) (v := 4) rfl ?_
          refine q_i2 (pc := 57) rfl (fun h57 => ?_) (fun h57 => ?_)
          · replace h57 : (4 : Int) ≠ 4 := h57
            omega
          · replace h57 : (4 : Int) = 4 := h57
            refine q_al (pc := 58) (i := 0) (x := 183) rfl rfl ?_
            refine q_gf (pc := 59) (m := 12142) (t := 2) (c := 14) rfl (ttKc zA2.1 (a := 183) (κ := 12) (len := 0) ⟨rfl, rfl⟩ (by decide) (by decide)).1 rfl rfl ?_
            rw [show J2.1 183 14 = 189 from ttFx zA2.1 (by decide) (by decide) rfl rfl rfl]
            refine q_ic (pc := 60) (v := 9) rfl ?_
            refine q_al (pc := 61) (i := 0) (x := 183) rfl rfl ?_
            refine q_sc (pc := 62) (j := 12) rfl ?_
            refine q_ic (pc := 63) (v := 0) rfl ?_
            refine q_ic (pc := 64) (v := 9999) rfl ?_
            refine q_iv (pc := 65) (q := 1760976) rfl rfl rfl ⟨by omega, (ttKc zA2.1 (a := 183) (κ := 12) (len := 0) ⟨rfl, rfl⟩ (by decide) (by decide)).1⟩ ?_
            refine la_told (by decide) (by decide) (by decide) (by omega) hO zA2 (fun ujr3 J3 zA3 jr3 => ?_)
            have jv3 : ujr3 = (sNm T (sNd T W2.1 (-14)) 0 9999).1 := jr3
            obtain ⟨W3, jW3⟩ : ∃ Y : tZ, Y = zNm T 0 9999 (zNd T (-14) W2) := ⟨_, rfl⟩
            replace zA3 : rA T n I J3 W3 := by rw [jW3]; exact zA3
            have jb3 : ujr3 = 0 ∨ 0 ≤ ujr3 ∧ ujr3 ≤ 9999 := by rw [jv3]; exact sNm_v
            refine q_si (pc := 66) rfl (by decide) (ttKc zA3.1 (a := 189) (κ := 20) (len := 196) ⟨rfl, rfl⟩ (by decide) (by decide)).1 (by omega) (by rw [(ttKc zA3.1 (a := 189) (κ := 20) (len := 196) ⟨rfl, rfl⟩ (by decide) (by decide)).2]; omega) ?_
            have zA4 := rA_put zA3 (j := 9) (v := ujr3) (show (0 : Int) ≤ ujr3 ∧ ujr3 ≤ 9999 from ⟨by omega, by omega⟩) (by omega) (by omega)
            obtain ⟨J4, ujzk4⟩ : ∃ X : xH, X = (xUp J3.1 189 9 ujr3, J3.2) := ⟨_, rfl⟩
            rw [← ujzk4] at zA4 ⊢
            obtain ⟨W4, jW4⟩ : ∃ Y : tZ, Y = zP 9 ujr3 W3 := ⟨_, rfl⟩
            replace zA4 : rA T n I J4 W4 := by rw [jW4]; exact zA4
            refine q_al (pc := 67) (i := 0) (x := 183) rfl rfl ?_
            refine q_gf (pc := 68) (m := 12142) (t := 2) (c := 14) rfl (ttKc zA4.1 (a := 183) (κ := 12) (len := 0) ⟨rfl, rfl⟩ (by decide) (by decide)).1 rfl rfl ?_
            rw [show J4.1 183 14 = 189 from ttFx zA4.1 (by decide) (by decide) rfl rfl rfl]
            refine q_ic (pc := 69) (v := 10) rfl ?_
            refine q_al (pc := 70) (i := 0) (x := 183) rfl rfl ?_
            refine q_sc (pc := 71) (j := 23) rfl ?_
            refine q_ic (pc := 72) (v := 0) rfl ?_
            refine q_ic (pc := 73) (v := 99) rfl ?_
            refine q_iv (pc := 74) (q := 1760976) rfl rfl rfl ⟨by omega, (ttKc zA4.1 (a := 183) (κ := 12) (len := 0) ⟨rfl, rfl⟩ (by decide) (by decide)).1⟩ ?_
            refine la_told (by decide) (by decide) (by decide) (by omega) hO zA4 (fun ujr5 J5 zA5 jr5 => ?_)
            have jv5 : ujr5 = (sNm T (sNd T W4.1 (-25)) 0 99).1 := jr5
            obtain ⟨W5, jW5⟩ : ∃ Y : tZ, Y = zNm T 0 99 (zNd T (-25) W4) := ⟨_, rfl⟩
            replace zA5 : rA T n I J5 W5 := by rw [jW5]; exact zA5
            have jb5 : ujr5 = 0 ∨ 0 ≤ ujr5 ∧ ujr5 ≤ 99 := by rw [jv5]; exact sNm_v
            refine q_si (pc := 75) rfl (by decide) (ttKc zA5.1 (a := 189) (κ := 20) (len := 196) ⟨rfl, rfl⟩ (by decide) (by decide)).1 (by omega) (by rw [(ttKc zA5.1 (a := 189) (κ := 20) (len := 196) ⟨rfl, rfl⟩ (by decide) (by decide)).2]; omega) ?_
            have zA6 := rA_put zA5 (j := 10) (v := ujr5) (show (0 : Int) ≤ ujr5 ∧ ujr5 ≤ 99 from ⟨by omega, by omega⟩) (by omega) (by omega)
            obtain ⟨J6, ujzk6⟩ : ∃ X : xH, X = (xUp J5.1 189 10 ujr5, J5.2) := ⟨_, rfl⟩
            rw [← ujzk6] at zA6 ⊢
            obtain ⟨W6, jW6⟩ : ∃ Y : tZ, Y = zP 10 ujr5 W5 := ⟨_, rfl⟩
            replace zA6 : rA T n I J6 W6 := by rw [jW6]; exact zA6
            refine q_al (pc := 76) (i := 0) (x := 183) rfl rfl ?_
            refine q_gf (pc := 77) (m := 12142) (t := 2) (c := 14) rfl (ttKc zA6.1 (a := 183) (κ := 12) (len := 0) ⟨rfl, rfl⟩ (by decide) (by decide)).1 rfl rfl ?_
            rw [show J6.1 183 14 = 189 from ttFx zA6.1 (by decide) (by decide) rfl rfl rfl]
            refine q_ic (pc := 78) (v := 11) rfl ?_
            refine q_al (pc := 79) (i := 0) (x := 183) rfl rfl ?_
            refine q_sc (pc := 80) (j := 24) rfl ?_
            refine q_ic (pc := 81) (v := 0) rfl ?_
            refine q_ic (pc := 82) (v := 9999) rfl ?_
            refine q_iv (pc := 83) (q := 1760976) rfl rfl rfl ⟨by omega, (ttKc zA6.1 (a := 183) (κ := 12) (len := 0) ⟨rfl, rfl⟩ (by decide) (by decide)).1⟩ ?_
            refine la_told (by decide) (by decide) (by decide) (by omega) hO zA6 (fun ujr7 J7 zA7 jr7 => ?_)
            have jv7 : ujr7 = (sNm T (sNd T W6.1 (-26)) 0 9999).1 := jr7
            obtain ⟨W7, jW7⟩ : ∃ Y : tZ, Y = zNm T 0 9999 (zNd T (-26) W6) := ⟨_, rfl⟩
            replace zA7 : rA T n I J7 W7 := by rw [jW7]; exact zA7
            have jb7 : ujr7 = 0 ∨ 0 ≤ ujr7 ∧ ujr7 ≤ 9999 := by rw [jv7]; exact sNm_v
            refine q_si (pc := 84) rfl (by decide) (ttKc zA7.1 (a := 189) (κ := 20) (len := 196) ⟨rfl, rfl⟩ (by decide) (by decide)).1 (by omega) (by rw [(ttKc zA7.1 (a := 189) (κ := 20) (len := 196) ⟨rfl, rfl⟩ (by decide) (by decide)).2]; omega) ?_
            have zA8 := rA_put zA7 (j := 11) (v := ujr7) (show (0 : Int) ≤ ujr7 ∧ ujr7 ≤ 9999 from ⟨by omega, by omega⟩) (by omega) (by omega)
            obtain ⟨J8, ujzk8⟩ : ∃ X : xH, X = (xUp J7.1 189 11 ujr7, J7.2) := ⟨_, rfl⟩
            rw [← ujzk8] at zA8 ⊢
            obtain ⟨W8, jW8⟩ : ∃ Y : tZ, Y = zP 11 ujr7 W7 := ⟨_, rfl⟩
            replace zA8 : rA T n I J8 W8 := by rw [jW8]; exact zA8
            refine q_il (pc := 85) (i := 1) (x := 4) rfl rfl ?_
            refine q_ic (pc := 86) (v := 5) rfl ?_
            refine q_i2 (pc := 87) rfl (fun h87 => ?_) (fun h87 => ?_)
            · replace h87 : (4 : Int) ≠ 5 := h87
              refine q_rv (pc := 90) rfl ?_
              refine hq J8 ?_
              rw [show zOn T 4 W0 = W8 from by rw [jW8, jv7, jW7, jW6, jv5, jW5, jW4, jv3, jW3, e0]; rfl]
              exact zA8
            · replace h87 : (4 : Int) = 5 := h87
              omega
        · replace h46 : (4 : Int) = 3 := h46
          omega
      · replace h35 : (4 : Int) = 2 := h35
        omega
    · replace h24 : (4 : Int) = 1 := h24
      omega
  · replace h13 : (4 : Int) = 0 := h13
    omega
theorem la_readOnce5 {dd : Nat} (hd : 11 ≤ dd) {I H : xH} {T : tSm} {n : Int} (hO : sOk T n) {W0 : tZ} (zA0 : rA T n I H W0) {Q : Int → xH → Prop} (hq : ∀ J, rA T n I J (zOn T 5 W0) → Q 0 J) : xCall dd 231 [(2, 183), (0, 5)] H Q := by
  obtain ⟨e, rfl, he⟩ := ttRun0 (n := 10) hd
  have he : 10 ≤ e := he
  have hT := zA0.1
  refine xC_of (L := [(2, 183), (0, 5)]) (cd := cd_231) rfl rfl rfl ?_
  refine q_al (pc := 0) (i := 0) (x := 183) rfl rfl ?_
  refine q_iv (pc := 1) (q := 1704967) rfl rfl rfl (ttKc hT (a := 183) (κ := 12) (len := 0) ⟨rfl, rfl⟩ (by decide) (by decide)).1 ?_
  refine la_adv (by omega) hO zA0 (fun J1 zA1 => ?_)
  obtain ⟨W1, jW1⟩ : ∃ Y : tZ, Y = zNx T W0 := ⟨_, rfl⟩
  replace zA1 : rA T n I J1 W1 := by rw [jW1]; exact zA1
  refine q_al (pc := 2) (i := 0) (x := 183) rfl rfl ?_
  refine q_gf (pc := 3) (m := 12142) (t := 2) (c := 14) rfl (ttKc zA1.1 (a := 183) (κ := 12) (len := 0) ⟨rfl, rfl⟩ (by decide) (by decide)).1 rfl rfl ?_
  rw [show J1.1 183 14 = 189 from ttFx zA1.1 (by decide) (by decide) rfl rfl rfl]
  refine q_ic (pc := 4) (v := 16) rfl ?_
  refine q_dd (pc := 5) rfl ?_
  refine q_ai (pc := 6) rfl (ttKc zA1.1 (a := 189) (κ := 20) (len := 196) ⟨rfl, rfl⟩ (by decide) (by decide)).1 (by omega) (by rw [(ttKc zA1.1 (a := 189) (κ := 20) (len := 196) ⟨rfl, rfl⟩ (by decide) (by decide)).2]; omega) ?_
  rw [(zA1.2.2.2.1 16 (by omega) (by omega))]
  have ob := od_or2 (rA_15 zA1).2.1 (rA_15 zA1).2.2 (p := 5) (by decide) (by decide)
  refine q_ic (pc := 7) (v := 1) rfl ?_
  refine q_il (pc := 8) (i := 1) (x := 5) rfl rfl ?_
  refine q_sl (pc := 9) rfl ?_
  refine q_or (pc := 10) rfl ?_
  refine q_si (pc := 11) rfl (by decide) (ttKc zA1.1 (a := 189) (κ := 20) (len := 196) ⟨rfl, rfl⟩ (by decide) (by decide)).1 (by omega) (by rw [(ttKc zA1.1 (a := 189) (κ := 20) (len := 196) ⟨rfl, rfl⟩ (by decide) (by decide)).2]; omega) ?_
  have zA2 := rA_put zA1 (j := 16) (v := (xOr (W1.2.1 16) (xShl 1 5))) (show (0 : Int) ≤ (xOr (W1.2.1 16) (xShl 1 5)) ∧ (xOr (W1.2.1 16) (xShl 1 5)) ≤ 63 from ⟨by omega, by omega⟩) (by omega) (by omega)
  obtain ⟨J2, ujzk2⟩ : ∃ X : xH, X = (xUp J1.1 189 16 (xOr (W1.2.1 16) (xShl 1 5)), J1.2) := ⟨_, rfl⟩
  rw [← ujzk2] at zA2 ⊢
  obtain ⟨W2, jW2⟩ : ∃ Y : tZ, Y = zP 16 (xOr (W1.2.1 16) (xShl 1 5)) W1 := ⟨_, rfl⟩
  replace zA2 : rA T n I J2 W2 := by rw [jW2]; exact zA2
  have e0 : W2 = zOn0 T 5 W0 := by rw [jW2, jW1]; rfl
  refine q_il (pc := 12) (i := 1) (x := 5) rfl rfl ?_
  refine q_if (pc := 13) rfl (fun h13 => ?_) (fun h13 => ?_)
  · replace h13 : (5 : Int) ≠ 0 := h13
    refine q_il (pc := 22) (i := 1) (x := 5) rfl rfl ?_
    refine q_ic (pc := 23) (v := 1) rfl ?_
    refine q_i2 (pc := 24) rfl (fun h24 => ?_) (fun h24 => ?_)
    · replace h24 : (5 : Int) ≠ 1 := h24
      refine q_il (pc := 33) (i := 1) (x := 5) rfl rfl ?_
      refine q_ic (pc := 34) (v := 2) rfl ?_
      refine q_i2 (pc := 35) rfl (fun h35 => ?_) (fun h35 => ?_)
      · replace h35 : (5 : Int) ≠ 2 := h35
        refine q_il (pc := 44) (i := 1) (x := 5) rfl rfl ?_
        refine q_ic (pc := 45) (v := 3) rfl ?_
        refine q_i2 (pc := 46) rfl (fun h46 => ?_) (fun h46 => ?_)
        · replace h46 : (5 : Int) ≠ 3 := h46
          refine q_il (pc := 55) (i := 1) (x := 5) rfl rfl ?_
          refine q_ic (pc := 56) (v := 4) rfl ?_
          refine q_i2 (pc := 57) rfl (fun h57 => ?_) (fun h57 => ?_)
          · replace h57 : (5 : Int) ≠ 4 := h57
            refine q_il (pc := 85) (i := 1) (x := 5) rfl rfl ?_
            refine q_ic (pc := 86) (v := 5) rfl ?_
            refine q_i2 (pc := 87) rfl (fun h87 => ?_) (fun h87 => ?_)
            · replace h87 : (5 : Int) ≠ 5 := h87
              omega
            · replace h87 : (5 : Int) = 5 := h87
              refine q_al (pc := 88) (i := 0) (x := 183) rfl rfl ?_
              refine q_iv (pc := 89) (q := 1824967) rfl rfl rfl (ttKc zA2.1 (a := 183) (κ := 12) (len := 0) ⟨rfl, rfl⟩ (by decide) (by decide)).1 ?_
              refine la_readStart (by omega) hO zA2 (fun J3 zA3 => ?_)
              refine q_rv (pc := 90) rfl ?_
              refine hq J3 ?_
              rw [show zOn T 5 W0 = zSt T W2 from by rw [e0]; rfl]
              exact zA3
          · replace h57 : (5 : Int) = 4 := h57
            omega
        · replace h46 : (5 : Int) = 3 := h46
          omega
      · replace h35 : (5 : Int) = 2 := h35
        omega
    · replace h24 : (5 : Int) = 1 := h24
      omega
  · replace h13 : (5 : Int) = 0 := h13
    omega
