/-! what a reader does with its tokens -/
abbrev tSm : Type := (Int → Int) × (Int → Int) × (Int → Int) × (Int → Int) × Int
abbrev tSa : Type := Int × Int × Int
def sNx (T : tSm) (i : Int) : Int := if i + 1 < T.2.2.2.2 then i + 1 else i
def sEr (T : tSm) (S : tSa) (k : Int) : tSa := if S.2.1 = 0 then (S.1, k, T.2.2.1 S.1) else S
def sWd (T : tSm) (i s : Int) : Prop := T.2.1 i = 1 ∧ T.2.2.2.1 i - T.2.2.1 i = xLg s ∧ ∀ j : Int, 0 ≤ j → j < xLg s → T.1 (T.2.2.1 i + j) = xCh s j
noncomputable def sW (T : tSm) (i s : Int) : Bool := @decide (sWd T i s) (Classical.propDecidable _)
theorem sW_t {T : tSm} {i s : Int} (h : sWd T i s) : sW T i s = true := @decide_eq_true _ (Classical.propDecidable _) h
theorem sW_f {T : tSm} {i s : Int} (h : ¬ sWd T i s) : sW T i s = false := @decide_eq_false _ (Classical.propDecidable _) h
noncomputable def sTk (T : tSm) (S : tSa) (s : Int) : Bool × tSa := if S.2.1 = 0 ∧ sW T S.1 s = true then (true, (sNx T S.1, S.2)) else (false, S)
noncomputable def sNd (T : tSm) (S : tSa) (s : Int) : tSa := if S.2.1 = 0 then (if sW T S.1 s = true then (sNx T S.1, S.2) else sEr T S 1) else S
def sVl (x : Int → Int) (f : Int) : Nat → Int
  | 0 => 0
  | k + 1 => 10 * sVl x f k + (x (f + (k : Int)) - 48)
def sVt (T : tSm) (i : Int) : Int := sVl T.1 (T.2.2.1 i) (T.2.2.2.1 i - T.2.2.1 i).toNat
def sNm (T : tSm) (S : tSa) (lo hi : Int) : Int × tSa := if S.2.1 = 0 then (if T.2.1 S.1 = 2 then (if lo ≤ sVt T S.1 ∧ sVt T S.1 ≤ hi then (sVt T S.1, (sNx T S.1, S.2)) else (0, sEr T S 2)) else (0, sEr T S 1)) else (0, S)
noncomputable def sSg (T : tSm) (S : tSa) (hi : Int) : Int × tSa := if (sTk T (sNm T S 0 hi).2 (-18)).1 = true then (-(sNm T S 0 hi).1, (sTk T (sNm T S 0 hi).2 (-18)).2) else (sNm T S 0 hi)
/-- the stream is a text's -/
def sOk (T : tSm) (n : Int) : Prop := (0 ≤ n ∧ n ≤ 1600) ∧ tSt T.1 n T.2.1 T.2.2.1 T.2.2.2.1 T.2.2.2.2
def cT (H : xH) : tSm := (H.1 2, H.1 4, H.1 5, H.1 6, H.1 3 4)
def cS (H : xH) : tSa := (H.1 3 5, H.1 3 6, H.1 3 7)
theorem cT_fr {ef : ttEf} {H K : xH} (hF : ttFr ef H K) (hn : 210 ≤ (H.2.2.2.1 : Int)) (h2 : ef.2.all (fun q => decide (q.1 ≠ 2)) = true) (h4 : ef.2.all (fun q => decide (q.1 ≠ 4)) = true) (h5 : ef.2.all (fun q => decide (q.1 ≠ 5)) = true) (h6 : ef.2.all (fun q => decide (q.1 ≠ 6)) = true) (h3 : ef.2.all (fun q => decide (q.1 ≠ ttRo 3) || (decide ((4 : Int) < q.2.1) || decide (q.2.2 < (4 : Int)))) = true) : cT K = cT H := by
  have e2 : K.1 2 = H.1 2 := funext fun j => fr_no hF 2 (by omega) rfl h2
  have e4 : K.1 4 = H.1 4 := funext fun j => fr_no hF 4 (by omega) rfl h4
  have e5 : K.1 5 = H.1 5 := funext fun j => fr_no hF 5 (by omega) rfl h5
  have e6 : K.1 6 = H.1 6 := funext fun j => fr_no hF 6 (by omega) rfl h6
  have e3 : K.1 3 4 = H.1 3 4 := fr_cl hF (a := 3) (j := 4) (by omega) h3
  unfold cT
  rw [e2, e4, e5, e6, e3]
theorem sOk_in {T : tSm} {n i : Int} (h : sOk T n) (i0 : 0 ≤ i) (i1 : i < T.2.2.2.2) : (0 ≤ T.2.2.1 i ∧ T.2.2.1 i ≤ T.2.2.2.1 i ∧ T.2.2.2.1 i ≤ n) ∧ (T.2.1 i = 2 → ∀ j : Int, T.2.2.1 i ≤ j → j < T.2.2.2.1 i → 48 ≤ T.1 j ∧ T.1 j ≤ 57) := by
  obtain ⟨⟨n0, n1⟩, m1, h1, h2⟩ := h
  have pv : ∀ k : Nat, (k : Int) < T.2.2.2.2 → 0 ≤ tPv T.2.2.2.1 (k : Int) ∧ 0 ≤ T.2.2.1 (k : Int) ∧ T.2.2.1 (k : Int) ≤ T.2.2.2.1 (k : Int) := by
    intro k
    induction k with
    | zero =>
      intro hk
      have e : tPv T.2.2.2.1 ((0 : Nat) : Int) = 0 := if_pos rfl
      have z := (h1 0 (by decide) (by omega)).1
      rw [show tPv T.2.2.2.1 0 = 0 from if_pos rfl] at z
      rw [e]
      obtain ⟨⟨a1, a2, -⟩, a⟩ := z
      refine ⟨by decide, a1, ?_⟩
      show T.2.2.1 0 ≤ T.2.2.2.1 0
      rcases a with ⟨b1, -, b2⟩ | ⟨-, ⟨b1, -⟩, -⟩ <;> omega
    | succ k ih =>
      intro hk
      obtain ⟨c1, c2, c3⟩ := ih (by omega)
      have e : tPv T.2.2.2.1 ((k + 1 : Nat) : Int) = T.2.2.2.1 (k : Int) := by
        unfold tPv
        rw [if_neg (by omega), show ((k + 1 : Nat) : Int) - 1 = (k : Int) by omega]
      have z := (h1 ((k + 1 : Nat) : Int) (by omega) hk).1
      rw [e] at z
      rw [e]
      obtain ⟨⟨a1, a2, -⟩, a⟩ := z
      refine ⟨by omega, by omega, ?_⟩
      rcases a with ⟨b1, -, b2⟩ | ⟨-, ⟨b1, -⟩, -⟩ <;> omega
  have k := pv i.toNat (by omega)
  rw [Int.toNat_of_nonneg i0] at k
  obtain ⟨-, k2, k3⟩ := k
  have z := (h1 i i0 i1).1
  obtain ⟨⟨a1, a2, -⟩, a⟩ := z
  refine ⟨⟨k2, k3, ?_⟩, fun e2 j ujj0 ujj1 => ?_⟩
  · rcases a with ⟨b1, -, b2⟩ | ⟨-, ⟨-, b1⟩, -⟩ <;> omega
  · rcases a with ⟨b1, b2, -⟩ | ⟨-, -, b, -⟩
    · omega
    · have y := (b (Or.inr e2)).1 j ujj0 ujj1
      rw [e2] at y
      unfold tkd at y
      revert y
      (repeat' split) <;> intro y <;> omega
theorem sVl_0 {x : Int → Int} {f : Int} : ∀ k : Nat, (∀ j : Int, f ≤ j → j < f + (k : Int) → 48 ≤ x j) → 0 ≤ sVl x f k
  | 0, _ => by show (0 : Int) ≤ 0; decide
  | k + 1, h => by
    have a := sVl_0 k (fun j ujj0 ujj1 => h j ujj0 (by omega))
    have b := h (f + (k : Int)) (by omega) (by omega)
    show 0 ≤ 10 * sVl x f k + (x (f + (k : Int)) - 48)
    omega
theorem lx_fail {dd : Nat} {k : Int} (hd : 1 ≤ dd) {H : xH} (hT : ttTI H) (hX : ttXX YY H) (k0 : 1 ≤ k) (k1 : k ≤ 3) {Q : Int → xH → Prop} (hq : ∀ K, ttTI K → ttXX YY K → ttFr (true, [(3, 5, 7)]) H K → cS K = sEr (cT H) (cS H) k → Q 0 K) : xCall dd 75 [(2, 3), (0, k)] H Q := by
  obtain ⟨e, rfl, he⟩ := ttRun0 (n := 0) hd
  have zi := (rd_ty hT).2
  have zf := ttRw hT (a := 5) (κ := 20) (len := 1601) (sz := 1601) (lo := 0) (hi := 1600) (by decide) (by decide) rfl (H.1 3 5) (by omega) (by omega)
  refine xC_of (L := [(2, 3), (0, k)]) (cd := cd_75) rfl rfl rfl ?_
  refine q_al (pc := 0) (i := 0) (x := 3) rfl rfl ?_
  refine q_gf (pc := 1) (m := 7060) (t := 0) (c := 6) rfl (ttKc hT (a := 3) (κ := 7) (len := 0) ⟨rfl, rfl⟩ (by decide) (by decide)).1 rfl rfl ?_
  refine q_if (pc := 2) rfl (fun h2 => ?_) (fun h2 => ?_)
  · replace h2 : (H.1 3 6) ≠ 0 := h2
    refine q_rv (pc := 13) rfl ?_
    exact hq H hT hX (ttFr_rf _ H) (if_neg h2).symm
  · replace h2 : (H.1 3 6) = 0 := h2
    refine q_al (pc := 3) (i := 0) (x := 3) rfl rfl ?_
    refine q_il (pc := 4) (i := 1) (x := k) rfl rfl ?_
    refine q_pf (pc := 5) (m := 7060) (c := 6) rfl (show xPt 0 0 _ _ from (ttKc hT (a := 3) (κ := 7) (len := 0) ⟨rfl, rfl⟩ (by decide) (by decide)).1) rfl ?_
    have xc := ttPut (ttXX_out yyStab (fun _ _ => trivial)) hT hX (ttFr_rf (true, [(3, 5, 7)]) H) (a := 3) (j := 6) (x := k) (by decide) (fun _ _ => show ((-2147483648) : Int) ≤ k ∧ k ≤ 2147483647 from ⟨by omega, by omega⟩) ⟨(3, 5, 7), by simp, ⟨⟨by decide, rfl⟩, by decide, by decide⟩⟩ (ttMay_no (r := 3) rfl (by decide))
    obtain ⟨Y, jY⟩ : ∃ X : xH, X = (xUp H.1 3 6 k, H.2) := ⟨_, rfl⟩
    rw [← jY] at xc ⊢
    have y5 : Y.1 3 5 = H.1 3 5 := by rw [jY]; exact up_j (D := H.1) (a := 3) (j := 6) (x := k) (k := 5) (by decide)
    have y6 : Y.1 3 6 = k := by rw [jY]; exact up_eq (D := H.1) (a := 3) (j := 6) (x := k)
    have yf : Y.1 5 (H.1 3 5) = H.1 5 (H.1 3 5) := by rw [jY]; exact up_na (D := H.1) (a := 3) (j := 6) (x := k) (b := 5) (k := H.1 3 5) (by decide)
    refine q_al (pc := 6) (i := 0) (x := 3) rfl rfl ?_
    refine q_al (pc := 7) (i := 0) (x := 3) rfl rfl ?_
    refine q_gf (pc := 8) (m := 7022) (t := 2) (c := 2) rfl (ttKc xc.1 (a := 3) (κ := 7) (len := 0) ⟨rfl, rfl⟩ (by decide) (by decide)).1 rfl rfl ?_
    rw [show Y.1 3 2 = 5 from ttFx xc.1 (by decide) (by decide) rfl rfl rfl]
    refine q_al (pc := 9) (i := 0) (x := 3) rfl rfl ?_
    refine q_gf (pc := 10) (m := 7050) (t := 0) (c := 5) rfl (ttKc xc.1 (a := 3) (κ := 7) (len := 0) ⟨rfl, rfl⟩ (by decide) (by decide)).1 rfl rfl ?_
    rw [y5]
    refine q_ai (pc := 11) rfl (ttKc xc.1 (a := 5) (κ := 20) (len := 1601) ⟨rfl, rfl⟩ (by decide) (by decide)).1 (by omega) (by rw [(ttKc xc.1 (a := 5) (κ := 20) (len := 1601) ⟨rfl, rfl⟩ (by decide) (by decide)).2]; omega) ?_
    rw [yf]
    refine q_pf (pc := 12) (m := 7070) (c := 7) rfl (show xPt 0 0 _ _ from (ttKc xc.1 (a := 3) (κ := 7) (len := 0) ⟨rfl, rfl⟩ (by decide) (by decide)).1) rfl ?_
    have wc := ttPut (ttXX_out yyStab (fun _ _ => trivial)) xc.1 xc.2.1 xc.2.2 (a := 3) (j := 7) (x := (H.1 5 (H.1 3 5))) (by decide) (fun _ _ => show ((-2147483648) : Int) ≤ (H.1 5 (H.1 3 5)) ∧ (H.1 5 (H.1 3 5)) ≤ 2147483647 from ⟨by omega, by omega⟩) ⟨(3, 5, 7), by simp, ⟨⟨by decide, rfl⟩, by decide, by decide⟩⟩ (ttMay_no (r := 3) rfl (by decide))
    obtain ⟨X2, jX⟩ : ∃ X : xH, X = (xUp Y.1 3 7 (H.1 5 (H.1 3 5)), Y.2) := ⟨_, rfl⟩
    rw [← jX] at wc ⊢
    have x5 : X2.1 3 5 = H.1 3 5 := by rw [jX]; exact (up_j (D := Y.1) (a := 3) (j := 7) (x := (H.1 5 (H.1 3 5))) (k := 5) (by decide)).trans y5
    have x6 : X2.1 3 6 = k := by rw [jX]; exact (up_j (D := Y.1) (a := 3) (j := 7) (x := (H.1 5 (H.1 3 5))) (k := 6) (by decide)).trans y6
    have x7 : X2.1 3 7 = (H.1 5 (H.1 3 5)) := by rw [jX]; exact up_eq (D := Y.1) (a := 3) (j := 7) (x := (H.1 5 (H.1 3 5)))
    refine q_rv (pc := 13) rfl ?_
    refine hq X2 wc.1 wc.2.1 wc.2.2 ?_
    unfold cS sEr
    rw [x5, x6, x7]
    exact (if_pos h2).symm
theorem lx_goOn {dd : Nat} (hd : 1 ≤ dd) {H : xH} (hT : ttTI H) (hX : ttXX YY H) {Q : Int → xH → Prop} (hq : ∀ K, ttTI K → ttXX YY K → ttFr (true, [(3, 5, 7)]) H K → cS K = (sNx (cT H) (cS H).1, (cS H).2) → Q 0 K) : xCall dd 76 [(2, 3)] H Q := by
  obtain ⟨e, rfl, he⟩ := ttRun0 (n := 0) hd
  have zi := (rd_ty hT).2
  have zc := (rd_ty hT).1
  refine xC_of (L := [(2, 3)]) (cd := cd_76) rfl rfl rfl ?_
  refine q_al (pc := 0) (i := 0) (x := 3) rfl rfl ?_
  refine q_gf (pc := 1) (m := 7050) (t := 0) (c := 5) rfl (ttKc hT (a := 3) (κ := 7) (len := 0) ⟨rfl, rfl⟩ (by decide) (by decide)).1 rfl rfl ?_
  refine q_ic (pc := 2) (v := 1) rfl ?_
  refine q_ia (pc := 3) rfl (by omega) (by omega) ?_
  refine q_al (pc := 4) (i := 0) (x := 3) rfl rfl ?_
  refine q_gf (pc := 5) (m := 7040) (t := 0) (c := 4) rfl (ttKc hT (a := 3) (κ := 7) (len := 0) ⟨rfl, rfl⟩ (by decide) (by decide)).1 rfl rfl ?_
  refine q_i2 (pc := 6) rfl (fun h6 => ?_) (fun h6 => ?_)
  · replace h6 : (H.1 3 4) ≤ ((H.1 3 5) + 1) := h6
    refine q_rv (pc := 13) rfl ?_
    refine hq H hT hX (ttFr_rf _ H) ?_
    have e1 : sNx (cT H) (cS H).1 = H.1 3 5 := if_neg (show ¬ (H.1 3 5 + 1 < H.1 3 4) from by omega)
    rw [e1]
    rfl
  · replace h6 : ((H.1 3 5) + 1) < (H.1 3 4) := h6
    refine q_al (pc := 7) (i := 0) (x := 3) rfl rfl ?_
    refine q_d2 (pc := 8) rfl ?_
    refine q_gf (pc := 9) (m := 7050) (t := 0) (c := 5) rfl (ttKc hT (a := 3) (κ := 7) (len := 0) ⟨rfl, rfl⟩ (by decide) (by decide)).1 rfl rfl ?_
    refine q_ic (pc := 10) (v := 1) rfl ?_
    refine q_ia (pc := 11) rfl (by omega) (by omega) ?_
    refine q_pf (pc := 12) (m := 7050) (c := 5) rfl (show xPt 0 0 _ _ from (ttKc hT (a := 3) (κ := 7) (len := 0) ⟨rfl, rfl⟩ (by decide) (by decide)).1) rfl ?_
    have xc := ttPut (ttXX_out yyStab (fun _ _ => trivial)) hT hX (ttFr_rf (true, [(3, 5, 7)]) H) (a := 3) (j := 5) (x := ((H.1 3 5) + 1)) (by decide) (fun _ _ => show (0 : Int) ≤ ((H.1 3 5) + 1) ∧ ((H.1 3 5) + 1) ≤ 1600 from ⟨by omega, by omega⟩) ⟨(3, 5, 7), by simp, ⟨⟨by decide, rfl⟩, by decide, by decide⟩⟩ (ttMay_no (r := 3) rfl (by decide))
    obtain ⟨Y, jY⟩ : ∃ X : xH, X = (xUp H.1 3 5 ((H.1 3 5) + 1), H.2) := ⟨_, rfl⟩
    rw [← jY] at xc ⊢
    have y5 : Y.1 3 5 = ((H.1 3 5) + 1) := by rw [jY]; exact up_eq (D := H.1) (a := 3) (j := 5) (x := ((H.1 3 5) + 1))
    have y6 : Y.1 3 6 = H.1 3 6 := by rw [jY]; exact up_j (D := H.1) (a := 3) (j := 5) (x := ((H.1 3 5) + 1)) (k := 6) (by decide)
    have y7 : Y.1 3 7 = H.1 3 7 := by rw [jY]; exact up_j (D := H.1) (a := 3) (j := 5) (x := ((H.1 3 5) + 1)) (k := 7) (by decide)
    refine q_rv (pc := 13) rfl ?_
    refine hq Y xc.1 xc.2.1 xc.2.2 ?_
    unfold cS sNx cT
    rw [y5, y6, y7, if_pos h6]
theorem lx_isWord {dd : Nat} {s n : Int} (s0 : s ≤ -2) (s1 : -29 < s) (hd : 6 ≤ dd) {H : xH} (hT : ttTI H) (hO : sOk (cT H) n) (hi : H.1 3 5 < H.1 3 4) {Q : Int → xH → Prop} (hy : sWd (cT H) (H.1 3 5) s → Q 1 H) (hn : ¬ sWd (cT H) (H.1 3 5) s → Q 0 H) : xCall dd 77 [(2, 3), (2, s)] H Q := by
  obtain ⟨e, rfl, he⟩ := ttRun0 (n := 5) hd
  have he : 5 ≤ e := he
  have zi := (rd_ty hT).2
  obtain ⟨i, ji⟩ : ∃ i, i = H.1 3 5 := ⟨_, rfl⟩
  rw [← ji] at hy hn hi zi
  obtain ⟨⟨f0, f1, f2⟩, -⟩ := sOk_in hO zi.1 hi
  have f0 : 0 ≤ H.1 5 i := f0
  have f1 : H.1 5 i ≤ H.1 6 i := f1
  have f2 : H.1 6 i ≤ n := f2
  have n1 := hO.1.2
  have hl : H.1 4 i = 1 → H.1 6 i - H.1 5 i = xLg s → ∀ m : Nat, ∀ k : Int, 0 ≤ k → k ≤ 2000 → xLg s - k ≤ (m : Int) → (∀ j : Int, 0 ≤ j → j < k → H.1 2 (H.1 5 i + j) = xCh s j) → xW e cd_77 Q (25, [(2, 3), (2, s), (0, k)], [], H) := by
    intro a1 a2 m
    induction m with
    | zero =>
      intro k k0 k1 hm hk
      refine q_il (pc := 25) (i := 2) (x := k) rfl rfl ?_
      refine q_al (pc := 26) (i := 1) (x := s) rfl rfl ?_
      refine q_tl (pc := 27) rfl rfl (by omega) s0 s1 ?_
      refine q_i2 (pc := 28) rfl (fun h28 => ?_) (fun h28 => ?_)
      · replace h28 : (xLg s) ≤ k := h28
        refine q_ic (pc := 47) (v := 1) rfl ?_
        refine q_rz (pc := 48) rfl (by omega) ?_
        exact hy ⟨a1, a2, fun j ujj0 ujj1 => hk j ujj0 (by omega)⟩
      · replace h28 : k < (xLg s) := h28
        omega
    | succ m ih =>
      intro k k0 k1 hm hk
      refine q_il (pc := 25) (i := 2) (x := k) rfl rfl ?_
      refine q_al (pc := 26) (i := 1) (x := s) rfl rfl ?_
      refine q_tl (pc := 27) rfl rfl (by omega) s0 s1 ?_
      refine q_i2 (pc := 28) rfl (fun h28 => ?_) (fun h28 => ?_)
      · replace h28 : (xLg s) ≤ k := h28
        refine q_ic (pc := 47) (v := 1) rfl ?_
        refine q_rz (pc := 48) rfl (by omega) ?_
        exact hy ⟨a1, a2, fun j ujj0 ujj1 => hk j ujj0 (by omega)⟩
      · replace h28 : k < (xLg s) := h28
        refine q_al (pc := 29) (i := 0) (x := 3) rfl rfl ?_
        refine q_gf (pc := 30) (m := 7002) (t := 2) (c := 0) rfl (ttKc hT (a := 3) (κ := 7) (len := 0) ⟨rfl, rfl⟩ (by decide) (by decide)).1 rfl rfl ?_
        rw [show H.1 3 0 = 2 from ttFx hT (by decide) (by decide) rfl rfl rfl]
        refine q_al (pc := 31) (i := 0) (x := 3) rfl rfl ?_
        refine q_gf (pc := 32) (m := 7022) (t := 2) (c := 2) rfl (ttKc hT (a := 3) (κ := 7) (len := 0) ⟨rfl, rfl⟩ (by decide) (by decide)).1 rfl rfl ?_
        rw [show H.1 3 2 = 5 from ttFx hT (by decide) (by decide) rfl rfl rfl]
        refine q_al (pc := 33) (i := 0) (x := 3) rfl rfl ?_
        refine q_gf (pc := 34) (m := 7050) (t := 0) (c := 5) rfl (ttKc hT (a := 3) (κ := 7) (len := 0) ⟨rfl, rfl⟩ (by decide) (by decide)).1 rfl rfl ?_
        rw [← ji]
        refine q_ai (pc := 35) rfl (ttKc hT (a := 5) (κ := 20) (len := 1601) ⟨rfl, rfl⟩ (by decide) (by decide)).1 (by omega) (by rw [(ttKc hT (a := 5) (κ := 20) (len := 1601) ⟨rfl, rfl⟩ (by decide) (by decide)).2]; omega) ?_
        refine q_il (pc := 36) (i := 2) (x := k) rfl rfl ?_
        refine q_ia (pc := 37) rfl (by omega) (by omega) ?_
        refine q_ab (pc := 38) rfl (ttKc hT (a := 2) (κ := 21) (len := 1600) ⟨rfl, rfl⟩ (by decide) (by decide)).1 (by omega) (by rw [(ttKc hT (a := 2) (κ := 21) (len := 1600) ⟨rfl, rfl⟩ (by decide) (by decide)).2]; omega) ?_
        refine q_al (pc := 39) (i := 1) (x := s) rfl rfl ?_
        refine q_il (pc := 40) (i := 2) (x := k) rfl rfl ?_
        refine q_tc (pc := 41) rfl rfl (by omega) s0 s1 (by omega) (by omega) ?_
        refine q_i2 (pc := 42) rfl (fun h42 => ?_) (fun h42 => ?_)
        · replace h42 : (H.1 2 ((H.1 5 i) + k)) = (xCh s k) := h42
          refine q_ii (pc := 45) (i := 2) (c := 1) (x := k) (L' := [(2, 3), (2, s), (0, (k + 1))]) rfl rfl rfl (by omega) (by omega) rfl ?_
          refine q_go (pc := 46) rfl ?_
          exact ih (k + 1) (by omega) (by omega) (by omega) (fun j ujj0 ujj1 => by
            by_cases z : j = k
            · rw [z]; exact h42
            · exact hk j ujj0 (by omega))
        · replace h42 : (H.1 2 ((H.1 5 i) + k)) ≠ (xCh s k) := h42
          refine q_ic (pc := 43) (v := 0) rfl ?_
          refine q_rz (pc := 44) rfl (by omega) ?_
          exact hn (fun y => h42 (y.2.2 k k0 h28))
  refine xC_of (L := [(2, 3), (2, s), (9, 0)]) (cd := cd_77) rfl rfl rfl ?_
  refine q_al (pc := 0) (i := 0) (x := 3) rfl rfl ?_
  refine q_gf (pc := 1) (m := 7012) (t := 2) (c := 1) rfl (ttKc hT (a := 3) (κ := 7) (len := 0) ⟨rfl, rfl⟩ (by decide) (by decide)).1 rfl rfl ?_
  rw [show H.1 3 1 = 4 from ttFx hT (by decide) (by decide) rfl rfl rfl]
  refine q_al (pc := 2) (i := 0) (x := 3) rfl rfl ?_
  refine q_gf (pc := 3) (m := 7050) (t := 0) (c := 5) rfl (ttKc hT (a := 3) (κ := 7) (len := 0) ⟨rfl, rfl⟩ (by decide) (by decide)).1 rfl rfl ?_
  rw [← ji]
  refine q_ai (pc := 4) rfl (ttKc hT (a := 4) (κ := 20) (len := 1601) ⟨rfl, rfl⟩ (by decide) (by decide)).1 (by omega) (by rw [(ttKc hT (a := 4) (κ := 20) (len := 1601) ⟨rfl, rfl⟩ (by decide) (by decide)).2]; omega) ?_
  refine q_ic (pc := 5) (v := 1) rfl ?_
  refine q_i2 (pc := 6) rfl (fun h6 => ?_) (fun h6 => ?_)
  · replace h6 : (H.1 4 i) ≠ 1 := h6
    refine q_ic (pc := 21) (v := 0) rfl ?_
    refine q_rz (pc := 22) rfl (by omega) ?_
    exact hn (fun y => by obtain ⟨y1, y2, -⟩ := y; have y1 : H.1 4 i = 1 := y1; have y2 : H.1 6 i - H.1 5 i = xLg s := y2; omega)
  · replace h6 : (H.1 4 i) = 1 := h6
    refine q_al (pc := 7) (i := 0) (x := 3) rfl rfl ?_
    refine q_gf (pc := 8) (m := 7032) (t := 2) (c := 3) rfl (ttKc hT (a := 3) (κ := 7) (len := 0) ⟨rfl, rfl⟩ (by decide) (by decide)).1 rfl rfl ?_
    rw [show H.1 3 3 = 6 from ttFx hT (by decide) (by decide) rfl rfl rfl]
    refine q_al (pc := 9) (i := 0) (x := 3) rfl rfl ?_
    refine q_gf (pc := 10) (m := 7050) (t := 0) (c := 5) rfl (ttKc hT (a := 3) (κ := 7) (len := 0) ⟨rfl, rfl⟩ (by decide) (by decide)).1 rfl rfl ?_
    rw [← ji]
    refine q_ai (pc := 11) rfl (ttKc hT (a := 6) (κ := 20) (len := 1601) ⟨rfl, rfl⟩ (by decide) (by decide)).1 (by omega) (by rw [(ttKc hT (a := 6) (κ := 20) (len := 1601) ⟨rfl, rfl⟩ (by decide) (by decide)).2]; omega) ?_
    refine q_al (pc := 12) (i := 0) (x := 3) rfl rfl ?_
    refine q_gf (pc := 13) (m := 7022) (t := 2) (c := 2) rfl (ttKc hT (a := 3) (κ := 7) (len := 0) ⟨rfl, rfl⟩ (by decide) (by decide)).1 rfl rfl ?_
    rw [show H.1 3 2 = 5 from ttFx hT (by decide) (by decide) rfl rfl rfl]
    refine q_al (pc := 14) (i := 0) (x := 3) rfl rfl ?_
    refine q_gf (pc := 15) (m := 7050) (t := 0) (c := 5) rfl (ttKc hT (a := 3) (κ := 7) (len := 0) ⟨rfl, rfl⟩ (by decide) (by decide)).1 rfl rfl ?_
    rw [← ji]
    refine q_ai (pc := 16) rfl (ttKc hT (a := 5) (κ := 20) (len := 1601) ⟨rfl, rfl⟩ (by decide) (by decide)).1 (by omega) (by rw [(ttKc hT (a := 5) (κ := 20) (len := 1601) ⟨rfl, rfl⟩ (by decide) (by decide)).2]; omega) ?_
    refine q_ib (pc := 17) rfl (by omega) (by omega) ?_
    refine q_al (pc := 18) (i := 1) (x := s) rfl rfl ?_
    refine q_tl (pc := 19) rfl rfl (by omega) s0 s1 ?_
    refine q_i2 (pc := 20) rfl (fun h20 => ?_) (fun h20 => ?_)
    · replace h20 : ((H.1 6 i) - (H.1 5 i)) = (xLg s) := h20
      refine q_ic (pc := 23) (v := 0) rfl ?_
      refine q_is (pc := 24) (i := 2) (L' := [(2, 3), (2, s), (0, 0)]) rfl rfl rfl ?_
      exact hl h6 h20 (xLg s).toNat 0 (by decide) (by decide) (by omega) (fun j ujj0 ujj1 => by omega)
    · replace h20 : ((H.1 6 i) - (H.1 5 i)) ≠ (xLg s) := h20
      refine q_ic (pc := 21) (v := 0) rfl ?_
      refine q_rz (pc := 22) rfl (by omega) ?_
      exact hn (fun y => by obtain ⟨y1, y2, -⟩ := y; have y1 : H.1 4 i = 1 := y1; have y2 : H.1 6 i - H.1 5 i = xLg s := y2; omega)
theorem lx_takeIf {dd : Nat} {s : Int} (s0 : s ≤ -2) (s1 : -29 < s) (hd : 7 ≤ dd) {H : xH} (hT : ttTI H) (hX : ttXX YY H) {n : Int} (hO : sOk (cT H) n) (hi : H.1 3 5 < H.1 3 4) {Q : Int → xH → Prop} (hq : ∀ r K, ttTI K → ttXX YY K → ttFr (true, [(3, 5, 7)]) H K → cS K = (sTk (cT H) (cS H) s).2 → (r = 1 ∧ (sTk (cT H) (cS H) s).1 = true ∨ r = 0 ∧ (sTk (cT H) (cS H) s).1 = false) → Q r K) : xCall dd 78 [(2, 3), (2, s)] H Q := by
  obtain ⟨e, rfl, he⟩ := ttRun0 (n := 6) hd
  have he : 6 ≤ e := he
  refine xC_of (L := [(2, 3), (2, s)]) (cd := cd_78) rfl rfl rfl ?_
  refine q_al (pc := 0) (i := 0) (x := 3) rfl rfl ?_
  refine q_gf (pc := 1) (m := 7060) (t := 0) (c := 6) rfl (ttKc hT (a := 3) (κ := 7) (len := 0) ⟨rfl, rfl⟩ (by decide) (by decide)).1 rfl rfl ?_
  refine q_if (pc := 2) rfl (fun h2 => ?_) (fun h2 => ?_)
  · replace h2 : (H.1 3 6) ≠ 0 := h2
    refine q_ic (pc := 7) (v := 0) rfl ?_
    refine q_rz (pc := 8) rfl (by omega) ?_
    have eq : sTk (cT H) (cS H) s = (false, cS H) := if_neg (fun z => h2 z.1)
    rw [eq] at hq
    exact hq 0 H hT hX (ttFr_rf _ H) rfl (Or.inr ⟨rfl, rfl⟩)
  · replace h2 : (H.1 3 6) = 0 := h2
    refine q_al (pc := 3) (i := 0) (x := 3) rfl rfl ?_
    refine q_al (pc := 4) (i := 1) (x := s) rfl rfl ?_
    refine q_iv (pc := 5) (q := 616568) rfl rfl rfl ⟨by omega, (ttKc hT (a := 3) (κ := 7) (len := 0) ⟨rfl, rfl⟩ (by decide) (by decide)).1⟩ ?_
    refine lx_isWord s0 s1 (by omega) hT hO hi (fun jw => ?_) (fun jw => ?_)
    · skip
      refine q_if (pc := 6) rfl (fun h6 => ?_) (fun h6 => ?_)
      · replace h6 : (1 : Int) ≠ 0 := h6
        refine q_al (pc := 9) (i := 0) (x := 3) rfl rfl ?_
        refine q_iv (pc := 10) (q := 608567) rfl rfl rfl (ttKc hT (a := 3) (κ := 7) (len := 0) ⟨rfl, rfl⟩ (by decide) (by decide)).1 ?_
        refine lx_goOn (by omega) hT hX (fun K kT kX kF kS => ?_)
        refine q_ic (pc := 11) (v := 1) rfl ?_
        refine q_rz (pc := 12) rfl (by omega) ?_
        have eq : sTk (cT H) (cS H) s = (true, (sNx (cT H) (cS H).1, (cS H).2)) := if_pos ⟨h2, sW_t jw⟩
        rw [eq] at hq
        exact hq 1 K kT kX kF kS (Or.inl ⟨rfl, rfl⟩)
      · replace h6 : (1 : Int) = 0 := h6
        omega
    · skip
      refine q_if (pc := 6) rfl (fun h6 => ?_) (fun h6 => ?_)
      · replace h6 : (0 : Int) ≠ 0 := h6
        omega
      · replace h6 : (0 : Int) = 0 := h6
        refine q_ic (pc := 7) (v := 0) rfl ?_
        refine q_rz (pc := 8) rfl (by omega) ?_
        have eq : sTk (cT H) (cS H) s = (false, cS H) := if_neg (fun z => absurd ((sW_f jw).symm.trans z.2) (by decide))
        rw [eq] at hq
        exact hq 0 H hT hX (ttFr_rf _ H) rfl (Or.inr ⟨rfl, rfl⟩)
theorem lx_takeWord {dd : Nat} {s : Int} (s0 : s ≤ -2) (s1 : -29 < s) (hd : 7 ≤ dd) {H : xH} (hT : ttTI H) (hX : ttXX YY H) {n : Int} (hO : sOk (cT H) n) (hi : H.1 3 5 < H.1 3 4) {Q : Int → xH → Prop} (hq : ∀ K, ttTI K → ttXX YY K → ttFr (true, [(3, 5, 7)]) H K → cS K = sNd (cT H) (cS H) s → Q 0 K) : xCall dd 79 [(2, 3), (2, s)] H Q := by
  obtain ⟨e, rfl, he⟩ := ttRun0 (n := 6) hd
  have he : 6 ≤ e := he
  refine xC_of (L := [(2, 3), (2, s)]) (cd := cd_79) rfl rfl rfl ?_
  refine q_al (pc := 0) (i := 0) (x := 3) rfl rfl ?_
  refine q_gf (pc := 1) (m := 7060) (t := 0) (c := 6) rfl (ttKc hT (a := 3) (κ := 7) (len := 0) ⟨rfl, rfl⟩ (by decide) (by decide)).1 rfl rfl ?_
  refine q_if (pc := 2) rfl (fun h2 => ?_) (fun h2 => ?_)
  · replace h2 : (H.1 3 6) = 0 := h2
    refine q_al (pc := 4) (i := 0) (x := 3) rfl rfl ?_
    refine q_al (pc := 5) (i := 1) (x := s) rfl rfl ?_
    refine q_iv (pc := 6) (q := 616568) rfl rfl rfl ⟨by omega, (ttKc hT (a := 3) (κ := 7) (len := 0) ⟨rfl, rfl⟩ (by decide) (by decide)).1⟩ ?_
    refine lx_isWord s0 s1 (by omega) hT hO hi (fun jw => ?_) (fun jw => ?_)
    · skip
      refine q_if (pc := 7) rfl (fun h7 => ?_) (fun h7 => ?_)
      · replace h7 : (1 : Int) = 0 := h7
        omega
      · replace h7 : (1 : Int) ≠ 0 := h7
        refine q_al (pc := 8) (i := 0) (x := 3) rfl rfl ?_
        refine q_iv (pc := 9) (q := 608567) rfl rfl rfl (ttKc hT (a := 3) (κ := 7) (len := 0) ⟨rfl, rfl⟩ (by decide) (by decide)).1 ?_
        refine lx_goOn (by omega) hT hX (fun K kT kX kF kS => ?_)
        refine q_go (pc := 10) rfl ?_
        refine q_rv (pc := 14) rfl ?_
        exact hq K kT kX kF (kS.trans ((if_pos h2).trans (if_pos (sW_t jw))).symm)
    · skip
      refine q_if (pc := 7) rfl (fun h7 => ?_) (fun h7 => ?_)
      · replace h7 : (0 : Int) = 0 := h7
        refine q_al (pc := 11) (i := 0) (x := 3) rfl rfl ?_
        refine q_ic (pc := 12) (v := 1) rfl ?_
        refine q_iv (pc := 13) (q := 600571) rfl rfl rfl (ttKc hT (a := 3) (κ := 7) (len := 0) ⟨rfl, rfl⟩ (by decide) (by decide)).1 ?_
        refine lx_fail (by omega) hT hX (by decide) (by decide) (fun K kT kX kF kS => ?_)
        refine q_rv (pc := 14) rfl ?_
        exact hq K kT kX kF (kS.trans ((if_pos h2).trans (if_neg (fun z => absurd ((sW_f jw).symm.trans z) (by decide)))).symm)
      · replace h7 : (0 : Int) ≠ 0 := h7
        omega
  · replace h2 : (H.1 3 6) ≠ 0 := h2
    refine q_rv (pc := 3) rfl ?_
    exact hq H hT hX (ttFr_rf _ H) (if_neg h2).symm
theorem lx_takeNumber {dd : Nat} {l h : Int} (hd : 2 ≤ dd) {H : xH} (hT : ttTI H) (hX : ttXX YY H) {n : Int} (hO : sOk (cT H) n) (hi : H.1 3 5 < H.1 3 4) (h9 : h ≤ 9999) {Q : Int → xH → Prop} (hq : ∀ r K, ttTI K → ttXX YY K → ttFr (true, [(3, 5, 7)]) H K → cS K = (sNm (cT H) (cS H) l h).2 → r = (sNm (cT H) (cS H) l h).1 → Q r K) : xCall dd 80 [(2, 3), (0, l), (0, h)] H Q := by
  obtain ⟨e, rfl, he⟩ := ttRun0 (n := 1) hd
  have he : 1 ≤ e := he
  have zi := (rd_ty hT).2
  obtain ⟨i, ji⟩ : ∃ i, i = H.1 3 5 := ⟨_, rfl⟩
  rw [← ji] at hi zi
  obtain ⟨⟨f0, f1, f2⟩, fd⟩ := sOk_in hO zi.1 hi
  have f0 : 0 ≤ H.1 5 i := f0
  have f1 : H.1 5 i ≤ H.1 6 i := f1
  have f2 : H.1 6 i ≤ n := f2
  have n1 := hO.1.2
  have fd : H.1 4 i = 2 → ∀ j : Int, H.1 5 i ≤ j → j < H.1 6 i → 48 ≤ H.1 2 j ∧ H.1 2 j ≤ 57 := fd
  obtain ⟨v, jv⟩ : ∃ v, v = sVt (cT H) i := ⟨_, rfl⟩
  have ev : v = sVl (H.1 2) (H.1 5 i) (H.1 6 i - H.1 5 i).toNat := jv
  have es : ∀ a b : tSa × Int, True := fun _ _ => trivial
  have h47 : (cS H).2.1 = 0 → H.1 4 i = 2 → xW e cd_80 Q (47, [(2, 3), (0, l), (0, h), (0, (min 1000000 v)), (0, (H.1 6 i))], [], H) := by
    intro g0 g2
    have c0 : (cS H).1 = i := ji.symm
    have d2 : (cT H).2.1 (cS H).1 = 2 := by rw [c0]; exact g2
    have dv : sVt (cT H) (cS H).1 = v := by rw [c0]; exact jv.symm
    refine q_il (pc := 47) (i := 3) (x := (min 1000000 v)) rfl rfl ?_
    refine q_il (pc := 48) (i := 1) (x := l) rfl rfl ?_
    refine q_i2 (pc := 49) rfl (fun h49 => ?_) (fun h49 => ?_)
    · replace h49 : (min 1000000 v) < l := h49
      refine q_al (pc := 53) (i := 0) (x := 3) rfl rfl ?_
      refine q_ic (pc := 54) (v := 2) rfl ?_
      refine q_iv (pc := 55) (q := 600571) rfl rfl rfl (ttKc hT (a := 3) (κ := 7) (len := 0) ⟨rfl, rfl⟩ (by decide) (by decide)).1 ?_
      refine lx_fail (by omega) hT hX (by decide) (by decide) (fun K kT kX kF kS => ?_)
      refine q_ic (pc := 56) (v := 0) rfl ?_
      refine q_ri (pc := 57) rfl ?_
      have eq : sNm (cT H) (cS H) l h = (0, sEr (cT H) (cS H) 2) := by
        unfold sNm
        rw [if_pos g0, if_pos d2, dv, if_neg (by omega)]
      rw [eq] at hq
      exact hq _ K kT kX kF kS rfl
    · replace h49 : l ≤ (min 1000000 v) := h49
      refine q_il (pc := 50) (i := 3) (x := (min 1000000 v)) rfl rfl ?_
      refine q_il (pc := 51) (i := 2) (x := h) rfl rfl ?_
      refine q_i2 (pc := 52) rfl (fun h52 => ?_) (fun h52 => ?_)
      · replace h52 : (min 1000000 v) ≤ h := h52
        refine q_al (pc := 58) (i := 0) (x := 3) rfl rfl ?_
        refine q_iv (pc := 59) (q := 608567) rfl rfl rfl (ttKc hT (a := 3) (κ := 7) (len := 0) ⟨rfl, rfl⟩ (by decide) (by decide)).1 ?_
        refine lx_goOn (by omega) hT hX (fun K kT kX kF kS => ?_)
        refine q_il (pc := 60) (i := 3) (x := (min 1000000 v)) rfl rfl ?_
        refine q_ri (pc := 61) rfl ?_
        have eq : sNm (cT H) (cS H) l h = (v, (sNx (cT H) (cS H).1, (cS H).2)) := by
          unfold sNm
          rw [if_pos g0, if_pos d2, dv, if_pos (by omega)]
        rw [eq] at hq
        exact hq _ K kT kX kF kS (by show min 1000000 v = v; omega)
      · replace h52 : h < (min 1000000 v) := h52
        refine q_al (pc := 53) (i := 0) (x := 3) rfl rfl ?_
        refine q_ic (pc := 54) (v := 2) rfl ?_
        refine q_iv (pc := 55) (q := 600571) rfl rfl rfl (ttKc hT (a := 3) (κ := 7) (len := 0) ⟨rfl, rfl⟩ (by decide) (by decide)).1 ?_
        refine lx_fail (by omega) hT hX (by decide) (by decide) (fun K kT kX kF kS => ?_)
        refine q_ic (pc := 56) (v := 0) rfl ?_
        refine q_ri (pc := 57) rfl ?_
        have eq : sNm (cT H) (cS H) l h = (0, sEr (cT H) (cS H) 2) := by
          unfold sNm
          rw [if_pos g0, if_pos d2, dv, if_neg (by omega)]
        rw [eq] at hq
        exact hq _ K kT kX kF kS rfl
  have hl : (cS H).2.1 = 0 → H.1 4 i = 2 → ∀ m k : Nat, (k : Int) ≤ H.1 6 i - H.1 5 i → H.1 6 i - H.1 5 i - (k : Int) ≤ (m : Int) → xW e cd_80 Q (25, [(2, 3), (0, l), (0, h), (0, (min 1000000 (sVl (H.1 2) (H.1 5 i) k))), (0, (H.1 5 i + (k : Int)))], [], H) := by
    intro g0 g2 m
    induction m with
    | zero =>
      intro k k1 hm
      have u0 := sVl_0 (x := H.1 2) (f := H.1 5 i) k (fun j ujj0 ujj1 => (fd g2 j ujj0 (by omega)).1)
      obtain ⟨u, ju⟩ : ∃ u, u = sVl (H.1 2) (H.1 5 i) k := ⟨_, rfl⟩
      rw [← ju] at u0 ⊢
      obtain ⟨p, jp⟩ : ∃ p, p = H.1 5 i + (k : Int) := ⟨_, rfl⟩
      rw [← jp]
      refine q_il (pc := 25) (i := 4) (x := p) rfl rfl ?_
      refine q_al (pc := 26) (i := 0) (x := 3) rfl rfl ?_
      refine q_gf (pc := 27) (m := 7032) (t := 2) (c := 3) rfl (ttKc hT (a := 3) (κ := 7) (len := 0) ⟨rfl, rfl⟩ (by decide) (by decide)).1 rfl rfl ?_
      rw [show H.1 3 3 = 6 from ttFx hT (by decide) (by decide) rfl rfl rfl]
      refine q_al (pc := 28) (i := 0) (x := 3) rfl rfl ?_
      refine q_gf (pc := 29) (m := 7050) (t := 0) (c := 5) rfl (ttKc hT (a := 3) (κ := 7) (len := 0) ⟨rfl, rfl⟩ (by decide) (by decide)).1 rfl rfl ?_
      rw [← ji]
      refine q_ai (pc := 30) rfl (ttKc hT (a := 6) (κ := 20) (len := 1601) ⟨rfl, rfl⟩ (by decide) (by decide)).1 (by omega) (by rw [(ttKc hT (a := 6) (κ := 20) (len := 1601) ⟨rfl, rfl⟩ (by decide) (by decide)).2]; omega) ?_
      refine q_i2 (pc := 31) rfl (fun h31 => ?_) (fun h31 => ?_)
      · replace h31 : (H.1 6 i) ≤ p := h31
        have ek : (k : Int) = H.1 6 i - H.1 5 i := by omega
        have e1 : u = v := by rw [ju, ev, show (H.1 6 i - H.1 5 i).toNat = k by omega]
        rw [e1, show p = H.1 6 i by omega]
        exact h47 g0 g2
      · replace h31 : p < (H.1 6 i) := h31
        omega
    | succ m ih =>
      intro k k1 hm
      have u0 := sVl_0 (x := H.1 2) (f := H.1 5 i) k (fun j ujj0 ujj1 => (fd g2 j ujj0 (by omega)).1)
      obtain ⟨u, ju⟩ : ∃ u, u = sVl (H.1 2) (H.1 5 i) k := ⟨_, rfl⟩
      rw [← ju] at u0 ⊢
      obtain ⟨p, jp⟩ : ∃ p, p = H.1 5 i + (k : Int) := ⟨_, rfl⟩
      rw [← jp]
      refine q_il (pc := 25) (i := 4) (x := p) rfl rfl ?_
      refine q_al (pc := 26) (i := 0) (x := 3) rfl rfl ?_
      refine q_gf (pc := 27) (m := 7032) (t := 2) (c := 3) rfl (ttKc hT (a := 3) (κ := 7) (len := 0) ⟨rfl, rfl⟩ (by decide) (by decide)).1 rfl rfl ?_
      rw [show H.1 3 3 = 6 from ttFx hT (by decide) (by decide) rfl rfl rfl]
      refine q_al (pc := 28) (i := 0) (x := 3) rfl rfl ?_
      refine q_gf (pc := 29) (m := 7050) (t := 0) (c := 5) rfl (ttKc hT (a := 3) (κ := 7) (len := 0) ⟨rfl, rfl⟩ (by decide) (by decide)).1 rfl rfl ?_
      rw [← ji]
      refine q_ai (pc := 30) rfl (ttKc hT (a := 6) (κ := 20) (len := 1601) ⟨rfl, rfl⟩ (by decide) (by decide)).1 (by omega) (by rw [(ttKc hT (a := 6) (κ := 20) (len := 1601) ⟨rfl, rfl⟩ (by decide) (by decide)).2]; omega) ?_
      refine q_i2 (pc := 31) rfl (fun h31 => ?_) (fun h31 => ?_)
      · replace h31 : (H.1 6 i) ≤ p := h31
        have ek : (k : Int) = H.1 6 i - H.1 5 i := by omega
        have e1 : u = v := by rw [ju, ev, show (H.1 6 i - H.1 5 i).toNat = k by omega]
        rw [e1, show p = H.1 6 i by omega]
        exact h47 g0 g2
      · replace h31 : p < (H.1 6 i) := h31
        refine q_ic (pc := 32) (v := 1000000) rfl ?_
        refine q_il (pc := 33) (i := 3) (x := (min 1000000 u)) rfl rfl ?_
        refine q_ic (pc := 34) (v := 10) rfl ?_
        refine q_im (pc := 35) rfl (by omega) (by omega) ?_
        refine q_al (pc := 36) (i := 0) (x := 3) rfl rfl ?_
        refine q_gf (pc := 37) (m := 7002) (t := 2) (c := 0) rfl (ttKc hT (a := 3) (κ := 7) (len := 0) ⟨rfl, rfl⟩ (by decide) (by decide)).1 rfl rfl ?_
        rw [show H.1 3 0 = 2 from ttFx hT (by decide) (by decide) rfl rfl rfl]
        refine q_il (pc := 38) (i := 4) (x := p) rfl rfl ?_
        have dp := fd g2 p (by omega) (by omega)
        refine q_ab (pc := 39) rfl (ttKc hT (a := 2) (κ := 21) (len := 1600) ⟨rfl, rfl⟩ (by decide) (by decide)).1 (by omega) (by rw [(ttKc hT (a := 2) (κ := 21) (len := 1600) ⟨rfl, rfl⟩ (by decide) (by decide)).2]; omega) ?_
        refine q_ia (pc := 40) rfl (by omega) (by omega) ?_
        refine q_ic (pc := 41) (v := 48) rfl ?_
        refine q_ib (pc := 42) rfl (by omega) (by omega) ?_
        refine q_mn (pc := 43) rfl rfl (by omega) ?_
        refine q_is (pc := 44) (i := 3) (L' := [(2, 3), (0, l), (0, h), (0, (min 1000000 ((((min 1000000 u) * 10) + (H.1 2 p)) - 48))), (0, p)]) rfl rfl rfl ?_
        refine q_ii (pc := 45) (i := 4) (c := 1) (x := p) (L' := [(2, 3), (0, l), (0, h), (0, (min 1000000 ((((min 1000000 u) * 10) + (H.1 2 p)) - 48))), (0, (p + 1))]) rfl rfl rfl (by omega) (by omega) rfl ?_
        refine q_go (pc := 46) rfl ?_
        have z := ih (k + 1) (by omega) (by omega)
        have e2 : sVl (H.1 2) (H.1 5 i) (k + 1) = 10 * u + (H.1 2 p - 48) := by show 10 * sVl (H.1 2) (H.1 5 i) k + (H.1 2 (H.1 5 i + (k : Int)) - 48) = _; rw [← ju, ← jp]
        rw [e2, show min 1000000 (10 * u + (H.1 2 p - 48)) = (min 1000000 ((((min 1000000 u) * 10) + (H.1 2 p)) - 48)) by omega, show H.1 5 i + ((k + 1 : Nat) : Int) = p + 1 by omega] at z
        exact z
  refine xC_of (L := [(2, 3), (0, l), (0, h), (9, 0), (9, 0)]) (cd := cd_80) rfl rfl rfl ?_
  refine q_al (pc := 0) (i := 0) (x := 3) rfl rfl ?_
  refine q_gf (pc := 1) (m := 7060) (t := 0) (c := 6) rfl (ttKc hT (a := 3) (κ := 7) (len := 0) ⟨rfl, rfl⟩ (by decide) (by decide)).1 rfl rfl ?_
  refine q_if (pc := 2) rfl (fun h2 => ?_) (fun h2 => ?_)
  · replace h2 : (H.1 3 6) = 0 := h2
    refine q_al (pc := 5) (i := 0) (x := 3) rfl rfl ?_
    refine q_gf (pc := 6) (m := 7012) (t := 2) (c := 1) rfl (ttKc hT (a := 3) (κ := 7) (len := 0) ⟨rfl, rfl⟩ (by decide) (by decide)).1 rfl rfl ?_
    rw [show H.1 3 1 = 4 from ttFx hT (by decide) (by decide) rfl rfl rfl]
    refine q_al (pc := 7) (i := 0) (x := 3) rfl rfl ?_
    refine q_gf (pc := 8) (m := 7050) (t := 0) (c := 5) rfl (ttKc hT (a := 3) (κ := 7) (len := 0) ⟨rfl, rfl⟩ (by decide) (by decide)).1 rfl rfl ?_
    rw [← ji]
    refine q_ai (pc := 9) rfl (ttKc hT (a := 4) (κ := 20) (len := 1601) ⟨rfl, rfl⟩ (by decide) (by decide)).1 (by omega) (by rw [(ttKc hT (a := 4) (κ := 20) (len := 1601) ⟨rfl, rfl⟩ (by decide) (by decide)).2]; omega) ?_
    refine q_ic (pc := 10) (v := 2) rfl ?_
    refine q_i2 (pc := 11) rfl (fun h11 => ?_) (fun h11 => ?_)
    · replace h11 : (H.1 4 i) = 2 := h11
      refine q_ic (pc := 17) (v := 0) rfl ?_
      refine q_is (pc := 18) (i := 3) (L' := [(2, 3), (0, l), (0, h), (0, 0), (9, 0)]) rfl rfl rfl ?_
      refine q_al (pc := 19) (i := 0) (x := 3) rfl rfl ?_
      refine q_gf (pc := 20) (m := 7022) (t := 2) (c := 2) rfl (ttKc hT (a := 3) (κ := 7) (len := 0) ⟨rfl, rfl⟩ (by decide) (by decide)).1 rfl rfl ?_
      rw [show H.1 3 2 = 5 from ttFx hT (by decide) (by decide) rfl rfl rfl]
      refine q_al (pc := 21) (i := 0) (x := 3) rfl rfl ?_
      refine q_gf (pc := 22) (m := 7050) (t := 0) (c := 5) rfl (ttKc hT (a := 3) (κ := 7) (len := 0) ⟨rfl, rfl⟩ (by decide) (by decide)).1 rfl rfl ?_
      rw [← ji]
      refine q_ai (pc := 23) rfl (ttKc hT (a := 5) (κ := 20) (len := 1601) ⟨rfl, rfl⟩ (by decide) (by decide)).1 (by omega) (by rw [(ttKc hT (a := 5) (κ := 20) (len := 1601) ⟨rfl, rfl⟩ (by decide) (by decide)).2]; omega) ?_
      refine q_is (pc := 24) (i := 4) (L' := [(2, 3), (0, l), (0, h), (0, 0), (0, (H.1 5 i))]) rfl rfl rfl ?_
      have z := hl h2 h11 (H.1 6 i - H.1 5 i).toNat 0 (by omega) (by omega)
      rw [show H.1 5 i + ((0 : Nat) : Int) = H.1 5 i by omega] at z
      exact z
    · replace h11 : (H.1 4 i) ≠ 2 := h11
      refine q_al (pc := 12) (i := 0) (x := 3) rfl rfl ?_
      refine q_ic (pc := 13) (v := 1) rfl ?_
      refine q_iv (pc := 14) (q := 600571) rfl rfl rfl (ttKc hT (a := 3) (κ := 7) (len := 0) ⟨rfl, rfl⟩ (by decide) (by decide)).1 ?_
      refine lx_fail (by omega) hT hX (by decide) (by decide) (fun K kT kX kF kS => ?_)
      refine q_ic (pc := 15) (v := 0) rfl ?_
      refine q_ri (pc := 16) rfl ?_
      have eq : sNm (cT H) (cS H) l h = (0, sEr (cT H) (cS H) 1) := (if_pos h2).trans (if_neg (by show ¬ (H.1 4 (H.1 3 5) = 2); rw [← ji]; exact h11))
      rw [eq] at hq
      exact hq 0 K kT kX kF kS rfl
  · replace h2 : (H.1 3 6) ≠ 0 := h2
    refine q_ic (pc := 3) (v := 0) rfl ?_
    refine q_ri (pc := 4) rfl ?_
    have eq : sNm (cT H) (cS H) l h = (0, cS H) := if_neg h2
    rw [eq] at hq
    exact hq 0 H hT hX (ttFr_rf _ H) rfl rfl
