/-! the second reader's leaves, by the stream of tokens -/
/-- its token is the stream's i-th -/
def rR (T : tSm) (n : Int) (H : xH) (i : Int) : Prop := (0 ≤ i ∧ i < T.2.2.2.2) ∧ H.1 183 7 = n ∧ (∀ j : Int, 0 ≤ j → j < n → H.1 187 j = T.1 j) ∧ (H.1 183 10 = T.2.1 i ∧ H.1 183 9 = T.2.2.1 i ∧ H.1 183 8 = T.2.2.2.1 i) ∧ (T.2.1 i = 2 → H.1 183 11 = min 99999 (sVt T i))
def rS (H : xH) (i : Int) : tSa := (i, H.1 183 12, H.1 183 13)
theorem rR_fr {ef : ttEf} {T : tSm} {n i : Int} {H K : xH} (hF : ttFr ef H K) (hn : 210 ≤ (H.2.2.2.1 : Int)) (h7 : ef.2.all (fun q => decide (q.1 ≠ 187)) = true) (h3 : ef.2.all (fun q => decide (q.1 ≠ 183) || (decide ((11 : Int) < q.2.1) || decide (q.2.2 < (7 : Int)))) = true) (y : rR T n H i) : rR T n K i := by
  have g : ∀ j : Int, 7 ≤ j → j ≤ 11 → K.1 183 j = H.1 183 j := fun j ujj0 ujj1 => hF.2.2.2 183 j (by omega) (fun q hq hh => by
    have k := List.all_eq_true.mp h3 q hq
    obtain ⟨⟨-, c2⟩, c3, c4⟩ := hh
    have c2 : (183 : Nat) = q.1 := c2
    rcases Bool.or_eq_true _ _ ▸ k with k | k
    · exact of_decide_eq_true k c2.symm
    rcases Bool.or_eq_true _ _ ▸ k with k | k
    · have := of_decide_eq_true k
      omega
    · have := of_decide_eq_true k
      omega)
  obtain ⟨y1, y2, y3, ⟨y4, y5, y6⟩, y7⟩ := y
  refine ⟨y1, (g 7 (by decide) (by decide)).trans y2, fun j ujj0 ujj1 => (fr_no hF 187 (by omega) rfl h7).trans (y3 j ujj0 ujj1), ⟨(g 10 (by decide) (by decide)).trans y4, (g 9 (by decide) (by decide)).trans y5, (g 8 (by decide) (by decide)).trans y6⟩, fun w => (g 11 (by decide) (by decide)).trans (y7 w)⟩
theorem sVl_c {x x' : Int → Int} {f : Int} : ∀ k : Nat, (∀ j : Int, f ≤ j → j < f + (k : Int) → x j = x' j) → sVl x f k = sVl x' f k
  | 0, _ => rfl
  | k + 1, h => by
    show 10 * sVl x f k + (x (f + (k : Int)) - 48) = 10 * sVl x' f k + (x' (f + (k : Int)) - 48)
    rw [sVl_c k (fun j ujj0 ujj1 => h j ujj0 (by omega)), h (f + (k : Int)) (by omega) (by omega)]
theorem tTk_c {x x' : Int → Int} {n p k f b : Int} (p0 : 0 ≤ p) (h : ∀ j : Int, 0 ≤ j → j < n → x j = x' j) (y : tTk x n p k f b) : tTk x' n p k f b := by
  obtain ⟨⟨a1, a2, a3⟩, a⟩ := y
  refine ⟨⟨a1, a2, fun j ujj0 ujj1 => by rw [← h j (by omega) (by omega)]; exact a3 j ujj0 ujj1⟩, ?_⟩
  rcases a with a | ⟨⟨b1, b2, b3⟩, ⟨b4, b5⟩, b6, b7⟩
  · exact Or.inl a
  · refine Or.inr ⟨⟨b1, by rw [← h f (by omega) b1]; exact b2, by rw [← h f (by omega) b1]; exact b3⟩, ⟨b4, b5⟩, fun w => ⟨fun j ujj0 ujj1 => by rw [← h j (by omega) (by omega)]; exact (b6 w).1 j ujj0 ujj1, fun w2 => by rw [← h b (by omega) w2]; exact (b6 w).2 w2⟩, b7⟩
theorem rR_adv {T : tSm} {n i : Int} {H K : xH} (hO : sOk T n) (y : rR T n H i) (hF : ttFr (true, [(183, 8, 11)]) H K) (hn : 210 ≤ (H.2.2.2.1 : Int)) (t : tTk (H.1 187) n (T.2.2.2.1 i) (K.1 183 10) (K.1 183 9) (K.1 183 8)) (v : K.1 183 10 = 2 → K.1 183 11 = min 99999 (sVl (H.1 187) (K.1 183 9) (K.1 183 8 - K.1 183 9).toNat)) : rR T n K (sNx T i) := by
  obtain ⟨⟨i0, i1⟩, y2, y3, ⟨y4, y5, y6⟩, y7⟩ := y
  obtain ⟨⟨f0, f1, f2⟩, -⟩ := sOk_in hO i0 i1
  have t := tTk_c (by omega) y3 t
  have k7 : K.1 183 7 = n := (fr_cl hF (a := 183) (j := 7) (by omega) (by decide)).trans y2
  have k3 : ∀ j : Int, 0 ≤ j → j < n → K.1 187 j = T.1 j := fun j ujj0 ujj1 => (fr_no hF 187 (by omega) rfl (by decide)).trans (y3 j ujj0 ujj1)
  obtain ⟨hb, m1, h1, h2⟩ := hO
  have key : ∀ k : Int, 0 ≤ k → k < T.2.2.2.2 → tTk T.1 n (T.2.2.2.1 i) (T.2.1 k) (T.2.2.1 k) (T.2.2.2.1 k) → rR T n K k := fun k k0 k1 w => by
    obtain ⟨e1, e2, e3⟩ := tTk_u t w
    refine ⟨⟨k0, k1⟩, k7, k3, ⟨e1, e2, e3⟩, fun z => ?_⟩
    rw [v (e1.trans z), e2, e3]
    unfold sVt
    obtain ⟨⟨g0, g1, g2⟩, -⟩ := sOk_in ⟨hb, m1, h1, h2⟩ k0 k1
    rw [sVl_c (x' := T.1) (T.2.2.2.1 k - T.2.2.1 k).toNat (fun j ujj0 ujj1 => y3 j (by omega) (by omega))]
  unfold sNx
  by_cases z : i + 1 < T.2.2.2.2
  · rw [if_pos z]
    refine key (i + 1) (by omega) z ?_
    have w := (h1 (i + 1) (by omega) z).1
    rw [show tPv T.2.2.2.1 (i + 1) = T.2.2.2.1 i from by unfold tPv; rw [if_neg (by omega), show i + 1 - 1 = i by omega]] at w
    exact w
  · rw [if_neg z]
    have e : i = T.2.2.2.2 - 1 := by omega
    have k0 : T.2.1 i = 0 := by rw [e]; exact h2
    refine key i i0 i1 ?_
    have w := (h1 i i0 i1).1
    obtain ⟨⟨a1, a2, a3⟩, a⟩ := w
    rcases a with ⟨a4, a5, a6⟩ | ⟨⟨-, -, a6⟩, -⟩
    · refine ⟨⟨by omega, by omega, fun j ujj0 ujj1 => by omega⟩, Or.inl ⟨a4, a5, a6⟩⟩
    · have := tkd_in (T.1 (T.2.2.1 i))
      omega
theorem rW {T : tSm} {n i s : Int} {H : xH} (hO : sOk T n) (y : rR T n H i) : yyIs H.1 s ↔ H.1 183 12 = 0 ∧ sWd T i s := by
  obtain ⟨⟨i0, i1⟩, y2, y3, ⟨y4, y5, y6⟩, y7⟩ := y
  obtain ⟨⟨f0, f1, f2⟩, -⟩ := sOk_in hO i0 i1
  unfold yyIs sWd
  rw [y4, y5, y6]
  constructor
  · rintro ⟨a1, a2, a3, a4⟩
    exact ⟨a1, a2, a3, fun j ujj0 ujj1 => by rw [← y3 (T.2.2.1 i + j) (by omega) (by omega)]; exact a4 j ujj0 ujj1⟩
  · rintro ⟨a1, a2, a3, a4⟩
    exact ⟨a1, a2, a3, fun j ujj0 ujj1 => by rw [y3 (T.2.2.1 i + j) (by omega) (by omega)]; exact a4 j ujj0 ujj1⟩
theorem ly_errs {dd : Nat} {k : Int} (hd : 2 ≤ dd) {H : xH} (hT : ttTI H) {T : tSm} {n i : Int} (hO : sOk T n) (hR : rR T n H i) (k1 : 1 ≤ k) (k3 : k ≤ 3) {Q : Int → xH → Prop} (hq : ∀ K, ttTI K → ttFr (true, [(183, 8, 13)]) H K → rR T n K i → rS K i = sEr T (rS H i) k → Q 0 K) : xCall dd 215 [(2, 183), (0, k)] H Q := by
  obtain ⟨e, rfl, he⟩ := ttRun0 (n := 1) hd
  have he : 1 ≤ e := he
  have hn : 210 ≤ (H.2.2.2.1 : Int) := by have := hT.1; omega
  refine xC_of (L := [(2, 183), (0, k)]) (cd := cd_215) rfl rfl rfl ?_
  refine q_al (pc := 0) (i := 0) (x := 183) rfl rfl ?_
  refine q_iv (pc := 1) (q := 1712964) rfl rfl rfl (ttKc hT (a := 183) (κ := 12) (len := 0) ⟨rfl, rfl⟩ (by decide) (by decide)).1 ?_
  refine lf_good (by omega) hT (fun jg1 => ?_) (fun jg1 => ?_)
  · skip
    refine q_if (pc := 2) rfl (fun h2 => ?_) (fun h2 => ?_)
    · replace h2 : (1 : Int) ≠ 0 := h2
      refine q_al (pc := 4) (i := 0) (x := 183) rfl rfl ?_
      refine q_il (pc := 5) (i := 1) (x := k) rfl rfl ?_
      refine q_pf (pc := 6) (m := 12120) (c := 12) rfl (show xPt 0 0 _ _ from (ttKc hT (a := 183) (κ := 12) (len := 0) ⟨rfl, rfl⟩ (by decide) (by decide)).1) rfl ?_
      have z12c := ttPuT hT (ttFr_rf (true, [(183, 12, 13)]) H) (a := 183) (j := 12) (x := k) (by decide) (fun _ _ => show (-2147483648 : Int) ≤ k ∧ k ≤ 2147483647 from ⟨by omega, by omega⟩) ⟨(183, 12, 13), by simp, ⟨⟨by decide, rfl⟩, by decide, by decide⟩⟩
      obtain ⟨Y, jY⟩ : ∃ X : xH, X = (xUp H.1 183 12 k, H.2) := ⟨_, rfl⟩
      rw [← jY] at z12c ⊢
      have y12 : Y.1 183 12 = k := by rw [jY]; exact up_eq (D := H.1) (a := 183) (j := 12) (x := k)
      have y9 : Y.1 183 9 = T.2.2.1 i := by rw [jY]; exact (up_j (D := H.1) (a := 183) (j := 12) (x := k) (k := 9) (by decide)).trans hR.2.2.2.1.2.1
      have yi := (i183 hT).2.1
      rw [hR.2.2.2.1.2.1] at yi
      refine q_al (pc := 7) (i := 0) (x := 183) rfl rfl ?_
      refine q_al (pc := 8) (i := 0) (x := 183) rfl rfl ?_
      refine q_gf (pc := 9) (m := 12090) (t := 0) (c := 9) rfl (ttKc z12c.1 (a := 183) (κ := 12) (len := 0) ⟨rfl, rfl⟩ (by decide) (by decide)).1 rfl rfl ?_
      rw [y9]
      refine q_pf (pc := 10) (m := 12130) (c := 13) rfl (show xPt 0 0 _ _ from (ttKc z12c.1 (a := 183) (κ := 12) (len := 0) ⟨rfl, rfl⟩ (by decide) (by decide)).1) rfl ?_
      have z13c := ttPuT z12c.1 z12c.2 (a := 183) (j := 13) (x := (T.2.2.1 i)) (by decide) (fun _ _ => show (-2147483648 : Int) ≤ (T.2.2.1 i) ∧ (T.2.2.1 i) ≤ 2147483647 from ⟨by omega, by omega⟩) ⟨(183, 12, 13), by simp, ⟨⟨by decide, rfl⟩, by decide, by decide⟩⟩
      obtain ⟨X2, jX⟩ : ∃ X : xH, X = (xUp Y.1 183 13 (T.2.2.1 i), Y.2) := ⟨_, rfl⟩
      rw [← jX] at z13c ⊢
      have x12 : X2.1 183 12 = k := by rw [jX]; exact (up_j (D := Y.1) (a := 183) (j := 13) (x := (T.2.2.1 i)) (k := 12) (by decide)).trans y12
      have x13 : X2.1 183 13 = (T.2.2.1 i) := by rw [jX]; exact up_eq (D := Y.1) (a := 183) (j := 13) (x := (T.2.2.1 i))
      refine q_rv (pc := 11) rfl ?_
      refine hq X2 z13c.1 (ttFr_tr (ttFr_rf _ H) z13c.2 (fun _ => rfl) (by decide)) (rR_fr z13c.2 hn (by decide) (by decide) hR) ?_
      unfold rS sEr
      rw [x12, x13]
      exact (if_pos jg1).symm
    · replace h2 : (1 : Int) = 0 := h2
      omega
  · skip
    refine q_if (pc := 2) rfl (fun h2 => ?_) (fun h2 => ?_)
    · replace h2 : (0 : Int) ≠ 0 := h2
      omega
    · replace h2 : (0 : Int) = 0 := h2
      refine q_rv (pc := 3) rfl ?_
      exact hq H hT (ttFr_rf _ H) hR (if_neg jg1).symm
theorem ly_adv {dd : Nat} (hd : 2 ≤ dd) {H : xH} (hT : ttTI H) {T : tSm} {n i : Int} (hO : sOk T n) (hR : rR T n H i) {Q : Int → xH → Prop} (hq : ∀ K, ttTI K → ttFr (true, [(183, 8, 13)]) H K → rR T n K (sNx T i) → rS K (sNx T i) = (sNx T i, (rS H i).2) → Q 0 K) : xCall dd 213 [(2, 183)] H Q := by
  have hn : 210 ≤ (H.2.2.2.1 : Int) := by have := hT.1; omega
  obtain ⟨⟨f0, f1, f2⟩, -⟩ := sOk_in hO hR.1.1 hR.1.2
  refine lx_adv hd hT hR.2.1 hR.2.2.2.1.2.2 (by omega) f2 (fun K kT kF kt kv => hq K kT (ttFr_tr (ttFr_rf _ H) kF (fun _ => rfl) (by decide)) (rR_adv hO hR kF hn kt kv) ?_)
  unfold rS
  rw [fr_cl kF (a := 183) (j := 12) (by omega) (by decide), fr_cl kF (a := 183) (j := 13) (by omega) (by decide)]
theorem ly_takes {dd : Nat} {s : Int} (s0 : s ≤ -2) (s1 : -29 < s) (hd : 7 ≤ dd) {H : xH} (hT : ttTI H) {T : tSm} {n i : Int} (hO : sOk T n) (hR : rR T n H i) {Q : Int → xH → Prop} (hq : ∀ r K, ttTI K → ttFr (true, [(183, 8, 13)]) H K → rR T n K (sTk T (rS H i) s).2.1 → rS K (sTk T (rS H i) s).2.1 = (sTk T (rS H i) s).2 → (r = 1 ∧ (sTk T (rS H i) s).1 = true ∨ r = 0 ∧ (sTk T (rS H i) s).1 = false) → Q r K) : xCall dd 217 [(2, 183), (2, s)] H Q := by
  obtain ⟨e, rfl, he⟩ := ttRun0 (n := 6) hd
  have he : 6 ≤ e := he
  have hn : 210 ≤ (H.2.2.2.1 : Int) := by have := hT.1; omega
  refine xC_of (L := [(2, 183), (2, s), (9, 0)]) (cd := cd_217) rfl rfl rfl ?_
  refine q_al (pc := 0) (i := 0) (x := 183) rfl rfl ?_
  refine q_al (pc := 1) (i := 1) (x := s) rfl rfl ?_
  refine q_iv (pc := 2) (q := 1728968) rfl rfl rfl ⟨by omega, (ttKc hT (a := 183) (κ := 12) (len := 0) ⟨rfl, rfl⟩ (by decide) (by decide)).1⟩ ?_
  refine lf_is s0 s1 (by omega) hT (fun ji => ?_) (fun ji => ?_)
  · rw [rW hO hR] at ji
    refine q_is (pc := 3) (i := 2) (L' := [(2, 183), (2, s), (0, 1)]) rfl rfl rfl ?_
    refine q_il (pc := 4) (i := 2) (x := 1) rfl rfl ?_
    refine q_if (pc := 5) rfl (fun h5 => ?_) (fun h5 => ?_)
    · replace h5 : (1 : Int) = 0 := h5
      omega
    · replace h5 : (1 : Int) ≠ 0 := h5
      refine q_al (pc := 6) (i := 0) (x := 183) rfl rfl ?_
      refine q_iv (pc := 7) (q := 1704967) rfl rfl rfl (ttKc hT (a := 183) (κ := 12) (len := 0) ⟨rfl, rfl⟩ (by decide) (by decide)).1 ?_
      refine ly_adv (by omega) hT hO hR (fun K kT kF kR kS => ?_)
      refine q_il (pc := 8) (i := 2) (x := 1) rfl rfl ?_
      refine q_rz (pc := 9) rfl (by omega) ?_
      have eq : sTk T (rS H i) s = (true, (sNx T i, (rS H i).2)) := if_pos ⟨ji.1, sW_t ji.2⟩
      rw [eq] at hq
      exact hq 1 K kT kF kR kS (Or.inl ⟨rfl, rfl⟩)
  · rw [rW hO hR] at ji
    refine q_is (pc := 3) (i := 2) (L' := [(2, 183), (2, s), (0, 0)]) rfl rfl rfl ?_
    refine q_il (pc := 4) (i := 2) (x := 0) rfl rfl ?_
    refine q_if (pc := 5) rfl (fun h5 => ?_) (fun h5 => ?_)
    · replace h5 : (0 : Int) = 0 := h5
      refine q_il (pc := 8) (i := 2) (x := 0) rfl rfl ?_
      refine q_rz (pc := 9) rfl (by omega) ?_
      have eq : sTk T (rS H i) s = (false, rS H i) := if_neg (fun z => ji ⟨z.1, Classical.byContradiction (fun w => by have y := z.2; rw [sW_f (show ¬ sWd T (rS H i).1 s from w)] at y; exact absurd y (by decide))⟩)
      rw [eq] at hq
      exact hq 0 H hT (ttFr_rf _ H) hR rfl (Or.inr ⟨rfl, rfl⟩)
    · replace h5 : (0 : Int) ≠ 0 := h5
      omega
theorem ly_needs {dd : Nat} {s : Int} (s0 : s ≤ -2) (s1 : -29 < s) (hd : 8 ≤ dd) {H : xH} (hT : ttTI H) {T : tSm} {n i : Int} (hO : sOk T n) (hR : rR T n H i) {Q : Int → xH → Prop} (hq : ∀ K, ttTI K → ttFr (true, [(183, 8, 13)]) H K → rR T n K (sNd T (rS H i) s).1 → rS K (sNd T (rS H i) s).1 = sNd T (rS H i) s → Q 0 K) : xCall dd 218 [(2, 183), (2, s)] H Q := by
  obtain ⟨e, rfl, he⟩ := ttRun0 (n := 7) hd
  have he : 7 ≤ e := he
  have hn : 210 ≤ (H.2.2.2.1 : Int) := by have := hT.1; omega
  refine xC_of (L := [(2, 183), (2, s)]) (cd := cd_218) rfl rfl rfl ?_
  refine q_al (pc := 0) (i := 0) (x := 183) rfl rfl ?_
  refine q_al (pc := 1) (i := 1) (x := s) rfl rfl ?_
  refine q_iv (pc := 2) (q := 1736968) rfl rfl rfl ⟨by omega, (ttKc hT (a := 183) (κ := 12) (len := 0) ⟨rfl, rfl⟩ (by decide) (by decide)).1⟩ ?_
  refine ly_takes s0 s1 (by omega) hT hO hR (fun r K kT kF kR kS kr => ?_)
  rcases kr with ⟨rfl, kr⟩ | ⟨rfl, kr⟩
  · skip
    refine q_if (pc := 3) rfl (fun h3 => ?_) (fun h3 => ?_)
    · replace h3 : (1 : Int) ≠ 0 := h3
      refine q_rv (pc := 7) rfl ?_
      have eq : sNd T (rS H i) s = (sTk T (rS H i) s).2 := by
        unfold sTk at kr ⊢
        unfold sNd
        split at kr
        · rename_i w; rw [if_pos w.1, if_pos w.2, if_pos w]
        · simp at kr
      rw [eq] at hq
      exact hq K kT kF kR kS
    · replace h3 : (1 : Int) = 0 := h3
      omega
  · skip
    refine q_if (pc := 3) rfl (fun h3 => ?_) (fun h3 => ?_)
    · replace h3 : (0 : Int) ≠ 0 := h3
      omega
    · replace h3 : (0 : Int) = 0 := h3
      refine q_al (pc := 4) (i := 0) (x := 183) rfl rfl ?_
      refine q_ic (pc := 5) (v := 1) rfl ?_
      have eq : sTk T (rS H i) s = (false, rS H i) := by
        unfold sTk at kr ⊢
        split at kr
        · simp at kr
        · rename_i w; exact if_neg w
      rw [eq] at kR kS
      refine q_iv (pc := 6) (q := 1720971) rfl rfl rfl (ttKc kT (a := 183) (κ := 12) (len := 0) ⟨rfl, rfl⟩ (by decide) (by decide)).1 ?_
      refine ly_errs (by omega) kT hO kR (by decide) (by decide) (fun J jT jF jR jS => ?_)
      refine q_rv (pc := 7) rfl ?_
      have eq2 : sNd T (rS H i) s = sEr T (rS H i) 1 := by
        unfold sTk at kr
        unfold sNd
        split at kr
        · simp at kr
        · rename_i w
          by_cases w1 : (rS H i).2.1 = 0
          · rw [if_pos w1, if_neg (fun w2 => w ⟨w1, w2⟩)]
          · rw [if_neg w1]; exact (if_neg w1).symm
      have e1 : (sEr T (rS H i) 1).1 = i := by unfold sEr; split <;> rfl
      rw [eq2, e1] at hq
      have kS : rS K i = rS H i := kS
      have jS : rS J i = sEr T (rS K i) 1 := jS
      rw [kS] at jS
      exact hq J jT (ttFr_tr kF jF (fun _ => rfl) (by decide)) jR jS
theorem ly_number {dd : Nat} {l h : Int} (hd : 3 ≤ dd) {H : xH} (hT : ttTI H) {T : tSm} {n i : Int} (hO : sOk T n) (hR : rR T n H i) (h9 : h ≤ 9999) {Q : Int → xH → Prop} (hq : ∀ r K, ttTI K → ttFr (true, [(183, 8, 13)]) H K → rR T n K (sNm T (rS H i) l h).2.1 → rS K (sNm T (rS H i) l h).2.1 = (sNm T (rS H i) l h).2 → r = (sNm T (rS H i) l h).1 → Q r K) : xCall dd 219 [(2, 183), (0, l), (0, h)] H Q := by
  obtain ⟨e, rfl, he⟩ := ttRun0 (n := 2) hd
  have he : 2 ≤ e := he
  have hn : 210 ≤ (H.2.2.2.1 : Int) := by have := hT.1; omega
  have e0 : (rS H i).2.1 = H.1 183 12 := rfl
  have ec : ∀ k : Int, (sEr T (rS H i) k).1 = i := fun k => by unfold sEr; split <;> rfl
  have bad : ∀ k : Int, H.1 183 12 = 0 → 1 ≤ k → sNm T (rS H i) l h = (0, sEr T (rS H i) k) → ∀ K : xH, ttTI K → ttFr (true, [(183, 8, 13)]) H K → rR T n K i → rS K i = sEr T (rS H i) k → Q 0 K := fun k g0 k1 eq K kT kF kR kS => by
    rw [eq, ec] at hq
    exact hq 0 K kT kF kR kS rfl
  have hbad : ∀ K : xH, ttTI K → K.1 183 12 ≠ 0 → Q 0 K → xW e cd_219 Q (10, [(2, 183), (0, l), (0, h), (9, 0)], [], K) := by
    intro K kT kg kq
    refine q_al (pc := 10) (i := 0) (x := 183) rfl rfl ?_
    refine q_iv (pc := 11) (q := 1712964) rfl rfl rfl (ttKc kT (a := 183) (κ := 12) (len := 0) ⟨rfl, rfl⟩ (by decide) (by decide)).1 ?_
    refine lf_good (by omega) kT (fun jg => absurd jg kg) (fun jg => ?_)
    refine q_if (pc := 12) rfl (fun h12 => ?_) (fun h12 => ?_)
    · replace h12 : (0 : Int) = 0 := h12
      refine q_al (pc := 25) (i := 0) (x := 183) rfl rfl ?_
      refine q_iv (pc := 26) (q := 1712964) rfl rfl rfl (ttKc kT (a := 183) (κ := 12) (len := 0) ⟨rfl, rfl⟩ (by decide) (by decide)).1 ?_
      refine lf_good (by omega) kT (fun jg => absurd jg kg) (fun jg => ?_)
      refine q_if (pc := 27) rfl (fun h27 => ?_) (fun h27 => ?_)
      · replace h27 : (0 : Int) ≠ 0 := h27
        omega
      · replace h27 : (0 : Int) = 0 := h27
        refine q_ic (pc := 28) (v := 0) rfl ?_
        refine q_ri (pc := 29) rfl ?_
        exact kq
    · replace h12 : (0 : Int) ≠ 0 := h12
      omega
  have hbad2 : ∀ K : xH, ttTI K → K.1 183 12 ≠ 0 → Q 0 K → xW e cd_219 Q (25, [(2, 183), (0, l), (0, h), (9, 0)], [], K) := by
    intro K kT kg kq
    refine q_al (pc := 25) (i := 0) (x := 183) rfl rfl ?_
    refine q_iv (pc := 26) (q := 1712964) rfl rfl rfl (ttKc kT (a := 183) (κ := 12) (len := 0) ⟨rfl, rfl⟩ (by decide) (by decide)).1 ?_
    refine lf_good (by omega) kT (fun jg => absurd jg kg) (fun jg => ?_)
    refine q_if (pc := 27) rfl (fun h27 => ?_) (fun h27 => ?_)
    · replace h27 : (0 : Int) ≠ 0 := h27
      omega
    · replace h27 : (0 : Int) = 0 := h27
      refine q_ic (pc := 28) (v := 0) rfl ?_
      refine q_ri (pc := 29) rfl ?_
      exact kq
  refine xC_of (L := [(2, 183), (0, l), (0, h), (9, 0)]) (cd := cd_219) rfl rfl rfl ?_
  refine q_al (pc := 0) (i := 0) (x := 183) rfl rfl ?_
  refine q_iv (pc := 1) (q := 1712964) rfl rfl rfl (ttKc hT (a := 183) (κ := 12) (len := 0) ⟨rfl, rfl⟩ (by decide) (by decide)).1 ?_
  refine lf_good (by omega) hT (fun jg1 => ?_) (fun jg1 => ?_)
  · skip
    refine q_if (pc := 2) rfl (fun h2 => ?_) (fun h2 => ?_)
    · replace h2 : (1 : Int) = 0 := h2
      omega
    · replace h2 : (1 : Int) ≠ 0 := h2
      refine q_al (pc := 3) (i := 0) (x := 183) rfl rfl ?_
      refine q_gf (pc := 4) (m := 12100) (t := 0) (c := 10) rfl (ttKc hT (a := 183) (κ := 12) (len := 0) ⟨rfl, rfl⟩ (by decide) (by decide)).1 rfl rfl ?_
      rw [hR.2.2.2.1.1]
      refine q_ic (pc := 5) (v := 2) rfl ?_
      refine q_i2 (pc := 6) rfl (fun h6 => ?_) (fun h6 => ?_)
      · replace h6 : (T.2.1 i) = 2 := h6
        refine q_al (pc := 10) (i := 0) (x := 183) rfl rfl ?_
        refine q_iv (pc := 11) (q := 1712964) rfl rfl rfl (ttKc hT (a := 183) (κ := 12) (len := 0) ⟨rfl, rfl⟩ (by decide) (by decide)).1 ?_
        refine lf_good (by omega) hT (fun _ => ?_) (fun w => absurd jg1 w)
        refine q_if (pc := 12) rfl (fun h12 => ?_) (fun h12 => ?_)
        · replace h12 : (1 : Int) = 0 := h12
          omega
        · replace h12 : (1 : Int) ≠ 0 := h12
          refine q_al (pc := 13) (i := 0) (x := 183) rfl rfl ?_
          refine q_gf (pc := 14) (m := 12110) (t := 0) (c := 11) rfl (ttKc hT (a := 183) (κ := 12) (len := 0) ⟨rfl, rfl⟩ (by decide) (by decide)).1 rfl rfl ?_
          have k2 : T.2.1 i = 2 := h6
          rw [hR.2.2.2.2 k2]
          refine q_2l (pc := 15) rfl ?_
          refine q_il (pc := 16) (i := 1) (x := l) rfl rfl ?_
          refine q_2l (pc := 17) rfl ?_
          refine q_il (pc := 18) (i := 2) (x := h) rfl rfl ?_
          refine q_2l (pc := 19) rfl ?_
          refine q_ij (pc := 20) (q := 1615932) rfl rfl rfl trivial ?_
          refine lf_in (by omega) (fun jn20 => ?_) (fun jn20 => ?_)
          · skip
            refine q_if (pc := 21) rfl (fun h21 => ?_) (fun h21 => ?_)
            · replace h21 : (1 : Int) ≠ 0 := h21
              refine q_al (pc := 25) (i := 0) (x := 183) rfl rfl ?_
              refine q_iv (pc := 26) (q := 1712964) rfl rfl rfl (ttKc hT (a := 183) (κ := 12) (len := 0) ⟨rfl, rfl⟩ (by decide) (by decide)).1 ?_
              refine lf_good (by omega) hT (fun _ => ?_) (fun w => absurd jg1 w)
              refine q_if (pc := 27) rfl (fun h27 => ?_) (fun h27 => ?_)
              · replace h27 : (1 : Int) ≠ 0 := h27
                refine q_al (pc := 30) (i := 0) (x := 183) rfl rfl ?_
                refine q_gf (pc := 31) (m := 12110) (t := 0) (c := 11) rfl (ttKc hT (a := 183) (κ := 12) (len := 0) ⟨rfl, rfl⟩ (by decide) (by decide)).1 rfl rfl ?_
                rw [hR.2.2.2.2 k2]
                refine q_is (pc := 32) (i := 3) (L' := [(2, 183), (0, l), (0, h), (0, (min 99999 (sVt T i)))]) rfl rfl rfl ?_
                refine q_al (pc := 33) (i := 0) (x := 183) rfl rfl ?_
                refine q_iv (pc := 34) (q := 1704967) rfl rfl rfl (ttKc hT (a := 183) (κ := 12) (len := 0) ⟨rfl, rfl⟩ (by decide) (by decide)).1 ?_
                refine ly_adv (by omega) hT hO hR (fun K kT kF kR kS => ?_)
                refine q_il (pc := 35) (i := 3) (x := (min 99999 (sVt T i))) rfl rfl ?_
                refine q_ri (pc := 36) rfl ?_
                have eq : sNm T (rS H i) l h = (sVt T i, (sNx T i, (rS H i).2)) := by
                  unfold sNm
                  rw [if_pos (show (rS H i).2.1 = 0 from jg1), if_pos (show T.2.1 (rS H i).1 = 2 from k2), if_pos (show l ≤ sVt T (rS H i).1 ∧ sVt T (rS H i).1 ≤ h from (show l ≤ sVt T i ∧ sVt T i ≤ h from by omega))]; rfl
                rw [eq] at hq
                exact hq _ K kT kF kR kS (by show min 99999 (sVt T i) = sVt T i; omega)
              · replace h27 : (1 : Int) = 0 := h27
                omega
            · replace h21 : (1 : Int) = 0 := h21
              omega
          · skip
            refine q_if (pc := 21) rfl (fun h21 => ?_) (fun h21 => ?_)
            · replace h21 : (0 : Int) ≠ 0 := h21
              omega
            · replace h21 : (0 : Int) = 0 := h21
              refine q_al (pc := 22) (i := 0) (x := 183) rfl rfl ?_
              refine q_ic (pc := 23) (v := 2) rfl ?_
              refine q_iv (pc := 24) (q := 1720971) rfl rfl rfl (ttKc hT (a := 183) (κ := 12) (len := 0) ⟨rfl, rfl⟩ (by decide) (by decide)).1 ?_
              refine ly_errs (by omega) hT hO hR (by decide) (by decide) (fun J jT jF jR jS => ?_)
              have jk : J.1 183 12 = 2 := by
                have w : (rS J i).2.1 = (sEr T (rS H i) 2).2.1 := by rw [jS]
                rw [show (sEr T (rS H i) 2).2.1 = 2 from by unfold sEr; rw [if_pos (show (rS H i).2.1 = 0 from jg1)]] at w
                exact w
              exact hbad2 J jT (by rw [jk]; decide) (bad 2 jg1 (by decide) (by unfold sNm; rw [if_pos (show (rS H i).2.1 = 0 from jg1), if_pos (show T.2.1 (rS H i).1 = 2 from k2), if_neg (show ¬ (l ≤ sVt T (rS H i).1 ∧ sVt T (rS H i).1 ≤ h) from (show ¬ (l ≤ sVt T i ∧ sVt T i ≤ h) from fun w => jn20 (by omega)))]) J jT jF jR jS)
      · replace h6 : (T.2.1 i) ≠ 2 := h6
        refine q_al (pc := 7) (i := 0) (x := 183) rfl rfl ?_
        refine q_ic (pc := 8) (v := 1) rfl ?_
        refine q_iv (pc := 9) (q := 1720971) rfl rfl rfl (ttKc hT (a := 183) (κ := 12) (len := 0) ⟨rfl, rfl⟩ (by decide) (by decide)).1 ?_
        refine ly_errs (by omega) hT hO hR (by decide) (by decide) (fun J jT jF jR jS => ?_)
        have jk : J.1 183 12 = 1 := by
          have w : (rS J i).2.1 = (sEr T (rS H i) 1).2.1 := by rw [jS]
          rw [show (sEr T (rS H i) 1).2.1 = 1 from by unfold sEr; rw [if_pos (show (rS H i).2.1 = 0 from jg1)]] at w
          exact w
        exact hbad J jT (by rw [jk]; decide) (bad 1 jg1 (by decide) (by unfold sNm; rw [if_pos (show (rS H i).2.1 = 0 from jg1), if_neg (show ¬ T.2.1 (rS H i).1 = 2 from h6)]) J jT jF jR jS)
  · have eq : sNm T (rS H i) l h = (0, rS H i) := if_neg jg1
    rw [eq] at hq
    refine q_if (pc := 2) rfl (fun _ => ?_) (fun w => absurd rfl w)
    exact hbad H hT jg1 (hq 0 H hT (ttFr_rf _ H) hR rfl rfl)
