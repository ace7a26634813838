/-! more rows -/
section QM
variable {d : Nat} {cd : List Instr} {Q : Int → xH → Prop} {pc : Nat} {L r : List xV} {H : xH}
theorem q_zb {x : Int} (h : cd.getD pc .nop = .i2b) (k : xW d cd Q (pc + 1, L, (0, w8 x) :: r, H)) : xW d cd Q (pc, L, (0, x) :: r, H) := xW_step (by rw [h]; exact k)
theorem q_zl {x y : Int} (h : cd.getD pc .nop = .lshl) (k : xW d cd Q (pc + 1, L, (1, xLshl x y) :: r, H)) : xW d cd Q (pc, L, (0, y) :: (1, x) :: r, H) := xW_step (by rw [h]; exact k)
end QM
theorem td_20 {i : Int} (i0 : 0 ≤ i) (i1 : i ≤ 19) : 0 ≤ w32 (Int.tdiv i 4) ∧ w32 (Int.tdiv i 4) ≤ 4 := by
  have e : ∀ n : Nat, n < 20 → 0 ≤ w32 (Int.tdiv (n : Int) 4) ∧ w32 (Int.tdiv (n : Int) 4) ≤ 4 := by decide +kernel
  have k := e i.toNat (by omega)
  rw [Int.toNat_of_nonneg i0] at k
  exact k
theorem tm_4 {i : Int} (i0 : 0 ≤ i) : 0 ≤ Int.tmod i 4 ∧ Int.tmod i 4 ≤ 3 := by
  rw [Int.tmod_eq_emod_of_nonneg i0]
  omega
/-! exact answers -/
def rsBack (f : Int → Int) (k : Int) : Int := if 0 ≤ k ∧ k ≤ 2 then (if f k = 0 then -6 else 0) else -2
def rsKeep (k : Int) : Int := if 0 ≤ k ∧ k ≤ 2 then 0 else -2
def rsFeed (z : Int) : Int := if 1600 < z + 20 then -1 else z + 20
def rsFed (z : Int) : Int := if 1600 < z + 20 then z else z + 20
def rsEnd (z n : Int) : Int := if 0 ≤ n ∧ n ≤ z then n else -1
def rsEnded (z n : Int) : Int := if 0 ≤ n ∧ n ≤ z then n else z
theorem fr_cl {ef : ttEf} {H K : xH} (hF : ttFr ef H K) {a j : Int} (ha : a < (H.2.2.2.1 : Int)) (h : ef.2.all (fun q => decide (q.1 ≠ ttRo a) || (decide (j < q.2.1) || decide (q.2.2 < j))) = true) : K.1 a j = H.1 a j :=
  hF.2.2.2 a j ha (fun q hq hh => by
    have k := List.all_eq_true.mp h q hq
    obtain ⟨⟨-, c2⟩, c3, c4⟩ := hh
    rcases Bool.or_eq_true _ _ ▸ k with k | k
    · exact of_decide_eq_true k c2.symm
    rcases Bool.or_eq_true _ _ ▸ k with k | k
    · have := of_decide_eq_true k
      omega
    · have := of_decide_eq_true k
      omega)
theorem tp_5 {H : xH} (hT : ttTI H) : (0 ≤ H.1 1 1 ∧ H.1 1 1 ≤ 1600) ∧ (0 ≤ H.1 183 5 ∧ H.1 183 5 ≤ 1600) := ⟨ttMc hT (a := 1) (j := 1) (by decide) (by decide) (by decide) (by decide), ttMc hT (a := 183) (j := 5) (by decide) (by decide) (by decide) (by decide)⟩
theorem im_7 {H : xH} (hT : ttTI H) {k : Int} (k0 : 0 ≤ k) (k1 : k ≤ 2) : (1 ≤ H.1 61 k ∧ H.1 61 k < (H.2.2.2.1 : Int)) ∧ ttRo (H.1 61 k) = 7 := by
  have z := ttMc hT (a := 61) (j := k) (by decide) (by decide) k0 (by show k < 3; omega)
  have e : ttTy (ttTb (ttRo 61)) k = (1, 7, 0) := by
    show ([(1, 7, 0)] : List ttI).getD (k % 1).toNat (9, 0, 0) = _
    rw [Int.emod_one]
    rfl
  rw [e] at z
  exact z
theorem nw_7 {H : xH} (hT : ttTI H) : (1 ≤ H.1 1 5 ∧ H.1 1 5 < (H.2.2.2.1 : Int)) ∧ ttRo (H.1 1 5) = 7 := ttMc hT (a := 1) (j := 5) (by decide) (by decide) (by decide) (by decide)
theorem lx_end1 {dd : Nat} {n : Int} (hd : 2 ≤ dd) {H : xH} (hT : ttTI H) (hX : ttXX YY H) (n0 : -2147483648 ≤ n) (n1 : n ≤ 2147483647) {Q : Int → xH → Prop} (hq : ∀ r K, r = rsEnd (H.1 1 1) n → K.1 1 1 = rsEnded (H.1 1 1) n → ttTI K → ttXX YY K → ttFr (true, [(1, 1, 1)]) H K → Q r K) : xCall dd 135 [(2, 1), (0, n)] H Q := by
  obtain ⟨e, rfl, he⟩ := ttRun0 (n := 1) hd
  have he : 1 ≤ e := he
  have hn : 210 ≤ (H.2.2.2.1 : Int) := by have := hT.1; omega
  have z5 := tp_5 hT
  refine xC_of (L := [(2, 1), (0, n)]) (cd := cd_135) rfl rfl rfl ?_
  refine q_il (pc := 0) (i := 1) (x := n) rfl rfl ?_
  refine q_if (pc := 1) rfl (fun h1 => ?_) (fun h1 => ?_)
  · replace h1 : n < 0 := h1
    refine q_ic (pc := 6) (v := (-1)) rfl ?_
    refine q_ri (pc := 7) rfl ?_
    exact hq _ H (by unfold rsEnd; (repeat' split) <;> omega) (by unfold rsEnded; (repeat' split) <;> omega) hT hX (ttFr_rf _ H)
  · replace h1 : 0 ≤ n := h1
    refine q_il (pc := 2) (i := 1) (x := n) rfl rfl ?_
    refine q_al (pc := 3) (i := 0) (x := 1) rfl rfl ?_
    refine q_gf (pc := 4) (m := 11010) (t := 0) (c := 1) rfl (ttKc hT (a := 1) (κ := 11) (len := 0) ⟨rfl, rfl⟩ (by decide) (by decide)).1 rfl rfl ?_
    refine q_i2 (pc := 5) rfl (fun h5 => ?_) (fun h5 => ?_)
    · replace h5 : n ≤ (H.1 1 1) := h5
      refine q_al (pc := 8) (i := 0) (x := 1) rfl rfl ?_
      refine q_il (pc := 9) (i := 1) (x := n) rfl rfl ?_
      refine q_pf (pc := 10) (m := 11010) (c := 1) rfl (show xPt 0 0 _ _ from (ttKc hT (a := 1) (κ := 11) (len := 0) ⟨rfl, rfl⟩ (by decide) (by decide)).1) rfl ?_
      have zc := ttPut (ttXX_out yyStab (fun _ _ => trivial)) hT hX (ttFr_rf (true, [(1, 1, 1)]) H) (a := 1) (j := 1) (x := n) (by decide) (fun _ _ => show (0 : Int) ≤ n ∧ n ≤ 1600 from by omega) ⟨(1, 1, 1), by simp, ⟨⟨by decide, rfl⟩, by decide, by decide⟩⟩ (ttMay_no (r := 1) rfl (by decide))
      refine q_il (pc := 11) (i := 1) (x := n) rfl rfl ?_
      refine q_ri (pc := 12) rfl ?_
      refine hq _ _ (by unfold rsEnd; (repeat' split) <;> omega) ?_ zc.1 zc.2.1 zc.2.2
      rw [show (xUp H.1 1 1 n, H.2).1 1 1 = n from up_eq (D := H.1) (a := 1) (j := 1) (x := n)]
      unfold rsEnded; (repeat' split) <;> omega
    · replace h5 : (H.1 1 1) < n := h5
      refine q_ic (pc := 6) (v := (-1)) rfl ?_
      refine q_ri (pc := 7) rfl ?_
      exact hq _ H (by unfold rsEnd; (repeat' split) <;> omega) (by unfold rsEnded; (repeat' split) <;> omega) hT hX (ttFr_rf _ H)
theorem lx_end2 {dd : Nat} {n : Int} (hd : 2 ≤ dd) {H : xH} (hT : ttTI H) (hX : ttXX YY H) (n0 : -2147483648 ≤ n) (n1 : n ≤ 2147483647) {Q : Int → xH → Prop} (hq : ∀ r K, r = rsEnd (H.1 183 5) n → K.1 183 5 = rsEnded (H.1 183 5) n → ttTI K → ttXX YY K → ttFr (true, [(183, 5, 5)]) H K → Q r K) : xCall dd 211 [(2, 183), (0, n)] H Q := by
  obtain ⟨e, rfl, he⟩ := ttRun0 (n := 1) hd
  have he : 1 ≤ e := he
  have hn : 210 ≤ (H.2.2.2.1 : Int) := by have := hT.1; omega
  have z5 := tp_5 hT
  refine xC_of (L := [(2, 183), (0, n)]) (cd := cd_211) rfl rfl rfl ?_
  refine q_il (pc := 0) (i := 1) (x := n) rfl rfl ?_
  refine q_2l (pc := 1) rfl ?_
  refine q_lc (pc := 2) (v := 0) rfl ?_
  refine q_al (pc := 3) (i := 0) (x := 183) rfl rfl ?_
  refine q_gf (pc := 4) (m := 12050) (t := 0) (c := 5) rfl (ttKc hT (a := 183) (κ := 12) (len := 0) ⟨rfl, rfl⟩ (by decide) (by decide)).1 rfl rfl ?_
  refine q_2l (pc := 5) rfl ?_
  refine q_ij (pc := 6) (q := 1615932) rfl rfl rfl trivial ?_
  refine lf_in (by omega) (fun jn6 => ?_) (fun jn6 => ?_)
  · skip
    refine q_if (pc := 7) rfl (fun h7 => ?_) (fun h7 => ?_)
    · replace h7 : (1 : Int) ≠ 0 := h7
      refine q_al (pc := 10) (i := 0) (x := 183) rfl rfl ?_
      refine q_il (pc := 11) (i := 1) (x := n) rfl rfl ?_
      refine q_pf (pc := 12) (m := 12050) (c := 5) rfl (show xPt 0 0 _ _ from (ttKc hT (a := 183) (κ := 12) (len := 0) ⟨rfl, rfl⟩ (by decide) (by decide)).1) rfl ?_
      have zc := ttPut (ttXX_out yyStab (fun _ _ => trivial)) hT hX (ttFr_rf (true, [(183, 5, 5)]) H) (a := 183) (j := 5) (x := n) (by decide) (fun _ _ => show (0 : Int) ≤ n ∧ n ≤ 1600 from by omega) ⟨(183, 5, 5), by simp, ⟨⟨by decide, rfl⟩, by decide, by decide⟩⟩ (by intro q hq hh; obtain ⟨⟨-, c1⟩, c2, c3⟩ := hh; simp only [ttFF, List.mem_cons, List.not_mem_nil, or_false] at hq; rcases hq with rfl | rfl | rfl | rfl | rfl | rfl | rfl | rfl | rfl | rfl <;> first | exact absurd c1 (by decide) | exact absurd c2 (by decide) | exact absurd c3 (by decide))
      refine q_il (pc := 13) (i := 1) (x := n) rfl rfl ?_
      refine q_ri (pc := 14) rfl ?_
      refine hq _ _ (by unfold rsEnd; (repeat' split) <;> omega) ?_ zc.1 zc.2.1 zc.2.2
      rw [show (xUp H.1 183 5 n, H.2).1 183 5 = n from up_eq (D := H.1) (a := 183) (j := 5) (x := n)]
      unfold rsEnded; (repeat' split) <;> omega
    · replace h7 : (1 : Int) = 0 := h7
      omega
  · skip
    refine q_if (pc := 7) rfl (fun h7 => ?_) (fun h7 => ?_)
    · replace h7 : (0 : Int) ≠ 0 := h7
      omega
    · replace h7 : (0 : Int) = 0 := h7
      refine q_ic (pc := 8) (v := (-1)) rfl ?_
      refine q_ri (pc := 9) rfl ?_
      exact hq _ H (by unfold rsEnd; (repeat' split) <;> omega) (by unfold rsEnded; (repeat' split) <;> omega) hT hX (ttFr_rf _ H)
theorem lx_put {dd : Nat} {n : Int} (hd : 1 ≤ dd) {H : xH} (hT : ttTI H) (hX : ttXX YY H) (zs : H.1 1 1 ≤ 1596) {Q : Int → xH → Prop} (hq : ∀ r K, r = 0 → K.1 1 1 = H.1 1 1 + 4 → ttTI K → ttXX YY K → ttFr (true, [(1, 1, 1), (2, 0, 1599)]) H K → Q r K) : xCall dd 134 [(2, 1), (0, n)] H Q := by
  obtain ⟨e, rfl, he⟩ := ttRun0 (n := 0) hd
  have he : 0 ≤ e := he
  have hn : 210 ≤ (H.2.2.2.1 : Int) := by have := hT.1; omega
  have z0 := (tp_5 hT).1
  have hl : ∀ f : Nat, ∀ (K : xH) (t : Int), t = 8 * (f : Int) - 8 → t ≤ 24 → K.1 1 1 + (f : Int) = H.1 1 1 + 4 → ttTI K → ttXX YY K → ttFr (true, [(1, 1, 1), (2, 0, 1599)]) H K → xW e cd_134 Q (2, [(2, 1), (0, n), (0, t)], [], K) := by
    intro f
    induction f with
    | zero =>
      intro K t jt t2 js kT kX kF
      refine q_il (pc := 2) (i := 2) (x := t) rfl rfl ?_
      refine q_if (pc := 3) rfl (fun h3 => ?_) (fun h3 => ?_)
      · replace h3 : t < 0 := h3
        refine q_rv (pc := 25) rfl ?_
        exact hq _ K rfl (by omega) kT kX kF
      · replace h3 : 0 ≤ t := h3
        omega
    | succ f ih =>
      intro K t jt t2 js kT kX kF
      refine q_il (pc := 2) (i := 2) (x := t) rfl rfl ?_
      refine q_if (pc := 3) rfl (fun h3 => ?_) (fun h3 => ?_)
      · replace h3 : t < 0 := h3
        refine q_rv (pc := 25) rfl ?_
        exact hq _ K rfl (by omega) kT kX kF
      · replace h3 : 0 ≤ t := h3
        refine q_al (pc := 4) (i := 0) (x := 1) rfl rfl ?_
        refine q_gf (pc := 5) (m := 11010) (t := 0) (c := 1) rfl (ttKc kT (a := 1) (κ := 11) (len := 0) ⟨rfl, rfl⟩ (by decide) (by decide)).1 rfl rfl ?_
        refine q_ic (pc := 6) (v := 1600) rfl ?_
        refine q_i2 (pc := 7) rfl (fun h7 => ?_) (fun h7 => ?_)
        · replace h7 : 1600 ≤ (K.1 1 1) := h7
          refine q_rv (pc := 25) rfl ?_
          exact hq _ K rfl (by omega) kT kX kF
        · replace h7 : (K.1 1 1) < 1600 := h7
          refine q_al (pc := 8) (i := 0) (x := 1) rfl rfl ?_
          refine q_gf (pc := 9) (m := 11002) (t := 2) (c := 0) rfl (ttKc kT (a := 1) (κ := 11) (len := 0) ⟨rfl, rfl⟩ (by decide) (by decide)).1 rfl rfl ?_
          rw [show K.1 1 0 = 2 from ttFx kT (by decide) (by decide) rfl rfl rfl]
          refine q_al (pc := 10) (i := 0) (x := 1) rfl rfl ?_
          refine q_gf (pc := 11) (m := 11010) (t := 0) (c := 1) rfl (ttKc kT (a := 1) (κ := 11) (len := 0) ⟨rfl, rfl⟩ (by decide) (by decide)).1 rfl rfl ?_
          refine q_il (pc := 12) (i := 1) (x := n) rfl rfl ?_
          refine q_il (pc := 13) (i := 2) (x := t) rfl rfl ?_
          refine q_sr (pc := 14) rfl ?_
          refine q_zb (pc := 15) rfl ?_
          refine q_sb (pc := 16) rfl (by decide) (ttKc kT (a := 2) (κ := 21) (len := 1600) ⟨rfl, rfl⟩ (by decide) (by decide)).1 (by omega) (by rw [(ttKc kT (a := 2) (κ := 21) (len := 1600) ⟨rfl, rfl⟩ (by decide) (by decide)).2]; omega) ?_
          obtain ⟨b, jb⟩ : ∃ b, b = (w8 (w8 (xShr n t))) := ⟨_, rfl⟩
          have zb : -128 ≤ b ∧ b < 128 := by rw [jb]; exact w8_in _
          rw [← jb]
          have yc := ttPut (ttXX_out yyStab (fun _ _ => trivial)) kT kX kF (a := 2) (j := K.1 1 1) (x := b) (by decide) (fun _ _ => ttTyr rfl zb.1 (by omega)) ⟨(2, 0, 1599), by simp, ⟨⟨by decide, rfl⟩, by show (0 : Int) ≤ K.1 1 1; omega, by show K.1 1 1 ≤ 1599; omega⟩⟩ (ttMay_no (r := 2) rfl (by decide))
          obtain ⟨Y, jY⟩ : ∃ X : xH, X = (xUp K.1 2 (K.1 1 1) b, K.2) := ⟨_, rfl⟩
          rw [← jY] at yc ⊢
          have y1 : Y.1 1 1 = K.1 1 1 := by rw [jY]; exact up_na (D := K.1) (a := 2) (j := K.1 1 1) (x := b) (b := 1) (k := 1) (by decide)
          refine q_al (pc := 17) (i := 0) (x := 1) rfl rfl ?_
          refine q_d2 (pc := 18) rfl ?_
          refine q_gf (pc := 19) (m := 11010) (t := 0) (c := 1) rfl (ttKc yc.1 (a := 1) (κ := 11) (len := 0) ⟨rfl, rfl⟩ (by decide) (by decide)).1 rfl rfl ?_
          rw [y1]
          refine q_ic (pc := 20) (v := 1) rfl ?_
          refine q_ia (pc := 21) rfl (by omega) (by omega) ?_
          refine q_pf (pc := 22) (m := 11010) (c := 1) rfl (show xPt 0 0 _ _ from (ttKc yc.1 (a := 1) (κ := 11) (len := 0) ⟨rfl, rfl⟩ (by decide) (by decide)).1) rfl ?_
          have xc := ttPut (ttXX_out yyStab (fun _ _ => trivial)) yc.1 yc.2.1 yc.2.2 (a := 1) (j := 1) (x := ((K.1 1 1) + 1)) (by decide) (fun _ _ => show (0 : Int) ≤ ((K.1 1 1) + 1) ∧ ((K.1 1 1) + 1) ≤ 1600 from by omega) ⟨(1, 1, 1), by simp, ⟨⟨by decide, rfl⟩, by decide, by decide⟩⟩ (ttMay_no (r := 1) rfl (by decide))
          refine q_ii (pc := 23) (i := 2) (c := (-8)) (x := t) (L' := [(2, 1), (0, n), (0, (t + (-8)))]) rfl rfl rfl (by omega) (by omega) rfl ?_
          refine q_go (pc := 24) rfl ?_
          exact ih _ (t + (-8)) (by omega) (by omega) (by rw [show (xUp Y.1 1 1 (K.1 1 1 + 1), Y.2).1 1 1 = K.1 1 1 + 1 from up_eq (D := Y.1) (a := 1) (j := 1) (x := K.1 1 1 + 1)]; omega) xc.1 xc.2.1 xc.2.2
  refine xC_of (L := [(2, 1), (0, n), (9, 0)]) (cd := cd_134) rfl rfl rfl ?_
  refine q_ic (pc := 0) (v := 24) rfl ?_
  refine q_is (pc := 1) (i := 2) (L' := [(2, 1), (0, n), (0, 24)]) rfl rfl rfl ?_
  exact hl 4 H 24 (by decide) (by decide) (by omega) hT hX (ttFr_rf _ H)
theorem lx_feed1 {dd : Nat} {a1 a2 a3 a4 a5 : Int} (hd : 2 ≤ dd) {H : xH} (hT : ttTI H) (hX : ttXX YY H) {Q : Int → xH → Prop} (hq : ∀ r K, r = rsFeed (H.1 1 1) → K.1 1 1 = rsFed (H.1 1 1) → ttTI K → ttXX YY K → ttFr (true, [(1, 1, 1), (2, 0, 1599)]) H K → Q r K) : xCall dd 133 [(2, 1), (0, a1), (0, a2), (0, a3), (0, a4), (0, a5)] H Q := by
  obtain ⟨e, rfl, he⟩ := ttRun0 (n := 1) hd
  have he : 1 ≤ e := he
  have hn : 210 ≤ (H.2.2.2.1 : Int) := by have := hT.1; omega
  have z0 := (tp_5 hT).1
  refine xC_of (L := [(2, 1), (0, a1), (0, a2), (0, a3), (0, a4), (0, a5)]) (cd := cd_133) rfl rfl rfl ?_
  refine q_al (pc := 0) (i := 0) (x := 1) rfl rfl ?_
  refine q_gf (pc := 1) (m := 11010) (t := 0) (c := 1) rfl (ttKc hT (a := 1) (κ := 11) (len := 0) ⟨rfl, rfl⟩ (by decide) (by decide)).1 rfl rfl ?_
  refine q_ic (pc := 2) (v := 20) rfl ?_
  refine q_ia (pc := 3) rfl (by omega) (by omega) ?_
  refine q_ic (pc := 4) (v := 1600) rfl ?_
  refine q_i2 (pc := 5) rfl (fun h5 => ?_) (fun h5 => ?_)
  · replace h5 : ((H.1 1 1) + 20) ≤ 1600 := h5
    refine q_al (pc := 8) (i := 0) (x := 1) rfl rfl ?_
    refine q_il (pc := 9) (i := 1) (x := a1) rfl rfl ?_
    refine q_iv (pc := 10) (q := 1072891) rfl rfl rfl (ttKc hT (a := 1) (κ := 11) (len := 0) ⟨rfl, rfl⟩ (by decide) (by decide)).1 ?_
    refine lx_put (by omega) hT hX (by omega) (fun ufr1 ufK1 ufe1 ufs1 ufT1 ufX1 ufF1 => ?_)
    replace ufF1 := ttFr_tr (ttFr_rf (true, [(1, 1, 1), (2, 0, 1599)]) H) ufF1 (fun _ => rfl) (by decide)
    refine q_al (pc := 11) (i := 0) (x := 1) rfl rfl ?_
    refine q_il (pc := 12) (i := 2) (x := a2) rfl rfl ?_
    refine q_iv (pc := 13) (q := 1072891) rfl rfl rfl (ttKc ufT1 (a := 1) (κ := 11) (len := 0) ⟨rfl, rfl⟩ (by decide) (by decide)).1 ?_
    refine lx_put (by omega) ufT1 ufX1 (by omega) (fun ufr2 ufK2 ufe2 ufs2 ufT2 ufX2 ufF2 => ?_)
    replace ufF2 := ttFr_tr ufF1 ufF2 (fun _ => rfl) (by decide)
    refine q_al (pc := 14) (i := 0) (x := 1) rfl rfl ?_
    refine q_il (pc := 15) (i := 3) (x := a3) rfl rfl ?_
    refine q_iv (pc := 16) (q := 1072891) rfl rfl rfl (ttKc ufT2 (a := 1) (κ := 11) (len := 0) ⟨rfl, rfl⟩ (by decide) (by decide)).1 ?_
    refine lx_put (by omega) ufT2 ufX2 (by omega) (fun ufr3 ufK3 ufe3 ufs3 ufT3 ufX3 ufF3 => ?_)
    replace ufF3 := ttFr_tr ufF2 ufF3 (fun _ => rfl) (by decide)
    refine q_al (pc := 17) (i := 0) (x := 1) rfl rfl ?_
    refine q_il (pc := 18) (i := 4) (x := a4) rfl rfl ?_
    refine q_iv (pc := 19) (q := 1072891) rfl rfl rfl (ttKc ufT3 (a := 1) (κ := 11) (len := 0) ⟨rfl, rfl⟩ (by decide) (by decide)).1 ?_
    refine lx_put (by omega) ufT3 ufX3 (by omega) (fun ufr4 ufK4 ufe4 ufs4 ufT4 ufX4 ufF4 => ?_)
    replace ufF4 := ttFr_tr ufF3 ufF4 (fun _ => rfl) (by decide)
    refine q_al (pc := 20) (i := 0) (x := 1) rfl rfl ?_
    refine q_il (pc := 21) (i := 5) (x := a5) rfl rfl ?_
    refine q_iv (pc := 22) (q := 1072891) rfl rfl rfl (ttKc ufT4 (a := 1) (κ := 11) (len := 0) ⟨rfl, rfl⟩ (by decide) (by decide)).1 ?_
    refine lx_put (by omega) ufT4 ufX4 (by omega) (fun ufr5 ufK5 ufe5 ufs5 ufT5 ufX5 ufF5 => ?_)
    replace ufF5 := ttFr_tr ufF4 ufF5 (fun _ => rfl) (by decide)
    refine q_al (pc := 23) (i := 0) (x := 1) rfl rfl ?_
    refine q_gf (pc := 24) (m := 11010) (t := 0) (c := 1) rfl (ttKc ufT5 (a := 1) (κ := 11) (len := 0) ⟨rfl, rfl⟩ (by decide) (by decide)).1 rfl rfl ?_
    refine q_ri (pc := 25) rfl ?_
    exact hq _ ufK5 (by unfold rsFeed; (repeat' split) <;> omega) (by unfold rsFed; (repeat' split) <;> omega) ufT5 ufX5 ufF5
  · replace h5 : 1600 < ((H.1 1 1) + 20) := h5
    refine q_ic (pc := 6) (v := (-1)) rfl ?_
    refine q_ri (pc := 7) rfl ?_
    exact hq _ H (by unfold rsFeed; (repeat' split) <;> omega) (by unfold rsFed; (repeat' split) <;> omega) hT hX (ttFr_rf (true, [(1, 1, 1), (2, 0, 1599)]) H)
theorem lx_feed2 {dd : Nat} {a1 a2 a3 a4 a5 : Int} (hd : 1 ≤ dd) {H : xH} (hT : ttTI H) (hX : ttXX YY H) (p1 : -2147483648 ≤ a1 ∧ a1 ≤ 2147483647) (p2 : -2147483648 ≤ a2 ∧ a2 ≤ 2147483647) (p3 : -2147483648 ≤ a3 ∧ a3 ≤ 2147483647) (p4 : -2147483648 ≤ a4 ∧ a4 ≤ 2147483647) (p5 : -2147483648 ≤ a5 ∧ a5 ≤ 2147483647) {Q : Int → xH → Prop} (hq : ∀ r K, r = rsFeed (H.1 183 5) → K.1 183 5 = rsFed (H.1 183 5) → ttTI K → ttXX YY K → ttFr (true, [(183, 5, 5), (188, 0, 4), (187, 0, 1599)]) H K → Q r K) : xCall dd 210 [(2, 183), (0, a1), (0, a2), (0, a3), (0, a4), (0, a5)] H Q := by
  obtain ⟨e, rfl, he⟩ := ttRun0 (n := 0) hd
  have he : 0 ≤ e := he
  have hn : 210 ≤ (H.2.2.2.1 : Int) := by have := hT.1; omega
  have z0 := (tp_5 hT).2
  have hl : ∀ f : Nat, ∀ (K : xH) (i : Int), H.1 183 5 ≤ 1580 → 0 ≤ i → i ≤ 20 → 20 - i ≤ (f : Int) → K.1 183 5 = H.1 183 5 → ttTI K → ttXX YY K → ttFr (true, [(183, 5, 5), (188, 0, 4), (187, 0, 1599)]) H K → xW e cd_210 Q (35, [(2, 183), (0, a1), (0, a2), (0, a3), (0, a4), (0, a5), (0, i)], [], K) := by
    intro f
    induction f with
    | zero =>
      intro K i zs i0 i1 hn2 k5 kT kX kF
      refine q_il (pc := 35) (i := 6) (x := i) rfl rfl ?_
      refine q_ic (pc := 36) (v := 20) rfl ?_
      refine q_i2 (pc := 37) rfl (fun h37 => ?_) (fun h37 => ?_)
      · replace h37 : 20 ≤ i := h37
        refine q_al (pc := 62) (i := 0) (x := 183) rfl rfl ?_
        refine q_d2 (pc := 63) rfl ?_
        refine q_gf (pc := 64) (m := 12050) (t := 0) (c := 5) rfl (ttKc kT (a := 183) (κ := 12) (len := 0) ⟨rfl, rfl⟩ (by decide) (by decide)).1 rfl rfl ?_
        rw [k5]
        refine q_ic (pc := 65) (v := 20) rfl ?_
        refine q_ia (pc := 66) rfl (by omega) (by omega) ?_
        refine q_pf (pc := 67) (m := 12050) (c := 5) rfl (show xPt 0 0 _ _ from (ttKc kT (a := 183) (κ := 12) (len := 0) ⟨rfl, rfl⟩ (by decide) (by decide)).1) rfl ?_
        have xc := ttPut (ttXX_out yyStab (fun _ _ => trivial)) kT kX kF (a := 183) (j := 5) (x := ((H.1 183 5) + 20)) (by decide) (fun _ _ => show (0 : Int) ≤ ((H.1 183 5) + 20) ∧ ((H.1 183 5) + 20) ≤ 1600 from by omega) ⟨(183, 5, 5), by simp, ⟨⟨by decide, rfl⟩, by decide, by decide⟩⟩ (by intro q hq hh; obtain ⟨⟨-, c1⟩, c2, c3⟩ := hh; simp only [ttFF, List.mem_cons, List.not_mem_nil, or_false] at hq; rcases hq with rfl | rfl | rfl | rfl | rfl | rfl | rfl | rfl | rfl | rfl <;> first | exact absurd c1 (by decide) | exact absurd c2 (by decide) | exact absurd c3 (by decide))
        have xe : (xUp K.1 183 5 ((H.1 183 5) + 20), K.2).1 183 5 = ((H.1 183 5) + 20) := up_eq (D := K.1) (a := 183) (j := 5) (x := ((H.1 183 5) + 20))
        refine q_al (pc := 68) (i := 0) (x := 183) rfl rfl ?_
        refine q_gf (pc := 69) (m := 12050) (t := 0) (c := 5) rfl (ttKc kT (a := 183) (κ := 12) (len := 0) ⟨rfl, rfl⟩ (by decide) (by decide)).1 rfl rfl ?_
        rw [xe]
        refine q_ri (pc := 70) rfl ?_
        refine hq _ _ (by unfold rsFeed; (repeat' split) <;> omega) ?_ xc.1 xc.2.1 xc.2.2
        rw [xe]
        unfold rsFed; (repeat' split) <;> omega
      · replace h37 : i < 20 := h37
        omega
    | succ f ih =>
      intro K i zs i0 i1 hn2 k5 kT kX kF
      refine q_il (pc := 35) (i := 6) (x := i) rfl rfl ?_
      refine q_ic (pc := 36) (v := 20) rfl ?_
      refine q_i2 (pc := 37) rfl (fun h37 => ?_) (fun h37 => ?_)
      · replace h37 : 20 ≤ i := h37
        refine q_al (pc := 62) (i := 0) (x := 183) rfl rfl ?_
        refine q_d2 (pc := 63) rfl ?_
        refine q_gf (pc := 64) (m := 12050) (t := 0) (c := 5) rfl (ttKc kT (a := 183) (κ := 12) (len := 0) ⟨rfl, rfl⟩ (by decide) (by decide)).1 rfl rfl ?_
        rw [k5]
        refine q_ic (pc := 65) (v := 20) rfl ?_
        refine q_ia (pc := 66) rfl (by omega) (by omega) ?_
        refine q_pf (pc := 67) (m := 12050) (c := 5) rfl (show xPt 0 0 _ _ from (ttKc kT (a := 183) (κ := 12) (len := 0) ⟨rfl, rfl⟩ (by decide) (by decide)).1) rfl ?_
        have xc := ttPut (ttXX_out yyStab (fun _ _ => trivial)) kT kX kF (a := 183) (j := 5) (x := ((H.1 183 5) + 20)) (by decide) (fun _ _ => show (0 : Int) ≤ ((H.1 183 5) + 20) ∧ ((H.1 183 5) + 20) ≤ 1600 from by omega) ⟨(183, 5, 5), by simp, ⟨⟨by decide, rfl⟩, by decide, by decide⟩⟩ (by intro q hq hh; obtain ⟨⟨-, c1⟩, c2, c3⟩ := hh; simp only [ttFF, List.mem_cons, List.not_mem_nil, or_false] at hq; rcases hq with rfl | rfl | rfl | rfl | rfl | rfl | rfl | rfl | rfl | rfl <;> first | exact absurd c1 (by decide) | exact absurd c2 (by decide) | exact absurd c3 (by decide))
        have xe : (xUp K.1 183 5 ((H.1 183 5) + 20), K.2).1 183 5 = ((H.1 183 5) + 20) := up_eq (D := K.1) (a := 183) (j := 5) (x := ((H.1 183 5) + 20))
        refine q_al (pc := 68) (i := 0) (x := 183) rfl rfl ?_
        refine q_gf (pc := 69) (m := 12050) (t := 0) (c := 5) rfl (ttKc kT (a := 183) (κ := 12) (len := 0) ⟨rfl, rfl⟩ (by decide) (by decide)).1 rfl rfl ?_
        rw [xe]
        refine q_ri (pc := 70) rfl ?_
        refine hq _ _ (by unfold rsFeed; (repeat' split) <;> omega) ?_ xc.1 xc.2.1 xc.2.2
        rw [xe]
        unfold rsFed; (repeat' split) <;> omega
      · replace h37 : i < 20 := h37
        refine q_al (pc := 38) (i := 0) (x := 183) rfl rfl ?_
        refine q_gf (pc := 39) (m := 12042) (t := 2) (c := 4) rfl (ttKc kT (a := 183) (κ := 12) (len := 0) ⟨rfl, rfl⟩ (by decide) (by decide)).1 rfl rfl ?_
        rw [show K.1 183 4 = 187 from ttFx kT (by decide) (by decide) rfl rfl rfl]
        refine q_al (pc := 40) (i := 0) (x := 183) rfl rfl ?_
        refine q_gf (pc := 41) (m := 12050) (t := 0) (c := 5) rfl (ttKc kT (a := 183) (κ := 12) (len := 0) ⟨rfl, rfl⟩ (by decide) (by decide)).1 rfl rfl ?_
        rw [k5]
        refine q_il (pc := 42) (i := 6) (x := i) rfl rfl ?_
        refine q_ia (pc := 43) rfl (by omega) (by omega) ?_
        refine q_al (pc := 44) (i := 0) (x := 183) rfl rfl ?_
        refine q_gf (pc := 45) (m := 12062) (t := 2) (c := 6) rfl (ttKc kT (a := 183) (κ := 12) (len := 0) ⟨rfl, rfl⟩ (by decide) (by decide)).1 rfl rfl ?_
        rw [show K.1 183 6 = 188 from ttFx kT (by decide) (by decide) rfl rfl rfl]
        refine q_il (pc := 46) (i := 6) (x := i) rfl rfl ?_
        refine q_ic (pc := 47) (v := 4) rfl ?_
        refine q_wd (pc := 48) rfl (by decide) ?_
        have zd : 0 ≤ (w32 (Int.tdiv i 4)) ∧ (w32 (Int.tdiv i 4)) ≤ 4 := by
          have z := td_20 i0 (by omega : i ≤ 19)
          exact z
        obtain ⟨d, jd⟩ : ∃ d, d = (w32 (Int.tdiv i 4)) := ⟨_, rfl⟩
        rw [← jd] at zd ⊢
        refine q_ai (pc := 49) rfl (ttKc kT (a := 188) (κ := 20) (len := 5) ⟨rfl, rfl⟩ (by decide) (by decide)).1 (by omega) (by rw [(ttKc kT (a := 188) (κ := 20) (len := 5) ⟨rfl, rfl⟩ (by decide) (by decide)).2]; omega) ?_
        refine q_ic (pc := 50) (v := 24) rfl ?_
        refine q_ic (pc := 51) (v := 8) rfl ?_
        refine q_il (pc := 52) (i := 6) (x := i) rfl rfl ?_
        refine q_ic (pc := 53) (v := 4) rfl ?_
        refine q_ir (pc := 54) rfl (by decide) ?_
        have zu : 0 ≤ (Int.tmod i 4) ∧ (Int.tmod i 4) ≤ 3 := tm_4 i0
        obtain ⟨u, ju⟩ : ∃ u, u = (Int.tmod i 4) := ⟨_, rfl⟩
        rw [← ju] at zu ⊢
        refine q_im (pc := 55) rfl (by omega) (by omega) ?_
        refine q_ib (pc := 56) rfl (by omega) (by omega) ?_
        refine q_sr (pc := 57) rfl ?_
        refine q_zb (pc := 58) rfl ?_
        refine q_sb (pc := 59) rfl (by decide) (ttKc kT (a := 187) (κ := 21) (len := 1600) ⟨rfl, rfl⟩ (by decide) (by decide)).1 (by omega) (by rw [(ttKc kT (a := 187) (κ := 21) (len := 1600) ⟨rfl, rfl⟩ (by decide) (by decide)).2]; omega) ?_
        obtain ⟨b, jb⟩ : ∃ b, b = (w8 (w8 (xShr (K.1 188 d) (24 - (8 * u))))) := ⟨_, rfl⟩
        have zb : -128 ≤ b ∧ b < 128 := by rw [jb]; exact w8_in _
        rw [← jb]
        have yc := ttPut (ttXX_out yyStab (fun _ _ => trivial)) kT kX kF (a := 187) (j := ((H.1 183 5) + i)) (x := b) (by decide) (fun _ _ => ttTyr rfl zb.1 (by omega)) ⟨(187, 0, 1599), by simp, ⟨⟨by decide, rfl⟩, by show (0 : Int) ≤ ((H.1 183 5) + i); omega, by show ((H.1 183 5) + i) ≤ 1599; omega⟩⟩ (ttMay_no (r := 187) rfl (by decide))
        refine q_ii (pc := 60) (i := 6) (c := 1) (x := i) (L' := [(2, 183), (0, a1), (0, a2), (0, a3), (0, a4), (0, a5), (0, (i + 1))]) rfl rfl rfl (by omega) (by omega) rfl ?_
        refine q_go (pc := 61) rfl ?_
        exact ih _ (i + 1) zs (by omega) (by omega) (by omega) ((show (xUp K.1 187 (H.1 183 5 + i) b, K.2).1 183 5 = K.1 183 5 from up_na (D := K.1) (a := 187) (j := H.1 183 5 + i) (x := b) (b := 183) (k := 5) (by decide)).trans k5) yc.1 yc.2.1 yc.2.2
  refine xC_of (L := [(2, 183), (0, a1), (0, a2), (0, a3), (0, a4), (0, a5), (9, 0)]) (cd := cd_210) rfl rfl rfl ?_
  refine q_al (pc := 0) (i := 0) (x := 183) rfl rfl ?_
  refine q_gf (pc := 1) (m := 12050) (t := 0) (c := 5) rfl (ttKc hT (a := 183) (κ := 12) (len := 0) ⟨rfl, rfl⟩ (by decide) (by decide)).1 rfl rfl ?_
  refine q_ic (pc := 2) (v := 20) rfl ?_
  refine q_ia (pc := 3) rfl (by omega) (by omega) ?_
  refine q_ic (pc := 4) (v := 1600) rfl ?_
  refine q_i2 (pc := 5) rfl (fun h5 => ?_) (fun h5 => ?_)
  · replace h5 : ((H.1 183 5) + 20) ≤ 1600 := h5
    refine q_al (pc := 8) (i := 0) (x := 183) rfl rfl ?_
    refine q_gf (pc := 9) (m := 12062) (t := 2) (c := 6) rfl (ttKc hT (a := 183) (κ := 12) (len := 0) ⟨rfl, rfl⟩ (by decide) (by decide)).1 rfl rfl ?_
    rw [show H.1 183 6 = 188 from ttFx hT (by decide) (by decide) rfl rfl rfl]
    refine q_ic (pc := 10) (v := 0) rfl ?_
    refine q_il (pc := 11) (i := 1) (x := a1) rfl rfl ?_
    refine q_si (pc := 12) rfl (by decide) (ttKc hT (a := 188) (κ := 20) (len := 5) ⟨rfl, rfl⟩ (by decide) (by decide)).1 (by omega) (by rw [(ttKc hT (a := 188) (κ := 20) (len := 5) ⟨rfl, rfl⟩ (by decide) (by decide)).2]; omega) ?_
    have ufc1 := ttPut (ttXX_out yyStab (fun _ _ => trivial)) hT hX (ttFr_rf (true, [(183, 5, 5), (188, 0, 4), (187, 0, 1599)]) H) (a := 188) (j := 0) (x := a1) (by decide) (fun _ _ => ttTyr rfl p1.1 p1.2) ⟨(188, 0, 4), by simp, ⟨⟨by decide, rfl⟩, by decide, by decide⟩⟩ (ttMay_no (r := 188) rfl (by decide))
    obtain ⟨ufZ1, ufk1⟩ : ∃ X : xH, X = (xUp H.1 188 0 a1, H.2) := ⟨_, rfl⟩
    rw [← ufk1] at ufc1 ⊢
    have ufs1 : ufZ1.1 183 5 = H.1 183 5 := (by rw [ufk1]; exact up_na (D := H.1) (a := 188) (j := 0) (x := a1) (b := 183) (k := 5) (by decide) : ufZ1.1 183 5 = H.1 183 5)
    refine q_al (pc := 13) (i := 0) (x := 183) rfl rfl ?_
    refine q_gf (pc := 14) (m := 12062) (t := 2) (c := 6) rfl (ttKc ufc1.1 (a := 183) (κ := 12) (len := 0) ⟨rfl, rfl⟩ (by decide) (by decide)).1 rfl rfl ?_
    rw [show ufZ1.1 183 6 = 188 from ttFx ufc1.1 (by decide) (by decide) rfl rfl rfl]
    refine q_ic (pc := 15) (v := 1) rfl ?_
    refine q_il (pc := 16) (i := 2) (x := a2) rfl rfl ?_
    refine q_si (pc := 17) rfl (by decide) (ttKc ufc1.1 (a := 188) (κ := 20) (len := 5) ⟨rfl, rfl⟩ (by decide) (by decide)).1 (by omega) (by rw [(ttKc ufc1.1 (a := 188) (κ := 20) (len := 5) ⟨rfl, rfl⟩ (by decide) (by decide)).2]; omega) ?_
    have ufc2 := ttPut (ttXX_out yyStab (fun _ _ => trivial)) ufc1.1 ufc1.2.1 ufc1.2.2 (a := 188) (j := 1) (x := a2) (by decide) (fun _ _ => ttTyr rfl p2.1 p2.2) ⟨(188, 0, 4), by simp, ⟨⟨by decide, rfl⟩, by decide, by decide⟩⟩ (ttMay_no (r := 188) rfl (by decide))
    obtain ⟨ufZ2, ufk2⟩ : ∃ X : xH, X = (xUp ufZ1.1 188 1 a2, ufZ1.2) := ⟨_, rfl⟩
    rw [← ufk2] at ufc2 ⊢
    have ufs2 : ufZ2.1 183 5 = H.1 183 5 := ((by rw [ufk2]; exact up_na (D := ufZ1.1) (a := 188) (j := 1) (x := a2) (b := 183) (k := 5) (by decide) : ufZ2.1 183 5 = ufZ1.1 183 5)).trans ufs1
    refine q_al (pc := 18) (i := 0) (x := 183) rfl rfl ?_
    refine q_gf (pc := 19) (m := 12062) (t := 2) (c := 6) rfl (ttKc ufc2.1 (a := 183) (κ := 12) (len := 0) ⟨rfl, rfl⟩ (by decide) (by decide)).1 rfl rfl ?_
    rw [show ufZ2.1 183 6 = 188 from ttFx ufc2.1 (by decide) (by decide) rfl rfl rfl]
    refine q_ic (pc := 20) (v := 2) rfl ?_
    refine q_il (pc := 21) (i := 3) (x := a3) rfl rfl ?_
    refine q_si (pc := 22) rfl (by decide) (ttKc ufc2.1 (a := 188) (κ := 20) (len := 5) ⟨rfl, rfl⟩ (by decide) (by decide)).1 (by omega) (by rw [(ttKc ufc2.1 (a := 188) (κ := 20) (len := 5) ⟨rfl, rfl⟩ (by decide) (by decide)).2]; omega) ?_
    have ufc3 := ttPut (ttXX_out yyStab (fun _ _ => trivial)) ufc2.1 ufc2.2.1 ufc2.2.2 (a := 188) (j := 2) (x := a3) (by decide) (fun _ _ => ttTyr rfl p3.1 p3.2) ⟨(188, 0, 4), by simp, ⟨⟨by decide, rfl⟩, by decide, by decide⟩⟩ (ttMay_no (r := 188) rfl (by decide))
    obtain ⟨ufZ3, ufk3⟩ : ∃ X : xH, X = (xUp ufZ2.1 188 2 a3, ufZ2.2) := ⟨_, rfl⟩
    rw [← ufk3] at ufc3 ⊢
    have ufs3 : ufZ3.1 183 5 = H.1 183 5 := ((by rw [ufk3]; exact up_na (D := ufZ2.1) (a := 188) (j := 2) (x := a3) (b := 183) (k := 5) (by decide) : ufZ3.1 183 5 = ufZ2.1 183 5)).trans ufs2
    refine q_al (pc := 23) (i := 0) (x := 183) rfl rfl ?_
    refine q_gf (pc := 24) (m := 12062) (t := 2) (c := 6) rfl (ttKc ufc3.1 (a := 183) (κ := 12) (len := 0) ⟨rfl, rfl⟩ (by decide) (by decide)).1 rfl rfl ?_
    rw [show ufZ3.1 183 6 = 188 from ttFx ufc3.1 (by decide) (by decide) rfl rfl rfl]
    refine q_ic (pc := 25) (v := 3) rfl ?_
    refine q_il (pc := 26) (i := 4) (x := a4) rfl rfl ?_
    refine q_si (pc := 27) rfl (by decide) (ttKc ufc3.1 (a := 188) (κ := 20) (len := 5) ⟨rfl, rfl⟩ (by decide) (by decide)).1 (by omega) (by rw [(ttKc ufc3.1 (a := 188) (κ := 20) (len := 5) ⟨rfl, rfl⟩ (by decide) (by decide)).2]; omega) ?_
    have ufc4 := ttPut (ttXX_out yyStab (fun _ _ => trivial)) ufc3.1 ufc3.2.1 ufc3.2.2 (a := 188) (j := 3) (x := a4) (by decide) (fun _ _ => ttTyr rfl p4.1 p4.2) ⟨(188, 0, 4), by simp, ⟨⟨by decide, rfl⟩, by decide, by decide⟩⟩ (ttMay_no (r := 188) rfl (by decide))
    obtain ⟨ufZ4, ufk4⟩ : ∃ X : xH, X = (xUp ufZ3.1 188 3 a4, ufZ3.2) := ⟨_, rfl⟩
    rw [← ufk4] at ufc4 ⊢
    have ufs4 : ufZ4.1 183 5 = H.1 183 5 := ((by rw [ufk4]; exact up_na (D := ufZ3.1) (a := 188) (j := 3) (x := a4) (b := 183) (k := 5) (by decide) : ufZ4.1 183 5 = ufZ3.1 183 5)).trans ufs3
    refine q_al (pc := 28) (i := 0) (x := 183) rfl rfl ?_
    refine q_gf (pc := 29) (m := 12062) (t := 2) (c := 6) rfl (ttKc ufc4.1 (a := 183) (κ := 12) (len := 0) ⟨rfl, rfl⟩ (by decide) (by decide)).1 rfl rfl ?_
    rw [show ufZ4.1 183 6 = 188 from ttFx ufc4.1 (by decide) (by decide) rfl rfl rfl]
    refine q_ic (pc := 30) (v := 4) rfl ?_
    refine q_il (pc := 31) (i := 5) (x := a5) rfl rfl ?_
    refine q_si (pc := 32) rfl (by decide) (ttKc ufc4.1 (a := 188) (κ := 20) (len := 5) ⟨rfl, rfl⟩ (by decide) (by decide)).1 (by omega) (by rw [(ttKc ufc4.1 (a := 188) (κ := 20) (len := 5) ⟨rfl, rfl⟩ (by decide) (by decide)).2]; omega) ?_
    have ufc5 := ttPut (ttXX_out yyStab (fun _ _ => trivial)) ufc4.1 ufc4.2.1 ufc4.2.2 (a := 188) (j := 4) (x := a5) (by decide) (fun _ _ => ttTyr rfl p5.1 p5.2) ⟨(188, 0, 4), by simp, ⟨⟨by decide, rfl⟩, by decide, by decide⟩⟩ (ttMay_no (r := 188) rfl (by decide))
    obtain ⟨ufZ5, ufk5⟩ : ∃ X : xH, X = (xUp ufZ4.1 188 4 a5, ufZ4.2) := ⟨_, rfl⟩
    rw [← ufk5] at ufc5 ⊢
    have ufs5 : ufZ5.1 183 5 = H.1 183 5 := ((by rw [ufk5]; exact up_na (D := ufZ4.1) (a := 188) (j := 4) (x := a5) (b := 183) (k := 5) (by decide) : ufZ5.1 183 5 = ufZ4.1 183 5)).trans ufs4
    refine q_ic (pc := 33) (v := 0) rfl ?_
    refine q_is (pc := 34) (i := 6) (L' := [(2, 183), (0, a1), (0, a2), (0, a3), (0, a4), (0, a5), (0, 0)]) rfl rfl rfl ?_
    exact hl 20 ufZ5 0 (by omega) (by decide) (by decide) (by decide) ufs5 ufc5.1 ufc5.2.1 ufc5.2.2
  · replace h5 : 1600 < ((H.1 183 5) + 20) := h5
    refine q_ic (pc := 6) (v := (-1)) rfl ?_
    refine q_ri (pc := 7) rfl ?_
    exact hq _ H (by unfold rsFeed; (repeat' split) <;> omega) (by unfold rsFed; (repeat' split) <;> omega) hT hX (ttFr_rf _ H)
theorem lx_keep1 {dd : Nat} {v : Int} (hd : 5 ≤ dd) {H : xH} (hT : ttTI H) (hX : ttXX YY H) (p1 : -2147483648 ≤ v ∧ v ≤ 2147483647) {Q : Int → xH → Prop} (hq : ∀ r K, r = rsKeep v → (∀ j : Int, K.1 62 j = if (0 ≤ v ∧ v ≤ 2) ∧ j = v then 1 else H.1 62 j) → ttTI K → ttXX YY K → ttFr (true, [(7, 4, 18), (10, 0, 0), (11, 0, 5), (12, 0, 5), (13, 0, 0), (14, 0, 19), (15, 0, 19), (16, 0, 6), (24, 0, 5), (62, 0, 2)]) H K → Q r K) : xCall dd 193 [(2, 1), (0, v)] H Q := by
  obtain ⟨e, rfl, he⟩ := ttRun0 (n := 4) hd
  have he : 4 ≤ e := he
  have hn : 210 ≤ (H.2.2.2.1 : Int) := by have := hT.1; omega
  refine xC_of (L := [(2, 1), (0, v)]) (cd := cd_193) rfl rfl rfl ?_
  refine q_il (pc := 0) (i := 1) (x := v) rfl rfl ?_
  refine q_if (pc := 1) rfl (fun h1 => ?_) (fun h1 => ?_)
  · replace h1 : v < 0 := h1
    refine q_ic (pc := 5) (v := (-2)) rfl ?_
    refine q_ri (pc := 6) rfl ?_
    exact hq _ H (by unfold rsKeep; (repeat' split) <;> omega) (fun j => (if_neg (by omega)).symm) hT hX (ttFr_rf _ H)
  · replace h1 : 0 ≤ v := h1
    refine q_il (pc := 2) (i := 1) (x := v) rfl rfl ?_
    refine q_ic (pc := 3) (v := 3) rfl ?_
    refine q_i2 (pc := 4) rfl (fun h4 => ?_) (fun h4 => ?_)
    · replace h4 : v < 3 := h4
      refine q_al (pc := 7) (i := 0) (x := 1) rfl rfl ?_
      refine q_gf (pc := 8) (m := 11072) (t := 2) (c := 7) rfl (ttKc hT (a := 1) (κ := 11) (len := 0) ⟨rfl, rfl⟩ (by decide) (by decide)).1 rfl rfl ?_
      rw [show H.1 1 7 = 61 from ttFx hT (by decide) (by decide) rfl rfl rfl]
      refine q_il (pc := 9) (i := 1) (x := v) rfl rfl ?_
      refine q_aa (pc := 10) rfl (by rw [(ttKc hT (a := 61) (κ := 27) (len := 3) ⟨rfl, rfl⟩ (by decide) (by decide)).1]; decide) (by omega) (by rw [(ttKc hT (a := 61) (κ := 27) (len := 3) ⟨rfl, rfl⟩ (by decide) (by decide)).2]; omega) ?_
      refine q_al (pc := 11) (i := 0) (x := 1) rfl rfl ?_
      refine q_gf (pc := 12) (m := 11052) (t := 2) (c := 5) rfl (ttKc hT (a := 1) (κ := 11) (len := 0) ⟨rfl, rfl⟩ (by decide) (by decide)).1 rfl rfl ?_
      have pa : (1 ≤ (H.1 61 v) ∧ (H.1 61 v) < (H.2.2.2.1 : Int)) ∧ ttRo ((H.1 61 v)) = 7 := im_7 hT (by omega) (by omega)
      have pb : (1 ≤ (H.1 1 5) ∧ (H.1 1 5) < (H.2.2.2.1 : Int)) ∧ ttRo ((H.1 1 5)) = 7 := nw_7 hT
      have ka : H.2.1 (H.1 61 v) = 10 := by have k := (hT.2 _ pa.1.1 pa.1.2).1; rw [pa.2] at k; exact k
      refine q_iv (pc := 13) (q := 896811) rfl rfl rfl ⟨by omega, ka⟩ ?_
      refine hc_122 (ttXX_out yyStab (fun _ _ => trivial)) e (by show 3 ≤ e; omega) [(2, (H.1 61 v)), (2, (H.1 1 5))] H hT hX ⟨⟨rfl, (H.1 61 v), by show (H.1 61 v) = 1 * (H.1 61 v) + 0; omega, pa⟩, ⟨rfl, (H.1 1 5), by show (H.1 1 5) = 1 * (H.1 1 5) + 0; omega, pb⟩, trivial⟩ (fun _ hq => absurd hq List.not_mem_nil) _ (fun r K kT kX kF _ _ => ?_)
      refine q_al (pc := 14) (i := 0) (x := 1) rfl rfl ?_
      refine q_gf (pc := 15) (m := 11082) (t := 2) (c := 8) rfl (ttKc kT (a := 1) (κ := 11) (len := 0) ⟨rfl, rfl⟩ (by decide) (by decide)).1 rfl rfl ?_
      rw [show K.1 1 8 = 62 from ttFx kT (by decide) (by decide) rfl rfl rfl]
      refine q_il (pc := 16) (i := 1) (x := v) rfl rfl ?_
      refine q_ic (pc := 17) (v := 1) rfl ?_
      refine q_sc2 (pc := 18) rfl (by decide) (ttKc kT (a := 62) (κ := 22) (len := 3) ⟨rfl, rfl⟩ (by decide) (by decide)).1 (by omega) (by rw [(ttKc kT (a := 62) (κ := 22) (len := 3) ⟨rfl, rfl⟩ (by decide) (by decide)).2]; omega) (by omega) ?_
      have kF2 : ttFr (true, [(7, 4, 18), (10, 0, 0), (11, 0, 5), (12, 0, 5), (13, 0, 0), (14, 0, 19), (15, 0, 19), (16, 0, 6), (24, 0, 5), (62, 0, 2)]) H K := ttFr_tr (ttFr_rf _ H) kF (fun _ => rfl) (by decide)
      have yc := ttPut (ttXX_out yyStab (fun _ _ => trivial)) kT kX kF2 (a := 62) (j := v) (x := 1) (by decide) (fun _ _ => ttTyr rfl (by decide) (by decide)) ⟨(62, 0, 2), by simp, ⟨⟨by decide, rfl⟩, by show (0 : Int) ≤ v; omega, by show v ≤ 2; omega⟩⟩ (ttMay_no (r := 62) rfl (by decide))
      refine q_ic (pc := 19) (v := 0) rfl ?_
      refine q_ri (pc := 20) rfl ?_
      refine hq _ _ (by unfold rsKeep; (repeat' split) <;> omega) (fun j => ?_) yc.1 yc.2.1 yc.2.2
      have k6 : K.1 62 j = H.1 62 j := fr_no kF 62 (by omega) rfl rfl
      by_cases z : j = v
      · rw [if_pos ⟨⟨by omega, by omega⟩, z⟩, z]
        exact up_eq (D := K.1) (a := 62) (j := v) (x := 1)
      · rw [if_neg (fun y => z y.2), ← k6]
        exact up_ne (fun y => z y.2)
    · replace h4 : 3 ≤ v := h4
      refine q_ic (pc := 5) (v := (-2)) rfl ?_
      refine q_ri (pc := 6) rfl ?_
      exact hq _ H (by unfold rsKeep; (repeat' split) <;> omega) (fun j => (if_neg (by omega)).symm) hT hX (ttFr_rf _ H)
theorem lx_back1 {dd : Nat} {v : Int} (hd : 8 ≤ dd) {H : xH} (hT : ttTI H) (hX : ttXX YY H) (p1 : -2147483648 ≤ v ∧ v ≤ 2147483647) {Q : Int → xH → Prop} (hq : ∀ r K, r = rsBack (H.1 62) v → ttTI K → ttXX YY K → ttFr (true, [(7, 4, 18), (10, 0, 0), (11, 0, 5), (12, 0, 5), (13, 0, 0), (14, 0, 19), (15, 0, 19), (16, 0, 6), (24, 0, 5), (63, 6, 6), (64, 0, 16), (65, 0, 239), (66, 0, 239), (67, 0, 239), (68, 0, 239), (69, 0, 239), (70, 0, 15), (210, 9, 9)]) H K → Q r K) : xCall dd 194 [(2, 1), (0, v)] H Q := by
  obtain ⟨e, rfl, he⟩ := ttRun0 (n := 7) hd
  have he : 7 ≤ e := he
  have hn : 210 ≤ (H.2.2.2.1 : Int) := by have := hT.1; omega
  refine xC_of (L := [(2, 1), (0, v)]) (cd := cd_194) rfl rfl rfl ?_
  refine q_il (pc := 0) (i := 1) (x := v) rfl rfl ?_
  refine q_if (pc := 1) rfl (fun h1 => ?_) (fun h1 => ?_)
  · replace h1 : v < 0 := h1
    refine q_ic (pc := 5) (v := (-2)) rfl ?_
    refine q_ri (pc := 6) rfl ?_
    exact hq _ H (by unfold rsBack; (repeat' split) <;> omega) hT hX (ttFr_rf _ H)
  · replace h1 : 0 ≤ v := h1
    refine q_il (pc := 2) (i := 1) (x := v) rfl rfl ?_
    refine q_ic (pc := 3) (v := 3) rfl ?_
    refine q_i2 (pc := 4) rfl (fun h4 => ?_) (fun h4 => ?_)
    · replace h4 : v < 3 := h4
      refine q_al (pc := 7) (i := 0) (x := 1) rfl rfl ?_
      refine q_gf (pc := 8) (m := 11082) (t := 2) (c := 8) rfl (ttKc hT (a := 1) (κ := 11) (len := 0) ⟨rfl, rfl⟩ (by decide) (by decide)).1 rfl rfl ?_
      rw [show H.1 1 8 = 62 from ttFx hT (by decide) (by decide) rfl rfl rfl]
      refine q_il (pc := 9) (i := 1) (x := v) rfl rfl ?_
      refine q_ac (pc := 10) rfl (ttKc hT (a := 62) (κ := 22) (len := 3) ⟨rfl, rfl⟩ (by decide) (by decide)).1 (by omega) (by rw [(ttKc hT (a := 62) (κ := 22) (len := 3) ⟨rfl, rfl⟩ (by decide) (by decide)).2]; omega) ?_
      refine q_if (pc := 11) rfl (fun h11 => ?_) (fun h11 => ?_)
      · replace h11 : (H.1 62 v) ≠ 0 := h11
        refine q_al (pc := 14) (i := 0) (x := 1) rfl rfl ?_
        refine q_gf (pc := 15) (m := 11052) (t := 2) (c := 5) rfl (ttKc hT (a := 1) (κ := 11) (len := 0) ⟨rfl, rfl⟩ (by decide) (by decide)).1 rfl rfl ?_
        refine q_al (pc := 16) (i := 0) (x := 1) rfl rfl ?_
        refine q_gf (pc := 17) (m := 11072) (t := 2) (c := 7) rfl (ttKc hT (a := 1) (κ := 11) (len := 0) ⟨rfl, rfl⟩ (by decide) (by decide)).1 rfl rfl ?_
        rw [show H.1 1 7 = 61 from ttFx hT (by decide) (by decide) rfl rfl rfl]
        refine q_il (pc := 18) (i := 1) (x := v) rfl rfl ?_
        refine q_aa (pc := 19) rfl (by rw [(ttKc hT (a := 61) (κ := 27) (len := 3) ⟨rfl, rfl⟩ (by decide) (by decide)).1]; decide) (by omega) (by rw [(ttKc hT (a := 61) (κ := 27) (len := 3) ⟨rfl, rfl⟩ (by decide) (by decide)).2]; omega) ?_
        have pa : (1 ≤ (H.1 1 5) ∧ (H.1 1 5) < (H.2.2.2.1 : Int)) ∧ ttRo ((H.1 1 5)) = 7 := nw_7 hT
        have pb : (1 ≤ (H.1 61 v) ∧ (H.1 61 v) < (H.2.2.2.1 : Int)) ∧ ttRo ((H.1 61 v)) = 7 := im_7 hT (by omega) (by omega)
        have ka : H.2.1 (H.1 1 5) = 10 := by have k := (hT.2 _ pa.1.1 pa.1.2).1; rw [pa.2] at k; exact k
        refine q_iv (pc := 20) (q := 896811) rfl rfl rfl ⟨by omega, ka⟩ ?_
        refine hc_122 (ttXX_out yyStab (fun _ _ => trivial)) e (by show 3 ≤ e; omega) [(2, (H.1 1 5)), (2, (H.1 61 v))] H hT hX ⟨⟨rfl, (H.1 1 5), by show (H.1 1 5) = 1 * (H.1 1 5) + 0; omega, pa⟩, ⟨rfl, (H.1 61 v), by show (H.1 61 v) = 1 * (H.1 61 v) + 0; omega, pb⟩, trivial⟩ (fun _ hq => absurd hq List.not_mem_nil) _ (fun r K kT kX kF _ _ => ?_)
        refine q_al (pc := 21) (i := 0) (x := 1) rfl rfl ?_
        refine q_gf (pc := 22) (m := 11092) (t := 2) (c := 9) rfl (ttKc kT (a := 1) (κ := 11) (len := 0) ⟨rfl, rfl⟩ (by decide) (by decide)).1 rfl rfl ?_
        rw [show K.1 1 9 = 63 from ttFx kT (by decide) (by decide) rfl rfl rfl]
        refine q_al (pc := 23) (i := 0) (x := 1) rfl rfl ?_
        refine q_gf (pc := 24) (m := 11052) (t := 2) (c := 5) rfl (ttKc kT (a := 1) (κ := 11) (len := 0) ⟨rfl, rfl⟩ (by decide) (by decide)).1 rfl rfl ?_
        have pc5 := nw_7 kT
        refine q_iv (pc := 25) (q := 136091) rfl rfl rfl ⟨by omega, (ttKc kT (a := 63) (κ := 1) (len := 0) ⟨rfl, rfl⟩ (by decide) (by decide)).1⟩ ?_
        refine hc_11 (ttXX_out yyStab (fun _ _ => trivial)) e (by show 6 ≤ e; omega) [(2, 63), (2, (K.1 1 5))] K kT kX ⟨⟨rfl, ttPk_of rfl⟩, ⟨rfl, K.1 1 5, by show K.1 1 5 = 1 * K.1 1 5 + 0; omega, pc5⟩, trivial⟩ (fun _ hq => absurd hq List.not_mem_nil) _ (fun r2 M mT mX mF _ _ => ?_)
        refine q_al (pc := 26) (i := 0) (x := 1) rfl rfl ?_
        refine q_iv (pc := 27) (q := 1104887) rfl rfl rfl (ttKc mT (a := 1) (κ := 11) (len := 0) ⟨rfl, rfl⟩ (by decide) (by decide)).1 ?_
        refine hc_4 (ttXX_out yyStab (fun _ _ => trivial)) e (by show 1 ≤ e; omega) [(2, 1)] M mT mX ⟨⟨rfl, ttPk_of rfl⟩, trivial⟩ (fun _ hq => absurd hq List.not_mem_nil) _ (fun r3 N nT nX nF _ _ => ?_)
        refine q_ic (pc := 28) (v := 0) rfl ?_
        refine q_ri (pc := 29) rfl ?_
        exact hq _ N (by unfold rsBack; (repeat' split) <;> omega) nT nX (ttFr_tr (ttFr_tr (ttFr_tr (ttFr_rf (true, [(7, 4, 18), (10, 0, 0), (11, 0, 5), (12, 0, 5), (13, 0, 0), (14, 0, 19), (15, 0, 19), (16, 0, 6), (24, 0, 5), (63, 6, 6), (64, 0, 16), (65, 0, 239), (66, 0, 239), (67, 0, 239), (68, 0, 239), (69, 0, 239), (70, 0, 15), (210, 9, 9)]) H) kF (fun _ => rfl) (by decide)) mF (fun _ => rfl) (by decide)) nF (fun _ => rfl) (by decide))
      · replace h11 : (H.1 62 v) = 0 := h11
        refine q_ic (pc := 12) (v := (-6)) rfl ?_
        refine q_ri (pc := 13) rfl ?_
        exact hq _ H (by unfold rsBack; (repeat' split) <;> omega) hT hX (ttFr_rf _ H)
    · replace h4 : 3 ≤ v := h4
      refine q_ic (pc := 5) (v := (-2)) rfl ?_
      refine q_ri (pc := 6) rfl ?_
      exact hq _ H (by unfold rsBack; (repeat' split) <;> omega) hT hX (ttFr_rf _ H)
theorem lx_keep2 {dd : Nat} {v1 : Int} (hd : 2 ≤ dd) {H : xH} (hT : ttTI H) (hX : ttXX YY H) (p1 : -2147483648 ≤ v1 ∧ v1 ≤ 2147483647) {Q : Int → xH → Prop} (hq : ∀ r H', r = rsKeep v1 → (∀ j : Int, H'.1 186 j = if (0 ≤ v1 ∧ v1 ≤ 2) ∧ j = v1 then 1 else H.1 186 j) → ttTI H' → ttXX YY H' → ttFr (true, [(185, 0, 587), (186, 0, 2)]) H H' → Q r H') : xCall dd 205 [(2, 183), (0, v1)] H Q := by
  obtain ⟨e, rfl, he⟩ := ttRun0 (n := 1) hd
  have he : 1 ≤ e := he
  obtain ⟨rm, n, w, im, wy, lg⟩ := id hX
  have hl : ∀ m : Nat, ∀ (K : xH) (i : Int), ttTI K → ttFr (true, [(185, 0, 587), (186, 0, 2)]) H K → (∀ j : Int, 0 ≤ j → j < i → K.1 185 (196 * v1 + j) = H.1 184 j) → (∀ j : Int, ¬ (196 * v1 ≤ j ∧ j < 196 * v1 + i) → K.1 185 j = H.1 185 j) → (∀ j : Int, K.1 186 j = H.1 186 j) → 0 ≤ v1 → v1 ≤ 2 → 0 ≤ i → i ≤ 196 → 196 - i ≤ (m : Int) → xW e cd_205 Q (10, [(2, 183), (0, v1), (0, i)], [], K) := by
    intro m
    induction m with
    | zero =>
      intro K i kT kF f1 f2 f3 w1 w2 i0 i1 hn
      refine q_il (pc := 10) (i := 2) (x := i) rfl rfl ?_
      refine q_ic (pc := 11) (v := 196) rfl ?_
      refine q_i2 (pc := 12) rfl (fun h12 => ?_) (fun h12 => ?_)
      · replace h12 : 196 ≤ i := h12
        refine q_al (pc := 27) (i := 0) (x := 183) rfl rfl ?_
        refine q_gf (pc := 28) (m := 12032) (t := 2) (c := 3) rfl (ttKc kT (a := 183) (κ := 12) (len := 0) ⟨rfl, rfl⟩ (by decide) (by decide)).1 rfl rfl ?_
        rw [show K.1 183 3 = 186 from ttFx kT (by decide) (by decide) rfl rfl rfl]
        refine q_il (pc := 29) (i := 1) (x := v1) rfl rfl ?_
        refine q_ic (pc := 30) (v := 1) rfl ?_
        refine q_sc2 (pc := 31) rfl (by decide) (ttKc kT (a := 186) (κ := 22) (len := 3) ⟨rfl, rfl⟩ (by decide) (by decide)).1 (by omega) (by rw [(ttKc kT (a := 186) (κ := 22) (len := 3) ⟨rfl, rfl⟩ (by decide) (by decide)).2]; omega) (by omega) ?_
        refine q_ic (pc := 32) (v := 0) rfl ?_
        refine q_ri (pc := 33) rfl ?_
        have c := ttPuT kT kF (a := 186) (j := v1) (x := 1) (by decide) (fun _ _ => ttTyr rfl (by decide) (by decide)) ⟨(186, 0, 2), List.mem_cons_of_mem _ (List.mem_cons_self ..), ⟨⟨by decide, rfl⟩, by show (0 : Int) ≤ v1; omega, by show v1 ≤ 2; omega⟩⟩
        refine hq _ _ (by unfold rsKeep; (repeat' split) <;> omega) (fun j => (Classical.em (j = v1)).elim (fun z => by rw [if_pos ⟨⟨w1, w2⟩, z⟩, z]; exact up_eq (D := K.1) (a := 186) (j := v1) (x := 1)) (fun z => by rw [if_neg (fun y => z y.2), ← f3 j]; exact up_ne (fun y => z y.2))) c.1 ⟨rm_fr c.2 rfl n (by decide) rm, by show 210 ≤ (K.2.2.2.1 : Int); rw [kF.1 rfl]; exact n, yyR_eq (fun j _ _ _ => fr_no c.2 184 (by omega) rfl (by decide)) w, fun k k0 k1 k2 => ?_, fun z => ?_, fun z => ?_⟩ c.2
        · by_cases z : k = v1
          · subst z
            exact yyR_eq (fun j j0 j1 _ => by
              rw [Int.zero_add]
              exact (show xUp K.1 186 k 1 185 (196 * k + j) = _ from up_tr (by decide) (f1 j j0 (by omega)))) w
          · have e : xUp K.1 186 v1 1 186 k = H.1 186 k := up_t2 (by omega) (f3 k)
            replace k2 : xUp K.1 186 v1 1 186 k ≠ 0 := k2
            rw [e] at k2
            exact yyR_eq (fun j j0 j1 _ => show xUp K.1 186 v1 1 185 (196 * k + j) = _ from up_tr (by decide) (f2 _ (by omega))) (im k k0 k1 k2)
        · rw [fr_no c.2 183 (by omega) rfl (by decide)] at z
          exact yyW_eq (fun j _ _ _ => fr_no c.2 184 (by omega) rfl (by decide)) (fun j _ _ => fr_no c.2 190 (by omega) rfl (by decide)) (fun j _ _ => fr_no c.2 191 (by omega) rfl (by decide)) (wy z)
        · rw [fr_no c.2 183 (by omega) rfl (by decide)] at z
          obtain ⟨z1, z2⟩ := lg z
          exact ⟨(fr_no c.2 183 (by omega) rfl (by decide)).trans z1, yyL_eq (fun j _ _ _ => fr_no c.2 184 (by omega) rfl (by decide)) (fun j _ _ => fr_no c.2 190 (by omega) rfl (by decide)) (fun j _ _ => fr_no c.2 191 (by omega) rfl (by decide)) (fun j _ _ => fr_no c.2 196 (by omega) rfl (by decide)) z2⟩
      · replace h12 : i < 196 := h12
        refine q_al (pc := 13) (i := 0) (x := 183) rfl rfl ?_
        refine q_gf (pc := 14) (m := 12022) (t := 2) (c := 2) rfl (ttKc kT (a := 183) (κ := 12) (len := 0) ⟨rfl, rfl⟩ (by decide) (by decide)).1 rfl rfl ?_
        rw [show K.1 183 2 = 185 from ttFx kT (by decide) (by decide) rfl rfl rfl]
        refine q_ic (pc := 15) (v := 196) rfl ?_
        refine q_il (pc := 16) (i := 1) (x := v1) rfl rfl ?_
        refine q_im (pc := 17) rfl (by omega) (by omega) ?_
        refine q_il (pc := 18) (i := 2) (x := i) rfl rfl ?_
        refine q_ia (pc := 19) rfl (by omega) (by omega) ?_
        refine q_al (pc := 20) (i := 0) (x := 183) rfl rfl ?_
        refine q_gf (pc := 21) (m := 12012) (t := 2) (c := 1) rfl (ttKc kT (a := 183) (κ := 12) (len := 0) ⟨rfl, rfl⟩ (by decide) (by decide)).1 rfl rfl ?_
        rw [show K.1 183 1 = 184 from ttFx kT (by decide) (by decide) rfl rfl rfl]
        refine q_il (pc := 22) (i := 2) (x := i) rfl rfl ?_
        refine q_ai (pc := 23) rfl (ttKc kT (a := 184) (κ := 20) (len := 196) ⟨rfl, rfl⟩ (by decide) (by decide)).1 (by omega) (by rw [(ttKc kT (a := 184) (κ := 20) (len := 196) ⟨rfl, rfl⟩ (by decide) (by decide)).2]; omega) ?_
        refine q_si (pc := 24) rfl (by decide) (ttKc kT (a := 185) (κ := 20) (len := 588) ⟨rfl, rfl⟩ (by decide) (by decide)).1 (by omega) (by rw [(ttKc kT (a := 185) (κ := 20) (len := 588) ⟨rfl, rfl⟩ (by decide) (by decide)).2]; omega) ?_
        refine q_ii (pc := 25) (i := 2) (c := 1) (x := i) (L' := [(2, 183), (0, v1), (0, (i + 1))]) rfl rfl rfl (by omega) (by omega) rfl ?_
        refine q_go (pc := 26) rfl ?_
        omega
    | succ m ih =>
      intro K i kT kF f1 f2 f3 w1 w2 i0 i1 hn
      refine q_il (pc := 10) (i := 2) (x := i) rfl rfl ?_
      refine q_ic (pc := 11) (v := 196) rfl ?_
      refine q_i2 (pc := 12) rfl (fun h12 => ?_) (fun h12 => ?_)
      · replace h12 : 196 ≤ i := h12
        refine q_al (pc := 27) (i := 0) (x := 183) rfl rfl ?_
        refine q_gf (pc := 28) (m := 12032) (t := 2) (c := 3) rfl (ttKc kT (a := 183) (κ := 12) (len := 0) ⟨rfl, rfl⟩ (by decide) (by decide)).1 rfl rfl ?_
        rw [show K.1 183 3 = 186 from ttFx kT (by decide) (by decide) rfl rfl rfl]
        refine q_il (pc := 29) (i := 1) (x := v1) rfl rfl ?_
        refine q_ic (pc := 30) (v := 1) rfl ?_
        refine q_sc2 (pc := 31) rfl (by decide) (ttKc kT (a := 186) (κ := 22) (len := 3) ⟨rfl, rfl⟩ (by decide) (by decide)).1 (by omega) (by rw [(ttKc kT (a := 186) (κ := 22) (len := 3) ⟨rfl, rfl⟩ (by decide) (by decide)).2]; omega) (by omega) ?_
        refine q_ic (pc := 32) (v := 0) rfl ?_
        refine q_ri (pc := 33) rfl ?_
        have c := ttPuT kT kF (a := 186) (j := v1) (x := 1) (by decide) (fun _ _ => ttTyr rfl (by decide) (by decide)) ⟨(186, 0, 2), List.mem_cons_of_mem _ (List.mem_cons_self ..), ⟨⟨by decide, rfl⟩, by show (0 : Int) ≤ v1; omega, by show v1 ≤ 2; omega⟩⟩
        refine hq _ _ (by unfold rsKeep; (repeat' split) <;> omega) (fun j => (Classical.em (j = v1)).elim (fun z => by rw [if_pos ⟨⟨w1, w2⟩, z⟩, z]; exact up_eq (D := K.1) (a := 186) (j := v1) (x := 1)) (fun z => by rw [if_neg (fun y => z y.2), ← f3 j]; exact up_ne (fun y => z y.2))) c.1 ⟨rm_fr c.2 rfl n (by decide) rm, by show 210 ≤ (K.2.2.2.1 : Int); rw [kF.1 rfl]; exact n, yyR_eq (fun j _ _ _ => fr_no c.2 184 (by omega) rfl (by decide)) w, fun k k0 k1 k2 => ?_, fun z => ?_, fun z => ?_⟩ c.2
        · by_cases z : k = v1
          · subst z
            exact yyR_eq (fun j j0 j1 _ => by
              rw [Int.zero_add]
              exact (show xUp K.1 186 k 1 185 (196 * k + j) = _ from up_tr (by decide) (f1 j j0 (by omega)))) w
          · have e : xUp K.1 186 v1 1 186 k = H.1 186 k := up_t2 (by omega) (f3 k)
            replace k2 : xUp K.1 186 v1 1 186 k ≠ 0 := k2
            rw [e] at k2
            exact yyR_eq (fun j j0 j1 _ => show xUp K.1 186 v1 1 185 (196 * k + j) = _ from up_tr (by decide) (f2 _ (by omega))) (im k k0 k1 k2)
        · rw [fr_no c.2 183 (by omega) rfl (by decide)] at z
          exact yyW_eq (fun j _ _ _ => fr_no c.2 184 (by omega) rfl (by decide)) (fun j _ _ => fr_no c.2 190 (by omega) rfl (by decide)) (fun j _ _ => fr_no c.2 191 (by omega) rfl (by decide)) (wy z)
        · rw [fr_no c.2 183 (by omega) rfl (by decide)] at z
          obtain ⟨z1, z2⟩ := lg z
          exact ⟨(fr_no c.2 183 (by omega) rfl (by decide)).trans z1, yyL_eq (fun j _ _ _ => fr_no c.2 184 (by omega) rfl (by decide)) (fun j _ _ => fr_no c.2 190 (by omega) rfl (by decide)) (fun j _ _ => fr_no c.2 191 (by omega) rfl (by decide)) (fun j _ _ => fr_no c.2 196 (by omega) rfl (by decide)) z2⟩
      · replace h12 : i < 196 := h12
        refine q_al (pc := 13) (i := 0) (x := 183) rfl rfl ?_
        refine q_gf (pc := 14) (m := 12022) (t := 2) (c := 2) rfl (ttKc kT (a := 183) (κ := 12) (len := 0) ⟨rfl, rfl⟩ (by decide) (by decide)).1 rfl rfl ?_
        rw [show K.1 183 2 = 185 from ttFx kT (by decide) (by decide) rfl rfl rfl]
        refine q_ic (pc := 15) (v := 196) rfl ?_
        refine q_il (pc := 16) (i := 1) (x := v1) rfl rfl ?_
        refine q_im (pc := 17) rfl (by omega) (by omega) ?_
        refine q_il (pc := 18) (i := 2) (x := i) rfl rfl ?_
        refine q_ia (pc := 19) rfl (by omega) (by omega) ?_
        refine q_al (pc := 20) (i := 0) (x := 183) rfl rfl ?_
        refine q_gf (pc := 21) (m := 12012) (t := 2) (c := 1) rfl (ttKc kT (a := 183) (κ := 12) (len := 0) ⟨rfl, rfl⟩ (by decide) (by decide)).1 rfl rfl ?_
        rw [show K.1 183 1 = 184 from ttFx kT (by decide) (by decide) rfl rfl rfl]
        refine q_il (pc := 22) (i := 2) (x := i) rfl rfl ?_
        refine q_ai (pc := 23) rfl (ttKc kT (a := 184) (κ := 20) (len := 196) ⟨rfl, rfl⟩ (by decide) (by decide)).1 (by omega) (by rw [(ttKc kT (a := 184) (κ := 20) (len := 196) ⟨rfl, rfl⟩ (by decide) (by decide)).2]; omega) ?_
        refine q_si (pc := 24) rfl (by decide) (ttKc kT (a := 185) (κ := 20) (len := 588) ⟨rfl, rfl⟩ (by decide) (by decide)).1 (by omega) (by rw [(ttKc kT (a := 185) (κ := 20) (len := 588) ⟨rfl, rfl⟩ (by decide) (by decide)).2]; omega) ?_
        refine q_ii (pc := 25) (i := 2) (c := 1) (x := i) (L' := [(2, 183), (0, v1), (0, (i + 1))]) rfl rfl rfl (by omega) (by omega) rfl ?_
        refine q_go (pc := 26) rfl ?_
        have k := ttMc kT (a := 184) (j := i) (by decide) (by decide) i0 (by show i < 196; omega)
        have c := ttPuT kT kF (a := 185) (j := 196 * v1 + i) (x := K.1 184 i) (by decide) (fun _ _ => by rw [show ttRo 185 = 185 from rfl, ty_img i0 (by omega)]; exact k) ⟨(185, 0, 587), List.mem_cons_self .., ⟨⟨by decide, rfl⟩, by show (0 : Int) ≤ 196 * v1 + i; omega, by show 196 * v1 + i ≤ 587; omega⟩⟩
        exact ih _ (i + 1) c.1 c.2 (fun j j0 j1 => by
          by_cases z : j = i
          · subst z
            exact (show xUp K.1 185 (196 * v1 + j) (K.1 184 j) 185 (196 * v1 + j) = _ from up_eq.trans (fr_no kF 184 (by omega) rfl (by decide)))
          · exact (show xUp K.1 185 (196 * v1 + i) (K.1 184 i) 185 (196 * v1 + j) = _ from up_t2 (by omega) (f1 j j0 (by omega)))) (fun j hj => show xUp K.1 185 (196 * v1 + i) (K.1 184 i) 185 j = _ from up_t2 (by omega) (f2 j (by omega))) (fun j => show xUp K.1 185 (196 * v1 + i) (K.1 184 i) 186 j = _ from up_tr (by decide) (f3 j)) w1 w2 (by omega) (by omega) (by omega)
  refine xC_of (L := [(2, 183), (0, v1), (9, 0)]) (cd := cd_205) rfl rfl rfl ?_
  refine q_il (pc := 0) (i := 1) (x := v1) rfl rfl ?_
  refine q_2l (pc := 1) rfl ?_
  refine q_lc (pc := 2) (v := 0) rfl ?_
  refine q_lc (pc := 3) (v := 2) rfl ?_
  refine q_ij (pc := 4) (q := 1615932) rfl rfl rfl trivial ?_
  refine lf_in (by omega) (fun h4 => ?_) (fun h4 => ?_)
  · replace h4 : 0 ≤ v1 ∧ v1 ≤ 2 := h4
    refine q_if (pc := 5) rfl (fun h5 => ?_) (fun h5 => ?_)
    · replace h5 : (1 : Int) ≠ 0 := h5
      refine q_ic (pc := 8) (v := 0) rfl ?_
      refine q_is (pc := 9) (i := 2) (L' := [(2, 183), (0, v1), (0, 0)]) rfl rfl rfl ?_
      exact hl 196 H 0 hT (ttFr_rf _ _) (fun j _ _ => by omega) (fun _ _ => rfl) (fun _ => rfl) (by omega) (by omega) (by decide) (by decide) (by decide)
    · replace h5 : (1 : Int) = 0 := h5
      omega
  · replace h4 : ¬ (0 ≤ v1 ∧ v1 ≤ 2) := h4
    refine q_if (pc := 5) rfl (fun h5 => ?_) (fun h5 => ?_)
    · replace h5 : (0 : Int) ≠ 0 := h5
      omega
    · replace h5 : (0 : Int) = 0 := h5
      refine q_ic (pc := 6) (v := (-2)) rfl ?_
      refine q_ri (pc := 7) rfl ?_
      exact hq _ H (by unfold rsKeep; (repeat' split) <;> omega) (fun j => (if_neg (by omega)).symm) hT hX (ttFr_rf _ _)
theorem lx_back2 {dd : Nat} {v1 : Int} (hd : 2 ≤ dd) {H : xH} (hT : ttTI H) (hX : ttXX YY H) (p1 : -2147483648 ≤ v1 ∧ v1 ≤ 2147483647) {Q : Int → xH → Prop} (hq : ∀ r H', r = rsBack (H.1 186) v1 → ttTI H' → ttXX YY H' → ttFr (true, [(184, 0, 195), (193, 0, 975), (183, 22, 22), (183, 29, 29)]) H H' → Q r H') : xCall dd 206 [(2, 183), (0, v1)] H Q := by
  obtain ⟨e, rfl, he⟩ := ttRun0 (n := 1) hd
  have he : 1 ≤ e := he
  obtain ⟨rm, n, w, im, wy, lg⟩ := id hX
  have hl : ∀ m : Nat, ∀ (K : xH) (i : Int), ttTI K → ttFr (true, [(184, 0, 195), (193, 0, 975), (183, 22, 22), (183, 29, 29)]) H K → (∀ j : Int, 0 ≤ j → j < i → K.1 184 j = H.1 185 (196 * v1 + j)) → H.1 186 v1 ≠ 0 → 0 ≤ v1 → v1 ≤ 2 → 0 ≤ i → i ≤ 196 → 196 - i ≤ (m : Int) → xW e cd_206 Q (17, [(2, 183), (0, v1), (0, i)], [], K) := by
    intro m
    induction m with
    | zero =>
      intro K i kT kF f1 f2 w1 w2 i0 i1 hn
      refine q_il (pc := 17) (i := 2) (x := i) rfl rfl ?_
      refine q_ic (pc := 18) (v := 196) rfl ?_
      refine q_i2 (pc := 19) rfl (fun h19 => ?_) (fun h19 => ?_)
      · replace h19 : 196 ≤ i := h19
        refine q_al (pc := 34) (i := 0) (x := 183) rfl rfl ?_
        refine q_iv (pc := 35) (q := 2128967) rfl rfl rfl (ttKc kT (a := 183) (κ := 12) (len := 0) ⟨rfl, rfl⟩ (by decide) (by decide)).1 ?_
        refine lf_forgets (by omega) kT (fun M mT mF m1 m2 => ?_)
        refine q_ic (pc := 36) (v := 0) rfl ?_
        refine q_ri (pc := 37) rfl ?_
        have c : ttFr (true, [(184, 0, 195), (193, 0, 975), (183, 22, 22), (183, 29, 29)]) H M := ttFr_tr kF mF (fun _ => rfl) (by decide)
        have hw : ∀ j : Int, 0 ≤ j → j < 196 → M.1 184 j = H.1 185 (196 * v1 + j) := fun j j0 j1 => (fr_no mF 184 (by rw [kF.1 rfl]; omega) rfl (by decide)).trans (f1 j j0 (by omega))
        refine hq _ M (by unfold rsBack; (repeat' split) <;> omega) mT ⟨rm_fr c rfl n (by decide) rm, by rw [c.1 rfl]; exact n, yyR_eq (fun j j0 j1 _ => ?_) (im v1 w1 (by omega) f2), fun k k0 k1 k2 => ?_, fun z => ?_, fun z => absurd m2 z⟩ c
        · rw [Int.zero_add]
          exact hw j j0 (by omega)
        · rw [fr_no c 186 (by omega) rfl (by decide)] at k2
          exact yyR_eq (fun j _ _ _ => fr_no c 185 (by omega) rfl (by decide)) (im k k0 k1 k2)
        · rw [m1] at z
          exact absurd z (by decide)
      · replace h19 : i < 196 := h19
        refine q_al (pc := 20) (i := 0) (x := 183) rfl rfl ?_
        refine q_gf (pc := 21) (m := 12012) (t := 2) (c := 1) rfl (ttKc kT (a := 183) (κ := 12) (len := 0) ⟨rfl, rfl⟩ (by decide) (by decide)).1 rfl rfl ?_
        rw [show K.1 183 1 = 184 from ttFx kT (by decide) (by decide) rfl rfl rfl]
        refine q_il (pc := 22) (i := 2) (x := i) rfl rfl ?_
        refine q_al (pc := 23) (i := 0) (x := 183) rfl rfl ?_
        refine q_gf (pc := 24) (m := 12022) (t := 2) (c := 2) rfl (ttKc kT (a := 183) (κ := 12) (len := 0) ⟨rfl, rfl⟩ (by decide) (by decide)).1 rfl rfl ?_
        rw [show K.1 183 2 = 185 from ttFx kT (by decide) (by decide) rfl rfl rfl]
        refine q_ic (pc := 25) (v := 196) rfl ?_
        refine q_il (pc := 26) (i := 1) (x := v1) rfl rfl ?_
        refine q_im (pc := 27) rfl (by omega) (by omega) ?_
        refine q_il (pc := 28) (i := 2) (x := i) rfl rfl ?_
        refine q_ia (pc := 29) rfl (by omega) (by omega) ?_
        refine q_ai (pc := 30) rfl (ttKc kT (a := 185) (κ := 20) (len := 588) ⟨rfl, rfl⟩ (by decide) (by decide)).1 (by omega) (by rw [(ttKc kT (a := 185) (κ := 20) (len := 588) ⟨rfl, rfl⟩ (by decide) (by decide)).2]; omega) ?_
        refine q_si (pc := 31) rfl (by decide) (ttKc kT (a := 184) (κ := 20) (len := 196) ⟨rfl, rfl⟩ (by decide) (by decide)).1 (by omega) (by rw [(ttKc kT (a := 184) (κ := 20) (len := 196) ⟨rfl, rfl⟩ (by decide) (by decide)).2]; omega) ?_
        refine q_ii (pc := 32) (i := 2) (c := 1) (x := i) (L' := [(2, 183), (0, v1), (0, (i + 1))]) rfl rfl rfl (by omega) (by omega) rfl ?_
        refine q_go (pc := 33) rfl ?_
        omega
    | succ m ih =>
      intro K i kT kF f1 f2 w1 w2 i0 i1 hn
      refine q_il (pc := 17) (i := 2) (x := i) rfl rfl ?_
      refine q_ic (pc := 18) (v := 196) rfl ?_
      refine q_i2 (pc := 19) rfl (fun h19 => ?_) (fun h19 => ?_)
      · replace h19 : 196 ≤ i := h19
        refine q_al (pc := 34) (i := 0) (x := 183) rfl rfl ?_
        refine q_iv (pc := 35) (q := 2128967) rfl rfl rfl (ttKc kT (a := 183) (κ := 12) (len := 0) ⟨rfl, rfl⟩ (by decide) (by decide)).1 ?_
        refine lf_forgets (by omega) kT (fun M mT mF m1 m2 => ?_)
        refine q_ic (pc := 36) (v := 0) rfl ?_
        refine q_ri (pc := 37) rfl ?_
        have c : ttFr (true, [(184, 0, 195), (193, 0, 975), (183, 22, 22), (183, 29, 29)]) H M := ttFr_tr kF mF (fun _ => rfl) (by decide)
        have hw : ∀ j : Int, 0 ≤ j → j < 196 → M.1 184 j = H.1 185 (196 * v1 + j) := fun j j0 j1 => (fr_no mF 184 (by rw [kF.1 rfl]; omega) rfl (by decide)).trans (f1 j j0 (by omega))
        refine hq _ M (by unfold rsBack; (repeat' split) <;> omega) mT ⟨rm_fr c rfl n (by decide) rm, by rw [c.1 rfl]; exact n, yyR_eq (fun j j0 j1 _ => ?_) (im v1 w1 (by omega) f2), fun k k0 k1 k2 => ?_, fun z => ?_, fun z => absurd m2 z⟩ c
        · rw [Int.zero_add]
          exact hw j j0 (by omega)
        · rw [fr_no c 186 (by omega) rfl (by decide)] at k2
          exact yyR_eq (fun j _ _ _ => fr_no c 185 (by omega) rfl (by decide)) (im k k0 k1 k2)
        · rw [m1] at z
          exact absurd z (by decide)
      · replace h19 : i < 196 := h19
        refine q_al (pc := 20) (i := 0) (x := 183) rfl rfl ?_
        refine q_gf (pc := 21) (m := 12012) (t := 2) (c := 1) rfl (ttKc kT (a := 183) (κ := 12) (len := 0) ⟨rfl, rfl⟩ (by decide) (by decide)).1 rfl rfl ?_
        rw [show K.1 183 1 = 184 from ttFx kT (by decide) (by decide) rfl rfl rfl]
        refine q_il (pc := 22) (i := 2) (x := i) rfl rfl ?_
        refine q_al (pc := 23) (i := 0) (x := 183) rfl rfl ?_
        refine q_gf (pc := 24) (m := 12022) (t := 2) (c := 2) rfl (ttKc kT (a := 183) (κ := 12) (len := 0) ⟨rfl, rfl⟩ (by decide) (by decide)).1 rfl rfl ?_
        rw [show K.1 183 2 = 185 from ttFx kT (by decide) (by decide) rfl rfl rfl]
        refine q_ic (pc := 25) (v := 196) rfl ?_
        refine q_il (pc := 26) (i := 1) (x := v1) rfl rfl ?_
        refine q_im (pc := 27) rfl (by omega) (by omega) ?_
        refine q_il (pc := 28) (i := 2) (x := i) rfl rfl ?_
        refine q_ia (pc := 29) rfl (by omega) (by omega) ?_
        refine q_ai (pc := 30) rfl (ttKc kT (a := 185) (κ := 20) (len := 588) ⟨rfl, rfl⟩ (by decide) (by decide)).1 (by omega) (by rw [(ttKc kT (a := 185) (κ := 20) (len := 588) ⟨rfl, rfl⟩ (by decide) (by decide)).2]; omega) ?_
        refine q_si (pc := 31) rfl (by decide) (ttKc kT (a := 184) (κ := 20) (len := 196) ⟨rfl, rfl⟩ (by decide) (by decide)).1 (by omega) (by rw [(ttKc kT (a := 184) (κ := 20) (len := 196) ⟨rfl, rfl⟩ (by decide) (by decide)).2]; omega) ?_
        refine q_ii (pc := 32) (i := 2) (c := 1) (x := i) (L' := [(2, 183), (0, v1), (0, (i + 1))]) rfl rfl rfl (by omega) (by omega) rfl ?_
        refine q_go (pc := 33) rfl ?_
        have k := ttMc kT (a := 185) (j := 196 * v1 + i) (by decide) (by decide) (by omega) (by show 196 * v1 + i < 588; omega)
        rw [show ttRo 185 = 185 from rfl, ty_img i0 (by omega)] at k
        have c := ttPuT kT kF (a := 184) (j := i) (x := K.1 185 (196 * v1 + i)) (by decide) (fun _ _ => k) ⟨(184, 0, 195), List.mem_cons_self .., ⟨⟨by decide, rfl⟩, by show (0 : Int) ≤ i; omega, by show i ≤ 195; omega⟩⟩
        exact ih _ (i + 1) c.1 c.2 (fun j j0 j1 => by
          by_cases z : j = i
          · subst z
            exact (show xUp K.1 184 j (K.1 185 (196 * v1 + j)) 184 j = _ from up_eq.trans (fr_no kF 185 (by omega) rfl (by decide)))
          · exact (show xUp K.1 184 i (K.1 185 (196 * v1 + i)) 184 j = _ from up_t2 (by omega) (f1 j j0 (by omega)))) f2 w1 w2 (by omega) (by omega) (by omega)
  refine xC_of (L := [(2, 183), (0, v1), (9, 0)]) (cd := cd_206) rfl rfl rfl ?_
  refine q_il (pc := 0) (i := 1) (x := v1) rfl rfl ?_
  refine q_2l (pc := 1) rfl ?_
  refine q_lc (pc := 2) (v := 0) rfl ?_
  refine q_lc (pc := 3) (v := 2) rfl ?_
  refine q_ij (pc := 4) (q := 1615932) rfl rfl rfl trivial ?_
  refine lf_in (by omega) (fun h4 => ?_) (fun h4 => ?_)
  · replace h4 : 0 ≤ v1 ∧ v1 ≤ 2 := h4
    refine q_if (pc := 5) rfl (fun h5 => ?_) (fun h5 => ?_)
    · replace h5 : (1 : Int) ≠ 0 := h5
      refine q_al (pc := 8) (i := 0) (x := 183) rfl rfl ?_
      refine q_gf (pc := 9) (m := 12032) (t := 2) (c := 3) rfl (ttKc hT (a := 183) (κ := 12) (len := 0) ⟨rfl, rfl⟩ (by decide) (by decide)).1 rfl rfl ?_
      rw [show H.1 183 3 = 186 from ttFx hT (by decide) (by decide) rfl rfl rfl]
      refine q_il (pc := 10) (i := 1) (x := v1) rfl rfl ?_
      refine q_ac (pc := 11) rfl (ttKc hT (a := 186) (κ := 22) (len := 3) ⟨rfl, rfl⟩ (by decide) (by decide)).1 (by omega) (by rw [(ttKc hT (a := 186) (κ := 22) (len := 3) ⟨rfl, rfl⟩ (by decide) (by decide)).2]; omega) ?_
      refine q_if (pc := 12) rfl (fun h12 => ?_) (fun h12 => ?_)
      · replace h12 : (H.1 186 v1) ≠ 0 := h12
        refine q_ic (pc := 15) (v := 0) rfl ?_
        refine q_is (pc := 16) (i := 2) (L' := [(2, 183), (0, v1), (0, 0)]) rfl rfl rfl ?_
        exact hl 196 H 0 hT (ttFr_rf _ _) (fun j _ _ => by omega) (by omega) (by omega) (by omega) (by decide) (by decide) (by decide)
      · replace h12 : (H.1 186 v1) = 0 := h12
        refine q_ic (pc := 13) (v := (-6)) rfl ?_
        refine q_ri (pc := 14) rfl ?_
        exact hq _ H (by unfold rsBack; (repeat' split) <;> omega) hT hX (ttFr_rf _ _)
    · replace h5 : (1 : Int) = 0 := h5
      omega
  · replace h4 : ¬ (0 ≤ v1 ∧ v1 ≤ 2) := h4
    refine q_if (pc := 5) rfl (fun h5 => ?_) (fun h5 => ?_)
    · replace h5 : (0 : Int) ≠ 0 := h5
      omega
    · replace h5 : (0 : Int) = 0 := h5
      refine q_ic (pc := 6) (v := (-2)) rfl ?_
      refine q_ri (pc := 7) rfl ?_
      exact hq _ H (by unfold rsBack; (repeat' split) <;> omega) hT hX (ttFr_rf _ _)
theorem lx_sky1 {dd : Nat} (hd : 12 ≤ dd) {H : xH} (hT : ttTI H) (hX : ttXX YY H) {Q : Int → xH → Prop} (hq : ∀ r K, K.1 1 1 = 0 → ttTI K → ttXX YY K → ttFr (true, [(1, 1, 1), (1, 3, 6), (3, 4, 9), (4, 0, 1600), (5, 0, 1600), (6, 0, 1600), (7, 4, 18), (10, 0, 0), (11, 0, 5), (12, 0, 5), (13, 0, 0), (16, 0, 6), (24, 0, 5), (63, 6, 6), (64, 0, 16), (65, 0, 239), (66, 0, 239), (67, 0, 239), (68, 0, 239), (69, 0, 239), (70, 0, 15), (210, 9, 9)]) H K → Q r K) : xCall dd 136 [(2, 1)] H Q :=
  hc_183 ⟨ttXX_out yyStab (fun _ _ => trivial), hm_isWord⟩ dd hd [(2, 1)] H hT hX ⟨⟨rfl, ttPk_of rfl⟩, trivial⟩ (fun _ hq => absurd hq List.not_mem_nil) Q (fun r K kT kX kF _ jc => hq r K (ttPk (show ttPm (K.2.2.2.1 : Int) (0, 0, (9, 0, 0)) (K.1 1 1) from jc _ List.mem_cons_self)) kT kX kF)
def yySk7 : ttEf := (true, [(183, 7, 13), (183, 15, 15), (189, 0, 195)])
theorem lx_sky7 {e : Nat} (he : 13 ≤ e) {H : xH} (hT : ttTI H) (hX : ttXX YY H) {Q : Int → xH → Prop} (hq : ∀ r K, (-4 ≤ r ∧ r ≤ 60) → ttTI K → ttXX YY K → ttFr (true, [(183, 7, 13), (183, 15, 15), (189, 0, 195), (184, 0, 195), (193, 0, 975), (183, 22, 22), (183, 29, 29)]) H K → Q r K) : xW e cd_233 Q (7, [(2, 183), (9, 0)], [], H) := by
  have hn : 210 ≤ (H.2.2.2.1 : Int) := by have := hT.1; omega
  have h53 : ∀ (G K : xH) (x1 : xV), ttTI G → ttFr yySk7 H G → yyI G.1 → ttTI K → ttFr (true, [(184, 0, 195)]) G K → (∀ j : Int, 0 ≤ j → j < 196 → K.1 184 j = G.1 189 j) → xW e cd_233 Q (53, [(2, 183), x1], [], K) := by
    intro G K x1 gT gF gI kT kF kj
    have gn : 210 ≤ (G.2.2.2.1 : Int) := by have := gT.1; omega
    obtain ⟨i1, i2, i3, i4⟩ := gI
    rw [← kj 12 (by decide) (by decide), ← kj 1 (by decide) (by decide)] at i3
    rw [← kj 7 (by decide) (by decide)] at i4
    rw [← kj 15 (by decide) (by decide)] at i2
    have i1 : ∀ l : Int, 0 ≤ l → l < 10 → l < K.1 184 2 → K.1 184 (84 + 6 * l) < K.1 184 1 ∧ K.1 184 (85 + 6 * l) < K.1 184 1 := fun l l0 l1 l2 => by
      rw [kj 2 (by decide) (by decide)] at l2
      rw [kj 1 (by decide) (by decide), kj (84 + 6 * l) (by omega) (by omega), kj (85 + 6 * l) (by omega) (by omega)]
      exact i1 l l0 l1 l2
    have kF : ttFr (true, [(183, 7, 13), (183, 15, 15), (189, 0, 195), (184, 0, 195), (193, 0, 975), (183, 22, 22), (183, 29, 29)]) H K := ttFr_tr (ttFr_tr (ttFr_rf _ H) gF (fun _ => rfl) (by decide)) kF (fun _ => rfl) (by decide)
    have hf : ∀ J : xH, ttTI J → ttFr (true, [(183, 7, 13), (183, 15, 15), (189, 0, 195), (184, 0, 195), (193, 0, 975), (183, 22, 22), (183, 29, 29)]) H J → yyR J.1 184 0 → xW e cd_233 Q (80, [(2, 183), x1], [], J) := by
      intro J jT jF jR
      have jn : 210 ≤ (J.2.2.2.1 : Int) := by have := jT.1; omega
      refine q_al (pc := 80) (i := 0) (x := 183) rfl rfl ?_
      refine q_iv (pc := 81) (q := 2128967) rfl rfl rfl (ttKc jT (a := 183) (κ := 12) (len := 0) ⟨rfl, rfl⟩ (by decide) (by decide)).1 ?_
      refine lf_forgets (by omega) jT (fun M mT mF m22 m29 => ?_)
      have mA : ttFr (true, [(183, 7, 13), (183, 15, 15), (189, 0, 195), (184, 0, 195), (193, 0, 975), (183, 22, 22), (183, 29, 29)]) H M := ttFr_tr jF mF (fun _ => rfl) (by decide)
      have m4 : ∀ j : Int, M.1 184 j = J.1 184 j := fun j => fr_no mF 184 (by omega) rfl (by decide)
      have mX : ttXX YY M := by
        refine ⟨rm_fr mA rfl hn (by decide) hX.1, by have := mT.1; omega, yyR_eq (fun j _ _ _ => m4 _) jR, fun k k0 k1 k2 => ?_, fun z => ?_, fun z => absurd m29 z⟩
        · rw [fr_no mA 186 (by omega) rfl (by decide)] at k2
          exact yyR_eq (fun j _ _ _ => fr_no mA 185 (by omega) rfl (by decide)) (hX.2.2.2.1 k k0 k1 k2)
        · rw [m22] at z; cases z
      have ml : 0 ≤ M.1 184 0 ∧ M.1 184 0 ≤ 60 := ttMc mT (a := 184) (j := 0) (by decide) (by decide) (by decide) (by decide)
      refine q_al (pc := 82) (i := 0) (x := 183) rfl rfl ?_
      refine q_gf (pc := 83) (m := 12012) (t := 2) (c := 1) rfl (ttKc mT (a := 183) (κ := 12) (len := 0) ⟨rfl, rfl⟩ (by decide) (by decide)).1 rfl rfl ?_
      rw [show M.1 183 1 = 184 from ttFx mT (by decide) (by decide) rfl rfl rfl]
      refine q_ic (pc := 84) (v := 0) rfl ?_
      refine q_ai (pc := 85) rfl (ttKc mT (a := 184) (κ := 20) (len := 196) ⟨rfl, rfl⟩ (by decide) (by decide)).1 (by omega) (by rw [(ttKc mT (a := 184) (κ := 20) (len := 196) ⟨rfl, rfl⟩ (by decide) (by decide)).2]; omega) ?_
      refine q_ri (pc := 86) rfl ?_
      exact hq _ M (by omega) mT mX mA
    have zs : -1 ≤ K.1 184 12 ∧ K.1 184 12 ≤ 7 := ttMc kT (a := 184) (j := 12) (by decide) (by decide) (by decide) (by decide)
    have zh : 0 ≤ K.1 184 13 ∧ K.1 184 13 ≤ 60 := ttMc kT (a := 184) (j := 13) (by decide) (by decide) (by decide) (by decide)
    have zc : 0 ≤ K.1 184 7 ∧ K.1 184 7 ≤ 60 := ttMc kT (a := 184) (j := 7) (by decide) (by decide) (by decide) (by decide)
    refine q_al (pc := 53) (i := 0) (x := 183) rfl rfl ?_
    refine q_gf (pc := 54) (m := 12012) (t := 2) (c := 1) rfl (ttKc kT (a := 183) (κ := 12) (len := 0) ⟨rfl, rfl⟩ (by decide) (by decide)).1 rfl rfl ?_
    rw [show K.1 183 1 = 184 from ttFx kT (by decide) (by decide) rfl rfl rfl]
    refine q_ic (pc := 55) (v := 12) rfl ?_
    refine q_ai (pc := 56) rfl (ttKc kT (a := 184) (κ := 20) (len := 196) ⟨rfl, rfl⟩ (by decide) (by decide)).1 (by omega) (by rw [(ttKc kT (a := 184) (κ := 20) (len := 196) ⟨rfl, rfl⟩ (by decide) (by decide)).2]; omega) ?_
    refine q_ic (pc := 57) (v := (-1)) rfl ?_
    refine q_i2 (pc := 58) rfl (fun h58 => ?_) (fun h58 => ?_)
    · replace h58 : (K.1 184 12) = (-1) := h58
      refine hf K kT kF ?_
      have ez : ∀ j : Int, (0 : Int) + j = j := fun j => Int.zero_add j
      unfold yyR
      refine ⟨fun l l0 l1 l2 => ?_, ?_, fun z => ?_⟩
      · rw [ez] at l2
        rw [ez, ez, ez]
        exact i1 l l0 l1 l2
      · rw [ez]; exact i2
      · rw [ez] at z
        exact absurd h58 z
    · replace h58 : (K.1 184 12) ≠ (-1) := h58
      refine q_al (pc := 59) (i := 0) (x := 183) rfl rfl ?_
      refine q_gf (pc := 60) (m := 12012) (t := 2) (c := 1) rfl (ttKc kT (a := 183) (κ := 12) (len := 0) ⟨rfl, rfl⟩ (by decide) (by decide)).1 rfl rfl ?_
      rw [show K.1 183 1 = 184 from ttFx kT (by decide) (by decide) rfl rfl rfl]
      refine q_ic (pc := 61) (v := 13) rfl ?_
      refine q_al (pc := 62) (i := 0) (x := 183) rfl rfl ?_
      refine q_al (pc := 63) (i := 0) (x := 183) rfl rfl ?_
      refine q_gf (pc := 64) (m := 12012) (t := 2) (c := 1) rfl (ttKc kT (a := 183) (κ := 12) (len := 0) ⟨rfl, rfl⟩ (by decide) (by decide)).1 rfl rfl ?_
      rw [show K.1 183 1 = 184 from ttFx kT (by decide) (by decide) rfl rfl rfl]
      refine q_ic (pc := 65) (v := 12) rfl ?_
      refine q_ai (pc := 66) rfl (ttKc kT (a := 184) (κ := 20) (len := 196) ⟨rfl, rfl⟩ (by decide) (by decide)).1 (by omega) (by rw [(ttKc kT (a := 184) (κ := 20) (len := 196) ⟨rfl, rfl⟩ (by decide) (by decide)).2]; omega) ?_
      refine q_ic (pc := 67) (v := 0) rfl ?_
      refine q_iv (pc := 68) (q := 1664972) rfl rfl rfl (ttKc kT (a := 183) (κ := 12) (len := 0) ⟨rfl, rfl⟩ (by decide) (by decide)).1 ?_
      refine lf_ofPlace (j := (20 + 8 * (K.1 184 12))) (by omega) (by omega) kT (by omega) (by omega) (by omega) (by omega) ?_
      have zg := pl_ty kT (p := K.1 184 12) (by omega) (by omega)
      refine q_al (pc := 69) (i := 0) (x := 183) rfl rfl ?_
      refine q_gf (pc := 70) (m := 12012) (t := 2) (c := 1) rfl (ttKc kT (a := 183) (κ := 12) (len := 0) ⟨rfl, rfl⟩ (by decide) (by decide)).1 rfl rfl ?_
      rw [show K.1 183 1 = 184 from ttFx kT (by decide) (by decide) rfl rfl rfl]
      refine q_ic (pc := 71) (v := 7) rfl ?_
      refine q_ai (pc := 72) rfl (ttKc kT (a := 184) (κ := 20) (len := 196) ⟨rfl, rfl⟩ (by decide) (by decide)).1 (by omega) (by rw [(ttKc kT (a := 184) (κ := 20) (len := 196) ⟨rfl, rfl⟩ (by decide) (by decide)).2]; omega) ?_
      refine q_al (pc := 73) (i := 0) (x := 183) rfl rfl ?_
      refine q_gf (pc := 74) (m := 12012) (t := 2) (c := 1) rfl (ttKc kT (a := 183) (κ := 12) (len := 0) ⟨rfl, rfl⟩ (by decide) (by decide)).1 rfl rfl ?_
      rw [show K.1 183 1 = 184 from ttFx kT (by decide) (by decide) rfl rfl rfl]
      refine q_ic (pc := 75) (v := 13) rfl ?_
      refine q_ai (pc := 76) rfl (ttKc kT (a := 184) (κ := 20) (len := 196) ⟨rfl, rfl⟩ (by decide) (by decide)).1 (by omega) (by rw [(ttKc kT (a := 184) (κ := 20) (len := 196) ⟨rfl, rfl⟩ (by decide) (by decide)).2]; omega) ?_
      refine q_mn (pc := 77) rfl rfl (by omega) ?_
      refine q_mx (pc := 78) rfl rfl (by omega) ?_
      refine q_si (pc := 79) rfl (by decide) (ttKc kT (a := 184) (κ := 20) (len := 196) ⟨rfl, rfl⟩ (by decide) (by decide)).1 (by omega) (by rw [(ttKc kT (a := 184) (κ := 20) (len := 196) ⟨rfl, rfl⟩ (by decide) (by decide)).2]; omega) ?_
      have zv : 0 ≤ (max (K.1 184 (20 + 8 * (K.1 184 12))) (min (K.1 184 7) (K.1 184 13))) ∧ (max (K.1 184 (20 + 8 * (K.1 184 12))) (min (K.1 184 7) (K.1 184 13))) ≤ 60 := by omega
      have yc := ttPuT kT kF (a := 184) (j := 13) (x := (max (K.1 184 (20 + 8 * (K.1 184 12))) (min (K.1 184 7) (K.1 184 13)))) (by decide) (fun _ _ => show (0 : Int) ≤ (max (K.1 184 (20 + 8 * (K.1 184 12))) (min (K.1 184 7) (K.1 184 13))) ∧ (max (K.1 184 (20 + 8 * (K.1 184 12))) (min (K.1 184 7) (K.1 184 13))) ≤ 60 from zv) ⟨(184, 0, 195), by simp, ⟨⟨by decide, rfl⟩, by decide, by decide⟩⟩
      obtain ⟨Y, jY⟩ : ∃ X : xH, X = (xUp K.1 184 13 (max (K.1 184 (20 + 8 * (K.1 184 12))) (min (K.1 184 7) (K.1 184 13))), K.2) := ⟨_, rfl⟩
      rw [← jY] at yc ⊢
      have ye : Y.1 184 13 = (max (K.1 184 (20 + 8 * (K.1 184 12))) (min (K.1 184 7) (K.1 184 13))) := by rw [jY]; exact up_eq (D := K.1) (a := 184) (j := 13) (x := (max (K.1 184 (20 + 8 * (K.1 184 12))) (min (K.1 184 7) (K.1 184 13))))
      have yo : ∀ j : Int, j ≠ 13 → Y.1 184 j = K.1 184 j := fun j hj => by rw [jY]; exact (show xUp K.1 184 13 (max (K.1 184 (20 + 8 * (K.1 184 12))) (min (K.1 184 7) (K.1 184 13))) 184 j = _ from up_ne (by omega))
      refine hf Y yc.1 yc.2 ?_
      have ez : ∀ j : Int, (0 : Int) + j = j := fun j => Int.zero_add j
      obtain ⟨s1, s2, s3⟩ := i3 h58
      unfold yyR
      refine ⟨fun l l0 l1 l2 => ?_, ?_, fun z => ?_⟩
      · rw [ez, yo 2 (by decide)] at l2
        rw [ez, ez, ez, yo (84 + 6 * l) (by omega), yo (85 + 6 * l) (by omega), yo 1 (by decide)]
        exact i1 l l0 l1 l2
      · rw [ez, yo 15 (by decide)]; exact i2
      · rw [ez 12, ez 1, ez 13, ez 7, ez (20 + 8 * Y.1 184 12), yo 12 (by decide), yo 1 (by decide), yo 7 (by decide), yo (20 + 8 * K.1 184 12) (by omega), ye]
        omega
  have h40 : ∀ G : xH, ttTI G → ttFr yySk7 H G → yyI G.1 → ∀ n : Nat, ∀ (K : xH) (i : Int), 0 ≤ i → i ≤ 196 → 196 - i ≤ (n : Int) → ttTI K → ttFr (true, [(184, 0, 195)]) G K → (∀ j : Int, 0 ≤ j → j < i → K.1 184 j = G.1 189 j) → xW e cd_233 Q (40, [(2, 183), (0, i)], [], K) := by
    intro G gT gF gI n
    have gn : 210 ≤ (G.2.2.2.1 : Int) := by have := gT.1; omega
    induction n with
    | zero =>
      intro K i i0 i1 hn2 kT kF kj
      refine q_il (pc := 40) (i := 1) (x := i) rfl rfl ?_
      refine q_ic (pc := 41) (v := 196) rfl ?_
      refine q_i2 (pc := 42) rfl (fun h42 => ?_) (fun h42 => ?_)
      · replace h42 : 196 ≤ i := h42
        exact h53 G K _ gT gF gI kT kF (fun j ujj0 ujj1 => kj j ujj0 (by omega))
      · replace h42 : i < 196 := h42
        omega
    | succ n ih =>
      intro K i i0 i1 hn2 kT kF kj
      refine q_il (pc := 40) (i := 1) (x := i) rfl rfl ?_
      refine q_ic (pc := 41) (v := 196) rfl ?_
      refine q_i2 (pc := 42) rfl (fun h42 => ?_) (fun h42 => ?_)
      · replace h42 : 196 ≤ i := h42
        exact h53 G K _ gT gF gI kT kF (fun j ujj0 ujj1 => kj j ujj0 (by omega))
      · replace h42 : i < 196 := h42
        refine q_al (pc := 43) (i := 0) (x := 183) rfl rfl ?_
        refine q_gf (pc := 44) (m := 12012) (t := 2) (c := 1) rfl (ttKc kT (a := 183) (κ := 12) (len := 0) ⟨rfl, rfl⟩ (by decide) (by decide)).1 rfl rfl ?_
        rw [show K.1 183 1 = 184 from ttFx kT (by decide) (by decide) rfl rfl rfl]
        refine q_il (pc := 45) (i := 1) (x := i) rfl rfl ?_
        refine q_al (pc := 46) (i := 0) (x := 183) rfl rfl ?_
        refine q_gf (pc := 47) (m := 12142) (t := 2) (c := 14) rfl (ttKc kT (a := 183) (κ := 12) (len := 0) ⟨rfl, rfl⟩ (by decide) (by decide)).1 rfl rfl ?_
        rw [show K.1 183 14 = 189 from ttFx kT (by decide) (by decide) rfl rfl rfl]
        refine q_il (pc := 48) (i := 1) (x := i) rfl rfl ?_
        refine q_ai (pc := 49) rfl (ttKc kT (a := 189) (κ := 20) (len := 196) ⟨rfl, rfl⟩ (by decide) (by decide)).1 (by omega) (by rw [(ttKc kT (a := 189) (κ := 20) (len := 196) ⟨rfl, rfl⟩ (by decide) (by decide)).2]; omega) ?_
        refine q_si (pc := 50) rfl (by decide) (ttKc kT (a := 184) (κ := 20) (len := 196) ⟨rfl, rfl⟩ (by decide) (by decide)).1 (by omega) (by rw [(ttKc kT (a := 184) (κ := 20) (len := 196) ⟨rfl, rfl⟩ (by decide) (by decide)).2]; omega) ?_
        have k := ttMc kT (a := 189) (j := i) (by decide) (by decide) i0 (by show i < 196; omega)
        have c := ttPuT kT kF (a := 184) (j := i) (x := K.1 189 i) (by decide) (fun _ _ => by rw [show ttRo 184 = 184 from rfl, ty_w9 i]; exact k) ⟨(184, 0, 195), by simp, ⟨⟨by decide, rfl⟩, by show (0 : Int) ≤ i; omega, by show i ≤ (195 : Int); omega⟩⟩
        refine q_ii (pc := 51) (i := 1) (c := 1) (x := i) (L' := [(2, 183), (0, (i + 1))]) rfl rfl rfl (by omega) (by omega) rfl ?_
        refine q_go (pc := 52) rfl ?_
        exact ih _ (i + 1) (by omega) (by omega) (by omega) c.1 c.2 (fun j ujj0 ujj1 => by
          by_cases z : j = i
          · subst z
            exact (show xUp K.1 184 j (K.1 189 j) 184 j = _ from up_eq).trans (fr_no kF 189 (by omega) rfl (by decide))
          · exact (show xUp K.1 184 i (K.1 189 i) 184 j = _ from up_ne (by omega)).trans (kj j ujj0 (by omega)))
  have h24 : ∀ n : Nat, ∀ (K : xH) (x1 : xV), ttTI K → ttFr yySk7 H K → (K.1 183 12 = 0 → yyI K.1 ∧ 61 - K.1 189 0 ≤ (n : Int)) → xW e cd_233 Q (24, [(2, 183), x1], [], K) := by
    intro n
    induction n with
    | zero =>
      intro K x1 kT kF kg
      have zl : 0 ≤ K.1 189 0 ∧ K.1 189 0 ≤ 60 := ttMc kT (a := 189) (j := 0) (by decide) (by decide) (by decide) (by decide)
      refine q_al (pc := 24) (i := 0) (x := 183) rfl rfl ?_
      refine q_iv (pc := 25) (q := 1712964) rfl rfl rfl (ttKc kT (a := 183) (κ := 12) (len := 0) ⟨rfl, rfl⟩ (by decide) (by decide)).1 ?_
      refine lf_good (by omega) kT (fun jg25 => ?_) (fun jg25 => ?_)
      · skip
        refine q_if (pc := 26) rfl (fun h26 => ?_) (fun h26 => ?_)
        · replace h26 : (1 : Int) = 0 := h26
          omega
        · replace h26 : (1 : Int) ≠ 0 := h26
          have := (kg jg25).2
          omega
      · skip
        refine q_if (pc := 26) rfl (fun h26 => ?_) (fun h26 => ?_)
        · replace h26 : (0 : Int) = 0 := h26
          refine q_al (pc := 33) (i := 0) (x := 183) rfl rfl ?_
          refine q_iv (pc := 34) (q := 1712964) rfl rfl rfl (ttKc kT (a := 183) (κ := 12) (len := 0) ⟨rfl, rfl⟩ (by decide) (by decide)).1 ?_
          refine lf_good (by omega) kT (fun jg34 => ?_) (fun jg34 => ?_)
          · skip
            refine q_if (pc := 35) rfl (fun h35 => ?_) (fun h35 => ?_)
            · replace h35 : (1 : Int) ≠ 0 := h35
              refine q_ic (pc := 38) (v := 0) rfl ?_
              refine q_is (pc := 39) (i := 1) (L' := [(2, 183), (0, 0)]) rfl rfl rfl ?_
              exact h40 K kT kF (kg jg34).1 196 K 0 (by decide) (by decide) (by decide) kT (ttFr_rf _ K) (fun j ujj0 ujj1 => by omega)
            · replace h35 : (1 : Int) = 0 := h35
              omega
          · skip
            refine q_if (pc := 35) rfl (fun h35 => ?_) (fun h35 => ?_)
            · replace h35 : (0 : Int) ≠ 0 := h35
              omega
            · replace h35 : (0 : Int) = 0 := h35
              refine q_ic (pc := 36) (v := (-4)) rfl ?_
              refine q_ri (pc := 37) rfl ?_
              exact hq _ K (by decide) kT (xx_fr kF rfl (by decide) (by decide) hX) (ttFr_tr (ttFr_rf _ H) kF (fun _ => rfl) (by decide))
        · replace h26 : (0 : Int) ≠ 0 := h26
          omega
    | succ n ih =>
      intro K x1 kT kF kg
      have zl : 0 ≤ K.1 189 0 ∧ K.1 189 0 ≤ 60 := ttMc kT (a := 189) (j := 0) (by decide) (by decide) (by decide) (by decide)
      refine q_al (pc := 24) (i := 0) (x := 183) rfl rfl ?_
      refine q_iv (pc := 25) (q := 1712964) rfl rfl rfl (ttKc kT (a := 183) (κ := 12) (len := 0) ⟨rfl, rfl⟩ (by decide) (by decide)).1 ?_
      refine lf_good (by omega) kT (fun jg25 => ?_) (fun jg25 => ?_)
      · skip
        refine q_if (pc := 26) rfl (fun h26 => ?_) (fun h26 => ?_)
        · replace h26 : (1 : Int) = 0 := h26
          omega
        · replace h26 : (1 : Int) ≠ 0 := h26
          refine q_al (pc := 27) (i := 0) (x := 183) rfl rfl ?_
          refine q_gf (pc := 28) (m := 12100) (t := 0) (c := 10) rfl (ttKc kT (a := 183) (κ := 12) (len := 0) ⟨rfl, rfl⟩ (by decide) (by decide)).1 rfl rfl ?_
          refine q_if (pc := 29) rfl (fun h29 => ?_) (fun h29 => ?_)
          · replace h29 : (K.1 183 10) = 0 := h29
            refine q_al (pc := 33) (i := 0) (x := 183) rfl rfl ?_
            refine q_iv (pc := 34) (q := 1712964) rfl rfl rfl (ttKc kT (a := 183) (κ := 12) (len := 0) ⟨rfl, rfl⟩ (by decide) (by decide)).1 ?_
            refine lf_good (by omega) kT (fun jg34 => ?_) (fun jg34 => ?_)
            · skip
              refine q_if (pc := 35) rfl (fun h35 => ?_) (fun h35 => ?_)
              · replace h35 : (1 : Int) ≠ 0 := h35
                refine q_ic (pc := 38) (v := 0) rfl ?_
                refine q_is (pc := 39) (i := 1) (L' := [(2, 183), (0, 0)]) rfl rfl rfl ?_
                exact h40 K kT kF (kg jg34).1 196 K 0 (by decide) (by decide) (by decide) kT (ttFr_rf _ K) (fun j ujj0 ujj1 => by omega)
              · replace h35 : (1 : Int) = 0 := h35
                omega
            · skip
              refine q_if (pc := 35) rfl (fun h35 => ?_) (fun h35 => ?_)
              · replace h35 : (0 : Int) ≠ 0 := h35
                omega
              · replace h35 : (0 : Int) = 0 := h35
                refine q_ic (pc := 36) (v := (-4)) rfl ?_
                refine q_ri (pc := 37) rfl ?_
                exact hq _ K (by decide) kT (xx_fr kF rfl (by decide) (by decide) hX) (ttFr_tr (ttFr_rf _ H) kF (fun _ => rfl) (by decide))
          · replace h29 : (K.1 183 10) ≠ 0 := h29
            refine q_al (pc := 30) (i := 0) (x := 183) rfl rfl ?_
            refine q_iv (pc := 31) (q := 1856967) rfl rfl rfl (ttKc kT (a := 183) (κ := 12) (len := 0) ⟨rfl, rfl⟩ (by decide) (by decide)).1 ?_
            refine lf_readLine (by omega) kT (xx_fr kF rfl (by decide) (by decide) hX) jg25 (kg jg25).1 (fun J jT jF jI => ?_)
            refine q_go (pc := 32) rfl ?_
            exact ih J _ jT (ttFr_tr kF jF (fun _ => rfl) (by decide)) (fun z => ⟨(jI z).1, by have := (jI z).2; have := (kg jg25).2; omega⟩)
      · skip
        refine q_if (pc := 26) rfl (fun h26 => ?_) (fun h26 => ?_)
        · replace h26 : (0 : Int) = 0 := h26
          refine q_al (pc := 33) (i := 0) (x := 183) rfl rfl ?_
          refine q_iv (pc := 34) (q := 1712964) rfl rfl rfl (ttKc kT (a := 183) (κ := 12) (len := 0) ⟨rfl, rfl⟩ (by decide) (by decide)).1 ?_
          refine lf_good (by omega) kT (fun jg34 => ?_) (fun jg34 => ?_)
          · skip
            refine q_if (pc := 35) rfl (fun h35 => ?_) (fun h35 => ?_)
            · replace h35 : (1 : Int) ≠ 0 := h35
              refine q_ic (pc := 38) (v := 0) rfl ?_
              refine q_is (pc := 39) (i := 1) (L' := [(2, 183), (0, 0)]) rfl rfl rfl ?_
              exact h40 K kT kF (kg jg34).1 196 K 0 (by decide) (by decide) (by decide) kT (ttFr_rf _ K) (fun j ujj0 ujj1 => by omega)
            · replace h35 : (1 : Int) = 0 := h35
              omega
          · skip
            refine q_if (pc := 35) rfl (fun h35 => ?_) (fun h35 => ?_)
            · replace h35 : (0 : Int) ≠ 0 := h35
              omega
            · replace h35 : (0 : Int) = 0 := h35
              refine q_ic (pc := 36) (v := (-4)) rfl ?_
              refine q_ri (pc := 37) rfl ?_
              exact hq _ K (by decide) kT (xx_fr kF rfl (by decide) (by decide) hX) (ttFr_tr (ttFr_rf _ H) kF (fun _ => rfl) (by decide))
        · replace h26 : (0 : Int) ≠ 0 := h26
          omega
  refine q_al (pc := 7) (i := 0) (x := 183) rfl rfl ?_
  refine q_ic (pc := 8) (v := 0) rfl ?_
  refine q_pf (pc := 9) (m := 12080) (c := 8) rfl (show xPt 0 0 _ _ from (ttKc hT (a := 183) (κ := 12) (len := 0) ⟨rfl, rfl⟩ (by decide) (by decide)).1) rfl ?_
  have ujzc10 := ttPuT hT (ttFr_rf yySk7 H) (a := 183) (j := 8) (x := 0) (by decide) (fun _ _ => show (0 : Int) ≤ (0 : Int) ∧ 0 ≤ 1600 from by decide) ⟨(183, 7, 13), by simp [yySk7], ⟨⟨by decide, rfl⟩, by decide, by decide⟩⟩
  obtain ⟨ujZ10, ujzk10⟩ : ∃ X : xH, X = (xUp H.1 183 8 0, H.2) := ⟨_, rfl⟩
  rw [← ujzk10] at ujzc10 ⊢
  refine q_al (pc := 10) (i := 0) (x := 183) rfl rfl ?_
  refine q_ic (pc := 11) (v := 0) rfl ?_
  refine q_pf (pc := 12) (m := 12120) (c := 12) rfl (show xPt 0 0 _ _ from (ttKc ujzc10.1 (a := 183) (κ := 12) (len := 0) ⟨rfl, rfl⟩ (by decide) (by decide)).1) rfl ?_
  have ujzc11 := ttPuT ujzc10.1 ujzc10.2 (a := 183) (j := 12) (x := 0) (by decide) (fun _ _ => show ((-2147483648) : Int) ≤ (0 : Int) ∧ 0 ≤ 2147483647 from by decide) ⟨(183, 7, 13), by simp [yySk7], ⟨⟨by decide, rfl⟩, by decide, by decide⟩⟩
  obtain ⟨ujZ11, ujzk11⟩ : ∃ X : xH, X = (xUp ujZ10.1 183 12 0, ujZ10.2) := ⟨_, rfl⟩
  rw [← ujzk11] at ujzc11 ⊢
  have ujzg11 : ujZ11.1 183 12 = 0 := by rw [ujzk11]; exact up_eq (D := ujZ10.1) (a := 183) (j := 12) (x := 0)
  refine q_al (pc := 13) (i := 0) (x := 183) rfl rfl ?_
  refine q_ic (pc := 14) (v := (-1)) rfl ?_
  refine q_pf (pc := 15) (m := 12130) (c := 13) rfl (show xPt 0 0 _ _ from (ttKc ujzc11.1 (a := 183) (κ := 12) (len := 0) ⟨rfl, rfl⟩ (by decide) (by decide)).1) rfl ?_
  have ujzc12 := ttPuT ujzc11.1 ujzc11.2 (a := 183) (j := 13) (x := (-1)) (by decide) (fun _ _ => show ((-2147483648) : Int) ≤ ((-1) : Int) ∧ (-1) ≤ 2147483647 from by decide) ⟨(183, 7, 13), by simp [yySk7], ⟨⟨by decide, rfl⟩, by decide, by decide⟩⟩
  obtain ⟨ujZ12, ujzk12⟩ : ∃ X : xH, X = (xUp ujZ11.1 183 13 (-1), ujZ11.2) := ⟨_, rfl⟩
  rw [← ujzk12] at ujzc12 ⊢
  have ujzg12 : ujZ12.1 183 12 = 0 := by rw [ujzk12]; exact (up_j (D := ujZ11.1) (a := 183) (j := 13) (x := (-1)) (k := 12) (by decide)).trans ujzg11
  refine q_al (pc := 16) (i := 0) (x := 183) rfl rfl ?_
  refine q_gf (pc := 17) (m := 12142) (t := 2) (c := 14) rfl (ttKc ujzc12.1 (a := 183) (κ := 12) (len := 0) ⟨rfl, rfl⟩ (by decide) (by decide)).1 rfl rfl ?_
  rw [show ujZ12.1 183 14 = 189 from ttFx ujzc12.1 (by decide) (by decide) rfl rfl rfl]
  refine q_ij (pc := 18) (q := 1639927) rfl rfl rfl ⟨by decide, trivial⟩ ?_
  refine lf_empties (by omega) ujzc12.1 (fun ujK9 kT9 kF9 k90 k97 k9c => ?_)
  have ujzg99 : ujK9.1 183 12 = 0 := (fr_no kF9 183 (by have := ujzc12.1.1; omega) rfl (by decide)).trans ujzg12
  replace kF9 := ttFr_tr ujzc12.2 kF9 (fun _ => rfl) (by decide)
  refine q_al (pc := 19) (i := 0) (x := 183) rfl rfl ?_
  refine q_ic (pc := 20) (v := 0) rfl ?_
  refine q_pf (pc := 21) (m := 12153) (c := 15) rfl (show xPt 3 0 _ _ from ⟨(ttKc kT9 (a := 183) (κ := 12) (len := 0) ⟨rfl, rfl⟩ (by decide) (by decide)).1, by omega⟩) rfl ?_
  have ujzc13 := ttPuT kT9 kF9 (a := 183) (j := 15) (x := 0) (by decide) (fun _ _ => show (0 : Int) ≤ (0 : Int) ∧ 0 ≤ 1 from by decide) ⟨(183, 15, 15), by simp [yySk7], ⟨⟨by decide, rfl⟩, by decide, by decide⟩⟩
  obtain ⟨ujZ13, ujzk13⟩ : ∃ X : xH, X = (xUp ujK9.1 183 15 0, ujK9.2) := ⟨_, rfl⟩
  rw [← ujzk13] at ujzc13 ⊢
  have ujzg13 : ujZ13.1 183 12 = 0 := by rw [ujzk13]; exact (up_j (D := ujK9.1) (a := 183) (j := 15) (x := 0) (k := 12) (by decide)).trans ujzg99
  have z9 : ∀ j : Int, ujZ13.1 189 j = ujK9.1 189 j := fun j => by rw [ujzk13]; exact up_na (D := ujK9.1) (a := 183) (j := 15) (x := 0) (b := 189) (k := j) (by decide)
  refine q_al (pc := 22) (i := 0) (x := 183) rfl rfl ?_
  refine q_iv (pc := 23) (q := 1704967) rfl rfl rfl (ttKc ujzc13.1 (a := 183) (κ := 12) (len := 0) ⟨rfl, rfl⟩ (by decide) (by decide)).1 ?_
  refine lf_advance (by omega) ujzc13.1 (fun J jT jA => ?_)
  have ujj9 : ∀ j : Int, J.1 189 j = ujK9.1 189 j := fun j => (fr_no jA 189 (by have := ujzc13.1.1; omega) rfl (by decide)).trans (z9 j)
  have jF := ttFr_tr ujzc13.2 jA (fun _ => rfl) (by decide)
  refine h24 61 J _ jT jF (fun _ => ⟨⟨fun l l0 l1 l2 => ?_, ?_, ?_, ?_⟩, ?_⟩)
  · rw [ujj9, k90 2 (by decide) (by decide) (by decide) (by decide) (by decide) (by decide)] at l2
    omega
  · rw [ujj9, k90 15 (by decide) (by decide) (by decide) (by decide) (by decide) (by decide)]
    decide
  · intro z
    rw [ujj9, k9c] at z
    exact absurd rfl z
  · rw [ujj9, k97]; decide
  · rw [ujj9, k90 0 (by decide) (by decide) (by decide) (by decide) (by decide) (by decide)]
    decide
theorem lx_sky2 {dd : Nat} (hd : 14 ≤ dd) {H : xH} (hT : ttTI H) (hX : ttXX YY H) {Q : Int → xH → Prop} (hq : ∀ r K, K.1 183 5 = 0 → ttTI K → ttXX YY K → ttFr (true, [(183, 5, 5), (183, 7, 13), (183, 15, 15), (189, 0, 195), (184, 0, 195), (193, 0, 975), (183, 22, 22), (183, 29, 29)]) H K → Q r K) : xCall dd 233 [(2, 183)] H Q := by
  obtain ⟨e, rfl, he⟩ := ttRun0 (n := 13) hd
  have he : 13 ≤ e := he
  have z5 := (tp_5 hT).2
  refine xC_of (L := [(2, 183), (9, 0)]) (cd := cd_233) rfl rfl rfl ?_
  refine q_al (pc := 0) (i := 0) (x := 183) rfl rfl ?_
  refine q_al (pc := 1) (i := 0) (x := 183) rfl rfl ?_
  refine q_gf (pc := 2) (m := 12050) (t := 0) (c := 5) rfl (ttKc hT (a := 183) (κ := 12) (len := 0) ⟨rfl, rfl⟩ (by decide) (by decide)).1 rfl rfl ?_
  refine q_pf (pc := 3) (m := 12070) (c := 7) rfl (show xPt 0 0 _ _ from (ttKc hT (a := 183) (κ := 12) (len := 0) ⟨rfl, rfl⟩ (by decide) (by decide)).1) rfl ?_
  have xc := ttPut (ttXX_out yyStab (fun _ _ => trivial)) hT hX (ttFr_rf (true, [(183, 5, 5), (183, 7, 13), (183, 15, 15), (189, 0, 195), (184, 0, 195), (193, 0, 975), (183, 22, 22), (183, 29, 29)]) H) (a := 183) (j := 7) (x := (H.1 183 5)) (by decide) (fun _ _ => show (0 : Int) ≤ (H.1 183 5) ∧ (H.1 183 5) ≤ 1600 from by omega) ⟨(183, 7, 13), by simp, ⟨⟨by decide, rfl⟩, by decide, by decide⟩⟩ (by intro q hq hh; obtain ⟨⟨-, c1⟩, c2, c3⟩ := hh; simp only [ttFF, List.mem_cons, List.not_mem_nil, or_false] at hq; rcases hq with rfl | rfl | rfl | rfl | rfl | rfl | rfl | rfl | rfl | rfl <;> first | exact absurd c1 (by decide) | exact absurd c2 (by decide) | exact absurd c3 (by decide))
  obtain ⟨Y, jY⟩ : ∃ X : xH, X = (xUp H.1 183 7 (H.1 183 5), H.2) := ⟨_, rfl⟩
  rw [← jY] at xc ⊢
  refine q_al (pc := 4) (i := 0) (x := 183) rfl rfl ?_
  refine q_ic (pc := 5) (v := 0) rfl ?_
  refine q_pf (pc := 6) (m := 12050) (c := 5) rfl (show xPt 0 0 _ _ from (ttKc xc.1 (a := 183) (κ := 12) (len := 0) ⟨rfl, rfl⟩ (by decide) (by decide)).1) rfl ?_
  have yc := ttPut (ttXX_out yyStab (fun _ _ => trivial)) xc.1 xc.2.1 xc.2.2 (a := 183) (j := 5) (x := 0) (by decide) (fun _ _ => show (0 : Int) ≤ 0 ∧ 0 ≤ 1600 from by omega) ⟨(183, 5, 5), by simp, ⟨⟨by decide, rfl⟩, by decide, by decide⟩⟩ (by intro q hq hh; obtain ⟨⟨-, c1⟩, c2, c3⟩ := hh; simp only [ttFF, List.mem_cons, List.not_mem_nil, or_false] at hq; rcases hq with rfl | rfl | rfl | rfl | rfl | rfl | rfl | rfl | rfl | rfl <;> first | exact absurd c1 (by decide) | exact absurd c2 (by decide) | exact absurd c3 (by decide))
  obtain ⟨X2, jX⟩ : ∃ X : xH, X = (xUp Y.1 183 5 0, Y.2) := ⟨_, rfl⟩
  rw [← jX] at yc ⊢
  have e5 : X2.1 183 5 = 0 := by rw [jX]; exact up_eq (D := Y.1) (a := 183) (j := 5) (x := 0)
  refine lx_sky7 he yc.1 yc.2.1 (fun r K _ kT kX kF => hq r K ?_ kT kX (ttFr_tr yc.2.2 kF (fun _ => rfl) (by decide)))
  exact (fr_cl kF (by have := yc.1.1; omega) (by decide)).trans e5
