/-! more rows -/
section QM
variable {d : Nat} {cd : List Instr} {Q : Int → xH → Prop} {pc : Nat} {L r : List xV} {H : xH}
theorem q_zl {x y : Int} (h : cd.getD pc .nop = .lshl) (k : xW d cd Q (pc + 1, L, (1, xLshl x y) :: r, H)) : xW d cd Q (pc, L, (0, y) :: (1, x) :: r, H) := xW_step (by rw [h]; exact k)
end QM
/-! exact answers -/
def rsRow (s w n : Int) : Int := if (s < 0 ∨ 3 < s) ∨ (w < 0 ∨ 3 < w) ∨ 60 < n then -2 else if n < 0 then -3 else 0
def rsPaste (m w : Int → Int) (s i t k n : Int) : Int := if (s < 0 ∨ 3 < s) ∨ (t < 0 ∨ 3 < t) then -2 else if m s = -1 ∨ m t = -1 then -6 else if w s ≠ w t then -8 else if (0 ≤ i ∧ 0 ≤ n ∧ i + n ≤ m s) ∧ (0 ≤ k ∧ k + n ≤ m t) then 0 else -7
theorem fr_cl {ef : ttEf} {H K : xH} (hF : ttFr ef H K) {a j : Int} (ha : a < (H.2.2.2.1 : Int)) (h : ef.2.all (fun q => decide (q.1 ≠ ttRo a) || (decide (j < q.2.1) || decide (q.2.2 < j))) = true) : K.1 a j = H.1 a j :=
  hF.2.2.2 a j ha (fun q hq hh => by
    have k := List.all_eq_true.mp h q hq
    obtain ⟨⟨-, c2⟩, c3, c4⟩ := hh
    rcases Bool.or_eq_true _ _ ▸ k with k | k
    · exact of_decide_eq_true k c2.symm
    rcases Bool.or_eq_true _ _ ▸ k with k | k
    · have := of_decide_eq_true k
      omega
    · have := of_decide_eq_true k
      omega)
theorem rw_96 {H : xH} (hT : ttTI H) {s : Int} (s0 : 0 ≤ s) (s1 : s ≤ 3) : (1 ≤ H.1 95 s ∧ H.1 95 s < (H.2.2.2.1 : Int)) ∧ ttRo (H.1 95 s) = 96 := by
  have k := ttMc hT (a := 95) (j := s) (by decide) (by decide) s0 (by show s < 4; omega)
  have e : ttTy (ttTb (ttRo 95)) s = (1, 96, 0) := by
    show ([(1, 96, 0)] : List ttI).getD (s % 1).toNat (9, 0, 0) = _
    rw [Int.emod_one]
    rfl
  rw [e] at k
  exact k
theorem lx_row1 {dd : Nat} {s w n : Int} (hd : 3 ≤ dd) {H : xH} (hT : ttTI H) (hX : ttXX YY H) {Q : Int → xH → Prop} (hq : ∀ r K, r = rsRow s w n → (∀ j : Int, K.1 100 j = if rsRow s w n = 0 ∧ j = s then n else H.1 100 j) → (∀ j : Int, K.1 101 j = if rsRow s w n = 0 ∧ j = s then w else H.1 101 j) → ttTI K → ttXX YY K → ttFr (true, [(96, 0, 59), (100, 0, 3), (101, 0, 3)]) H K → Q r K) : xCall dd 196 [(2, 1), (0, s), (0, w), (0, n)] H Q := by
  obtain ⟨e, rfl, he⟩ := ttRun0 (n := 2) hd
  have he : 2 ≤ e := he
  have hn : 210 ≤ (H.2.2.2.1 : Int) := by have := hT.1; omega
  refine xC_of (L := [(2, 1), (0, s), (0, w), (0, n)]) (cd := cd_196) rfl rfl rfl ?_
  refine q_il (pc := 0) (i := 1) (x := s) rfl rfl ?_
  refine q_ij (pc := 1) (q := 1567924) rfl rfl rfl trivial ?_
  refine lf_slot (by omega) (fun js1 => ?_) (fun js1 => ?_)
  · skip
    refine q_if (pc := 2) rfl (fun h2 => ?_) (fun h2 => ?_)
    · replace h2 : (1 : Int) = 0 := h2
      omega
    · replace h2 : (1 : Int) ≠ 0 := h2
      refine q_il (pc := 3) (i := 2) (x := w) rfl rfl ?_
      refine q_if (pc := 4) rfl (fun h4 => ?_) (fun h4 => ?_)
      · replace h4 : w < 0 := h4
        refine q_ic (pc := 11) (v := (-2)) rfl ?_
        refine q_ri (pc := 12) rfl ?_
        have rz : rsRow s w n ≠ 0 := by unfold rsRow; (repeat' split) <;> omega
        exact hq _ H (by unfold rsRow; (repeat' split) <;> omega) (fun j => (if_neg (fun y => rz y.1)).symm) (fun j => (if_neg (fun y => rz y.1)).symm) hT hX (ttFr_rf _ H)
      · replace h4 : 0 ≤ w := h4
        refine q_il (pc := 5) (i := 2) (x := w) rfl rfl ?_
        refine q_ic (pc := 6) (v := 3) rfl ?_
        refine q_i2 (pc := 7) rfl (fun h7 => ?_) (fun h7 => ?_)
        · replace h7 : 3 < w := h7
          refine q_ic (pc := 11) (v := (-2)) rfl ?_
          refine q_ri (pc := 12) rfl ?_
          have rz : rsRow s w n ≠ 0 := by unfold rsRow; (repeat' split) <;> omega
          exact hq _ H (by unfold rsRow; (repeat' split) <;> omega) (fun j => (if_neg (fun y => rz y.1)).symm) (fun j => (if_neg (fun y => rz y.1)).symm) hT hX (ttFr_rf _ H)
        · replace h7 : w ≤ 3 := h7
          refine q_il (pc := 8) (i := 3) (x := n) rfl rfl ?_
          refine q_ic (pc := 9) (v := 60) rfl ?_
          refine q_i2 (pc := 10) rfl (fun h10 => ?_) (fun h10 => ?_)
          · replace h10 : n ≤ 60 := h10
            refine q_il (pc := 13) (i := 3) (x := n) rfl rfl ?_
            refine q_if (pc := 14) rfl (fun h14 => ?_) (fun h14 => ?_)
            · replace h14 : 0 ≤ n := h14
              refine q_al (pc := 17) (i := 0) (x := 1) rfl rfl ?_
              refine q_gf (pc := 18) (m := 11152) (t := 2) (c := 15) rfl (ttKc hT (a := 1) (κ := 11) (len := 0) ⟨rfl, rfl⟩ (by decide) (by decide)).1 rfl rfl ?_
              rw [show H.1 1 15 = 95 from ttFx hT (by decide) (by decide) rfl rfl rfl]
              refine q_il (pc := 19) (i := 1) (x := s) rfl rfl ?_
              refine q_aa (pc := 20) rfl (by rw [(ttKc hT (a := 95) (κ := 24) (len := 4) ⟨rfl, rfl⟩ (by decide) (by decide)).1]; decide) (by omega) (by rw [(ttKc hT (a := 95) (κ := 24) (len := 4) ⟨rfl, rfl⟩ (by decide) (by decide)).2]; omega) ?_
              refine q_lc (pc := 21) (v := 0) rfl ?_
              have pa := rw_96 hT (s := s) (by omega) (by omega)
              refine q_ij (pc := 22) (q := 2671931) rfl rfl rfl ⟨by omega, trivial⟩ ?_
              refine hc_125 (ttXX_out yyStab (fun _ _ => trivial)) e (by show 1 ≤ e; omega) [(2, (H.1 95 s)), (1, 0)] H hT hX ⟨⟨rfl, (H.1 95 s), by show (H.1 95 s) = 1 * (H.1 95 s) + 0; omega, pa⟩, ⟨rfl, ttPi_of (by decide) (by decide)⟩, trivial⟩ (fun _ hq => absurd hq List.not_mem_nil) _ (fun r K kT kX kF _ _ => ?_)
              have k0 : ∀ j : Int, K.1 100 j = H.1 100 j := fun j => fr_no kF 100 (by omega) rfl rfl
              have k1 : ∀ j : Int, K.1 101 j = H.1 101 j := fun j => fr_no kF 101 (by omega) rfl rfl
              replace kF : ttFr (true, [(96, 0, 59), (100, 0, 3), (101, 0, 3)]) H K := ttFr_tr (ttFr_rf _ H) kF (fun _ => rfl) (by decide)
              refine q_al (pc := 23) (i := 0) (x := 1) rfl rfl ?_
              refine q_gf (pc := 24) (m := 11162) (t := 2) (c := 16) rfl (ttKc kT (a := 1) (κ := 11) (len := 0) ⟨rfl, rfl⟩ (by decide) (by decide)).1 rfl rfl ?_
              rw [show K.1 1 16 = 100 from ttFx kT (by decide) (by decide) rfl rfl rfl]
              refine q_il (pc := 25) (i := 1) (x := s) rfl rfl ?_
              refine q_il (pc := 26) (i := 3) (x := n) rfl rfl ?_
              refine q_si (pc := 27) rfl (by decide) (ttKc kT (a := 100) (κ := 20) (len := 4) ⟨rfl, rfl⟩ (by decide) (by decide)).1 (by omega) (by rw [(ttKc kT (a := 100) (κ := 20) (len := 4) ⟨rfl, rfl⟩ (by decide) (by decide)).2]; omega) ?_
              have yc := ttPut (ttXX_out yyStab (fun _ _ => trivial)) kT kX kF (a := 100) (j := s) (x := n) (by decide) (fun _ _ => ttTyr rfl (by omega) (by omega)) ⟨(100, 0, 3), by simp, ⟨⟨by decide, rfl⟩, by show (0 : Int) ≤ s; omega, by show s ≤ 3; omega⟩⟩ (ttMay_no (r := 100) rfl (by decide))
              obtain ⟨Y, jY⟩ : ∃ X : xH, X = (xUp K.1 100 s n, K.2) := ⟨_, rfl⟩
              rw [← jY] at yc ⊢
              refine q_al (pc := 28) (i := 0) (x := 1) rfl rfl ?_
              refine q_gf (pc := 29) (m := 11172) (t := 2) (c := 17) rfl (ttKc yc.1 (a := 1) (κ := 11) (len := 0) ⟨rfl, rfl⟩ (by decide) (by decide)).1 rfl rfl ?_
              rw [show Y.1 1 17 = 101 from ttFx yc.1 (by decide) (by decide) rfl rfl rfl]
              refine q_il (pc := 30) (i := 1) (x := s) rfl rfl ?_
              refine q_il (pc := 31) (i := 2) (x := w) rfl rfl ?_
              refine q_si (pc := 32) rfl (by decide) (ttKc yc.1 (a := 101) (κ := 20) (len := 4) ⟨rfl, rfl⟩ (by decide) (by decide)).1 (by omega) (by rw [(ttKc yc.1 (a := 101) (κ := 20) (len := 4) ⟨rfl, rfl⟩ (by decide) (by decide)).2]; omega) ?_
              have xc := ttPut (ttXX_out yyStab (fun _ _ => trivial)) yc.1 yc.2.1 yc.2.2 (a := 101) (j := s) (x := w) (by decide) (fun _ _ => ttTyr rfl (by omega) (by omega)) ⟨(101, 0, 3), by simp, ⟨⟨by decide, rfl⟩, by show (0 : Int) ≤ s; omega, by show s ≤ 3; omega⟩⟩ (ttMay_no (r := 101) rfl (by decide))
              obtain ⟨X2, jX⟩ : ∃ X : xH, X = (xUp Y.1 101 s w, Y.2) := ⟨_, rfl⟩
              rw [← jX] at xc ⊢
              have rz : rsRow s w n = 0 := (by unfold rsRow; (repeat' split) <;> omega)
              have xa : ∀ j : Int, X2.1 100 j = if rsRow s w n = 0 ∧ j = s then n else H.1 100 j := fun j => by
                rw [jX]
                refine (up_na (D := Y.1) (a := 101) (j := s) (x := w) (b := 100) (k := j) (by decide)).trans ?_
                rw [jY]
                by_cases z : j = s
                · rw [if_pos ⟨rz, z⟩, z]; exact up_eq (D := K.1) (a := 100) (j := s) (x := n)
                · rw [if_neg (fun y => z y.2), ← k0 j]; exact up_ne (fun y => z y.2)
              have xb : ∀ j : Int, X2.1 101 j = if rsRow s w n = 0 ∧ j = s then w else H.1 101 j := fun j => by
                by_cases z : j = s
                · rw [if_pos ⟨rz, z⟩, z, jX]; exact up_eq (D := Y.1) (a := 101) (j := s) (x := w)
                · rw [if_neg (fun y => z y.2), ← k1 j, jX]
                  refine (up_ne (fun y => z y.2)).trans ?_
                  rw [jY]; exact up_na (D := K.1) (a := 100) (j := s) (x := n) (b := 101) (k := j) (by decide)
              refine q_ic (pc := 33) (v := 0) rfl ?_
              refine q_ri (pc := 34) rfl ?_
              exact hq _ X2 (by unfold rsRow; (repeat' split) <;> omega) xa xb xc.1 xc.2.1 xc.2.2
            · replace h14 : n < 0 := h14
              refine q_ic (pc := 15) (v := (-3)) rfl ?_
              refine q_ri (pc := 16) rfl ?_
              have rz : rsRow s w n ≠ 0 := by unfold rsRow; (repeat' split) <;> omega
              exact hq _ H (by unfold rsRow; (repeat' split) <;> omega) (fun j => (if_neg (fun y => rz y.1)).symm) (fun j => (if_neg (fun y => rz y.1)).symm) hT hX (ttFr_rf _ H)
          · replace h10 : 60 < n := h10
            refine q_ic (pc := 11) (v := (-2)) rfl ?_
            refine q_ri (pc := 12) rfl ?_
            have rz : rsRow s w n ≠ 0 := by unfold rsRow; (repeat' split) <;> omega
            exact hq _ H (by unfold rsRow; (repeat' split) <;> omega) (fun j => (if_neg (fun y => rz y.1)).symm) (fun j => (if_neg (fun y => rz y.1)).symm) hT hX (ttFr_rf _ H)
  · skip
    refine q_if (pc := 2) rfl (fun h2 => ?_) (fun h2 => ?_)
    · replace h2 : (0 : Int) = 0 := h2
      refine q_ic (pc := 11) (v := (-2)) rfl ?_
      refine q_ri (pc := 12) rfl ?_
      have rz : rsRow s w n ≠ 0 := by unfold rsRow; (repeat' split) <;> omega
      exact hq _ H (by unfold rsRow; (repeat' split) <;> omega) (fun j => (if_neg (fun y => rz y.1)).symm) (fun j => (if_neg (fun y => rz y.1)).symm) hT hX (ttFr_rf _ H)
    · replace h2 : (0 : Int) ≠ 0 := h2
      omega
theorem lx_row2 {dd : Nat} {s w n : Int} (hd : 4 ≤ dd) {H : xH} (hT : ttTI H) (hX : ttXX YY H) {Q : Int → xH → Prop} (hq : ∀ r K, r = rsRow s w n → (∀ j : Int, K.1 206 j = if rsRow s w n = 0 ∧ j = s then n else H.1 206 j) → (∀ j : Int, K.1 207 j = if rsRow s w n = 0 ∧ j = s then w else H.1 207 j) → ttTI K → ttXX YY K → ttFr (true, [(206, 0, 3), (207, 0, 3), (208, 0, 239)]) H K → Q r K) : xCall dd 329 [(2, 183), (0, s), (0, w), (0, n)] H Q := by
  obtain ⟨e, rfl, he⟩ := ttRun0 (n := 3) hd
  have he : 3 ≤ e := he
  have hn : 210 ≤ (H.2.2.2.1 : Int) := by have := hT.1; omega
  have hl : ∀ f : Nat, ∀ (K : xH) (i : Int), rsRow s w n = 0 → 0 ≤ s → s ≤ 3 → 0 ≤ i → i ≤ 60 → 60 - i ≤ (f : Int) → (∀ j : Int, K.1 206 j = if rsRow s w n = 0 ∧ j = s then n else H.1 206 j) → (∀ j : Int, K.1 207 j = if rsRow s w n = 0 ∧ j = s then w else H.1 207 j) → ttTI K → ttXX YY K → ttFr (true, [(206, 0, 3), (207, 0, 3), (208, 0, 239)]) H K → xW e cd_329 Q (30, [(2, 183), (0, s), (0, w), (0, n), (0, i)], [], K) := by
    intro f
    induction f with
    | zero =>
      intro K i rz s0 s3 i0 i1 hn2 xa xb kT kX kF
      refine q_il (pc := 30) (i := 4) (x := i) rfl rfl ?_
      refine q_ic (pc := 31) (v := 60) rfl ?_
      refine q_i2 (pc := 32) rfl (fun h32 => ?_) (fun h32 => ?_)
      · replace h32 : 60 ≤ i := h32
        refine q_ic (pc := 44) (v := 0) rfl ?_
        refine q_ri (pc := 45) rfl ?_
        exact hq _ K rz.symm xa xb kT kX kF
      · replace h32 : i < 60 := h32
        omega
    | succ f ih =>
      intro K i rz s0 s3 i0 i1 hn2 xa xb kT kX kF
      refine q_il (pc := 30) (i := 4) (x := i) rfl rfl ?_
      refine q_ic (pc := 31) (v := 60) rfl ?_
      refine q_i2 (pc := 32) rfl (fun h32 => ?_) (fun h32 => ?_)
      · replace h32 : 60 ≤ i := h32
        refine q_ic (pc := 44) (v := 0) rfl ?_
        refine q_ri (pc := 45) rfl ?_
        exact hq _ K rz.symm xa xb kT kX kF
      · replace h32 : i < 60 := h32
        refine q_al (pc := 33) (i := 0) (x := 183) rfl rfl ?_
        refine q_gf (pc := 34) (m := 12512) (t := 2) (c := 51) rfl (ttKc kT (a := 183) (κ := 12) (len := 0) ⟨rfl, rfl⟩ (by decide) (by decide)).1 rfl rfl ?_
        rw [show K.1 183 51 = 208 from ttFx kT (by decide) (by decide) rfl rfl rfl]
        refine q_ic (pc := 35) (v := 60) rfl ?_
        refine q_il (pc := 36) (i := 1) (x := s) rfl rfl ?_
        refine q_im (pc := 37) rfl (by omega) (by omega) ?_
        refine q_il (pc := 38) (i := 4) (x := i) rfl rfl ?_
        refine q_ia (pc := 39) rfl (by omega) (by omega) ?_
        refine q_lc (pc := 40) (v := 0) rfl ?_
        refine q_sj (pc := 41) rfl (by decide) (ttKc kT (a := 208) (κ := 23) (len := 240) ⟨rfl, rfl⟩ (by decide) (by decide)).1 (by omega) (by rw [(ttKc kT (a := 208) (κ := 23) (len := 240) ⟨rfl, rfl⟩ (by decide) (by decide)).2]; omega) ?_
        have yc := ttPut (ttXX_out yyStab (fun _ _ => trivial)) kT kX kF (a := 208) (j := ((60 * s) + i)) (x := 0) (by decide) (fun _ _ => ttTyr rfl (by decide) (by decide)) ⟨(208, 0, 239), by simp, ⟨⟨by decide, rfl⟩, by show (0 : Int) ≤ ((60 * s) + i); omega, by show ((60 * s) + i) ≤ 239; omega⟩⟩ (ttMay_no (r := 208) rfl (by decide))
        refine q_ii (pc := 42) (i := 4) (c := 1) (x := i) (L' := [(2, 183), (0, s), (0, w), (0, n), (0, (i + 1))]) rfl rfl rfl (by omega) (by omega) rfl ?_
        refine q_go (pc := 43) rfl ?_
        exact ih _ (i + 1) rz s0 s3 (by omega) (by omega) (by omega) (fun j => (up_na (D := K.1) (a := 208) (j := ((60 * s) + i)) (x := 0) (b := 206) (k := j) (by decide)).trans (xa j)) (fun j => (up_na (D := K.1) (a := 208) (j := ((60 * s) + i)) (x := 0) (b := 207) (k := j) (by decide)).trans (xb j)) yc.1 yc.2.1 yc.2.2
  refine xC_of (L := [(2, 183), (0, s), (0, w), (0, n), (9, 0)]) (cd := cd_329) rfl rfl rfl ?_
  refine q_il (pc := 0) (i := 1) (x := s) rfl rfl ?_
  refine q_ij (pc := 1) (q := 2623924) rfl rfl rfl trivial ?_
  refine lf_slot2 (by omega) (fun js1 => ?_) (fun js1 => ?_)
  · skip
    refine q_if (pc := 2) rfl (fun h2 => ?_) (fun h2 => ?_)
    · replace h2 : (1 : Int) = 0 := h2
      omega
    · replace h2 : (1 : Int) ≠ 0 := h2
      refine q_il (pc := 3) (i := 2) (x := w) rfl rfl ?_
      refine q_2l (pc := 4) rfl ?_
      refine q_lc (pc := 5) (v := 0) rfl ?_
      refine q_lc (pc := 6) (v := 3) rfl ?_
      refine q_ij (pc := 7) (q := 1615932) rfl rfl rfl trivial ?_
      refine lf_in (by omega) (fun jn7 => ?_) (fun jn7 => ?_)
      · skip
        refine q_if (pc := 8) rfl (fun h8 => ?_) (fun h8 => ?_)
        · replace h8 : (1 : Int) = 0 := h8
          omega
        · replace h8 : (1 : Int) ≠ 0 := h8
          refine q_il (pc := 9) (i := 3) (x := n) rfl rfl ?_
          refine q_ic (pc := 10) (v := 60) rfl ?_
          refine q_i2 (pc := 11) rfl (fun h11 => ?_) (fun h11 => ?_)
          · replace h11 : n ≤ 60 := h11
            refine q_il (pc := 14) (i := 3) (x := n) rfl rfl ?_
            refine q_if (pc := 15) rfl (fun h15 => ?_) (fun h15 => ?_)
            · replace h15 : 0 ≤ n := h15
              refine q_al (pc := 18) (i := 0) (x := 183) rfl rfl ?_
              refine q_gf (pc := 19) (m := 12492) (t := 2) (c := 49) rfl (ttKc hT (a := 183) (κ := 12) (len := 0) ⟨rfl, rfl⟩ (by decide) (by decide)).1 rfl rfl ?_
              rw [show H.1 183 49 = 206 from ttFx hT (by decide) (by decide) rfl rfl rfl]
              refine q_il (pc := 20) (i := 1) (x := s) rfl rfl ?_
              refine q_il (pc := 21) (i := 3) (x := n) rfl rfl ?_
              refine q_si (pc := 22) rfl (by decide) (ttKc hT (a := 206) (κ := 20) (len := 4) ⟨rfl, rfl⟩ (by decide) (by decide)).1 (by omega) (by rw [(ttKc hT (a := 206) (κ := 20) (len := 4) ⟨rfl, rfl⟩ (by decide) (by decide)).2]; omega) ?_
              have kT := hT
              have kX := hX
              have kF := ttFr_rf (true, [(206, 0, 3), (207, 0, 3), (208, 0, 239)]) H
              have yc := ttPut (ttXX_out yyStab (fun _ _ => trivial)) kT kX kF (a := 206) (j := s) (x := n) (by decide) (fun _ _ => ttTyr rfl (by omega) (by omega)) ⟨(206, 0, 3), by simp, ⟨⟨by decide, rfl⟩, by show (0 : Int) ≤ s; omega, by show s ≤ 3; omega⟩⟩ (ttMay_no (r := 206) rfl (by decide))
              obtain ⟨Y, jY⟩ : ∃ X : xH, X = (xUp H.1 206 s n, H.2) := ⟨_, rfl⟩
              rw [← jY] at yc ⊢
              refine q_al (pc := 23) (i := 0) (x := 183) rfl rfl ?_
              refine q_gf (pc := 24) (m := 12502) (t := 2) (c := 50) rfl (ttKc yc.1 (a := 183) (κ := 12) (len := 0) ⟨rfl, rfl⟩ (by decide) (by decide)).1 rfl rfl ?_
              rw [show Y.1 183 50 = 207 from ttFx yc.1 (by decide) (by decide) rfl rfl rfl]
              refine q_il (pc := 25) (i := 1) (x := s) rfl rfl ?_
              refine q_il (pc := 26) (i := 2) (x := w) rfl rfl ?_
              refine q_si (pc := 27) rfl (by decide) (ttKc yc.1 (a := 207) (κ := 20) (len := 4) ⟨rfl, rfl⟩ (by decide) (by decide)).1 (by omega) (by rw [(ttKc yc.1 (a := 207) (κ := 20) (len := 4) ⟨rfl, rfl⟩ (by decide) (by decide)).2]; omega) ?_
              have xc := ttPut (ttXX_out yyStab (fun _ _ => trivial)) yc.1 yc.2.1 yc.2.2 (a := 207) (j := s) (x := w) (by decide) (fun _ _ => ttTyr rfl (by omega) (by omega)) ⟨(207, 0, 3), by simp, ⟨⟨by decide, rfl⟩, by show (0 : Int) ≤ s; omega, by show s ≤ 3; omega⟩⟩ (ttMay_no (r := 207) rfl (by decide))
              obtain ⟨X2, jX⟩ : ∃ X : xH, X = (xUp Y.1 207 s w, Y.2) := ⟨_, rfl⟩
              rw [← jX] at xc ⊢
              have rz : rsRow s w n = 0 := (by unfold rsRow; (repeat' split) <;> omega)
              have xa : ∀ j : Int, X2.1 206 j = if rsRow s w n = 0 ∧ j = s then n else H.1 206 j := fun j => by
                rw [jX]
                refine (up_na (D := Y.1) (a := 207) (j := s) (x := w) (b := 206) (k := j) (by decide)).trans ?_
                rw [jY]
                by_cases z : j = s
                · rw [if_pos ⟨rz, z⟩, z]; exact up_eq (D := H.1) (a := 206) (j := s) (x := n)
                · rw [if_neg (fun y => z y.2)]; exact up_ne (fun y => z y.2)
              have xb : ∀ j : Int, X2.1 207 j = if rsRow s w n = 0 ∧ j = s then w else H.1 207 j := fun j => by
                by_cases z : j = s
                · rw [if_pos ⟨rz, z⟩, z, jX]; exact up_eq (D := Y.1) (a := 207) (j := s) (x := w)
                · rw [if_neg (fun y => z y.2), jX]
                  refine (up_ne (fun y => z y.2)).trans ?_
                  rw [jY]; exact up_na (D := H.1) (a := 206) (j := s) (x := n) (b := 207) (k := j) (by decide)
              refine q_ic (pc := 28) (v := 0) rfl ?_
              refine q_is (pc := 29) (i := 4) (L' := [(2, 183), (0, s), (0, w), (0, n), (0, 0)]) rfl rfl rfl ?_
              exact hl 60 X2 0 rz (by omega) (by omega) (by decide) (by decide) (by decide) xa xb xc.1 xc.2.1 xc.2.2
            · replace h15 : n < 0 := h15
              refine q_ic (pc := 16) (v := (-3)) rfl ?_
              refine q_ri (pc := 17) rfl ?_
              have rz : rsRow s w n ≠ 0 := by unfold rsRow; (repeat' split) <;> omega
              exact hq _ H (by unfold rsRow; (repeat' split) <;> omega) (fun j => (if_neg (fun y => rz y.1)).symm) (fun j => (if_neg (fun y => rz y.1)).symm) hT hX (ttFr_rf _ H)
          · replace h11 : 60 < n := h11
            refine q_ic (pc := 12) (v := (-2)) rfl ?_
            refine q_ri (pc := 13) rfl ?_
            have rz : rsRow s w n ≠ 0 := by unfold rsRow; (repeat' split) <;> omega
            exact hq _ H (by unfold rsRow; (repeat' split) <;> omega) (fun j => (if_neg (fun y => rz y.1)).symm) (fun j => (if_neg (fun y => rz y.1)).symm) hT hX (ttFr_rf _ H)
      · skip
        refine q_if (pc := 8) rfl (fun h8 => ?_) (fun h8 => ?_)
        · replace h8 : (0 : Int) = 0 := h8
          refine q_ic (pc := 12) (v := (-2)) rfl ?_
          refine q_ri (pc := 13) rfl ?_
          have rz : rsRow s w n ≠ 0 := by unfold rsRow; (repeat' split) <;> omega
          exact hq _ H (by unfold rsRow; (repeat' split) <;> omega) (fun j => (if_neg (fun y => rz y.1)).symm) (fun j => (if_neg (fun y => rz y.1)).symm) hT hX (ttFr_rf _ H)
        · replace h8 : (0 : Int) ≠ 0 := h8
          omega
  · skip
    refine q_if (pc := 2) rfl (fun h2 => ?_) (fun h2 => ?_)
    · replace h2 : (0 : Int) = 0 := h2
      refine q_ic (pc := 12) (v := (-2)) rfl ?_
      refine q_ri (pc := 13) rfl ?_
      have rz : rsRow s w n ≠ 0 := by unfold rsRow; (repeat' split) <;> omega
      exact hq _ H (by unfold rsRow; (repeat' split) <;> omega) (fun j => (if_neg (fun y => rz y.1)).symm) (fun j => (if_neg (fun y => rz y.1)).symm) hT hX (ttFr_rf _ H)
    · replace h2 : (0 : Int) ≠ 0 := h2
      omega
theorem lx_paste1 {dd : Nat} {v1 v2 v3 v4 v5 : Int} (hd : 2 ≤ dd) {H : xH} (hT : ttTI H) (hX : ttXX YY H) (p1 : -2147483648 ≤ v1 ∧ v1 ≤ 2147483647) (p2 : -2147483648 ≤ v2 ∧ v2 ≤ 2147483647) (p3 : -2147483648 ≤ v3 ∧ v3 ≤ 2147483647) (p4 : -2147483648 ≤ v4 ∧ v4 ≤ 2147483647) (p5 : -2147483648 ≤ v5 ∧ v5 ≤ 2147483647) {Q : Int → xH → Prop} (hq : ∀ r H', r = rsPaste (H.1 100) (H.1 101) v1 v2 v3 v4 v5 → ttTI H' → ttXX YY H' → ttFr (true, [(96, 0, 59)]) H H' → Q r H') : xCall dd 199 [(2, 1), (0, v1), (0, v2), (0, v3), (0, v4), (0, v5)] H Q := by
  obtain ⟨e, rfl, he⟩ := ttRun0 (n := 1) hd
  have he : 1 ≤ e := he
  have hO := ttXX_out yyStab (fun _ _ => trivial)
  have hmany := ttRw hT (a := 100) (κ := 20) (len := 4) (sz := 4) (lo := -1) (hi := 60) (by decide) (by decide) rfl
  have hrow : ∀ s : Int, 0 ≤ s → s < 4 → (1 ≤ H.1 95 s ∧ H.1 95 s < (H.2.2.2.1 : Int)) ∧ ttRo (H.1 95 s) = 96 := fun s s0 s1 => by
    have k := ttMc hT (a := 95) (j := s) (by decide) (by decide) s0 (by show s < 4; exact s1)
    have e : ttTy (ttTb (ttRo 95)) s = (1, 96, 0) := by
      show ([(1, 96, 0)] : List ttI).getD (s % 1).toNat (9, 0, 0) = _
      rw [Int.emod_one]
      rfl
    rw [e] at k
    exact k
  refine xC_of (L := [(2, 1), (0, v1), (0, v2), (0, v3), (0, v4), (0, v5)]) (cd := cd_199) rfl rfl rfl ?_
  refine q_il (pc := 0) (i := 1) (x := v1) rfl rfl ?_
  refine q_ij (pc := 1) (q := 1567924) rfl rfl rfl trivial ?_
  refine lf_slot (by omega) (fun h1 => ?_) (fun h1 => ?_)
  · replace h1 : 0 ≤ v1 ∧ v1 ≤ 3 := h1
    refine q_if (pc := 2) rfl (fun h2 => ?_) (fun h2 => ?_)
    · replace h2 : (1 : Int) = 0 := h2
      omega
    · replace h2 : (1 : Int) ≠ 0 := h2
      refine q_il (pc := 3) (i := 3) (x := v3) rfl rfl ?_
      refine q_ij (pc := 4) (q := 1567924) rfl rfl rfl trivial ?_
      refine lf_slot (by omega) (fun h4 => ?_) (fun h4 => ?_)
      · replace h4 : 0 ≤ v3 ∧ v3 ≤ 3 := h4
        refine q_if (pc := 5) rfl (fun h5 => ?_) (fun h5 => ?_)
        · replace h5 : (1 : Int) ≠ 0 := h5
          refine q_al (pc := 8) (i := 0) (x := 1) rfl rfl ?_
          refine q_gf (pc := 9) (m := 11162) (t := 2) (c := 16) rfl (ttKc hT (a := 1) (κ := 11) (len := 0) ⟨rfl, rfl⟩ (by decide) (by decide)).1 rfl rfl ?_
          rw [show H.1 1 16 = 100 from ttFx hT (by decide) (by decide) rfl rfl rfl]
          refine q_il (pc := 10) (i := 1) (x := v1) rfl rfl ?_
          refine q_ai (pc := 11) rfl (ttKc hT (a := 100) (κ := 20) (len := 4) ⟨rfl, rfl⟩ (by decide) (by decide)).1 (by omega) (by rw [(ttKc hT (a := 100) (κ := 20) (len := 4) ⟨rfl, rfl⟩ (by decide) (by decide)).2]; omega) ?_
          refine q_ic (pc := 12) (v := (-1)) rfl ?_
          refine q_i2 (pc := 13) rfl (fun h13 => ?_) (fun h13 => ?_)
          · replace h13 : (H.1 100 v1) = (-1) := h13
            refine q_ic (pc := 20) (v := (-6)) rfl ?_
            refine q_ri (pc := 21) rfl ?_
            first | exact hq _ H (by unfold rsPaste; (repeat' split) <;> omega) hT hX (ttFr_rf _ _) | omega
          · replace h13 : (H.1 100 v1) ≠ (-1) := h13
            refine q_al (pc := 14) (i := 0) (x := 1) rfl rfl ?_
            refine q_gf (pc := 15) (m := 11162) (t := 2) (c := 16) rfl (ttKc hT (a := 1) (κ := 11) (len := 0) ⟨rfl, rfl⟩ (by decide) (by decide)).1 rfl rfl ?_
            rw [show H.1 1 16 = 100 from ttFx hT (by decide) (by decide) rfl rfl rfl]
            refine q_il (pc := 16) (i := 3) (x := v3) rfl rfl ?_
            refine q_ai (pc := 17) rfl (ttKc hT (a := 100) (κ := 20) (len := 4) ⟨rfl, rfl⟩ (by decide) (by decide)).1 (by omega) (by rw [(ttKc hT (a := 100) (κ := 20) (len := 4) ⟨rfl, rfl⟩ (by decide) (by decide)).2]; omega) ?_
            refine q_ic (pc := 18) (v := (-1)) rfl ?_
            refine q_i2 (pc := 19) rfl (fun h19 => ?_) (fun h19 => ?_)
            · replace h19 : (H.1 100 v3) ≠ (-1) := h19
              refine q_al (pc := 22) (i := 0) (x := 1) rfl rfl ?_
              refine q_gf (pc := 23) (m := 11172) (t := 2) (c := 17) rfl (ttKc hT (a := 1) (κ := 11) (len := 0) ⟨rfl, rfl⟩ (by decide) (by decide)).1 rfl rfl ?_
              rw [show H.1 1 17 = 101 from ttFx hT (by decide) (by decide) rfl rfl rfl]
              refine q_il (pc := 24) (i := 1) (x := v1) rfl rfl ?_
              refine q_ai (pc := 25) rfl (ttKc hT (a := 101) (κ := 20) (len := 4) ⟨rfl, rfl⟩ (by decide) (by decide)).1 (by omega) (by rw [(ttKc hT (a := 101) (κ := 20) (len := 4) ⟨rfl, rfl⟩ (by decide) (by decide)).2]; omega) ?_
              refine q_al (pc := 26) (i := 0) (x := 1) rfl rfl ?_
              refine q_gf (pc := 27) (m := 11172) (t := 2) (c := 17) rfl (ttKc hT (a := 1) (κ := 11) (len := 0) ⟨rfl, rfl⟩ (by decide) (by decide)).1 rfl rfl ?_
              rw [show H.1 1 17 = 101 from ttFx hT (by decide) (by decide) rfl rfl rfl]
              refine q_il (pc := 28) (i := 3) (x := v3) rfl rfl ?_
              refine q_ai (pc := 29) rfl (ttKc hT (a := 101) (κ := 20) (len := 4) ⟨rfl, rfl⟩ (by decide) (by decide)).1 (by omega) (by rw [(ttKc hT (a := 101) (κ := 20) (len := 4) ⟨rfl, rfl⟩ (by decide) (by decide)).2]; omega) ?_
              refine q_i2 (pc := 30) rfl (fun h30 => ?_) (fun h30 => ?_)
              · replace h30 : (H.1 101 v1) = (H.1 101 v3) := h30
                refine q_il (pc := 33) (i := 2) (x := v2) rfl rfl ?_
                refine q_il (pc := 34) (i := 5) (x := v5) rfl rfl ?_
                refine q_al (pc := 35) (i := 0) (x := 1) rfl rfl ?_
                refine q_gf (pc := 36) (m := 11162) (t := 2) (c := 16) rfl (ttKc hT (a := 1) (κ := 11) (len := 0) ⟨rfl, rfl⟩ (by decide) (by decide)).1 rfl rfl ?_
                rw [show H.1 1 16 = 100 from ttFx hT (by decide) (by decide) rfl rfl rfl]
                refine q_il (pc := 37) (i := 1) (x := v1) rfl rfl ?_
                refine q_ai (pc := 38) rfl (ttKc hT (a := 100) (κ := 20) (len := 4) ⟨rfl, rfl⟩ (by decide) (by decide)).1 (by omega) (by rw [(ttKc hT (a := 100) (κ := 20) (len := 4) ⟨rfl, rfl⟩ (by decide) (by decide)).2]; omega) ?_
                have hs39 := hmany v1 (by omega) (by omega)
                refine q_ij (pc := 39) (q := 1607932) rfl rfl rfl trivial ?_
                refine lf_part (by omega) hs39 (fun h39 => ?_) (fun h39 => ?_)
                · replace h39 : 0 ≤ v2 ∧ 0 ≤ v5 ∧ v2 + v5 ≤ (H.1 100 v1) := h39
                  refine q_if (pc := 40) rfl (fun h40 => ?_) (fun h40 => ?_)
                  · replace h40 : (1 : Int) = 0 := h40
                    omega
                  · replace h40 : (1 : Int) ≠ 0 := h40
                    refine q_il (pc := 41) (i := 4) (x := v4) rfl rfl ?_
                    refine q_il (pc := 42) (i := 5) (x := v5) rfl rfl ?_
                    refine q_al (pc := 43) (i := 0) (x := 1) rfl rfl ?_
                    refine q_gf (pc := 44) (m := 11162) (t := 2) (c := 16) rfl (ttKc hT (a := 1) (κ := 11) (len := 0) ⟨rfl, rfl⟩ (by decide) (by decide)).1 rfl rfl ?_
                    rw [show H.1 1 16 = 100 from ttFx hT (by decide) (by decide) rfl rfl rfl]
                    refine q_il (pc := 45) (i := 3) (x := v3) rfl rfl ?_
                    refine q_ai (pc := 46) rfl (ttKc hT (a := 100) (κ := 20) (len := 4) ⟨rfl, rfl⟩ (by decide) (by decide)).1 (by omega) (by rw [(ttKc hT (a := 100) (κ := 20) (len := 4) ⟨rfl, rfl⟩ (by decide) (by decide)).2]; omega) ?_
                    have hs47 := hmany v3 (by omega) (by omega)
                    refine q_ij (pc := 47) (q := 1607932) rfl rfl rfl trivial ?_
                    refine lf_part (by omega) hs47 (fun h47 => ?_) (fun h47 => ?_)
                    · replace h47 : 0 ≤ v4 ∧ 0 ≤ v5 ∧ v4 + v5 ≤ (H.1 100 v3) := h47
                      refine q_if (pc := 48) rfl (fun h48 => ?_) (fun h48 => ?_)
                      · replace h48 : (1 : Int) ≠ 0 := h48
                        refine q_al (pc := 51) (i := 0) (x := 1) rfl rfl ?_
                        refine q_gf (pc := 52) (m := 11152) (t := 2) (c := 15) rfl (ttKc hT (a := 1) (κ := 11) (len := 0) ⟨rfl, rfl⟩ (by decide) (by decide)).1 rfl rfl ?_
                        rw [show H.1 1 15 = 95 from ttFx hT (by decide) (by decide) rfl rfl rfl]
                        refine q_il (pc := 53) (i := 1) (x := v1) rfl rfl ?_
                        refine q_aa (pc := 54) rfl (by rw [(ttKc hT (a := 95) (κ := 24) (len := 4) ⟨rfl, rfl⟩ (by decide) (by decide)).1]; decide) (by omega) (by rw [(ttKc hT (a := 95) (κ := 24) (len := 4) ⟨rfl, rfl⟩ (by decide) (by decide)).2]; omega) ?_
                        refine q_il (pc := 55) (i := 2) (x := v2) rfl rfl ?_
                        refine q_al (pc := 56) (i := 0) (x := 1) rfl rfl ?_
                        refine q_gf (pc := 57) (m := 11152) (t := 2) (c := 15) rfl (ttKc hT (a := 1) (κ := 11) (len := 0) ⟨rfl, rfl⟩ (by decide) (by decide)).1 rfl rfl ?_
                        rw [show H.1 1 15 = 95 from ttFx hT (by decide) (by decide) rfl rfl rfl]
                        refine q_il (pc := 58) (i := 3) (x := v3) rfl rfl ?_
                        refine q_aa (pc := 59) rfl (by rw [(ttKc hT (a := 95) (κ := 24) (len := 4) ⟨rfl, rfl⟩ (by decide) (by decide)).1]; decide) (by omega) (by rw [(ttKc hT (a := 95) (κ := 24) (len := 4) ⟨rfl, rfl⟩ (by decide) (by decide)).2]; omega) ?_
                        refine q_il (pc := 60) (i := 4) (x := v4) rfl rfl ?_
                        refine q_il (pc := 61) (i := 5) (x := v5) rfl rfl ?_
                        have r1 := hrow v1 (by omega) (by omega)
                        have r3 := hrow v3 (by omega) (by omega)
                        have k1 := hT.2 _ r1.1.1 r1.1.2
                        have k3 := hT.2 _ r3.1.1 r3.1.2
                        rw [r1.2] at k1
                        rw [r3.2] at k3
                        have hs1 := hmany v1 (by omega) (by omega)
                        have hs3 := hmany v3 (by omega) (by omega)
                        have c := ttLcp hO hT hX r1 r3 (sp := v2) (dp := v4) (l := v5) (by omega) (by omega) (by omega) (by omega) (by omega)
                        refine q_cy (pc := 62) rfl rfl (by omega) ⟨by omega, by omega, k1.1, k3.1, by omega, by omega, by omega, by rw [k1.2.1]; show v2 + v5 ≤ 60; omega, by rw [k3.2.1]; show v4 + v5 ≤ 60; omega⟩ ?_
                        refine q_ic (pc := 63) (v := 0) rfl ?_
                        exact q_ri (pc := 64) rfl (hq _ _ (by unfold rsPaste; (repeat' split) <;> omega) c.1 c.2.1 c.2.2)
                      · replace h48 : (1 : Int) = 0 := h48
                        omega
                    · replace h47 : ¬ (0 ≤ v4 ∧ 0 ≤ v5 ∧ v4 + v5 ≤ (H.1 100 v3)) := h47
                      refine q_if (pc := 48) rfl (fun h48 => ?_) (fun h48 => ?_)
                      · replace h48 : (0 : Int) ≠ 0 := h48
                        omega
                      · replace h48 : (0 : Int) = 0 := h48
                        refine q_ic (pc := 49) (v := (-7)) rfl ?_
                        refine q_ri (pc := 50) rfl ?_
                        first | exact hq _ H (by unfold rsPaste; (repeat' split) <;> omega) hT hX (ttFr_rf _ _) | omega
                · replace h39 : ¬ (0 ≤ v2 ∧ 0 ≤ v5 ∧ v2 + v5 ≤ (H.1 100 v1)) := h39
                  refine q_if (pc := 40) rfl (fun h40 => ?_) (fun h40 => ?_)
                  · replace h40 : (0 : Int) = 0 := h40
                    refine q_ic (pc := 49) (v := (-7)) rfl ?_
                    refine q_ri (pc := 50) rfl ?_
                    first | exact hq _ H (by unfold rsPaste; (repeat' split) <;> omega) hT hX (ttFr_rf _ _) | omega
                  · replace h40 : (0 : Int) ≠ 0 := h40
                    omega
              · replace h30 : (H.1 101 v1) ≠ (H.1 101 v3) := h30
                refine q_ic (pc := 31) (v := (-8)) rfl ?_
                refine q_ri (pc := 32) rfl ?_
                first | exact hq _ H (by unfold rsPaste; (repeat' split) <;> omega) hT hX (ttFr_rf _ _) | omega
            · replace h19 : (H.1 100 v3) = (-1) := h19
              refine q_ic (pc := 20) (v := (-6)) rfl ?_
              refine q_ri (pc := 21) rfl ?_
              first | exact hq _ H (by unfold rsPaste; (repeat' split) <;> omega) hT hX (ttFr_rf _ _) | omega
        · replace h5 : (1 : Int) = 0 := h5
          omega
      · replace h4 : ¬ (0 ≤ v3 ∧ v3 ≤ 3) := h4
        refine q_if (pc := 5) rfl (fun h5 => ?_) (fun h5 => ?_)
        · replace h5 : (0 : Int) ≠ 0 := h5
          omega
        · replace h5 : (0 : Int) = 0 := h5
          refine q_ic (pc := 6) (v := (-2)) rfl ?_
          refine q_ri (pc := 7) rfl ?_
          first | exact hq _ H (by unfold rsPaste; (repeat' split) <;> omega) hT hX (ttFr_rf _ _) | omega
  · replace h1 : ¬ (0 ≤ v1 ∧ v1 ≤ 3) := h1
    refine q_if (pc := 2) rfl (fun h2 => ?_) (fun h2 => ?_)
    · replace h2 : (0 : Int) = 0 := h2
      refine q_ic (pc := 6) (v := (-2)) rfl ?_
      refine q_ri (pc := 7) rfl ?_
      first | exact hq _ H (by unfold rsPaste; (repeat' split) <;> omega) hT hX (ttFr_rf _ _) | omega
    · replace h2 : (0 : Int) ≠ 0 := h2
      omega
theorem lx_paste2 {dd : Nat} {v1 v2 v3 v4 v5 : Int} (hd : 3 ≤ dd) {H : xH} (hT : ttTI H) (hX : ttXX YY H) (p1 : -2147483648 ≤ v1 ∧ v1 ≤ 2147483647) (p2 : -2147483648 ≤ v2 ∧ v2 ≤ 2147483647) (p3 : -2147483648 ≤ v3 ∧ v3 ≤ 2147483647) (p4 : -2147483648 ≤ v4 ∧ v4 ≤ 2147483647) (p5 : -2147483648 ≤ v5 ∧ v5 ≤ 2147483647) {Q : Int → xH → Prop} (hq : ∀ r H', r = rsPaste (H.1 206) (H.1 207) v1 v2 v3 v4 v5 → ttTI H' → ttXX YY H' → ttFr (true, [(208, 0, 239), (209, 0, 59)]) H H' → Q r H') : xCall dd 331 [(2, 183), (0, v1), (0, v2), (0, v3), (0, v4), (0, v5)] H Q := by
  obtain ⟨e, rfl, he⟩ := ttRun0 (n := 2) hd
  have he : 2 ≤ e := he
  have hO := ttXX_out yyStab (fun _ _ => trivial)
  have hmany := ttRw hT (a := 206) (κ := 20) (len := 4) (sz := 4) (lo := -1) (hi := 60) (by decide) (by decide) rfl
  have hl2 : ∀ n : Nat, ∀ (K : xH) (i : Int), ttTI K → ttXX YY K → ttFr (true, [(208, 0, 239), (209, 0, 59)]) H K → 0 = rsPaste (H.1 206) (H.1 207) v1 v2 v3 v4 v5 → 0 ≤ v1 → v1 ≤ 3 → 0 ≤ v3 → v3 ≤ 3 → 0 ≤ v2 → 0 ≤ v4 → 0 ≤ v5 → v2 + v5 ≤ 60 → v4 + v5 ≤ 60 → 0 ≤ i → i ≤ v5 → v5 - i ≤ (n : Int) → xW e cd_331 Q (88, [(2, 183), (0, v1), (0, v2), (0, v3), (0, v4), (0, v5), (0, i)], [], K) := by
    intro n
    induction n with
    | zero =>
      intro K i kT kX kF wz w1 w2 w3 w4 w5 w6 w7 w8 w9 i0 i1 hn
      refine q_il (pc := 88) (i := 6) (x := i) rfl rfl ?_
      refine q_il (pc := 89) (i := 5) (x := v5) rfl rfl ?_
      refine q_i2 (pc := 90) rfl (fun h90 => ?_) (fun h90 => ?_)
      · replace h90 : v5 ≤ i := h90
        refine q_ic (pc := 107) (v := 0) rfl ?_
        refine q_ri (pc := 108) rfl ?_
        exact hq _ K wz kT kX kF
      · replace h90 : i < v5 := h90
        refine q_al (pc := 91) (i := 0) (x := 183) rfl rfl ?_
        refine q_gf (pc := 92) (m := 12512) (t := 2) (c := 51) rfl (ttKc kT (a := 183) (κ := 12) (len := 0) ⟨rfl, rfl⟩ (by decide) (by decide)).1 rfl rfl ?_
        rw [show K.1 183 51 = 208 from ttFx kT (by decide) (by decide) rfl rfl rfl]
        refine q_ic (pc := 93) (v := 60) rfl ?_
        refine q_il (pc := 94) (i := 3) (x := v3) rfl rfl ?_
        refine q_im (pc := 95) rfl (by omega) (by omega) ?_
        refine q_il (pc := 96) (i := 4) (x := v4) rfl rfl ?_
        refine q_ia (pc := 97) rfl (by omega) (by omega) ?_
        refine q_il (pc := 98) (i := 6) (x := i) rfl rfl ?_
        refine q_ia (pc := 99) rfl (by omega) (by omega) ?_
        refine q_al (pc := 100) (i := 0) (x := 183) rfl rfl ?_
        refine q_gf (pc := 101) (m := 12522) (t := 2) (c := 52) rfl (ttKc kT (a := 183) (κ := 12) (len := 0) ⟨rfl, rfl⟩ (by decide) (by decide)).1 rfl rfl ?_
        rw [show K.1 183 52 = 209 from ttFx kT (by decide) (by decide) rfl rfl rfl]
        refine q_il (pc := 102) (i := 6) (x := i) rfl rfl ?_
        refine q_aj (pc := 103) rfl (ttKc kT (a := 209) (κ := 23) (len := 60) ⟨rfl, rfl⟩ (by decide) (by decide)).1 (by omega) (by rw [(ttKc kT (a := 209) (κ := 23) (len := 60) ⟨rfl, rfl⟩ (by decide) (by decide)).2]; omega) ?_
        refine q_sj (pc := 104) rfl (by decide) (ttKc kT (a := 208) (κ := 23) (len := 240) ⟨rfl, rfl⟩ (by decide) (by decide)).1 (by omega) (by rw [(ttKc kT (a := 208) (κ := 23) (len := 240) ⟨rfl, rfl⟩ (by decide) (by decide)).2]; omega) ?_
        refine q_ii (pc := 105) (i := 6) (c := 1) (x := i) (L' := [(2, 183), (0, v1), (0, v2), (0, v3), (0, v4), (0, v5), (0, (i + 1))]) rfl rfl rfl (by omega) (by omega) rfl ?_
        refine q_go (pc := 106) rfl ?_
        omega
    | succ n ih =>
      intro K i kT kX kF wz w1 w2 w3 w4 w5 w6 w7 w8 w9 i0 i1 hn
      refine q_il (pc := 88) (i := 6) (x := i) rfl rfl ?_
      refine q_il (pc := 89) (i := 5) (x := v5) rfl rfl ?_
      refine q_i2 (pc := 90) rfl (fun h90 => ?_) (fun h90 => ?_)
      · replace h90 : v5 ≤ i := h90
        refine q_ic (pc := 107) (v := 0) rfl ?_
        refine q_ri (pc := 108) rfl ?_
        exact hq _ K wz kT kX kF
      · replace h90 : i < v5 := h90
        refine q_al (pc := 91) (i := 0) (x := 183) rfl rfl ?_
        refine q_gf (pc := 92) (m := 12512) (t := 2) (c := 51) rfl (ttKc kT (a := 183) (κ := 12) (len := 0) ⟨rfl, rfl⟩ (by decide) (by decide)).1 rfl rfl ?_
        rw [show K.1 183 51 = 208 from ttFx kT (by decide) (by decide) rfl rfl rfl]
        refine q_ic (pc := 93) (v := 60) rfl ?_
        refine q_il (pc := 94) (i := 3) (x := v3) rfl rfl ?_
        refine q_im (pc := 95) rfl (by omega) (by omega) ?_
        refine q_il (pc := 96) (i := 4) (x := v4) rfl rfl ?_
        refine q_ia (pc := 97) rfl (by omega) (by omega) ?_
        refine q_il (pc := 98) (i := 6) (x := i) rfl rfl ?_
        refine q_ia (pc := 99) rfl (by omega) (by omega) ?_
        refine q_al (pc := 100) (i := 0) (x := 183) rfl rfl ?_
        refine q_gf (pc := 101) (m := 12522) (t := 2) (c := 52) rfl (ttKc kT (a := 183) (κ := 12) (len := 0) ⟨rfl, rfl⟩ (by decide) (by decide)).1 rfl rfl ?_
        rw [show K.1 183 52 = 209 from ttFx kT (by decide) (by decide) rfl rfl rfl]
        refine q_il (pc := 102) (i := 6) (x := i) rfl rfl ?_
        refine q_aj (pc := 103) rfl (ttKc kT (a := 209) (κ := 23) (len := 60) ⟨rfl, rfl⟩ (by decide) (by decide)).1 (by omega) (by rw [(ttKc kT (a := 209) (κ := 23) (len := 60) ⟨rfl, rfl⟩ (by decide) (by decide)).2]; omega) ?_
        refine q_sj (pc := 104) rfl (by decide) (ttKc kT (a := 208) (κ := 23) (len := 240) ⟨rfl, rfl⟩ (by decide) (by decide)).1 (by omega) (by rw [(ttKc kT (a := 208) (κ := 23) (len := 240) ⟨rfl, rfl⟩ (by decide) (by decide)).2]; omega) ?_
        refine q_ii (pc := 105) (i := 6) (c := 1) (x := i) (L' := [(2, 183), (0, v1), (0, v2), (0, v3), (0, v4), (0, v5), (0, (i + 1))]) rfl rfl rfl (by omega) (by omega) rfl ?_
        refine q_go (pc := 106) rfl ?_
        have k := ttRw kT (a := 209) (κ := 23) (len := 60) (sz := 60) (lo := -9223372036854775808) (hi := 9223372036854775807) (by decide) (by decide) rfl i (by omega) (by omega)
        have c := ttPut hO kT kX kF (a := 208) (j := (60 * v3 + v4 + i)) (x := K.1 209 i) (by decide) (fun _ _ => ttTyr rfl k.1 k.2) ⟨(208, 0, 239), List.mem_cons_self .., ⟨⟨by decide, rfl⟩, by show (0 : Int) ≤ (60 * v3 + v4 + i); omega, by show (60 * v3 + v4 + i) ≤ 239; omega⟩⟩ (ttMay_no (r := 208) rfl (by decide))
        exact ih _ (i + 1) c.1 c.2.1 c.2.2 wz w1 w2 w3 w4 w5 w6 w7 w8 w9 (by omega) (by omega) (by omega)
  have hl1 : ∀ n : Nat, ∀ (K : xH) (i : Int), ttTI K → ttXX YY K → ttFr (true, [(208, 0, 239), (209, 0, 59)]) H K → 0 = rsPaste (H.1 206) (H.1 207) v1 v2 v3 v4 v5 → 0 ≤ v1 → v1 ≤ 3 → 0 ≤ v3 → v3 ≤ 3 → 0 ≤ v2 → 0 ≤ v4 → 0 ≤ v5 → v2 + v5 ≤ 60 → v4 + v5 ≤ 60 → 0 ≤ i → i ≤ v5 → v5 - i ≤ (n : Int) → xW e cd_331 Q (67, [(2, 183), (0, v1), (0, v2), (0, v3), (0, v4), (0, v5), (0, i)], [], K) := by
    intro n
    induction n with
    | zero =>
      intro K i kT kX kF wz w1 w2 w3 w4 w5 w6 w7 w8 w9 i0 i1 hn
      refine q_il (pc := 67) (i := 6) (x := i) rfl rfl ?_
      refine q_il (pc := 68) (i := 5) (x := v5) rfl rfl ?_
      refine q_i2 (pc := 69) rfl (fun h69 => ?_) (fun h69 => ?_)
      · replace h69 : v5 ≤ i := h69
        refine q_ic (pc := 86) (v := 0) rfl ?_
        refine q_is (pc := 87) (i := 6) (L' := [(2, 183), (0, v1), (0, v2), (0, v3), (0, v4), (0, v5), (0, 0)]) rfl rfl rfl ?_
        exact hl2 v5.toNat K 0 kT kX kF wz w1 w2 w3 w4 w5 w6 w7 w8 w9 (by omega) (by omega) (by omega)
      · replace h69 : i < v5 := h69
        refine q_al (pc := 70) (i := 0) (x := 183) rfl rfl ?_
        refine q_gf (pc := 71) (m := 12522) (t := 2) (c := 52) rfl (ttKc kT (a := 183) (κ := 12) (len := 0) ⟨rfl, rfl⟩ (by decide) (by decide)).1 rfl rfl ?_
        rw [show K.1 183 52 = 209 from ttFx kT (by decide) (by decide) rfl rfl rfl]
        refine q_il (pc := 72) (i := 6) (x := i) rfl rfl ?_
        refine q_al (pc := 73) (i := 0) (x := 183) rfl rfl ?_
        refine q_gf (pc := 74) (m := 12512) (t := 2) (c := 51) rfl (ttKc kT (a := 183) (κ := 12) (len := 0) ⟨rfl, rfl⟩ (by decide) (by decide)).1 rfl rfl ?_
        rw [show K.1 183 51 = 208 from ttFx kT (by decide) (by decide) rfl rfl rfl]
        refine q_ic (pc := 75) (v := 60) rfl ?_
        refine q_il (pc := 76) (i := 1) (x := v1) rfl rfl ?_
        refine q_im (pc := 77) rfl (by omega) (by omega) ?_
        refine q_il (pc := 78) (i := 2) (x := v2) rfl rfl ?_
        refine q_ia (pc := 79) rfl (by omega) (by omega) ?_
        refine q_il (pc := 80) (i := 6) (x := i) rfl rfl ?_
        refine q_ia (pc := 81) rfl (by omega) (by omega) ?_
        refine q_aj (pc := 82) rfl (ttKc kT (a := 208) (κ := 23) (len := 240) ⟨rfl, rfl⟩ (by decide) (by decide)).1 (by omega) (by rw [(ttKc kT (a := 208) (κ := 23) (len := 240) ⟨rfl, rfl⟩ (by decide) (by decide)).2]; omega) ?_
        refine q_sj (pc := 83) rfl (by decide) (ttKc kT (a := 209) (κ := 23) (len := 60) ⟨rfl, rfl⟩ (by decide) (by decide)).1 (by omega) (by rw [(ttKc kT (a := 209) (κ := 23) (len := 60) ⟨rfl, rfl⟩ (by decide) (by decide)).2]; omega) ?_
        refine q_ii (pc := 84) (i := 6) (c := 1) (x := i) (L' := [(2, 183), (0, v1), (0, v2), (0, v3), (0, v4), (0, v5), (0, (i + 1))]) rfl rfl rfl (by omega) (by omega) rfl ?_
        refine q_go (pc := 85) rfl ?_
        omega
    | succ n ih =>
      intro K i kT kX kF wz w1 w2 w3 w4 w5 w6 w7 w8 w9 i0 i1 hn
      refine q_il (pc := 67) (i := 6) (x := i) rfl rfl ?_
      refine q_il (pc := 68) (i := 5) (x := v5) rfl rfl ?_
      refine q_i2 (pc := 69) rfl (fun h69 => ?_) (fun h69 => ?_)
      · replace h69 : v5 ≤ i := h69
        refine q_ic (pc := 86) (v := 0) rfl ?_
        refine q_is (pc := 87) (i := 6) (L' := [(2, 183), (0, v1), (0, v2), (0, v3), (0, v4), (0, v5), (0, 0)]) rfl rfl rfl ?_
        exact hl2 v5.toNat K 0 kT kX kF wz w1 w2 w3 w4 w5 w6 w7 w8 w9 (by omega) (by omega) (by omega)
      · replace h69 : i < v5 := h69
        refine q_al (pc := 70) (i := 0) (x := 183) rfl rfl ?_
        refine q_gf (pc := 71) (m := 12522) (t := 2) (c := 52) rfl (ttKc kT (a := 183) (κ := 12) (len := 0) ⟨rfl, rfl⟩ (by decide) (by decide)).1 rfl rfl ?_
        rw [show K.1 183 52 = 209 from ttFx kT (by decide) (by decide) rfl rfl rfl]
        refine q_il (pc := 72) (i := 6) (x := i) rfl rfl ?_
        refine q_al (pc := 73) (i := 0) (x := 183) rfl rfl ?_
        refine q_gf (pc := 74) (m := 12512) (t := 2) (c := 51) rfl (ttKc kT (a := 183) (κ := 12) (len := 0) ⟨rfl, rfl⟩ (by decide) (by decide)).1 rfl rfl ?_
        rw [show K.1 183 51 = 208 from ttFx kT (by decide) (by decide) rfl rfl rfl]
        refine q_ic (pc := 75) (v := 60) rfl ?_
        refine q_il (pc := 76) (i := 1) (x := v1) rfl rfl ?_
        refine q_im (pc := 77) rfl (by omega) (by omega) ?_
        refine q_il (pc := 78) (i := 2) (x := v2) rfl rfl ?_
        refine q_ia (pc := 79) rfl (by omega) (by omega) ?_
        refine q_il (pc := 80) (i := 6) (x := i) rfl rfl ?_
        refine q_ia (pc := 81) rfl (by omega) (by omega) ?_
        refine q_aj (pc := 82) rfl (ttKc kT (a := 208) (κ := 23) (len := 240) ⟨rfl, rfl⟩ (by decide) (by decide)).1 (by omega) (by rw [(ttKc kT (a := 208) (κ := 23) (len := 240) ⟨rfl, rfl⟩ (by decide) (by decide)).2]; omega) ?_
        refine q_sj (pc := 83) rfl (by decide) (ttKc kT (a := 209) (κ := 23) (len := 60) ⟨rfl, rfl⟩ (by decide) (by decide)).1 (by omega) (by rw [(ttKc kT (a := 209) (κ := 23) (len := 60) ⟨rfl, rfl⟩ (by decide) (by decide)).2]; omega) ?_
        refine q_ii (pc := 84) (i := 6) (c := 1) (x := i) (L' := [(2, 183), (0, v1), (0, v2), (0, v3), (0, v4), (0, v5), (0, (i + 1))]) rfl rfl rfl (by omega) (by omega) rfl ?_
        refine q_go (pc := 85) rfl ?_
        have k := ttRw kT (a := 208) (κ := 23) (len := 240) (sz := 240) (lo := -9223372036854775808) (hi := 9223372036854775807) (by decide) (by decide) rfl (60 * v1 + v2 + i) (by omega) (by omega)
        have c := ttPut hO kT kX kF (a := 209) (j := i) (x := K.1 208 (60 * v1 + v2 + i)) (by decide) (fun _ _ => ttTyr rfl k.1 k.2) ⟨(209, 0, 59), List.mem_cons_of_mem _ (List.mem_cons_self ..), ⟨⟨by decide, rfl⟩, by show (0 : Int) ≤ i; omega, by show i ≤ 59; omega⟩⟩ (ttMay_no (r := 209) rfl (by decide))
        exact ih _ (i + 1) c.1 c.2.1 c.2.2 wz w1 w2 w3 w4 w5 w6 w7 w8 w9 (by omega) (by omega) (by omega)
  refine xC_of (L := [(2, 183), (0, v1), (0, v2), (0, v3), (0, v4), (0, v5), (9, 0)]) (cd := cd_331) rfl rfl rfl ?_
  refine q_il (pc := 0) (i := 1) (x := v1) rfl rfl ?_
  refine q_ij (pc := 1) (q := 2623924) rfl rfl rfl trivial ?_
  refine lf_slot2 (by omega) (fun h1 => ?_) (fun h1 => ?_)
  · replace h1 : 0 ≤ v1 ∧ v1 ≤ 3 := h1
    refine q_if (pc := 2) rfl (fun h2 => ?_) (fun h2 => ?_)
    · replace h2 : (1 : Int) = 0 := h2
      omega
    · replace h2 : (1 : Int) ≠ 0 := h2
      refine q_il (pc := 3) (i := 3) (x := v3) rfl rfl ?_
      refine q_ij (pc := 4) (q := 2623924) rfl rfl rfl trivial ?_
      refine lf_slot2 (by omega) (fun h4 => ?_) (fun h4 => ?_)
      · replace h4 : 0 ≤ v3 ∧ v3 ≤ 3 := h4
        refine q_if (pc := 5) rfl (fun h5 => ?_) (fun h5 => ?_)
        · replace h5 : (1 : Int) ≠ 0 := h5
          refine q_al (pc := 8) (i := 0) (x := 183) rfl rfl ?_
          refine q_gf (pc := 9) (m := 12492) (t := 2) (c := 49) rfl (ttKc hT (a := 183) (κ := 12) (len := 0) ⟨rfl, rfl⟩ (by decide) (by decide)).1 rfl rfl ?_
          rw [show H.1 183 49 = 206 from ttFx hT (by decide) (by decide) rfl rfl rfl]
          refine q_il (pc := 10) (i := 1) (x := v1) rfl rfl ?_
          refine q_ai (pc := 11) rfl (ttKc hT (a := 206) (κ := 20) (len := 4) ⟨rfl, rfl⟩ (by decide) (by decide)).1 (by omega) (by rw [(ttKc hT (a := 206) (κ := 20) (len := 4) ⟨rfl, rfl⟩ (by decide) (by decide)).2]; omega) ?_
          refine q_ic (pc := 12) (v := (-1)) rfl ?_
          refine q_i2 (pc := 13) rfl (fun h13 => ?_) (fun h13 => ?_)
          · replace h13 : (H.1 206 v1) = (-1) := h13
            refine q_ic (pc := 20) (v := (-6)) rfl ?_
            refine q_ri (pc := 21) rfl ?_
            first | exact hq _ H (by unfold rsPaste; (repeat' split) <;> omega) hT hX (ttFr_rf _ _) | omega
          · replace h13 : (H.1 206 v1) ≠ (-1) := h13
            refine q_al (pc := 14) (i := 0) (x := 183) rfl rfl ?_
            refine q_gf (pc := 15) (m := 12492) (t := 2) (c := 49) rfl (ttKc hT (a := 183) (κ := 12) (len := 0) ⟨rfl, rfl⟩ (by decide) (by decide)).1 rfl rfl ?_
            rw [show H.1 183 49 = 206 from ttFx hT (by decide) (by decide) rfl rfl rfl]
            refine q_il (pc := 16) (i := 3) (x := v3) rfl rfl ?_
            refine q_ai (pc := 17) rfl (ttKc hT (a := 206) (κ := 20) (len := 4) ⟨rfl, rfl⟩ (by decide) (by decide)).1 (by omega) (by rw [(ttKc hT (a := 206) (κ := 20) (len := 4) ⟨rfl, rfl⟩ (by decide) (by decide)).2]; omega) ?_
            refine q_ic (pc := 18) (v := (-1)) rfl ?_
            refine q_i2 (pc := 19) rfl (fun h19 => ?_) (fun h19 => ?_)
            · replace h19 : (H.1 206 v3) ≠ (-1) := h19
              refine q_al (pc := 22) (i := 0) (x := 183) rfl rfl ?_
              refine q_gf (pc := 23) (m := 12502) (t := 2) (c := 50) rfl (ttKc hT (a := 183) (κ := 12) (len := 0) ⟨rfl, rfl⟩ (by decide) (by decide)).1 rfl rfl ?_
              rw [show H.1 183 50 = 207 from ttFx hT (by decide) (by decide) rfl rfl rfl]
              refine q_il (pc := 24) (i := 1) (x := v1) rfl rfl ?_
              refine q_ai (pc := 25) rfl (ttKc hT (a := 207) (κ := 20) (len := 4) ⟨rfl, rfl⟩ (by decide) (by decide)).1 (by omega) (by rw [(ttKc hT (a := 207) (κ := 20) (len := 4) ⟨rfl, rfl⟩ (by decide) (by decide)).2]; omega) ?_
              refine q_al (pc := 26) (i := 0) (x := 183) rfl rfl ?_
              refine q_gf (pc := 27) (m := 12502) (t := 2) (c := 50) rfl (ttKc hT (a := 183) (κ := 12) (len := 0) ⟨rfl, rfl⟩ (by decide) (by decide)).1 rfl rfl ?_
              rw [show H.1 183 50 = 207 from ttFx hT (by decide) (by decide) rfl rfl rfl]
              refine q_il (pc := 28) (i := 3) (x := v3) rfl rfl ?_
              refine q_ai (pc := 29) rfl (ttKc hT (a := 207) (κ := 20) (len := 4) ⟨rfl, rfl⟩ (by decide) (by decide)).1 (by omega) (by rw [(ttKc hT (a := 207) (κ := 20) (len := 4) ⟨rfl, rfl⟩ (by decide) (by decide)).2]; omega) ?_
              refine q_i2 (pc := 30) rfl (fun h30 => ?_) (fun h30 => ?_)
              · replace h30 : (H.1 207 v1) = (H.1 207 v3) := h30
                refine q_il (pc := 33) (i := 2) (x := v2) rfl rfl ?_
                refine q_if (pc := 34) rfl (fun h34 => ?_) (fun h34 => ?_)
                · replace h34 : v2 < 0 := h34
                  refine q_ic (pc := 63) (v := (-7)) rfl ?_
                  refine q_ri (pc := 64) rfl ?_
                  first | exact hq _ H (by unfold rsPaste; (repeat' split) <;> omega) hT hX (ttFr_rf _ _) | omega
                · replace h34 : 0 ≤ v2 := h34
                  refine q_il (pc := 35) (i := 4) (x := v4) rfl rfl ?_
                  refine q_if (pc := 36) rfl (fun h36 => ?_) (fun h36 => ?_)
                  · replace h36 : v4 < 0 := h36
                    refine q_ic (pc := 63) (v := (-7)) rfl ?_
                    refine q_ri (pc := 64) rfl ?_
                    first | exact hq _ H (by unfold rsPaste; (repeat' split) <;> omega) hT hX (ttFr_rf _ _) | omega
                  · replace h36 : 0 ≤ v4 := h36
                    refine q_il (pc := 37) (i := 5) (x := v5) rfl rfl ?_
                    refine q_if (pc := 38) rfl (fun h38 => ?_) (fun h38 => ?_)
                    · replace h38 : v5 < 0 := h38
                      refine q_ic (pc := 63) (v := (-7)) rfl ?_
                      refine q_ri (pc := 64) rfl ?_
                      first | exact hq _ H (by unfold rsPaste; (repeat' split) <;> omega) hT hX (ttFr_rf _ _) | omega
                    · replace h38 : 0 ≤ v5 := h38
                      refine q_il (pc := 39) (i := 2) (x := v2) rfl rfl ?_
                      refine q_2l (pc := 40) rfl ?_
                      refine q_il (pc := 41) (i := 5) (x := v5) rfl rfl ?_
                      refine q_2l (pc := 42) rfl ?_
                      refine q_lb (pc := 43) rfl (by omega) (by omega) ?_
                      refine q_al (pc := 44) (i := 0) (x := 183) rfl rfl ?_
                      refine q_gf (pc := 45) (m := 12492) (t := 2) (c := 49) rfl (ttKc hT (a := 183) (κ := 12) (len := 0) ⟨rfl, rfl⟩ (by decide) (by decide)).1 rfl rfl ?_
                      rw [show H.1 183 49 = 206 from ttFx hT (by decide) (by decide) rfl rfl rfl]
                      refine q_il (pc := 46) (i := 1) (x := v1) rfl rfl ?_
                      refine q_ai (pc := 47) rfl (ttKc hT (a := 206) (κ := 20) (len := 4) ⟨rfl, rfl⟩ (by decide) (by decide)).1 (by omega) (by rw [(ttKc hT (a := 206) (κ := 20) (len := 4) ⟨rfl, rfl⟩ (by decide) (by decide)).2]; omega) ?_
                      refine q_2l (pc := 48) rfl ?_
                      refine q_lcm (pc := 49) rfl rfl (fun h49 => ?_) (fun h49 => ?_)
                      · replace h49 : (H.1 206 v1) < (v2 + v5) := h49
                        refine q_ic (pc := 63) (v := (-7)) rfl ?_
                        refine q_ri (pc := 64) rfl ?_
                        first | exact hq _ H (by unfold rsPaste; (repeat' split) <;> omega) hT hX (ttFr_rf _ _) | omega
                      · replace h49 : (v2 + v5) ≤ (H.1 206 v1) := h49
                        refine q_il (pc := 51) (i := 4) (x := v4) rfl rfl ?_
                        refine q_2l (pc := 52) rfl ?_
                        refine q_il (pc := 53) (i := 5) (x := v5) rfl rfl ?_
                        refine q_2l (pc := 54) rfl ?_
                        refine q_lb (pc := 55) rfl (by omega) (by omega) ?_
                        refine q_al (pc := 56) (i := 0) (x := 183) rfl rfl ?_
                        refine q_gf (pc := 57) (m := 12492) (t := 2) (c := 49) rfl (ttKc hT (a := 183) (κ := 12) (len := 0) ⟨rfl, rfl⟩ (by decide) (by decide)).1 rfl rfl ?_
                        rw [show H.1 183 49 = 206 from ttFx hT (by decide) (by decide) rfl rfl rfl]
                        refine q_il (pc := 58) (i := 3) (x := v3) rfl rfl ?_
                        refine q_ai (pc := 59) rfl (ttKc hT (a := 206) (κ := 20) (len := 4) ⟨rfl, rfl⟩ (by decide) (by decide)).1 (by omega) (by rw [(ttKc hT (a := 206) (κ := 20) (len := 4) ⟨rfl, rfl⟩ (by decide) (by decide)).2]; omega) ?_
                        refine q_2l (pc := 60) rfl ?_
                        refine q_lcm (pc := 61) rfl rfl (fun h61 => ?_) (fun h61 => ?_)
                        · replace h61 : (v4 + v5) ≤ (H.1 206 v3) := h61
                          refine q_ic (pc := 65) (v := 0) rfl ?_
                          refine q_is (pc := 66) (i := 6) (L' := [(2, 183), (0, v1), (0, v2), (0, v3), (0, v4), (0, v5), (0, 0)]) rfl rfl rfl ?_
                          have q1 := hmany v1 (by omega) (by omega)
                          have q3 := hmany v3 (by omega) (by omega)
                          exact hl1 v5.toNat H 0 hT hX (ttFr_rf _ _) (by unfold rsPaste; (repeat' split) <;> omega) (by omega) (by omega) (by omega) (by omega) (by omega) (by omega) (by omega) (by omega) (by omega) (by omega) (by omega) (by omega)
                        · replace h61 : (H.1 206 v3) < (v4 + v5) := h61
                          refine q_ic (pc := 63) (v := (-7)) rfl ?_
                          refine q_ri (pc := 64) rfl ?_
                          first | exact hq _ H (by unfold rsPaste; (repeat' split) <;> omega) hT hX (ttFr_rf _ _) | omega
              · replace h30 : (H.1 207 v1) ≠ (H.1 207 v3) := h30
                refine q_ic (pc := 31) (v := (-8)) rfl ?_
                refine q_ri (pc := 32) rfl ?_
                first | exact hq _ H (by unfold rsPaste; (repeat' split) <;> omega) hT hX (ttFr_rf _ _) | omega
            · replace h19 : (H.1 206 v3) = (-1) := h19
              refine q_ic (pc := 20) (v := (-6)) rfl ?_
              refine q_ri (pc := 21) rfl ?_
              first | exact hq _ H (by unfold rsPaste; (repeat' split) <;> omega) hT hX (ttFr_rf _ _) | omega
        · replace h5 : (1 : Int) = 0 := h5
          omega
      · replace h4 : ¬ (0 ≤ v3 ∧ v3 ≤ 3) := h4
        refine q_if (pc := 5) rfl (fun h5 => ?_) (fun h5 => ?_)
        · replace h5 : (0 : Int) ≠ 0 := h5
          omega
        · replace h5 : (0 : Int) = 0 := h5
          refine q_ic (pc := 6) (v := (-2)) rfl ?_
          refine q_ri (pc := 7) rfl ?_
          first | exact hq _ H (by unfold rsPaste; (repeat' split) <;> omega) hT hX (ttFr_rf _ _) | omega
  · replace h1 : ¬ (0 ≤ v1 ∧ v1 ≤ 3) := h1
    refine q_if (pc := 2) rfl (fun h2 => ?_) (fun h2 => ?_)
    · replace h2 : (0 : Int) = 0 := h2
      refine q_ic (pc := 6) (v := (-2)) rfl ?_
      refine q_ri (pc := 7) rfl ?_
      first | exact hq _ H (by unfold rsPaste; (repeat' split) <;> omega) hT hX (ttFr_rf _ _) | omega
    · replace h2 : (0 : Int) ≠ 0 := h2
      omega