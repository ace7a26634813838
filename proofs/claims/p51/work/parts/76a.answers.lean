/-! more rows -/
section QM
variable {d : Nat} {cd : List Instr} {Q : Int → xH → Prop} {pc : Nat} {L r : List xV} {H : xH}
theorem q_tb {t lo hi : Int} {ts : Array Int} {x : Int} (h : cd.getD pc .nop = .tableswitch t lo hi ts) (k1 : xSw (fun s => xW d cd Q s) x lo (ts.toList.map fun u => (u.toNat, L, r, H))) (k2 : x < lo ∨ lo + (ts.toList.length : Int) ≤ x → xW d cd Q (t.toNat, L, r, H)) : xW d cd Q (pc, L, (0, x) :: r, H) := xW_step (by rw [h]; exact ⟨k1, fun z => k2 (by rw [List.length_map] at z; exact z)⟩)
theorem q_zb {x : Int} (h : cd.getD pc .nop = .i2b) (k : xW d cd Q (pc + 1, L, (0, w8 x) :: r, H)) : xW d cd Q (pc, L, (0, x) :: r, H) := xW_step (by rw [h]; exact k)
theorem q_zs {x : Int} (h : cd.getD pc .nop = .i2s) (k : xW d cd Q (pc + 1, L, (0, w16 x) :: r, H)) : xW d cd Q (pc, L, (0, x) :: r, H) := xW_step (by rw [h]; exact k)
theorem q_rl {x : Int} (h : cd.getD pc .nop = .lreturn) (k : Q x H) : xW d cd Q (pc, L, [(1, x)], H) := xW_step (by rw [h]; exact ⟨trivial, k⟩)
theorem q_zl {x y : Int} (h : cd.getD pc .nop = .lshl) (k : xW d cd Q (pc + 1, L, (1, xLshl x y) :: r, H)) : xW d cd Q (pc, L, (0, y) :: (1, x) :: r, H) := xW_step (by rw [h]; exact k)
theorem q_zr {x y : Int} (h : cd.getD pc .nop = .lshr) (k : xW d cd Q (pc + 1, L, (1, xLshr x y) :: r, H)) : xW d cd Q (pc, L, (0, y) :: (1, x) :: r, H) := xW_step (by rw [h]; exact k)
end QM
/-! exact answers -/
def rsRow (s w n : Int) : Int := if (s < 0 ∨ 3 < s) ∨ (w < 0 ∨ 3 < w) ∨ 60 < n then -2 else if n < 0 then -3 else 0
def rsWrite (m : Int → Int) (s i : Int) : Int := if s < 0 ∨ 3 < s then -2 else if m s = -1 then -6 else if 0 ≤ i ∧ i < m s then 0 else -7
theorem fr_cl {ef : ttEf} {H K : xH} (hF : ttFr ef H K) {a j : Int} (ha : a < (H.2.2.2.1 : Int)) (h : ef.2.all (fun q => decide (q.1 ≠ ttRo a) || (decide (j < q.2.1) || decide (q.2.2 < j))) = true) : K.1 a j = H.1 a j :=
  hF.2.2.2 a j ha (fun q hq hh => by
    have k := List.all_eq_true.mp h q hq
    obtain ⟨⟨-, c2⟩, c3, c4⟩ := hh
    rcases Bool.or_eq_true _ _ ▸ k with k | k
    · exact of_decide_eq_true k c2.symm
    rcases Bool.or_eq_true _ _ ▸ k with k | k
    · have := of_decide_eq_true k
      omega
    · have := of_decide_eq_true k
      omega)
theorem rw_96 {H : xH} (hT : ttTI H) {s : Int} (s0 : 0 ≤ s) (s1 : s ≤ 3) : (1 ≤ H.1 95 s ∧ H.1 95 s < (H.2.2.2.1 : Int)) ∧ ttRo (H.1 95 s) = 96 := by
  have k := ttMc hT (a := 95) (j := s) (by decide) (by decide) s0 (by show s < 4; omega)
  have e : ttTy (ttTb (ttRo 95)) s = (1, 96, 0) := by
    show ([(1, 96, 0)] : List ttI).getD (s % 1).toNat (9, 0, 0) = _
    rw [Int.emod_one]
    rfl
  rw [e] at k
  exact k
theorem lx_row1 {dd : Nat} {s w n : Int} (hd : 3 ≤ dd) {H : xH} (hT : ttTI H) (hX : ttXX YY H) {Q : Int → xH → Prop} (hq : ∀ r K, r = rsRow s w n → (∀ j : Int, K.1 100 j = if rsRow s w n = 0 ∧ j = s then n else H.1 100 j) → (∀ j : Int, K.1 101 j = if rsRow s w n = 0 ∧ j = s then w else H.1 101 j) → ttTI K → ttXX YY K → ttFr (true, [(96, 0, 59), (100, 0, 3), (101, 0, 3)]) H K → Q r K) : xCall dd 196 [(2, 1), (0, s), (0, w), (0, n)] H Q := by
  obtain ⟨e, rfl, he⟩ := ttRun0 (n := 2) hd
  have he : 2 ≤ e := he
  have hn : 210 ≤ (H.2.2.2.1 : Int) := by have := hT.1; omega
  refine xC_of (L := [(2, 1), (0, s), (0, w), (0, n)]) (cd := cd_196) rfl rfl rfl ?_
  refine q_il (pc := 0) (i := 1) (x := s) rfl rfl ?_
  refine q_ij (pc := 1) (q := 1567924) rfl rfl rfl trivial ?_
  refine lf_slot (by omega) (fun js1 => ?_) (fun js1 => ?_)
  · skip
    refine q_if (pc := 2) rfl (fun h2 => ?_) (fun h2 => ?_)
    · replace h2 : (1 : Int) = 0 := h2
      omega
    · replace h2 : (1 : Int) ≠ 0 := h2
      refine q_il (pc := 3) (i := 2) (x := w) rfl rfl ?_
      refine q_if (pc := 4) rfl (fun h4 => ?_) (fun h4 => ?_)
      · replace h4 : w < 0 := h4
        refine q_ic (pc := 11) (v := (-2)) rfl ?_
        refine q_ri (pc := 12) rfl ?_
        have rz : rsRow s w n ≠ 0 := by unfold rsRow; (repeat' split) <;> omega
        exact hq _ H (by unfold rsRow; (repeat' split) <;> omega) (fun j => (if_neg (fun y => rz y.1)).symm) (fun j => (if_neg (fun y => rz y.1)).symm) hT hX (ttFr_rf _ H)
      · replace h4 : 0 ≤ w := h4
        refine q_il (pc := 5) (i := 2) (x := w) rfl rfl ?_
        refine q_ic (pc := 6) (v := 3) rfl ?_
        refine q_i2 (pc := 7) rfl (fun h7 => ?_) (fun h7 => ?_)
        · replace h7 : 3 < w := h7
          refine q_ic (pc := 11) (v := (-2)) rfl ?_
          refine q_ri (pc := 12) rfl ?_
          have rz : rsRow s w n ≠ 0 := by unfold rsRow; (repeat' split) <;> omega
          exact hq _ H (by unfold rsRow; (repeat' split) <;> omega) (fun j => (if_neg (fun y => rz y.1)).symm) (fun j => (if_neg (fun y => rz y.1)).symm) hT hX (ttFr_rf _ H)
        · replace h7 : w ≤ 3 := h7
          refine q_il (pc := 8) (i := 3) (x := n) rfl rfl ?_
          refine q_ic (pc := 9) (v := 60) rfl ?_
          refine q_i2 (pc := 10) rfl (fun h10 => ?_) (fun h10 => ?_)
          · replace h10 : n ≤ 60 := h10
            refine q_il (pc := 13) (i := 3) (x := n) rfl rfl ?_
            refine q_if (pc := 14) rfl (fun h14 => ?_) (fun h14 => ?_)
            · replace h14 : 0 ≤ n := h14
              refine q_al (pc := 17) (i := 0) (x := 1) rfl rfl ?_
              refine q_gf (pc := 18) (m := 11152) (t := 2) (c := 15) rfl (ttKc hT (a := 1) (κ := 11) (len := 0) ⟨rfl, rfl⟩ (by decide) (by decide)).1 rfl rfl ?_
              rw [show H.1 1 15 = 95 from ttFx hT (by decide) (by decide) rfl rfl rfl]
              refine q_il (pc := 19) (i := 1) (x := s) rfl rfl ?_
              refine q_aa (pc := 20) rfl (by rw [(ttKc hT (a := 95) (κ := 24) (len := 4) ⟨rfl, rfl⟩ (by decide) (by decide)).1]; decide) (by omega) (by rw [(ttKc hT (a := 95) (κ := 24) (len := 4) ⟨rfl, rfl⟩ (by decide) (by decide)).2]; omega) ?_
              refine q_lc (pc := 21) (v := 0) rfl ?_
              have pa := rw_96 hT (s := s) (by omega) (by omega)
              refine q_ij (pc := 22) (q := 2671931) rfl rfl rfl ⟨by omega, trivial⟩ ?_
              refine hc_125 (ttXX_out yyStab (fun _ _ => trivial)) e (by show 1 ≤ e; omega) [(2, (H.1 95 s)), (1, 0)] H hT hX ⟨⟨rfl, (H.1 95 s), by show (H.1 95 s) = 1 * (H.1 95 s) + 0; omega, pa⟩, ⟨rfl, ttPi_of (by decide) (by decide)⟩, trivial⟩ (fun _ hq => absurd hq List.not_mem_nil) _ (fun r K kT kX kF _ _ => ?_)
              have k0 : ∀ j : Int, K.1 100 j = H.1 100 j := fun j => fr_no kF 100 (by omega) rfl rfl
              have k1 : ∀ j : Int, K.1 101 j = H.1 101 j := fun j => fr_no kF 101 (by omega) rfl rfl
              replace kF : ttFr (true, [(96, 0, 59), (100, 0, 3), (101, 0, 3)]) H K := ttFr_tr (ttFr_rf _ H) kF (fun _ => rfl) (by decide)
              refine q_al (pc := 23) (i := 0) (x := 1) rfl rfl ?_
              refine q_gf (pc := 24) (m := 11162) (t := 2) (c := 16) rfl (ttKc kT (a := 1) (κ := 11) (len := 0) ⟨rfl, rfl⟩ (by decide) (by decide)).1 rfl rfl ?_
              rw [show K.1 1 16 = 100 from ttFx kT (by decide) (by decide) rfl rfl rfl]
              refine q_il (pc := 25) (i := 1) (x := s) rfl rfl ?_
              refine q_il (pc := 26) (i := 3) (x := n) rfl rfl ?_
              refine q_si (pc := 27) rfl (by decide) (ttKc kT (a := 100) (κ := 20) (len := 4) ⟨rfl, rfl⟩ (by decide) (by decide)).1 (by omega) (by rw [(ttKc kT (a := 100) (κ := 20) (len := 4) ⟨rfl, rfl⟩ (by decide) (by decide)).2]; omega) ?_
              have yc := ttPut (ttXX_out yyStab (fun _ _ => trivial)) kT kX kF (a := 100) (j := s) (x := n) (by decide) (fun _ _ => ttTyr rfl (by omega) (by omega)) ⟨(100, 0, 3), by simp, ⟨⟨by decide, rfl⟩, by show (0 : Int) ≤ s; omega, by show s ≤ 3; omega⟩⟩ (ttMay_no (r := 100) rfl (by decide))
              obtain ⟨Y, jY⟩ : ∃ X : xH, X = (xUp K.1 100 s n, K.2) := ⟨_, rfl⟩
              rw [← jY] at yc ⊢
              refine q_al (pc := 28) (i := 0) (x := 1) rfl rfl ?_
              refine q_gf (pc := 29) (m := 11172) (t := 2) (c := 17) rfl (ttKc yc.1 (a := 1) (κ := 11) (len := 0) ⟨rfl, rfl⟩ (by decide) (by decide)).1 rfl rfl ?_
              rw [show Y.1 1 17 = 101 from ttFx yc.1 (by decide) (by decide) rfl rfl rfl]
              refine q_il (pc := 30) (i := 1) (x := s) rfl rfl ?_
              refine q_il (pc := 31) (i := 2) (x := w) rfl rfl ?_
              refine q_si (pc := 32) rfl (by decide) (ttKc yc.1 (a := 101) (κ := 20) (len := 4) ⟨rfl, rfl⟩ (by decide) (by decide)).1 (by omega) (by rw [(ttKc yc.1 (a := 101) (κ := 20) (len := 4) ⟨rfl, rfl⟩ (by decide) (by decide)).2]; omega) ?_
              have xc := ttPut (ttXX_out yyStab (fun _ _ => trivial)) yc.1 yc.2.1 yc.2.2 (a := 101) (j := s) (x := w) (by decide) (fun _ _ => ttTyr rfl (by omega) (by omega)) ⟨(101, 0, 3), by simp, ⟨⟨by decide, rfl⟩, by show (0 : Int) ≤ s; omega, by show s ≤ 3; omega⟩⟩ (ttMay_no (r := 101) rfl (by decide))
              obtain ⟨X2, jX⟩ : ∃ X : xH, X = (xUp Y.1 101 s w, Y.2) := ⟨_, rfl⟩
              rw [← jX] at xc ⊢
              have rz : rsRow s w n = 0 := (by unfold rsRow; (repeat' split) <;> omega)
              have xa : ∀ j : Int, X2.1 100 j = if rsRow s w n = 0 ∧ j = s then n else H.1 100 j := fun j => by
                rw [jX]
                refine (up_na (D := Y.1) (a := 101) (j := s) (x := w) (b := 100) (k := j) (by decide)).trans ?_
                rw [jY]
                by_cases z : j = s
                · rw [if_pos ⟨rz, z⟩, z]; exact up_eq (D := K.1) (a := 100) (j := s) (x := n)
                · rw [if_neg (fun y => z y.2), ← k0 j]; exact up_ne (fun y => z y.2)
              have xb : ∀ j : Int, X2.1 101 j = if rsRow s w n = 0 ∧ j = s then w else H.1 101 j := fun j => by
                by_cases z : j = s
                · rw [if_pos ⟨rz, z⟩, z, jX]; exact up_eq (D := Y.1) (a := 101) (j := s) (x := w)
                · rw [if_neg (fun y => z y.2), ← k1 j, jX]
                  refine (up_ne (fun y => z y.2)).trans ?_
                  rw [jY]; exact up_na (D := K.1) (a := 100) (j := s) (x := n) (b := 101) (k := j) (by decide)
              refine q_ic (pc := 33) (v := 0) rfl ?_
              refine q_ri (pc := 34) rfl ?_
              exact hq _ X2 (by unfold rsRow; (repeat' split) <;> omega) xa xb xc.1 xc.2.1 xc.2.2
            · replace h14 : n < 0 := h14
              refine q_ic (pc := 15) (v := (-3)) rfl ?_
              refine q_ri (pc := 16) rfl ?_
              have rz : rsRow s w n ≠ 0 := by unfold rsRow; (repeat' split) <;> omega
              exact hq _ H (by unfold rsRow; (repeat' split) <;> omega) (fun j => (if_neg (fun y => rz y.1)).symm) (fun j => (if_neg (fun y => rz y.1)).symm) hT hX (ttFr_rf _ H)
          · replace h10 : 60 < n := h10
            refine q_ic (pc := 11) (v := (-2)) rfl ?_
            refine q_ri (pc := 12) rfl ?_
            have rz : rsRow s w n ≠ 0 := by unfold rsRow; (repeat' split) <;> omega
            exact hq _ H (by unfold rsRow; (repeat' split) <;> omega) (fun j => (if_neg (fun y => rz y.1)).symm) (fun j => (if_neg (fun y => rz y.1)).symm) hT hX (ttFr_rf _ H)
  · skip
    refine q_if (pc := 2) rfl (fun h2 => ?_) (fun h2 => ?_)
    · replace h2 : (0 : Int) = 0 := h2
      refine q_ic (pc := 11) (v := (-2)) rfl ?_
      refine q_ri (pc := 12) rfl ?_
      have rz : rsRow s w n ≠ 0 := by unfold rsRow; (repeat' split) <;> omega
      exact hq _ H (by unfold rsRow; (repeat' split) <;> omega) (fun j => (if_neg (fun y => rz y.1)).symm) (fun j => (if_neg (fun y => rz y.1)).symm) hT hX (ttFr_rf _ H)
    · replace h2 : (0 : Int) ≠ 0 := h2
      omega
theorem lx_row2 {dd : Nat} {s w n : Int} (hd : 4 ≤ dd) {H : xH} (hT : ttTI H) (hX : ttXX YY H) {Q : Int → xH → Prop} (hq : ∀ r K, r = rsRow s w n → (∀ j : Int, K.1 206 j = if rsRow s w n = 0 ∧ j = s then n else H.1 206 j) → (∀ j : Int, K.1 207 j = if rsRow s w n = 0 ∧ j = s then w else H.1 207 j) → ttTI K → ttXX YY K → ttFr (true, [(206, 0, 3), (207, 0, 3), (208, 0, 239)]) H K → Q r K) : xCall dd 329 [(2, 183), (0, s), (0, w), (0, n)] H Q := by
  obtain ⟨e, rfl, he⟩ := ttRun0 (n := 3) hd
  have he : 3 ≤ e := he
  have hn : 210 ≤ (H.2.2.2.1 : Int) := by have := hT.1; omega
  have hl : ∀ f : Nat, ∀ (K : xH) (i : Int), rsRow s w n = 0 → 0 ≤ s → s ≤ 3 → 0 ≤ i → i ≤ 60 → 60 - i ≤ (f : Int) → (∀ j : Int, K.1 206 j = if rsRow s w n = 0 ∧ j = s then n else H.1 206 j) → (∀ j : Int, K.1 207 j = if rsRow s w n = 0 ∧ j = s then w else H.1 207 j) → ttTI K → ttXX YY K → ttFr (true, [(206, 0, 3), (207, 0, 3), (208, 0, 239)]) H K → xW e cd_329 Q (30, [(2, 183), (0, s), (0, w), (0, n), (0, i)], [], K) := by
    intro f
    induction f with
    | zero =>
      intro K i rz s0 s3 i0 i1 hn2 xa xb kT kX kF
      refine q_il (pc := 30) (i := 4) (x := i) rfl rfl ?_
      refine q_ic (pc := 31) (v := 60) rfl ?_
      refine q_i2 (pc := 32) rfl (fun h32 => ?_) (fun h32 => ?_)
      · replace h32 : 60 ≤ i := h32
        refine q_ic (pc := 44) (v := 0) rfl ?_
        refine q_ri (pc := 45) rfl ?_
        exact hq _ K rz.symm xa xb kT kX kF
      · replace h32 : i < 60 := h32
        omega
    | succ f ih =>
      intro K i rz s0 s3 i0 i1 hn2 xa xb kT kX kF
      refine q_il (pc := 30) (i := 4) (x := i) rfl rfl ?_
      refine q_ic (pc := 31) (v := 60) rfl ?_
      refine q_i2 (pc := 32) rfl (fun h32 => ?_) (fun h32 => ?_)
      · replace h32 : 60 ≤ i := h32
        refine q_ic (pc := 44) (v := 0) rfl ?_
        refine q_ri (pc := 45) rfl ?_
        exact hq _ K rz.symm xa xb kT kX kF
      · replace h32 : i < 60 := h32
        refine q_al (pc := 33) (i := 0) (x := 183) rfl rfl ?_
        refine q_gf (pc := 34) (m := 12512) (t := 2) (c := 51) rfl (ttKc kT (a := 183) (κ := 12) (len := 0) ⟨rfl, rfl⟩ (by decide) (by decide)).1 rfl rfl ?_
        rw [show K.1 183 51 = 208 from ttFx kT (by decide) (by decide) rfl rfl rfl]
        refine q_ic (pc := 35) (v := 60) rfl ?_
        refine q_il (pc := 36) (i := 1) (x := s) rfl rfl ?_
        refine q_im (pc := 37) rfl (by omega) (by omega) ?_
        refine q_il (pc := 38) (i := 4) (x := i) rfl rfl ?_
        refine q_ia (pc := 39) rfl (by omega) (by omega) ?_
        refine q_lc (pc := 40) (v := 0) rfl ?_
        refine q_sj (pc := 41) rfl (by decide) (ttKc kT (a := 208) (κ := 23) (len := 240) ⟨rfl, rfl⟩ (by decide) (by decide)).1 (by omega) (by rw [(ttKc kT (a := 208) (κ := 23) (len := 240) ⟨rfl, rfl⟩ (by decide) (by decide)).2]; omega) ?_
        have yc := ttPut (ttXX_out yyStab (fun _ _ => trivial)) kT kX kF (a := 208) (j := ((60 * s) + i)) (x := 0) (by decide) (fun _ _ => ttTyr rfl (by decide) (by decide)) ⟨(208, 0, 239), by simp, ⟨⟨by decide, rfl⟩, by show (0 : Int) ≤ ((60 * s) + i); omega, by show ((60 * s) + i) ≤ 239; omega⟩⟩ (ttMay_no (r := 208) rfl (by decide))
        refine q_ii (pc := 42) (i := 4) (c := 1) (x := i) (L' := [(2, 183), (0, s), (0, w), (0, n), (0, (i + 1))]) rfl rfl rfl (by omega) (by omega) rfl ?_
        refine q_go (pc := 43) rfl ?_
        exact ih _ (i + 1) rz s0 s3 (by omega) (by omega) (by omega) (fun j => (up_na (D := K.1) (a := 208) (j := ((60 * s) + i)) (x := 0) (b := 206) (k := j) (by decide)).trans (xa j)) (fun j => (up_na (D := K.1) (a := 208) (j := ((60 * s) + i)) (x := 0) (b := 207) (k := j) (by decide)).trans (xb j)) yc.1 yc.2.1 yc.2.2
  refine xC_of (L := [(2, 183), (0, s), (0, w), (0, n), (9, 0)]) (cd := cd_329) rfl rfl rfl ?_
  refine q_il (pc := 0) (i := 1) (x := s) rfl rfl ?_
  refine q_ij (pc := 1) (q := 2623924) rfl rfl rfl trivial ?_
  refine lf_slot2 (by omega) (fun js1 => ?_) (fun js1 => ?_)
  · skip
    refine q_if (pc := 2) rfl (fun h2 => ?_) (fun h2 => ?_)
    · replace h2 : (1 : Int) = 0 := h2
      omega
    · replace h2 : (1 : Int) ≠ 0 := h2
      refine q_il (pc := 3) (i := 2) (x := w) rfl rfl ?_
      refine q_2l (pc := 4) rfl ?_
      refine q_lc (pc := 5) (v := 0) rfl ?_
      refine q_lc (pc := 6) (v := 3) rfl ?_
      refine q_ij (pc := 7) (q := 1615932) rfl rfl rfl trivial ?_
      refine lf_in (by omega) (fun jn7 => ?_) (fun jn7 => ?_)
      · skip
        refine q_if (pc := 8) rfl (fun h8 => ?_) (fun h8 => ?_)
        · replace h8 : (1 : Int) = 0 := h8
          omega
        · replace h8 : (1 : Int) ≠ 0 := h8
          refine q_il (pc := 9) (i := 3) (x := n) rfl rfl ?_
          refine q_ic (pc := 10) (v := 60) rfl ?_
          refine q_i2 (pc := 11) rfl (fun h11 => ?_) (fun h11 => ?_)
          · replace h11 : n ≤ 60 := h11
            refine q_il (pc := 14) (i := 3) (x := n) rfl rfl ?_
            refine q_if (pc := 15) rfl (fun h15 => ?_) (fun h15 => ?_)
            · replace h15 : 0 ≤ n := h15
              refine q_al (pc := 18) (i := 0) (x := 183) rfl rfl ?_
              refine q_gf (pc := 19) (m := 12492) (t := 2) (c := 49) rfl (ttKc hT (a := 183) (κ := 12) (len := 0) ⟨rfl, rfl⟩ (by decide) (by decide)).1 rfl rfl ?_
              rw [show H.1 183 49 = 206 from ttFx hT (by decide) (by decide) rfl rfl rfl]
              refine q_il (pc := 20) (i := 1) (x := s) rfl rfl ?_
              refine q_il (pc := 21) (i := 3) (x := n) rfl rfl ?_
              refine q_si (pc := 22) rfl (by decide) (ttKc hT (a := 206) (κ := 20) (len := 4) ⟨rfl, rfl⟩ (by decide) (by decide)).1 (by omega) (by rw [(ttKc hT (a := 206) (κ := 20) (len := 4) ⟨rfl, rfl⟩ (by decide) (by decide)).2]; omega) ?_
              have kT := hT
              have kX := hX
              have kF := ttFr_rf (true, [(206, 0, 3), (207, 0, 3), (208, 0, 239)]) H
              have yc := ttPut (ttXX_out yyStab (fun _ _ => trivial)) kT kX kF (a := 206) (j := s) (x := n) (by decide) (fun _ _ => ttTyr rfl (by omega) (by omega)) ⟨(206, 0, 3), by simp, ⟨⟨by decide, rfl⟩, by show (0 : Int) ≤ s; omega, by show s ≤ 3; omega⟩⟩ (ttMay_no (r := 206) rfl (by decide))
              obtain ⟨Y, jY⟩ : ∃ X : xH, X = (xUp H.1 206 s n, H.2) := ⟨_, rfl⟩
              rw [← jY] at yc ⊢
              refine q_al (pc := 23) (i := 0) (x := 183) rfl rfl ?_
              refine q_gf (pc := 24) (m := 12502) (t := 2) (c := 50) rfl (ttKc yc.1 (a := 183) (κ := 12) (len := 0) ⟨rfl, rfl⟩ (by decide) (by decide)).1 rfl rfl ?_
              rw [show Y.1 183 50 = 207 from ttFx yc.1 (by decide) (by decide) rfl rfl rfl]
              refine q_il (pc := 25) (i := 1) (x := s) rfl rfl ?_
              refine q_il (pc := 26) (i := 2) (x := w) rfl rfl ?_
              refine q_si (pc := 27) rfl (by decide) (ttKc yc.1 (a := 207) (κ := 20) (len := 4) ⟨rfl, rfl⟩ (by decide) (by decide)).1 (by omega) (by rw [(ttKc yc.1 (a := 207) (κ := 20) (len := 4) ⟨rfl, rfl⟩ (by decide) (by decide)).2]; omega) ?_
              have xc := ttPut (ttXX_out yyStab (fun _ _ => trivial)) yc.1 yc.2.1 yc.2.2 (a := 207) (j := s) (x := w) (by decide) (fun _ _ => ttTyr rfl (by omega) (by omega)) ⟨(207, 0, 3), by simp, ⟨⟨by decide, rfl⟩, by show (0 : Int) ≤ s; omega, by show s ≤ 3; omega⟩⟩ (ttMay_no (r := 207) rfl (by decide))
              obtain ⟨X2, jX⟩ : ∃ X : xH, X = (xUp Y.1 207 s w, Y.2) := ⟨_, rfl⟩
              rw [← jX] at xc ⊢
              have rz : rsRow s w n = 0 := (by unfold rsRow; (repeat' split) <;> omega)
              have xa : ∀ j : Int, X2.1 206 j = if rsRow s w n = 0 ∧ j = s then n else H.1 206 j := fun j => by
                rw [jX]
                refine (up_na (D := Y.1) (a := 207) (j := s) (x := w) (b := 206) (k := j) (by decide)).trans ?_
                rw [jY]
                by_cases z : j = s
                · rw [if_pos ⟨rz, z⟩, z]; exact up_eq (D := H.1) (a := 206) (j := s) (x := n)
                · rw [if_neg (fun y => z y.2)]; exact up_ne (fun y => z y.2)
              have xb : ∀ j : Int, X2.1 207 j = if rsRow s w n = 0 ∧ j = s then w else H.1 207 j := fun j => by
                by_cases z : j = s
                · rw [if_pos ⟨rz, z⟩, z, jX]; exact up_eq (D := Y.1) (a := 207) (j := s) (x := w)
                · rw [if_neg (fun y => z y.2), jX]
                  refine (up_ne (fun y => z y.2)).trans ?_
                  rw [jY]; exact up_na (D := H.1) (a := 206) (j := s) (x := n) (b := 207) (k := j) (by decide)
              refine q_ic (pc := 28) (v := 0) rfl ?_
              refine q_is (pc := 29) (i := 4) (L' := [(2, 183), (0, s), (0, w), (0, n), (0, 0)]) rfl rfl rfl ?_
              exact hl 60 X2 0 rz (by omega) (by omega) (by decide) (by decide) (by decide) xa xb xc.1 xc.2.1 xc.2.2
            · replace h15 : n < 0 := h15
              refine q_ic (pc := 16) (v := (-3)) rfl ?_
              refine q_ri (pc := 17) rfl ?_
              have rz : rsRow s w n ≠ 0 := by unfold rsRow; (repeat' split) <;> omega
              exact hq _ H (by unfold rsRow; (repeat' split) <;> omega) (fun j => (if_neg (fun y => rz y.1)).symm) (fun j => (if_neg (fun y => rz y.1)).symm) hT hX (ttFr_rf _ H)
          · replace h11 : 60 < n := h11
            refine q_ic (pc := 12) (v := (-2)) rfl ?_
            refine q_ri (pc := 13) rfl ?_
            have rz : rsRow s w n ≠ 0 := by unfold rsRow; (repeat' split) <;> omega
            exact hq _ H (by unfold rsRow; (repeat' split) <;> omega) (fun j => (if_neg (fun y => rz y.1)).symm) (fun j => (if_neg (fun y => rz y.1)).symm) hT hX (ttFr_rf _ H)
      · skip
        refine q_if (pc := 8) rfl (fun h8 => ?_) (fun h8 => ?_)
        · replace h8 : (0 : Int) = 0 := h8
          refine q_ic (pc := 12) (v := (-2)) rfl ?_
          refine q_ri (pc := 13) rfl ?_
          have rz : rsRow s w n ≠ 0 := by unfold rsRow; (repeat' split) <;> omega
          exact hq _ H (by unfold rsRow; (repeat' split) <;> omega) (fun j => (if_neg (fun y => rz y.1)).symm) (fun j => (if_neg (fun y => rz y.1)).symm) hT hX (ttFr_rf _ H)
        · replace h8 : (0 : Int) ≠ 0 := h8
          omega
  · skip
    refine q_if (pc := 2) rfl (fun h2 => ?_) (fun h2 => ?_)
    · replace h2 : (0 : Int) = 0 := h2
      refine q_ic (pc := 12) (v := (-2)) rfl ?_
      refine q_ri (pc := 13) rfl ?_
      have rz : rsRow s w n ≠ 0 := by unfold rsRow; (repeat' split) <;> omega
      exact hq _ H (by unfold rsRow; (repeat' split) <;> omega) (fun j => (if_neg (fun y => rz y.1)).symm) (fun j => (if_neg (fun y => rz y.1)).symm) hT hX (ttFr_rf _ H)
    · replace h2 : (0 : Int) ≠ 0 := h2
      omega
theorem lx_cut1 {dd : Nat} {w v : Int} (hd : 1 ≤ dd) {H : xH} (w3 : 0 ≤ w ∧ w ≤ 3) (pv : -9223372036854775808 ≤ v ∧ v ≤ 9223372036854775807) {Q : Int → xH → Prop} (hq : ∀ u, -9223372036854775808 ≤ u ∧ u ≤ 9223372036854775807 → Q u H) : xCall dd 198 [(0, w), (1, v)] H Q := by
  obtain ⟨e, rfl, he⟩ := ttRun0 (n := 0) hd
  have c1 : ∀ x : Int, -2147483648 ≤ w32 x ∧ w32 x < 2147483648 := fun x => w32_in x
  refine xC_of (L := [(0, w), (1, v), (9, 0)]) (cd := cd_198) rfl rfl rfl ?_
  refine q_il (pc := 0) (i := 0) (x := w) rfl rfl ?_
  refine q_tb (pc := 1) (t := 16) (lo := 0) (hi := 2) (ts := #[2, 7, 12]) rfl ⟨fun _ => ?_, fun _ => ?_, fun _ => ?_, trivial⟩ (fun _ => ?_)
  · refine q_ll (pc := 2) (i := 1) (x := v) rfl rfl (q_l2 (pc := 3) rfl (q_zb (pc := 4) rfl (q_2l (pc := 5) rfl (q_rl (pc := 6) rfl (hq _ ?_)))))
    have z : -128 ≤ w8 (w32 v) ∧ w8 (w32 v) < 128 := w8_in _
    omega
  · refine q_ll (pc := 7) (i := 1) (x := v) rfl rfl (q_l2 (pc := 8) rfl (q_zs (pc := 9) rfl (q_2l (pc := 10) rfl (q_rl (pc := 11) rfl (hq _ ?_)))))
    have z : -2147483648 ≤ w16 (w32 v) ∧ w16 (w32 v) < 2147483648 := w16_in _
    omega
  · refine q_ll (pc := 12) (i := 1) (x := v) rfl rfl (q_l2 (pc := 13) rfl (q_2l (pc := 14) rfl (q_rl (pc := 15) rfl (hq _ ?_))))
    have z := c1 v
    omega
  · refine q_ll (pc := 16) (i := 1) (x := v) rfl rfl (q_rl (pc := 17) rfl (hq _ pv))
theorem lx_write1 {dd : Nat} {s i v : Int} (hd : 3 ≤ dd) {H : xH} (hT : ttTI H) (hX : ttXX YY H) (pv : -9223372036854775808 ≤ v ∧ v ≤ 9223372036854775807) {Q : Int → xH → Prop} (hq : ∀ r K, r = rsWrite (H.1 100) s i → ttTI K → ttXX YY K → ttFr (true, [(96, 0, 59)]) H K → Q r K) : xCall dd 197 [(2, 1), (0, s), (0, i), (1, v)] H Q := by
  obtain ⟨e, rfl, he⟩ := ttRun0 (n := 2) hd
  have he : 2 ≤ e := he
  have hn : 210 ≤ (H.2.2.2.1 : Int) := by have := hT.1; omega
  have hmany := ttRw hT (a := 100) (κ := 20) (len := 4) (sz := 4) (lo := -1) (hi := 60) (by decide) (by decide) rfl
  have hwid := ttRw hT (a := 101) (κ := 20) (len := 4) (sz := 4) (lo := 0) (hi := 3) (by decide) (by decide) rfl
  refine xC_of (L := [(2, 1), (0, s), (0, i), (1, v), (9, 0)]) (cd := cd_197) rfl rfl rfl ?_
  refine q_il (pc := 0) (i := 1) (x := s) rfl rfl ?_
  refine q_ij (pc := 1) (q := 1567924) rfl rfl rfl trivial ?_
  refine lf_slot (by omega) (fun js1 => ?_) (fun js1 => ?_)
  · skip
    refine q_if (pc := 2) rfl (fun h2 => ?_) (fun h2 => ?_)
    · replace h2 : (1 : Int) ≠ 0 := h2
      refine q_al (pc := 5) (i := 0) (x := 1) rfl rfl ?_
      refine q_gf (pc := 6) (m := 11162) (t := 2) (c := 16) rfl (ttKc hT (a := 1) (κ := 11) (len := 0) ⟨rfl, rfl⟩ (by decide) (by decide)).1 rfl rfl ?_
      rw [show H.1 1 16 = 100 from ttFx hT (by decide) (by decide) rfl rfl rfl]
      refine q_il (pc := 7) (i := 1) (x := s) rfl rfl ?_
      refine q_ai (pc := 8) rfl (ttKc hT (a := 100) (κ := 20) (len := 4) ⟨rfl, rfl⟩ (by decide) (by decide)).1 (by omega) (by rw [(ttKc hT (a := 100) (κ := 20) (len := 4) ⟨rfl, rfl⟩ (by decide) (by decide)).2]; omega) ?_
      have zm := hmany s (by omega) (by omega)
      have zw := hwid s (by omega) (by omega)
      refine q_ic (pc := 9) (v := (-1)) rfl ?_
      refine q_i2 (pc := 10) rfl (fun h10 => ?_) (fun h10 => ?_)
      · replace h10 : (H.1 100 s) ≠ (-1) := h10
        refine q_il (pc := 13) (i := 2) (x := i) rfl rfl ?_
        refine q_if (pc := 14) rfl (fun h14 => ?_) (fun h14 => ?_)
        · replace h14 : i < 0 := h14
          refine q_ic (pc := 21) (v := (-7)) rfl ?_
          refine q_ri (pc := 22) rfl ?_
          exact hq _ H (by unfold rsWrite; (repeat' split) <;> omega) hT hX (ttFr_rf _ H)
        · replace h14 : 0 ≤ i := h14
          refine q_il (pc := 15) (i := 2) (x := i) rfl rfl ?_
          refine q_al (pc := 16) (i := 0) (x := 1) rfl rfl ?_
          refine q_gf (pc := 17) (m := 11162) (t := 2) (c := 16) rfl (ttKc hT (a := 1) (κ := 11) (len := 0) ⟨rfl, rfl⟩ (by decide) (by decide)).1 rfl rfl ?_
          rw [show H.1 1 16 = 100 from ttFx hT (by decide) (by decide) rfl rfl rfl]
          refine q_il (pc := 18) (i := 1) (x := s) rfl rfl ?_
          refine q_ai (pc := 19) rfl (ttKc hT (a := 100) (κ := 20) (len := 4) ⟨rfl, rfl⟩ (by decide) (by decide)).1 (by omega) (by rw [(ttKc hT (a := 100) (κ := 20) (len := 4) ⟨rfl, rfl⟩ (by decide) (by decide)).2]; omega) ?_
          refine q_i2 (pc := 20) rfl (fun h20 => ?_) (fun h20 => ?_)
          · replace h20 : i < (H.1 100 s) := h20
            have pa := rw_96 hT (s := s) (by omega) (by omega)
            have k3 := hT.2 _ pa.1.1 pa.1.2
            rw [pa.2] at k3
            refine q_al (pc := 23) (i := 0) (x := 1) rfl rfl ?_
            refine q_gf (pc := 24) (m := 11152) (t := 2) (c := 15) rfl (ttKc hT (a := 1) (κ := 11) (len := 0) ⟨rfl, rfl⟩ (by decide) (by decide)).1 rfl rfl ?_
            rw [show H.1 1 15 = 95 from ttFx hT (by decide) (by decide) rfl rfl rfl]
            refine q_il (pc := 25) (i := 1) (x := s) rfl rfl ?_
            refine q_aa (pc := 26) rfl (by rw [(ttKc hT (a := 95) (κ := 24) (len := 4) ⟨rfl, rfl⟩ (by decide) (by decide)).1]; decide) (by omega) (by rw [(ttKc hT (a := 95) (κ := 24) (len := 4) ⟨rfl, rfl⟩ (by decide) (by decide)).2]; omega) ?_
            refine q_il (pc := 27) (i := 2) (x := i) rfl rfl ?_
            refine q_al (pc := 28) (i := 0) (x := 1) rfl rfl ?_
            refine q_gf (pc := 29) (m := 11172) (t := 2) (c := 17) rfl (ttKc hT (a := 1) (κ := 11) (len := 0) ⟨rfl, rfl⟩ (by decide) (by decide)).1 rfl rfl ?_
            rw [show H.1 1 17 = 101 from ttFx hT (by decide) (by decide) rfl rfl rfl]
            refine q_il (pc := 30) (i := 1) (x := s) rfl rfl ?_
            refine q_ai (pc := 31) rfl (ttKc hT (a := 101) (κ := 20) (len := 4) ⟨rfl, rfl⟩ (by decide) (by decide)).1 (by omega) (by rw [(ttKc hT (a := 101) (κ := 20) (len := 4) ⟨rfl, rfl⟩ (by decide) (by decide)).2]; omega) ?_
            refine q_ll (pc := 32) (i := 3) (x := v) rfl rfl ?_
            refine q_ij (pc := 33) (q := 1591929) rfl rfl rfl trivial ?_
            refine lx_cut1 (by omega) (hwid s (by omega) (by omega)) pv (fun u hu => ?_)
            refine q_sj (pc := 34) rfl (by omega) k3.1 (by omega) (by rw [k3.2.1]; show i < 60; omega) ?_
            have yc := ttPut (ttXX_out yyStab (fun _ _ => trivial)) hT hX (ttFr_rf (true, [(96, 0, 59)]) H) (a := H.1 95 s) (j := i) (x := u) pa.1.1 (fun _ _ => ttTyr (by rw [pa.2]; rfl) hu.1 hu.2) ⟨(96, 0, 59), by simp, ⟨⟨pa.1.1, pa.2⟩, by show (0 : Int) ≤ i; omega, by show i ≤ 59; omega⟩⟩ (ttMay_no (r := 96) pa.2 (by decide))
            refine q_ic (pc := 35) (v := 0) rfl ?_
            refine q_ri (pc := 36) rfl ?_
            exact hq _ _ (by unfold rsWrite; (repeat' split) <;> omega) yc.1 yc.2.1 yc.2.2
          · replace h20 : (H.1 100 s) ≤ i := h20
            refine q_ic (pc := 21) (v := (-7)) rfl ?_
            refine q_ri (pc := 22) rfl ?_
            exact hq _ H (by unfold rsWrite; (repeat' split) <;> omega) hT hX (ttFr_rf _ H)
      · replace h10 : (H.1 100 s) = (-1) := h10
        refine q_ic (pc := 11) (v := (-6)) rfl ?_
        refine q_ri (pc := 12) rfl ?_
        exact hq _ H (by unfold rsWrite; (repeat' split) <;> omega) hT hX (ttFr_rf _ H)
    · replace h2 : (1 : Int) = 0 := h2
      omega
  · skip
    refine q_if (pc := 2) rfl (fun h2 => ?_) (fun h2 => ?_)
    · replace h2 : (0 : Int) ≠ 0 := h2
      omega
    · replace h2 : (0 : Int) = 0 := h2
      refine q_ic (pc := 3) (v := (-2)) rfl ?_
      refine q_ri (pc := 4) rfl ?_
      exact hq _ H (by unfold rsWrite; (repeat' split) <;> omega) hT hX (ttFr_rf _ H)
theorem lx_cut2 {dd : Nat} {w v : Int} (hd : 1 ≤ dd) {H : xH} (w3 : 0 ≤ w ∧ w ≤ 3) {Q : Int → xH → Prop} (hq : ∀ u, -9223372036854775808 ≤ u ∧ u ≤ 9223372036854775807 → Q u H) : xCall dd 328 [(1, v), (0, w)] H Q := by
  obtain ⟨e, rfl, he⟩ := ttRun0 (n := 0) hd
  obtain ⟨y, jy⟩ : ∃ y, y = xShl 8 w := ⟨_, rfl⟩
  have zy : 8 ≤ y ∧ y ≤ 64 := by
    rw [jy]
    obtain rfl | rfl | rfl | rfl : w = 0 ∨ w = 1 ∨ w = 2 ∨ w = 3 := by omega
    all_goals decide
  refine xC_of (L := [(1, v), (9, 0), (0, w), (9, 0)]) (cd := cd_328) rfl rfl rfl ?_
  refine q_ic (pc := 0) (v := 64) rfl (q_ic (pc := 1) (v := 8) rfl (q_il (pc := 2) (i := 2) (x := w) rfl rfl (q_sl (pc := 3) rfl ?_)))
  rw [← jy]
  refine q_ib (pc := 4) rfl (by omega) (by omega) (q_is (pc := 5) (i := 3) (L' := [(1, v), (9, 0), (0, w), (0, (64 - y))]) rfl rfl rfl (q_ll (pc := 6) (i := 0) (x := v) rfl rfl (q_il (pc := 7) (i := 3) (x := (64 - y)) rfl rfl (q_zl (pc := 8) rfl (q_il (pc := 9) (i := 3) (x := (64 - y)) rfl rfl (q_zr (pc := 10) rfl (q_rl (pc := 11) rfl (hq _ ?_))))))))
  have z := xj_in (Int64.ofInt (xLshl v (64 - y)) >>> ((Int32.ofInt (64 - y)).toInt64 &&& 63))
  exact ⟨z.1, Int.le_of_lt_add_one z.2⟩
theorem lx_write2 {dd : Nat} {s i v : Int} (hd : 3 ≤ dd) {H : xH} (hT : ttTI H) (hX : ttXX YY H) (i0 : -2147483648 ≤ i ∧ i ≤ 2147483647) {Q : Int → xH → Prop} (hq : ∀ r K, r = rsWrite (H.1 206) s i → ttTI K → ttXX YY K → ttFr (true, [(208, 0, 239)]) H K → Q r K) : xCall dd 330 [(2, 183), (0, s), (0, i), (1, v)] H Q := by
  obtain ⟨e, rfl, he⟩ := ttRun0 (n := 2) hd
  have he : 2 ≤ e := he
  have hn : 210 ≤ (H.2.2.2.1 : Int) := by have := hT.1; omega
  have hmany := ttRw hT (a := 206) (κ := 20) (len := 4) (sz := 4) (lo := -1) (hi := 60) (by decide) (by decide) rfl
  have hwid := ttRw hT (a := 207) (κ := 20) (len := 4) (sz := 4) (lo := 0) (hi := 3) (by decide) (by decide) rfl
  refine xC_of (L := [(2, 183), (0, s), (0, i), (1, v), (9, 0)]) (cd := cd_330) rfl rfl rfl ?_
  refine q_il (pc := 0) (i := 1) (x := s) rfl rfl ?_
  refine q_ij (pc := 1) (q := 2623924) rfl rfl rfl trivial ?_
  refine lf_slot2 (by omega) (fun js1 => ?_) (fun js1 => ?_)
  · skip
    refine q_if (pc := 2) rfl (fun h2 => ?_) (fun h2 => ?_)
    · replace h2 : (1 : Int) ≠ 0 := h2
      refine q_al (pc := 5) (i := 0) (x := 183) rfl rfl ?_
      refine q_gf (pc := 6) (m := 12492) (t := 2) (c := 49) rfl (ttKc hT (a := 183) (κ := 12) (len := 0) ⟨rfl, rfl⟩ (by decide) (by decide)).1 rfl rfl ?_
      rw [show H.1 183 49 = 206 from ttFx hT (by decide) (by decide) rfl rfl rfl]
      refine q_il (pc := 7) (i := 1) (x := s) rfl rfl ?_
      refine q_ai (pc := 8) rfl (ttKc hT (a := 206) (κ := 20) (len := 4) ⟨rfl, rfl⟩ (by decide) (by decide)).1 (by omega) (by rw [(ttKc hT (a := 206) (κ := 20) (len := 4) ⟨rfl, rfl⟩ (by decide) (by decide)).2]; omega) ?_
      have zm := hmany s (by omega) (by omega)
      have zw := hwid s (by omega) (by omega)
      refine q_ic (pc := 9) (v := (-1)) rfl ?_
      refine q_i2 (pc := 10) rfl (fun h10 => ?_) (fun h10 => ?_)
      · replace h10 : (H.1 206 s) ≠ (-1) := h10
        refine q_il (pc := 13) (i := 2) (x := i) rfl rfl ?_
        refine q_2l (pc := 14) rfl ?_
        refine q_lc (pc := 15) (v := 0) rfl ?_
        refine q_al (pc := 16) (i := 0) (x := 183) rfl rfl ?_
        refine q_gf (pc := 17) (m := 12492) (t := 2) (c := 49) rfl (ttKc hT (a := 183) (κ := 12) (len := 0) ⟨rfl, rfl⟩ (by decide) (by decide)).1 rfl rfl ?_
        rw [show H.1 183 49 = 206 from ttFx hT (by decide) (by decide) rfl rfl rfl]
        refine q_il (pc := 18) (i := 1) (x := s) rfl rfl ?_
        refine q_ai (pc := 19) rfl (ttKc hT (a := 206) (κ := 20) (len := 4) ⟨rfl, rfl⟩ (by decide) (by decide)).1 (by omega) (by rw [(ttKc hT (a := 206) (κ := 20) (len := 4) ⟨rfl, rfl⟩ (by decide) (by decide)).2]; omega) ?_
        refine q_ic (pc := 20) (v := 1) rfl ?_
        refine q_ib (pc := 21) rfl (by omega) (by omega) ?_
        refine q_2l (pc := 22) rfl ?_
        refine q_ij (pc := 23) (q := 1615932) rfl rfl rfl trivial ?_
        refine lf_in (by omega) (fun jn23 => ?_) (fun jn23 => ?_)
        · skip
          refine q_if (pc := 24) rfl (fun h24 => ?_) (fun h24 => ?_)
          · replace h24 : (1 : Int) ≠ 0 := h24
            refine q_al (pc := 27) (i := 0) (x := 183) rfl rfl ?_
            refine q_gf (pc := 28) (m := 12512) (t := 2) (c := 51) rfl (ttKc hT (a := 183) (κ := 12) (len := 0) ⟨rfl, rfl⟩ (by decide) (by decide)).1 rfl rfl ?_
            rw [show H.1 183 51 = 208 from ttFx hT (by decide) (by decide) rfl rfl rfl]
            refine q_ic (pc := 29) (v := 60) rfl ?_
            refine q_il (pc := 30) (i := 1) (x := s) rfl rfl ?_
            refine q_im (pc := 31) rfl (by omega) (by omega) ?_
            refine q_il (pc := 32) (i := 2) (x := i) rfl rfl ?_
            refine q_ia (pc := 33) rfl (by omega) (by omega) ?_
            refine q_ll (pc := 34) (i := 3) (x := v) rfl rfl ?_
            refine q_al (pc := 35) (i := 0) (x := 183) rfl rfl ?_
            refine q_gf (pc := 36) (m := 12502) (t := 2) (c := 50) rfl (ttKc hT (a := 183) (κ := 12) (len := 0) ⟨rfl, rfl⟩ (by decide) (by decide)).1 rfl rfl ?_
            rw [show H.1 183 50 = 207 from ttFx hT (by decide) (by decide) rfl rfl rfl]
            refine q_il (pc := 37) (i := 1) (x := s) rfl rfl ?_
            refine q_ai (pc := 38) rfl (ttKc hT (a := 207) (κ := 20) (len := 4) ⟨rfl, rfl⟩ (by decide) (by decide)).1 (by omega) (by rw [(ttKc hT (a := 207) (κ := 20) (len := 4) ⟨rfl, rfl⟩ (by decide) (by decide)).2]; omega) ?_
            refine q_ij (pc := 39) (q := 2631929) rfl rfl rfl trivial ?_
            refine lx_cut2 (by omega) zw (fun u hu => ?_)
            refine q_sj (pc := 40) rfl (by decide) (ttKc hT (a := 208) (κ := 23) (len := 240) ⟨rfl, rfl⟩ (by decide) (by decide)).1 (by omega) (by rw [(ttKc hT (a := 208) (κ := 23) (len := 240) ⟨rfl, rfl⟩ (by decide) (by decide)).2]; omega) ?_
            have yc := ttPut (ttXX_out yyStab (fun _ _ => trivial)) hT hX (ttFr_rf (true, [(208, 0, 239)]) H) (a := 208) (j := ((60 * s) + i)) (x := u) (by decide) (fun _ _ => ttTyr rfl hu.1 hu.2) ⟨(208, 0, 239), by simp, ⟨⟨by decide, rfl⟩, by show (0 : Int) ≤ ((60 * s) + i); omega, by show ((60 * s) + i) ≤ 239; omega⟩⟩ (ttMay_no (r := 208) rfl (by decide))
            refine q_ic (pc := 41) (v := 0) rfl ?_
            refine q_ri (pc := 42) rfl ?_
            exact hq _ _ (by unfold rsWrite; (repeat' split) <;> omega) yc.1 yc.2.1 yc.2.2
          · replace h24 : (1 : Int) = 0 := h24
            omega
        · skip
          refine q_if (pc := 24) rfl (fun h24 => ?_) (fun h24 => ?_)
          · replace h24 : (0 : Int) ≠ 0 := h24
            omega
          · replace h24 : (0 : Int) = 0 := h24
            refine q_ic (pc := 25) (v := (-7)) rfl ?_
            refine q_ri (pc := 26) rfl ?_
            exact hq _ H (by unfold rsWrite; (repeat' split) <;> omega) hT hX (ttFr_rf _ H)
      · replace h10 : (H.1 206 s) = (-1) := h10
        refine q_ic (pc := 11) (v := (-6)) rfl ?_
        refine q_ri (pc := 12) rfl ?_
        exact hq _ H (by unfold rsWrite; (repeat' split) <;> omega) hT hX (ttFr_rf _ H)
    · replace h2 : (1 : Int) = 0 := h2
      omega
  · skip
    refine q_if (pc := 2) rfl (fun h2 => ?_) (fun h2 => ?_)
    · replace h2 : (0 : Int) ≠ 0 := h2
      omega
    · replace h2 : (0 : Int) = 0 := h2
      refine q_ic (pc := 3) (v := (-2)) rfl ?_
      refine q_ri (pc := 4) rfl ?_
      exact hq _ H (by unfold rsWrite; (repeat' split) <;> omega) hT hX (ttFr_rf _ H)