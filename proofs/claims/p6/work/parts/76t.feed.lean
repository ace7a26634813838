/-! what feed writes -/
theorem tq_5 {H : xH} (hT : ttTI H) : (0 ≤ H.1 1 1 ∧ H.1 1 1 ≤ 1600) ∧ (0 ≤ H.1 183 5 ∧ H.1 183 5 ≤ 1600) := ⟨ttMc hT (a := 1) (j := 1) (by decide) (by decide) (by decide) (by decide), ttMc hT (a := 183) (j := 5) (by decide) (by decide) (by decide) (by decide)⟩
def fdV (a1 a2 a3 a4 a5 q : Int) : Int := if q = 0 then a1 else if q = 1 then a2 else if q = 2 then a3 else if q = 3 then a4 else a5
def fdB (a1 a2 a3 a4 a5 i : Int) : Int := w8 (w8 (xShr (fdV a1 a2 a3 a4 a5 (i / 4)) (24 - 8 * (i % 4))))
theorem fd_q {a1 a2 a3 a4 a5 i q k : Int} (h : i = 4 * q + k) (k0 : 0 ≤ k) (k3 : k ≤ 3) : fdB a1 a2 a3 a4 a5 i = w8 (w8 (xShr (fdV a1 a2 a3 a4 a5 q) (24 - 8 * k))) := by
  unfold fdB
  rw [show i / 4 = q from by omega, show i % 4 = k from by omega]
theorem fd_d : ∀ i : Nat, i < 20 → w32 (Int.tdiv (i : Int) 4) = (i : Int) / 4 ∧ Int.tmod (i : Int) 4 = (i : Int) % 4 := by decide
theorem fd_i {i : Int} (i0 : 0 ≤ i) (i1 : i ≤ 19) : w32 (Int.tdiv i 4) = i / 4 ∧ Int.tmod i 4 = i % 4 := by
  obtain ⟨n, rfl⟩ := Int.eq_ofNat_of_zero_le i0
  exact fd_d n (by omega)
theorem lx_putC {dd : Nat} {n : Int} (hd : 1 ≤ dd) {H : xH} (hT : ttTI H) (hX : ttXX YY H) (zs : H.1 1 1 ≤ 1596) {Q : Int → xH → Prop} (hq : ∀ r K, r = 0 → K.1 1 1 = H.1 1 1 + 4 → (∀ j : Int, j < H.1 1 1 → K.1 2 j = H.1 2 j) → (∀ k : Int, 0 ≤ k → k ≤ 3 → K.1 2 (H.1 1 1 + k) = w8 (w8 (xShr n (24 - 8 * k)))) → ttTI K → ttXX YY K → ttFr (true, [(1, 1, 1), (2, 0, 1599)]) H K → Q r K) : xCall dd 134 [(2, 1), (0, n)] H Q := by
  obtain ⟨e, rfl, he⟩ := ttRun0 (n := 0) hd
  have he : 0 ≤ e := he
  have hn : 210 ≤ (H.2.2.2.1 : Int) := by have := hT.1; omega
  have z0 := (tq_5 hT).1
  have hl : ∀ f : Nat, ∀ (K : xH) (t : Int), t = 8 * (f : Int) - 8 → t ≤ 24 → K.1 1 1 + (f : Int) = H.1 1 1 + 4 → (∀ j : Int, j < H.1 1 1 → K.1 2 j = H.1 2 j) → (∀ k : Int, 0 ≤ k → H.1 1 1 + k < K.1 1 1 → K.1 2 (H.1 1 1 + k) = w8 (w8 (xShr n (24 - 8 * k)))) → ttTI K → ttXX YY K → ttFr (true, [(1, 1, 1), (2, 0, 1599)]) H K → xW e cd_134 Q (2, [(2, 1), (0, n), (0, t)], [], K) := by
    intro f
    induction f with
    | zero =>
      intro K t jt t2 js ka kb kT kX kF
      refine q_il (pc := 2) (i := 2) (x := t) rfl rfl ?_
      refine q_if (pc := 3) rfl (fun h3 => ?_) (fun h3 => ?_)
      · replace h3 : t < 0 := h3
        refine q_rv (pc := 25) rfl ?_
        exact hq _ K rfl (by omega) ka (fun k k0 k1 => kb k k0 (by omega)) kT kX kF
      · replace h3 : 0 ≤ t := h3
        omega
    | succ f ih =>
      intro K t jt t2 js ka kb kT kX kF
      refine q_il (pc := 2) (i := 2) (x := t) rfl rfl ?_
      refine q_if (pc := 3) rfl (fun h3 => ?_) (fun h3 => ?_)
      · replace h3 : t < 0 := h3
        refine q_rv (pc := 25) rfl ?_
        exact hq _ K rfl (by omega) ka (fun k k0 k1 => kb k k0 (by omega)) kT kX kF
      · replace h3 : 0 ≤ t := h3
        refine q_al (pc := 4) (i := 0) (x := 1) rfl rfl ?_
        refine q_gf (pc := 5) (m := 11010) (t := 0) (c := 1) rfl (ttKc kT (a := 1) (κ := 11) (len := 0) ⟨rfl, rfl⟩ (by decide) (by decide)).1 rfl rfl ?_
        refine q_ic (pc := 6) (v := 1600) rfl ?_
        refine q_i2 (pc := 7) rfl (fun h7 => ?_) (fun h7 => ?_)
        · replace h7 : 1600 ≤ (K.1 1 1) := h7
          refine q_rv (pc := 25) rfl ?_
          exact hq _ K rfl (by omega) ka (fun k k0 k1 => kb k k0 (by omega)) kT kX kF
        · replace h7 : (K.1 1 1) < 1600 := h7
          refine q_al (pc := 8) (i := 0) (x := 1) rfl rfl ?_
          refine q_gf (pc := 9) (m := 11002) (t := 2) (c := 0) rfl (ttKc kT (a := 1) (κ := 11) (len := 0) ⟨rfl, rfl⟩ (by decide) (by decide)).1 rfl rfl ?_
          rw [show K.1 1 0 = 2 from ttFx kT (by decide) (by decide) rfl rfl rfl]
          refine q_al (pc := 10) (i := 0) (x := 1) rfl rfl ?_
          refine q_gf (pc := 11) (m := 11010) (t := 0) (c := 1) rfl (ttKc kT (a := 1) (κ := 11) (len := 0) ⟨rfl, rfl⟩ (by decide) (by decide)).1 rfl rfl ?_
          refine q_il (pc := 12) (i := 1) (x := n) rfl rfl ?_
          refine q_il (pc := 13) (i := 2) (x := t) rfl rfl ?_
          refine q_sr (pc := 14) rfl ?_
          refine q_zb (pc := 15) rfl ?_
          refine q_sb (pc := 16) rfl (by decide) (ttKc kT (a := 2) (κ := 21) (len := 1600) ⟨rfl, rfl⟩ (by decide) (by decide)).1 (by omega) (by rw [(ttKc kT (a := 2) (κ := 21) (len := 1600) ⟨rfl, rfl⟩ (by decide) (by decide)).2]; omega) ?_
          obtain ⟨b, jb⟩ : ∃ b, b = (w8 (w8 (xShr n t))) := ⟨_, rfl⟩
          have zb : -128 ≤ b ∧ b < 128 := by rw [jb]; exact w8_in _
          rw [← jb]
          have yc := ttPut (ttXX_out yyStab (fun _ _ => trivial)) kT kX kF (a := 2) (j := K.1 1 1) (x := b) (by decide) (fun _ _ => ttTyr rfl zb.1 (by omega)) ⟨(2, 0, 1599), by simp, ⟨⟨by decide, rfl⟩, by show (0 : Int) ≤ K.1 1 1; omega, by show K.1 1 1 ≤ 1599; omega⟩⟩ (ttMay_no (r := 2) rfl (by decide))
          obtain ⟨Y, jY⟩ : ∃ X : xH, X = (xUp K.1 2 (K.1 1 1) b, K.2) := ⟨_, rfl⟩
          rw [← jY] at yc ⊢
          have y1 : Y.1 1 1 = K.1 1 1 := by rw [jY]; exact up_na (D := K.1) (a := 2) (j := K.1 1 1) (x := b) (b := 1) (k := 1) (by decide)
          have y2 : ∀ j : Int, j ≠ K.1 1 1 → Y.1 2 j = K.1 2 j := fun j hj => by rw [jY]; exact up_j hj
          have y3 : Y.1 2 (K.1 1 1) = b := by rw [jY]; exact up_eq (D := K.1) (a := 2) (j := K.1 1 1) (x := b)
          refine q_al (pc := 17) (i := 0) (x := 1) rfl rfl ?_
          refine q_d2 (pc := 18) rfl ?_
          refine q_gf (pc := 19) (m := 11010) (t := 0) (c := 1) rfl (ttKc yc.1 (a := 1) (κ := 11) (len := 0) ⟨rfl, rfl⟩ (by decide) (by decide)).1 rfl rfl ?_
          rw [y1]
          refine q_ic (pc := 20) (v := 1) rfl ?_
          refine q_ia (pc := 21) rfl (by omega) (by omega) ?_
          refine q_pf (pc := 22) (m := 11010) (c := 1) rfl (show xPt 0 0 _ _ from (ttKc yc.1 (a := 1) (κ := 11) (len := 0) ⟨rfl, rfl⟩ (by decide) (by decide)).1) rfl ?_
          have xc := ttPut (ttXX_out yyStab (fun _ _ => trivial)) yc.1 yc.2.1 yc.2.2 (a := 1) (j := 1) (x := ((K.1 1 1) + 1)) (by decide) (fun _ _ => show (0 : Int) ≤ ((K.1 1 1) + 1) ∧ ((K.1 1 1) + 1) ≤ 1600 from by omega) ⟨(1, 1, 1), by simp, ⟨⟨by decide, rfl⟩, by decide, by decide⟩⟩ (ttMay_no (r := 1) rfl (by decide))
          obtain ⟨X1, jX⟩ : ∃ X : xH, X = (xUp Y.1 1 1 ((K.1 1 1) + 1), Y.2) := ⟨_, rfl⟩
          rw [← jX] at xc ⊢
          have x1 : X1.1 1 1 = ((K.1 1 1) + 1) := by rw [jX]; exact up_eq (D := Y.1) (a := 1) (j := 1) (x := ((K.1 1 1) + 1))
          have x2 : ∀ j : Int, X1.1 2 j = Y.1 2 j := fun j => by rw [jX]; exact up_na (D := Y.1) (a := 1) (j := 1) (x := ((K.1 1 1) + 1)) (b := 2) (k := j) (by decide)
          refine q_ii (pc := 23) (i := 2) (c := (-8)) (x := t) (L' := [(2, 1), (0, n), (0, (t + (-8)))]) rfl rfl rfl (by omega) (by omega) rfl ?_
          refine q_go (pc := 24) rfl ?_
          have kf : K.1 1 1 = H.1 1 1 + 3 - (f : Int) := by omega
          refine ih X1 (t + (-8)) (by omega) (by omega) (by rw [x1]; omega) (fun j hj => ?_) (fun k k0 k1 => ?_) xc.1 xc.2.1 xc.2.2
          · rw [x2, y2 j (by omega)]; exact ka j hj
          · rw [x1] at k1
            rw [x2]
            by_cases z : H.1 1 1 + k = K.1 1 1
            · rw [z, y3, jb, show t = 24 - 8 * k from by omega]
            · rw [y2 _ z]; exact kb k k0 (by omega)
  refine xC_of (L := [(2, 1), (0, n), (9, 0)]) (cd := cd_134) rfl rfl rfl ?_
  refine q_ic (pc := 0) (v := 24) rfl ?_
  refine q_is (pc := 1) (i := 2) (L' := [(2, 1), (0, n), (0, 24)]) rfl rfl rfl ?_
  exact hl 4 H 24 (by decide) (by decide) (by omega) (fun _ _ => rfl) (fun k k0 k1 => absurd k1 (by omega)) hT hX (ttFr_rf _ H)
theorem lx_feedC1 {dd : Nat} {a1 a2 a3 a4 a5 : Int} (hd : 2 ≤ dd) {H : xH} (hT : ttTI H) (hX : ttXX YY H) {Q : Int → xH → Prop} (hq : ∀ r K, (∀ j : Int, j < H.1 1 1 → K.1 2 j = H.1 2 j) → (¬ 1600 < H.1 1 1 + 20 → ∀ i : Int, 0 ≤ i → i < 20 → K.1 2 (H.1 1 1 + i) = fdB a1 a2 a3 a4 a5 i) → Q r K) : xCall dd 133 [(2, 1), (0, a1), (0, a2), (0, a3), (0, a4), (0, a5)] H Q := by
  obtain ⟨e, rfl, he⟩ := ttRun0 (n := 1) hd
  have he : 1 ≤ e := he
  have hn : 210 ≤ (H.2.2.2.1 : Int) := by have := hT.1; omega
  have z0 := (tq_5 hT).1
  refine xC_of (L := [(2, 1), (0, a1), (0, a2), (0, a3), (0, a4), (0, a5)]) (cd := cd_133) rfl rfl rfl ?_
  refine q_al (pc := 0) (i := 0) (x := 1) rfl rfl ?_
  refine q_gf (pc := 1) (m := 11010) (t := 0) (c := 1) rfl (ttKc hT (a := 1) (κ := 11) (len := 0) ⟨rfl, rfl⟩ (by decide) (by decide)).1 rfl rfl ?_
  refine q_ic (pc := 2) (v := 20) rfl ?_
  refine q_ia (pc := 3) rfl (by omega) (by omega) ?_
  refine q_ic (pc := 4) (v := 1600) rfl ?_
  refine q_i2 (pc := 5) rfl (fun h5 => ?_) (fun h5 => ?_)
  · replace h5 : ((H.1 1 1) + 20) ≤ 1600 := h5
    refine q_al (pc := 8) (i := 0) (x := 1) rfl rfl ?_
    refine q_il (pc := 9) (i := 1) (x := a1) rfl rfl ?_
    refine q_iv (pc := 10) (q := 1072891) rfl rfl rfl (ttKc hT (a := 1) (κ := 11) (len := 0) ⟨rfl, rfl⟩ (by decide) (by decide)).1 ?_
    refine lx_putC (by omega) hT hX (by omega) (fun ufr1 ufK1 ufe1 ufs1 uft1 ufu1 ufT1 ufX1 ufF1 => ?_)
    refine q_al (pc := 11) (i := 0) (x := 1) rfl rfl ?_
    refine q_il (pc := 12) (i := 2) (x := a2) rfl rfl ?_
    refine q_iv (pc := 13) (q := 1072891) rfl rfl rfl (ttKc ufT1 (a := 1) (κ := 11) (len := 0) ⟨rfl, rfl⟩ (by decide) (by decide)).1 ?_
    refine lx_putC (by omega) ufT1 ufX1 (by omega) (fun ufr2 ufK2 ufe2 ufs2 uft2 ufu2 ufT2 ufX2 ufF2 => ?_)
    refine q_al (pc := 14) (i := 0) (x := 1) rfl rfl ?_
    refine q_il (pc := 15) (i := 3) (x := a3) rfl rfl ?_
    refine q_iv (pc := 16) (q := 1072891) rfl rfl rfl (ttKc ufT2 (a := 1) (κ := 11) (len := 0) ⟨rfl, rfl⟩ (by decide) (by decide)).1 ?_
    refine lx_putC (by omega) ufT2 ufX2 (by omega) (fun ufr3 ufK3 ufe3 ufs3 uft3 ufu3 ufT3 ufX3 ufF3 => ?_)
    refine q_al (pc := 17) (i := 0) (x := 1) rfl rfl ?_
    refine q_il (pc := 18) (i := 4) (x := a4) rfl rfl ?_
    refine q_iv (pc := 19) (q := 1072891) rfl rfl rfl (ttKc ufT3 (a := 1) (κ := 11) (len := 0) ⟨rfl, rfl⟩ (by decide) (by decide)).1 ?_
    refine lx_putC (by omega) ufT3 ufX3 (by omega) (fun ufr4 ufK4 ufe4 ufs4 uft4 ufu4 ufT4 ufX4 ufF4 => ?_)
    refine q_al (pc := 20) (i := 0) (x := 1) rfl rfl ?_
    refine q_il (pc := 21) (i := 5) (x := a5) rfl rfl ?_
    refine q_iv (pc := 22) (q := 1072891) rfl rfl rfl (ttKc ufT4 (a := 1) (κ := 11) (len := 0) ⟨rfl, rfl⟩ (by decide) (by decide)).1 ?_
    refine lx_putC (by omega) ufT4 ufX4 (by omega) (fun ufr5 ufK5 ufe5 ufs5 uft5 ufu5 ufT5 ufX5 ufF5 => ?_)
    refine q_al (pc := 23) (i := 0) (x := 1) rfl rfl ?_
    refine q_gf (pc := 24) (m := 11010) (t := 0) (c := 1) rfl (ttKc ufT5 (a := 1) (κ := 11) (len := 0) ⟨rfl, rfl⟩ (by decide) (by decide)).1 rfl rfl ?_
    refine q_ri (pc := 25) rfl ?_
    refine hq _ ufK5 (fun j hj => ?_) (fun _ i i0 i1 => ?_)
    · rw [uft5 j (by omega), uft4 j (by omega), uft3 j (by omega), uft2 j (by omega), uft1 j hj]
    · have c : (i < 4 ∨ (4 ≤ i ∧ i < 8)) ∨ (8 ≤ i ∧ i < 12) ∨ (12 ≤ i ∧ i < 16) ∨ (16 ≤ i) := by omega
      rcases c with (c | c) | c | c | c
      · rw [fd_q (q := 0) (k := i - 0) (by omega) (by omega) (by omega), show fdV a1 a2 a3 a4 a5 0 = a1 from rfl, uft5 _ (by omega), uft4 _ (by omega), uft3 _ (by omega), uft2 _ (by omega)]
        have w := ufu1 (i - 0) (by omega) (by omega)
        rw [show H.1 1 1 + (i - 0) = H.1 1 1 + i from by omega] at w
        exact w
      · rw [fd_q (q := 1) (k := i - 4) (by omega) (by omega) (by omega), show fdV a1 a2 a3 a4 a5 1 = a2 from rfl, uft5 _ (by omega), uft4 _ (by omega), uft3 _ (by omega)]
        have w := ufu2 (i - 4) (by omega) (by omega)
        rw [show ufK1.1 1 1 + (i - 4) = H.1 1 1 + i from by omega] at w
        exact w
      · rw [fd_q (q := 2) (k := i - 8) (by omega) (by omega) (by omega), show fdV a1 a2 a3 a4 a5 2 = a3 from rfl, uft5 _ (by omega), uft4 _ (by omega)]
        have w := ufu3 (i - 8) (by omega) (by omega)
        rw [show ufK2.1 1 1 + (i - 8) = H.1 1 1 + i from by omega] at w
        exact w
      · rw [fd_q (q := 3) (k := i - 12) (by omega) (by omega) (by omega), show fdV a1 a2 a3 a4 a5 3 = a4 from rfl, uft5 _ (by omega)]
        have w := ufu4 (i - 12) (by omega) (by omega)
        rw [show ufK3.1 1 1 + (i - 12) = H.1 1 1 + i from by omega] at w
        exact w
      · rw [fd_q (q := 4) (k := i - 16) (by omega) (by omega) (by omega), show fdV a1 a2 a3 a4 a5 4 = a5 from rfl]
        have w := ufu5 (i - 16) (by omega) (by omega)
        rw [show ufK4.1 1 1 + (i - 16) = H.1 1 1 + i from by omega] at w
        exact w
  · replace h5 : 1600 < ((H.1 1 1) + 20) := h5
    refine q_ic (pc := 6) (v := (-1)) rfl ?_
    refine q_ri (pc := 7) rfl ?_
    exact hq _ H (fun _ _ => rfl) (fun z => absurd (by omega) z)
theorem lx_feedC2 {dd : Nat} {a1 a2 a3 a4 a5 : Int} (hd : 1 ≤ dd) {H : xH} (hT : ttTI H) (hX : ttXX YY H) (p1 : -2147483648 ≤ a1 ∧ a1 ≤ 2147483647) (p2 : -2147483648 ≤ a2 ∧ a2 ≤ 2147483647) (p3 : -2147483648 ≤ a3 ∧ a3 ≤ 2147483647) (p4 : -2147483648 ≤ a4 ∧ a4 ≤ 2147483647) (p5 : -2147483648 ≤ a5 ∧ a5 ≤ 2147483647) {Q : Int → xH → Prop} (hq : ∀ r K, (∀ j : Int, j < H.1 183 5 → K.1 187 j = H.1 187 j) → (¬ 1600 < H.1 183 5 + 20 → ∀ i : Int, 0 ≤ i → i < 20 → K.1 187 (H.1 183 5 + i) = fdB a1 a2 a3 a4 a5 i) → Q r K) : xCall dd 210 [(2, 183), (0, a1), (0, a2), (0, a3), (0, a4), (0, a5)] H Q := by
  obtain ⟨e, rfl, he⟩ := ttRun0 (n := 0) hd
  have he : 0 ≤ e := he
  have hn : 210 ≤ (H.2.2.2.1 : Int) := by have := hT.1; omega
  have z0 := (tq_5 hT).2
  have hl : ∀ f : Nat, ∀ (K : xH) (i : Int), H.1 183 5 ≤ 1580 → 0 ≤ i → i ≤ 20 → 20 - i ≤ (f : Int) → K.1 183 5 = H.1 183 5 → (∀ q : Int, 0 ≤ q → q ≤ 4 → K.1 188 q = fdV a1 a2 a3 a4 a5 q) → (∀ j : Int, j < H.1 183 5 → K.1 187 j = H.1 187 j) → (∀ k : Int, 0 ≤ k → k < i → K.1 187 (H.1 183 5 + k) = fdB a1 a2 a3 a4 a5 k) → ttTI K → ttXX YY K → ttFr (true, [(183, 5, 5), (188, 0, 4), (187, 0, 1599)]) H K → xW e cd_210 Q (35, [(2, 183), (0, a1), (0, a2), (0, a3), (0, a4), (0, a5), (0, i)], [], K) := by
    intro f
    induction f with
    | zero =>
      intro K i zs i0 i1 hn2 k5 kv ka kb kT kX kF
      refine q_il (pc := 35) (i := 6) (x := i) rfl rfl ?_
      refine q_ic (pc := 36) (v := 20) rfl ?_
      refine q_i2 (pc := 37) rfl (fun h37 => ?_) (fun h37 => ?_)
      · replace h37 : 20 ≤ i := h37
        refine q_al (pc := 62) (i := 0) (x := 183) rfl rfl ?_
        refine q_d2 (pc := 63) rfl ?_
        refine q_gf (pc := 64) (m := 12050) (t := 0) (c := 5) rfl (ttKc kT (a := 183) (κ := 12) (len := 0) ⟨rfl, rfl⟩ (by decide) (by decide)).1 rfl rfl ?_
        rw [k5]
        refine q_ic (pc := 65) (v := 20) rfl ?_
        refine q_ia (pc := 66) rfl (by omega) (by omega) ?_
        refine q_pf (pc := 67) (m := 12050) (c := 5) rfl (show xPt 0 0 _ _ from (ttKc kT (a := 183) (κ := 12) (len := 0) ⟨rfl, rfl⟩ (by decide) (by decide)).1) rfl ?_
        have x7 : ∀ j : Int, (xUp K.1 183 5 ((H.1 183 5) + 20), K.2).1 187 j = K.1 187 j := fun j => up_na (D := K.1) (a := 183) (j := 5) (x := ((H.1 183 5) + 20)) (b := 187) (k := j) (by decide)
        have xe : (xUp K.1 183 5 ((H.1 183 5) + 20), K.2).1 183 5 = ((H.1 183 5) + 20) := up_eq (D := K.1) (a := 183) (j := 5) (x := ((H.1 183 5) + 20))
        have xc := ttPut (ttXX_out yyStab (fun _ _ => trivial)) kT kX kF (a := 183) (j := 5) (x := ((H.1 183 5) + 20)) (by decide) (fun _ _ => show (0 : Int) ≤ ((H.1 183 5) + 20) ∧ ((H.1 183 5) + 20) ≤ 1600 from by omega) ⟨(183, 5, 5), by simp, ⟨⟨by decide, rfl⟩, by decide, by decide⟩⟩ (by intro q hq hh; obtain ⟨⟨-, c1⟩, c2, c3⟩ := hh; simp only [ttFF, List.mem_cons, List.not_mem_nil, or_false] at hq; rcases hq with rfl | rfl | rfl | rfl | rfl | rfl | rfl | rfl | rfl | rfl <;> first | exact absurd c1 (by decide) | exact absurd c2 (by decide) | exact absurd c3 (by decide))
        refine q_al (pc := 68) (i := 0) (x := 183) rfl rfl ?_
        refine q_gf (pc := 69) (m := 12050) (t := 0) (c := 5) rfl (ttKc kT (a := 183) (κ := 12) (len := 0) ⟨rfl, rfl⟩ (by decide) (by decide)).1 rfl rfl ?_
        rw [xe]
        refine q_ri (pc := 70) rfl ?_
        exact hq _ _ (fun j hj => (x7 j).trans (ka j hj)) (fun _ k k0 k1 => (x7 _).trans (kb k k0 (by omega)))
      · replace h37 : i < 20 := h37
        omega
    | succ f ih =>
      intro K i zs i0 i1 hn2 k5 kv ka kb kT kX kF
      refine q_il (pc := 35) (i := 6) (x := i) rfl rfl ?_
      refine q_ic (pc := 36) (v := 20) rfl ?_
      refine q_i2 (pc := 37) rfl (fun h37 => ?_) (fun h37 => ?_)
      · replace h37 : 20 ≤ i := h37
        refine q_al (pc := 62) (i := 0) (x := 183) rfl rfl ?_
        refine q_d2 (pc := 63) rfl ?_
        refine q_gf (pc := 64) (m := 12050) (t := 0) (c := 5) rfl (ttKc kT (a := 183) (κ := 12) (len := 0) ⟨rfl, rfl⟩ (by decide) (by decide)).1 rfl rfl ?_
        rw [k5]
        refine q_ic (pc := 65) (v := 20) rfl ?_
        refine q_ia (pc := 66) rfl (by omega) (by omega) ?_
        refine q_pf (pc := 67) (m := 12050) (c := 5) rfl (show xPt 0 0 _ _ from (ttKc kT (a := 183) (κ := 12) (len := 0) ⟨rfl, rfl⟩ (by decide) (by decide)).1) rfl ?_
        have x7 : ∀ j : Int, (xUp K.1 183 5 ((H.1 183 5) + 20), K.2).1 187 j = K.1 187 j := fun j => up_na (D := K.1) (a := 183) (j := 5) (x := ((H.1 183 5) + 20)) (b := 187) (k := j) (by decide)
        have xe : (xUp K.1 183 5 ((H.1 183 5) + 20), K.2).1 183 5 = ((H.1 183 5) + 20) := up_eq (D := K.1) (a := 183) (j := 5) (x := ((H.1 183 5) + 20))
        have xc := ttPut (ttXX_out yyStab (fun _ _ => trivial)) kT kX kF (a := 183) (j := 5) (x := ((H.1 183 5) + 20)) (by decide) (fun _ _ => show (0 : Int) ≤ ((H.1 183 5) + 20) ∧ ((H.1 183 5) + 20) ≤ 1600 from by omega) ⟨(183, 5, 5), by simp, ⟨⟨by decide, rfl⟩, by decide, by decide⟩⟩ (by intro q hq hh; obtain ⟨⟨-, c1⟩, c2, c3⟩ := hh; simp only [ttFF, List.mem_cons, List.not_mem_nil, or_false] at hq; rcases hq with rfl | rfl | rfl | rfl | rfl | rfl | rfl | rfl | rfl | rfl <;> first | exact absurd c1 (by decide) | exact absurd c2 (by decide) | exact absurd c3 (by decide))
        refine q_al (pc := 68) (i := 0) (x := 183) rfl rfl ?_
        refine q_gf (pc := 69) (m := 12050) (t := 0) (c := 5) rfl (ttKc kT (a := 183) (κ := 12) (len := 0) ⟨rfl, rfl⟩ (by decide) (by decide)).1 rfl rfl ?_
        rw [xe]
        refine q_ri (pc := 70) rfl ?_
        exact hq _ _ (fun j hj => (x7 j).trans (ka j hj)) (fun _ k k0 k1 => (x7 _).trans (kb k k0 (by omega)))
      · replace h37 : i < 20 := h37
        refine q_al (pc := 38) (i := 0) (x := 183) rfl rfl ?_
        refine q_gf (pc := 39) (m := 12042) (t := 2) (c := 4) rfl (ttKc kT (a := 183) (κ := 12) (len := 0) ⟨rfl, rfl⟩ (by decide) (by decide)).1 rfl rfl ?_
        rw [show K.1 183 4 = 187 from ttFx kT (by decide) (by decide) rfl rfl rfl]
        refine q_al (pc := 40) (i := 0) (x := 183) rfl rfl ?_
        refine q_gf (pc := 41) (m := 12050) (t := 0) (c := 5) rfl (ttKc kT (a := 183) (κ := 12) (len := 0) ⟨rfl, rfl⟩ (by decide) (by decide)).1 rfl rfl ?_
        rw [k5]
        refine q_il (pc := 42) (i := 6) (x := i) rfl rfl ?_
        refine q_ia (pc := 43) rfl (by omega) (by omega) ?_
        refine q_al (pc := 44) (i := 0) (x := 183) rfl rfl ?_
        refine q_gf (pc := 45) (m := 12062) (t := 2) (c := 6) rfl (ttKc kT (a := 183) (κ := 12) (len := 0) ⟨rfl, rfl⟩ (by decide) (by decide)).1 rfl rfl ?_
        rw [show K.1 183 6 = 188 from ttFx kT (by decide) (by decide) rfl rfl rfl]
        refine q_il (pc := 46) (i := 6) (x := i) rfl rfl ?_
        refine q_ic (pc := 47) (v := 4) rfl ?_
        refine q_wd (pc := 48) rfl (by decide) ?_
        rw [show (w32 (Int.tdiv i 4)) = i / 4 from (fd_i i0 (by omega)).1]
        refine q_ai (pc := 49) rfl (ttKc kT (a := 188) (κ := 20) (len := 5) ⟨rfl, rfl⟩ (by decide) (by decide)).1 (by omega) (by rw [(ttKc kT (a := 188) (κ := 20) (len := 5) ⟨rfl, rfl⟩ (by decide) (by decide)).2]; omega) ?_
        rw [kv (i / 4) (by omega) (by omega)]
        refine q_ic (pc := 50) (v := 24) rfl ?_
        refine q_ic (pc := 51) (v := 8) rfl ?_
        refine q_il (pc := 52) (i := 6) (x := i) rfl rfl ?_
        refine q_ic (pc := 53) (v := 4) rfl ?_
        refine q_ir (pc := 54) rfl (by decide) ?_
        rw [show (Int.tmod i 4) = i % 4 from (fd_i i0 (by omega)).2]
        refine q_im (pc := 55) rfl (by omega) (by omega) ?_
        refine q_ib (pc := 56) rfl (by omega) (by omega) ?_
        refine q_sr (pc := 57) rfl ?_
        refine q_zb (pc := 58) rfl ?_
        refine q_sb (pc := 59) rfl (by decide) (ttKc kT (a := 187) (κ := 21) (len := 1600) ⟨rfl, rfl⟩ (by decide) (by decide)).1 (by omega) (by rw [(ttKc kT (a := 187) (κ := 21) (len := 1600) ⟨rfl, rfl⟩ (by decide) (by decide)).2]; omega) ?_
        obtain ⟨b, jb⟩ : ∃ b, b = (w8 (w8 (xShr (fdV a1 a2 a3 a4 a5 (i / 4)) (24 - (8 * (i % 4)))))) := ⟨_, rfl⟩
        have zb : -128 ≤ b ∧ b < 128 := by rw [jb]; exact w8_in _
        rw [← jb]
        have yc := ttPut (ttXX_out yyStab (fun _ _ => trivial)) kT kX kF (a := 187) (j := ((H.1 183 5) + i)) (x := b) (by decide) (fun _ _ => ttTyr rfl zb.1 (by omega)) ⟨(187, 0, 1599), by simp, ⟨⟨by decide, rfl⟩, by show (0 : Int) ≤ ((H.1 183 5) + i); omega, by show ((H.1 183 5) + i) ≤ 1599; omega⟩⟩ (ttMay_no (r := 187) rfl (by decide))
        obtain ⟨Y, jY⟩ : ∃ X : xH, X = (xUp K.1 187 ((H.1 183 5) + i) b, K.2) := ⟨_, rfl⟩
        rw [← jY] at yc ⊢
        have ye : Y.1 187 ((H.1 183 5) + i) = b := by rw [jY]; exact up_eq (D := K.1) (a := 187) (j := ((H.1 183 5) + i)) (x := b)
        have yo : ∀ j : Int, j ≠ ((H.1 183 5) + i) → Y.1 187 j = K.1 187 j := fun j hj => by rw [jY]; exact up_j hj
        have y8 : ∀ j : Int, Y.1 188 j = K.1 188 j := fun j => by rw [jY]; exact up_na (D := K.1) (a := 187) (j := ((H.1 183 5) + i)) (x := b) (b := 188) (k := j) (by decide)
        have y5 : Y.1 183 5 = K.1 183 5 := by rw [jY]; exact up_na (D := K.1) (a := 187) (j := ((H.1 183 5) + i)) (x := b) (b := 183) (k := 5) (by decide)
        refine q_ii (pc := 60) (i := 6) (c := 1) (x := i) (L' := [(2, 183), (0, a1), (0, a2), (0, a3), (0, a4), (0, a5), (0, (i + 1))]) rfl rfl rfl (by omega) (by omega) rfl ?_
        refine q_go (pc := 61) rfl ?_
        refine ih Y (i + 1) zs (by omega) (by omega) (by omega) (y5.trans k5) (fun q q0 q4 => (y8 q).trans (kv q q0 q4)) (fun j hj => (yo j (by omega)).trans (ka j hj)) (fun k k0 k1 => ?_) yc.1 yc.2.1 yc.2.2
        by_cases z : k = i
        · rw [z, ye, jb]; rfl
        · rw [yo _ (by omega)]; exact kb k k0 (by omega)
  refine xC_of (L := [(2, 183), (0, a1), (0, a2), (0, a3), (0, a4), (0, a5), (9, 0)]) (cd := cd_210) rfl rfl rfl ?_
  refine q_al (pc := 0) (i := 0) (x := 183) rfl rfl ?_
  refine q_gf (pc := 1) (m := 12050) (t := 0) (c := 5) rfl (ttKc hT (a := 183) (κ := 12) (len := 0) ⟨rfl, rfl⟩ (by decide) (by decide)).1 rfl rfl ?_
  refine q_ic (pc := 2) (v := 20) rfl ?_
  refine q_ia (pc := 3) rfl (by omega) (by omega) ?_
  refine q_ic (pc := 4) (v := 1600) rfl ?_
  refine q_i2 (pc := 5) rfl (fun h5 => ?_) (fun h5 => ?_)
  · replace h5 : ((H.1 183 5) + 20) ≤ 1600 := h5
    refine q_al (pc := 8) (i := 0) (x := 183) rfl rfl ?_
    refine q_gf (pc := 9) (m := 12062) (t := 2) (c := 6) rfl (ttKc hT (a := 183) (κ := 12) (len := 0) ⟨rfl, rfl⟩ (by decide) (by decide)).1 rfl rfl ?_
    rw [show H.1 183 6 = 188 from ttFx hT (by decide) (by decide) rfl rfl rfl]
    refine q_ic (pc := 10) (v := 0) rfl ?_
    refine q_il (pc := 11) (i := 1) (x := a1) rfl rfl ?_
    refine q_si (pc := 12) rfl (by decide) (ttKc hT (a := 188) (κ := 20) (len := 5) ⟨rfl, rfl⟩ (by decide) (by decide)).1 (by omega) (by rw [(ttKc hT (a := 188) (κ := 20) (len := 5) ⟨rfl, rfl⟩ (by decide) (by decide)).2]; omega) ?_
    have ufc1 := ttPut (ttXX_out yyStab (fun _ _ => trivial)) hT hX (ttFr_rf (true, [(183, 5, 5), (188, 0, 4), (187, 0, 1599)]) H) (a := 188) (j := 0) (x := a1) (by decide) (fun _ _ => ttTyr rfl p1.1 p1.2) ⟨(188, 0, 4), by simp, ⟨⟨by decide, rfl⟩, by decide, by decide⟩⟩ (ttMay_no (r := 188) rfl (by decide))
    obtain ⟨ufZ1, ufk1⟩ : ∃ X : xH, X = (xUp H.1 188 0 a1, H.2) := ⟨_, rfl⟩
    rw [← ufk1] at ufc1 ⊢
    have ufs1 : ufZ1.1 183 5 = H.1 183 5 := (by rw [ufk1]; exact up_na (D := H.1) (a := 188) (j := 0) (x := a1) (b := 183) (k := 5) (by decide) : ufZ1.1 183 5 = H.1 183 5)
    have ufd1 : ∀ j : Int, ufZ1.1 187 j = H.1 187 j := fun j => (by rw [ufk1]; exact up_na (D := H.1) (a := 188) (j := 0) (x := a1) (b := 187) (k := j) (by decide) : ufZ1.1 187 j = H.1 187 j)
    have ufm1 : ∀ j : Int, j ≠ 0 → ufZ1.1 188 j = H.1 188 j := fun j hj => by rw [ufk1]; exact up_j hj
    have ufn1 : ufZ1.1 188 0 = a1 := by rw [ufk1]; exact up_eq (D := H.1) (a := 188) (j := 0) (x := a1)
    refine q_al (pc := 13) (i := 0) (x := 183) rfl rfl ?_
    refine q_gf (pc := 14) (m := 12062) (t := 2) (c := 6) rfl (ttKc ufc1.1 (a := 183) (κ := 12) (len := 0) ⟨rfl, rfl⟩ (by decide) (by decide)).1 rfl rfl ?_
    rw [show ufZ1.1 183 6 = 188 from ttFx ufc1.1 (by decide) (by decide) rfl rfl rfl]
    refine q_ic (pc := 15) (v := 1) rfl ?_
    refine q_il (pc := 16) (i := 2) (x := a2) rfl rfl ?_
    refine q_si (pc := 17) rfl (by decide) (ttKc ufc1.1 (a := 188) (κ := 20) (len := 5) ⟨rfl, rfl⟩ (by decide) (by decide)).1 (by omega) (by rw [(ttKc ufc1.1 (a := 188) (κ := 20) (len := 5) ⟨rfl, rfl⟩ (by decide) (by decide)).2]; omega) ?_
    have ufc2 := ttPut (ttXX_out yyStab (fun _ _ => trivial)) ufc1.1 ufc1.2.1 ufc1.2.2 (a := 188) (j := 1) (x := a2) (by decide) (fun _ _ => ttTyr rfl p2.1 p2.2) ⟨(188, 0, 4), by simp, ⟨⟨by decide, rfl⟩, by decide, by decide⟩⟩ (ttMay_no (r := 188) rfl (by decide))
    obtain ⟨ufZ2, ufk2⟩ : ∃ X : xH, X = (xUp ufZ1.1 188 1 a2, ufZ1.2) := ⟨_, rfl⟩
    rw [← ufk2] at ufc2 ⊢
    have ufs2 : ufZ2.1 183 5 = H.1 183 5 := ((by rw [ufk2]; exact up_na (D := ufZ1.1) (a := 188) (j := 1) (x := a2) (b := 183) (k := 5) (by decide) : ufZ2.1 183 5 = ufZ1.1 183 5)).trans ufs1
    have ufd2 : ∀ j : Int, ufZ2.1 187 j = H.1 187 j := fun j => (by rw [ufk2]; exact up_na (D := ufZ1.1) (a := 188) (j := 1) (x := a2) (b := 187) (k := j) (by decide) : ufZ2.1 187 j = ufZ1.1 187 j).trans (ufd1 j)
    have ufm2 : ∀ j : Int, j ≠ 1 → ufZ2.1 188 j = ufZ1.1 188 j := fun j hj => by rw [ufk2]; exact up_j hj
    have ufn2 : ufZ2.1 188 1 = a2 := by rw [ufk2]; exact up_eq (D := ufZ1.1) (a := 188) (j := 1) (x := a2)
    refine q_al (pc := 18) (i := 0) (x := 183) rfl rfl ?_
    refine q_gf (pc := 19) (m := 12062) (t := 2) (c := 6) rfl (ttKc ufc2.1 (a := 183) (κ := 12) (len := 0) ⟨rfl, rfl⟩ (by decide) (by decide)).1 rfl rfl ?_
    rw [show ufZ2.1 183 6 = 188 from ttFx ufc2.1 (by decide) (by decide) rfl rfl rfl]
    refine q_ic (pc := 20) (v := 2) rfl ?_
    refine q_il (pc := 21) (i := 3) (x := a3) rfl rfl ?_
    refine q_si (pc := 22) rfl (by decide) (ttKc ufc2.1 (a := 188) (κ := 20) (len := 5) ⟨rfl, rfl⟩ (by decide) (by decide)).1 (by omega) (by rw [(ttKc ufc2.1 (a := 188) (κ := 20) (len := 5) ⟨rfl, rfl⟩ (by decide) (by decide)).2]; omega) ?_
    have ufc3 := ttPut (ttXX_out yyStab (fun _ _ => trivial)) ufc2.1 ufc2.2.1 ufc2.2.2 (a := 188) (j := 2) (x := a3) (by decide) (fun _ _ => ttTyr rfl p3.1 p3.2) ⟨(188, 0, 4), by simp, ⟨⟨by decide, rfl⟩, by decide, by decide⟩⟩ (ttMay_no (r := 188) rfl (by decide))
    obtain ⟨ufZ3, ufk3⟩ : ∃ X : xH, X = (xUp ufZ2.1 188 2 a3, ufZ2.2) := ⟨_, rfl⟩
    rw [← ufk3] at ufc3 ⊢
    have ufs3 : ufZ3.1 183 5 = H.1 183 5 := ((by rw [ufk3]; exact up_na (D := ufZ2.1) (a := 188) (j := 2) (x := a3) (b := 183) (k := 5) (by decide) : ufZ3.1 183 5 = ufZ2.1 183 5)).trans ufs2
    have ufd3 : ∀ j : Int, ufZ3.1 187 j = H.1 187 j := fun j => (by rw [ufk3]; exact up_na (D := ufZ2.1) (a := 188) (j := 2) (x := a3) (b := 187) (k := j) (by decide) : ufZ3.1 187 j = ufZ2.1 187 j).trans (ufd2 j)
    have ufm3 : ∀ j : Int, j ≠ 2 → ufZ3.1 188 j = ufZ2.1 188 j := fun j hj => by rw [ufk3]; exact up_j hj
    have ufn3 : ufZ3.1 188 2 = a3 := by rw [ufk3]; exact up_eq (D := ufZ2.1) (a := 188) (j := 2) (x := a3)
    refine q_al (pc := 23) (i := 0) (x := 183) rfl rfl ?_
    refine q_gf (pc := 24) (m := 12062) (t := 2) (c := 6) rfl (ttKc ufc3.1 (a := 183) (κ := 12) (len := 0) ⟨rfl, rfl⟩ (by decide) (by decide)).1 rfl rfl ?_
    rw [show ufZ3.1 183 6 = 188 from ttFx ufc3.1 (by decide) (by decide) rfl rfl rfl]
    refine q_ic (pc := 25) (v := 3) rfl ?_
    refine q_il (pc := 26) (i := 4) (x := a4) rfl rfl ?_
    refine q_si (pc := 27) rfl (by decide) (ttKc ufc3.1 (a := 188) (κ := 20) (len := 5) ⟨rfl, rfl⟩ (by decide) (by decide)).1 (by omega) (by rw [(ttKc ufc3.1 (a := 188) (κ := 20) (len := 5) ⟨rfl, rfl⟩ (by decide) (by decide)).2]; omega) ?_
    have ufc4 := ttPut (ttXX_out yyStab (fun _ _ => trivial)) ufc3.1 ufc3.2.1 ufc3.2.2 (a := 188) (j := 3) (x := a4) (by decide) (fun _ _ => ttTyr rfl p4.1 p4.2) ⟨(188, 0, 4), by simp, ⟨⟨by decide, rfl⟩, by decide, by decide⟩⟩ (ttMay_no (r := 188) rfl (by decide))
    obtain ⟨ufZ4, ufk4⟩ : ∃ X : xH, X = (xUp ufZ3.1 188 3 a4, ufZ3.2) := ⟨_, rfl⟩
    rw [← ufk4] at ufc4 ⊢
    have ufs4 : ufZ4.1 183 5 = H.1 183 5 := ((by rw [ufk4]; exact up_na (D := ufZ3.1) (a := 188) (j := 3) (x := a4) (b := 183) (k := 5) (by decide) : ufZ4.1 183 5 = ufZ3.1 183 5)).trans ufs3
    have ufd4 : ∀ j : Int, ufZ4.1 187 j = H.1 187 j := fun j => (by rw [ufk4]; exact up_na (D := ufZ3.1) (a := 188) (j := 3) (x := a4) (b := 187) (k := j) (by decide) : ufZ4.1 187 j = ufZ3.1 187 j).trans (ufd3 j)
    have ufm4 : ∀ j : Int, j ≠ 3 → ufZ4.1 188 j = ufZ3.1 188 j := fun j hj => by rw [ufk4]; exact up_j hj
    have ufn4 : ufZ4.1 188 3 = a4 := by rw [ufk4]; exact up_eq (D := ufZ3.1) (a := 188) (j := 3) (x := a4)
    refine q_al (pc := 28) (i := 0) (x := 183) rfl rfl ?_
    refine q_gf (pc := 29) (m := 12062) (t := 2) (c := 6) rfl (ttKc ufc4.1 (a := 183) (κ := 12) (len := 0) ⟨rfl, rfl⟩ (by decide) (by decide)).1 rfl rfl ?_
    rw [show ufZ4.1 183 6 = 188 from ttFx ufc4.1 (by decide) (by decide) rfl rfl rfl]
    refine q_ic (pc := 30) (v := 4) rfl ?_
    refine q_il (pc := 31) (i := 5) (x := a5) rfl rfl ?_
    refine q_si (pc := 32) rfl (by decide) (ttKc ufc4.1 (a := 188) (κ := 20) (len := 5) ⟨rfl, rfl⟩ (by decide) (by decide)).1 (by omega) (by rw [(ttKc ufc4.1 (a := 188) (κ := 20) (len := 5) ⟨rfl, rfl⟩ (by decide) (by decide)).2]; omega) ?_
    have ufc5 := ttPut (ttXX_out yyStab (fun _ _ => trivial)) ufc4.1 ufc4.2.1 ufc4.2.2 (a := 188) (j := 4) (x := a5) (by decide) (fun _ _ => ttTyr rfl p5.1 p5.2) ⟨(188, 0, 4), by simp, ⟨⟨by decide, rfl⟩, by decide, by decide⟩⟩ (ttMay_no (r := 188) rfl (by decide))
    obtain ⟨ufZ5, ufk5⟩ : ∃ X : xH, X = (xUp ufZ4.1 188 4 a5, ufZ4.2) := ⟨_, rfl⟩
    rw [← ufk5] at ufc5 ⊢
    have ufs5 : ufZ5.1 183 5 = H.1 183 5 := ((by rw [ufk5]; exact up_na (D := ufZ4.1) (a := 188) (j := 4) (x := a5) (b := 183) (k := 5) (by decide) : ufZ5.1 183 5 = ufZ4.1 183 5)).trans ufs4
    have ufd5 : ∀ j : Int, ufZ5.1 187 j = H.1 187 j := fun j => (by rw [ufk5]; exact up_na (D := ufZ4.1) (a := 188) (j := 4) (x := a5) (b := 187) (k := j) (by decide) : ufZ5.1 187 j = ufZ4.1 187 j).trans (ufd4 j)
    have ufm5 : ∀ j : Int, j ≠ 4 → ufZ5.1 188 j = ufZ4.1 188 j := fun j hj => by rw [ufk5]; exact up_j hj
    have ufn5 : ufZ5.1 188 4 = a5 := by rw [ufk5]; exact up_eq (D := ufZ4.1) (a := 188) (j := 4) (x := a5)
    refine q_ic (pc := 33) (v := 0) rfl ?_
    refine q_is (pc := 34) (i := 6) (L' := [(2, 183), (0, a1), (0, a2), (0, a3), (0, a4), (0, a5), (0, 0)]) rfl rfl rfl ?_
    refine hl 20 ufZ5 0 (by omega) (by decide) (by decide) (by decide) ufs5 (fun q q0 q4 => ?_) (fun j _ => ufd5 j) (fun k k0 ufk1 => absurd ufk1 (by omega)) ufc5.1 ufc5.2.1 ufc5.2.2
    obtain rfl | rfl | rfl | rfl | rfl : q = 0 ∨ q = 1 ∨ q = 2 ∨ q = 3 ∨ q = 4 := by omega
    · exact (ufm5 0 (by decide)).trans ((ufm4 0 (by decide)).trans ((ufm3 0 (by decide)).trans ((ufm2 0 (by decide)).trans (ufn1))))
    · exact (ufm5 1 (by decide)).trans ((ufm4 1 (by decide)).trans ((ufm3 1 (by decide)).trans (ufn2)))
    · exact (ufm5 2 (by decide)).trans ((ufm4 2 (by decide)).trans (ufn3))
    · exact (ufm5 3 (by decide)).trans (ufn4)
    · exact ufn5
  · replace h5 : 1600 < ((H.1 183 5) + 20) := h5
    refine q_ic (pc := 6) (v := (-1)) rfl ?_
    refine q_ri (pc := 7) rfl ?_
    exact hq _ H (fun _ _ => rfl) (fun z => absurd (by omega) z)
