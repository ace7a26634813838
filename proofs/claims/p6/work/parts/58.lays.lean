/-! the reference lays its ways -/
def yyWr (D : xD) (r B m : Int) : Prop := ∀ i : Int, 0 ≤ i → i < m → D 191 (300 * r + 5 * i + 2) < D 184 1 ∧ 1 ≤ D 191 (300 * r + 5 * i + 3) ∧ 10 * D 191 (300 * r + 5 * i) + D 191 (300 * r + 5 * i + 1) < B ∧ ∀ j : Int, 0 ≤ j → j < i → 10 * D 191 (300 * r + 5 * j) + D 191 (300 * r + 5 * j + 1) < 10 * D 191 (300 * r + 5 * i) + D 191 (300 * r + 5 * i + 1)
theorem wy_pt {N k c j x : Int} (hj : j = k + c) (km : k % 5 = 0) (ujc0 : 0 ≤ c) (ujc1 : c < 5) (h : ttM N (ttTy (ttTb 191) c) x) : ttM N (ttTy (ttTb (ttRo 191)) j) x := by
  rw [hj, show ttRo 191 = 191 from rfl, ty_way km ujc0 ujc1]
  exact h
theorem yyWr_s {D D' : xD} {r B B' m : Int} (h : yyWr D r B m) (hB : B ≤ B') (h1 : D' 184 1 = D 184 1) (hk : ∀ j : Int, 300 * r ≤ j → j < 300 * r + 5 * m → D' 191 j = D 191 j) : yyWr D' r B' m := by
  intro i i0 i1
  obtain ⟨a1, a2, a3, a4⟩ := h i i0 i1
  rw [hk (300 * r + 5 * i + 2) (by omega) (by omega), hk (300 * r + 5 * i + 3) (by omega) (by omega), hk (300 * r + 5 * i) (by omega) (by omega), hk (300 * r + 5 * i + 1) (by omega) (by omega), h1]
  refine ⟨a1, a2, by omega, fun j j0 j1 => ?_⟩
  rw [hk (300 * r + 5 * j) (by omega) (by omega), hk (300 * r + 5 * j + 1) (by omega) (by omega)]
  exact a4 j j0 j1
theorem yyWr_a {D : xD} {r B m : Int} (h : yyWr D r B m) (h1 : D 191 (300 * r + 5 * m + 2) < D 184 1) (h2 : 1 ≤ D 191 (300 * r + 5 * m + 3)) (h3 : 10 * D 191 (300 * r + 5 * m) + D 191 (300 * r + 5 * m + 1) = B) : yyWr D r (B + 1) (m + 1) := by
  intro i i0 i1
  by_cases z : i = m
  · subst z
    exact ⟨h1, h2, by omega, fun j j0 j1 => by have := (h j j0 j1).2.2.1; omega⟩
  · obtain ⟨a1, a2, a3, a4⟩ := h i i0 (by omega)
    exact ⟨a1, a2, by omega, a4⟩
theorem lf_loss {dd : Nat} {l s t : Int} (hd : 2 ≤ dd) {H : xH} (hT : ttTI H) (l0 : 0 ≤ l) (l1 : l ≤ 9) (s0 : 0 ≤ s) (s1 : s ≤ 5) (t0 : 0 ≤ t) (t1 : t ≤ 721) {Q : Int → xH → Prop} (hQ : ∀ r, -2147483648 ≤ r ∧ r ≤ 2147483647 → Q r H) : xCall dd 237 [(2, 183), (0, l), (0, s), (0, t)] H Q := by
  obtain ⟨e, rfl, he⟩ := ttRun0 (n := 1) hd
  have he : 1 ≤ e := he
  refine xC_of (L := [(2, 183), (0, l), (0, s), (0, t)]) (cd := cd_237) rfl rfl rfl ?_
  refine q_ic (pc := 0) (v := 5) rfl ?_
  refine q_il (pc := 1) (i := 3) (x := t) rfl rfl ?_
  refine q_wm (pc := 2) rfl ?_
  refine q_al (pc := 3) (i := 0) (x := 183) rfl rfl ?_
  refine q_gf (pc := 4) (m := 12012) (t := 2) (c := 1) rfl (ttKc hT (a := 183) (κ := 12) (len := 0) ⟨rfl, rfl⟩ (by decide) (by decide)).1 rfl rfl ?_
  rw [show H.1 183 1 = 184 from ttFx hT (by decide) (by decide) rfl rfl rfl]
  refine q_ic (pc := 5) (v := 144) rfl ?_
  refine q_ic (pc := 6) (v := 2) rfl ?_
  refine q_il (pc := 7) (i := 2) (x := s) rfl rfl ?_
  refine q_im (pc := 8) rfl (by omega) (by omega) ?_
  refine q_ia (pc := 9) rfl (by omega) (by omega) ?_
  refine q_ic (pc := 10) (v := 1) rfl ?_
  refine q_ia (pc := 11) rfl (by omega) (by omega) ?_
  refine q_ai (pc := 12) rfl (ttKc hT (a := 184) (κ := 20) (len := 196) ⟨rfl, rfl⟩ (by decide) (by decide)).1 (by omega) (by rw [(ttKc hT (a := 184) (κ := 20) (len := 196) ⟨rfl, rfl⟩ (by decide) (by decide)).2]; omega) ?_
  refine q_al (pc := 13) (i := 0) (x := 183) rfl rfl ?_
  refine q_il (pc := 14) (i := 1) (x := l) rfl rfl ?_
  refine q_ic (pc := 15) (v := 3) rfl ?_
  refine q_iv (pc := 16) (q := 1672972) rfl rfl rfl (ttKc hT (a := 183) (κ := 12) (len := 0) ⟨rfl, rfl⟩ (by decide) (by decide)).1 ?_
  refine lf_ofLeg (j := (87 + 6 * l)) (by omega) (by omega) hT (by omega) (by omega) (by omega) (by omega) ?_
  refine q_wb (pc := 17) rfl ?_
  refine q_wm (pc := 18) rfl ?_
  refine q_ic (pc := 19) (v := 100) rfl ?_
  refine q_wd (pc := 20) rfl (by decide) ?_
  refine q_ri (pc := 21) rfl ?_
  have z : -2147483648 ≤ (w32 (Int.tdiv (w32 ((w32 (5 * t)) * (w32 ((H.1 184 ((144 + (2 * s)) + 1)) - (H.1 184 (87 + 6 * l)))))) 100)) ∧ (w32 (Int.tdiv (w32 ((w32 (5 * t)) * (w32 ((H.1 184 ((144 + (2 * s)) + 1)) - (H.1 184 (87 + 6 * l)))))) 100)) < 2147483648 := w32_in _
  exact hQ _ (by omega)
theorem lf_laysFrom {dd : Nat} {p w : Int} (hd : 3 ≤ dd) {H : xH} (hT : ttTI H) (p0 : 0 ≤ p) (p1 : p ≤ 7) (ujw0 : 0 ≤ w) (ujw1 : w ≤ 1) (hlg : (∀ l : Int, 0 ≤ l → l < 10 → l < H.1 184 2 → H.1 184 (84 + 6 * l) < H.1 184 1 ∧ H.1 184 (85 + 6 * l) < H.1 184 1)) {Q : Int → xH → Prop} (hQ : ∀ K m, ttTI K → ttFr (true, [(190, 0, 15), (191, 0, 4799)]) H K → K.1 190 (2 * p + w) = m → yyWr K.1 (2 * p + w) 100 m → (∀ j : Int, j ≠ 2 * p + w → K.1 190 j = H.1 190 j) → (∀ j : Int, ¬ (300 * (2 * p + w) ≤ j ∧ j < 300 * (2 * p + w) + 300) → K.1 191 j = H.1 191 j) → Q 0 K) : xCall dd 251 [(2, 183), (0, p), (0, w)] H Q := by
  obtain ⟨e, rfl, he⟩ := ttRun0 (n := 2) hd
  have he : 2 ≤ e := he
  have hn : 210 ≤ (H.2.2.2.1 : Int) := by have := hT.1; omega
  obtain ⟨r, hr⟩ : ∃ r, r = 2 * p + w := ⟨_, rfl⟩
  rw [← hr] at hQ
  have h2 : H.1 184 2 ≤ 10 := (show 0 ≤ H.1 184 2 ∧ H.1 184 2 ≤ 10 from ttMc hT (a := 184) (j := 2) (by decide) (by decide) (by decide) (by decide)).2
  have h3 : H.1 184 3 ≤ 6 := (show 0 ≤ H.1 184 3 ∧ H.1 184 3 ≤ 6 from ttMc hT (a := 184) (j := 3) (by decide) (by decide) (by decide) (by decide)).2
  have hs : ∀ l : Int, 0 ≤ l → l < 10 → l < H.1 184 2 → (∀ (K : xH) (m : Int) (x5 x6 x7 x8 : xV), ttTI K → ttFr (true, [(190, 0, 15), (191, 0, 4799)]) H K → K.1 190 r = m → 0 ≤ m → m ≤ 6 * (l + 1) → yyWr K.1 r (10 * (l + 1)) m → (∀ j : Int, j ≠ r → K.1 190 j = H.1 190 j) → (∀ j : Int, ¬ (300 * r ≤ j ∧ j < 300 * r + 300) → K.1 191 j = H.1 191 j) → xW e cd_251 Q (13, [(2, 183), (0, p), (0, w), (0, r), (0, (l + 1)), x5, x6, x7, x8], [], K)) → ∀ n : Nat, ∀ (K : xH) (m s b : Int) (x7 x8 : xV), (b = 0 ∨ b = 1) → 0 ≤ s → s ≤ 6 → 6 - s ≤ (n : Int) → ttTI K → ttFr (true, [(190, 0, 15), (191, 0, 4799)]) H K → K.1 190 r = m → 0 ≤ m → m ≤ 6 * l + s → yyWr K.1 r (10 * l + s) m → (∀ j : Int, j ≠ r → K.1 190 j = H.1 190 j) → (∀ j : Int, ¬ (300 * r ≤ j ∧ j < 300 * r + 300) → K.1 191 j = H.1 191 j) → xW e cd_251 Q (40, [(2, 183), (0, p), (0, w), (0, r), (0, l), (0, b), (0, s), x7, x8], [], K) := by
    intro l l0 l1 l2 hk n
    obtain ⟨g1, g2⟩ := hlg l l0 l1 l2
    induction n with
    | zero =>
      intro K m s b x7 x8 hb s0 s1 hn2 kT kF km m0 m1 kW k0 k1
      have kw : ∀ j : Int, K.1 184 j = H.1 184 j := fun j => fr_no kF 184 (by omega) rfl (by decide)
      have kw3 := kw 3
      refine q_il (pc := 40) (i := 6) (x := s) rfl rfl ?_
      refine q_al (pc := 41) (i := 0) (x := 183) rfl rfl ?_
      refine q_gf (pc := 42) (m := 12012) (t := 2) (c := 1) rfl (ttKc kT (a := 183) (κ := 12) (len := 0) ⟨rfl, rfl⟩ (by decide) (by decide)).1 rfl rfl ?_
      rw [show K.1 183 1 = 184 from ttFx kT (by decide) (by decide) rfl rfl rfl]
      refine q_ic (pc := 43) (v := 3) rfl ?_
      refine q_ai (pc := 44) rfl (ttKc kT (a := 184) (κ := 20) (len := 196) ⟨rfl, rfl⟩ (by decide) (by decide)).1 (by omega) (by rw [(ttKc kT (a := 184) (κ := 20) (len := 196) ⟨rfl, rfl⟩ (by decide) (by decide)).2]; omega) ?_
      refine q_i2 (pc := 45) rfl (fun h45 => ?_) (fun h45 => ?_)
      · replace h45 : (K.1 184 3) ≤ s := h45
        refine q_ii (pc := 127) (i := 4) (c := 1) (x := l) (L' := [(2, 183), (0, p), (0, w), (0, r), (0, (l + 1)), (0, b), (0, s), x7, x8]) rfl rfl rfl (by omega) (by omega) rfl ?_
        refine q_go (pc := 128) rfl ?_
        exact hk K m _ _ _ _ kT kF km m0 (by omega) (yyWr_s kW (by omega) rfl (fun _ _ _ => rfl)) k0 k1
      · replace h45 : s < (K.1 184 3) := h45
        omega
    | succ n ih =>
      intro K m s b x7 x8 hb s0 s1 hn2 kT kF km m0 m1 kW k0 k1
      have kw : ∀ j : Int, K.1 184 j = H.1 184 j := fun j => fr_no kF 184 (by omega) rfl (by decide)
      have kw3 := kw 3
      refine q_il (pc := 40) (i := 6) (x := s) rfl rfl ?_
      refine q_al (pc := 41) (i := 0) (x := 183) rfl rfl ?_
      refine q_gf (pc := 42) (m := 12012) (t := 2) (c := 1) rfl (ttKc kT (a := 183) (κ := 12) (len := 0) ⟨rfl, rfl⟩ (by decide) (by decide)).1 rfl rfl ?_
      rw [show K.1 183 1 = 184 from ttFx kT (by decide) (by decide) rfl rfl rfl]
      refine q_ic (pc := 43) (v := 3) rfl ?_
      refine q_ai (pc := 44) rfl (ttKc kT (a := 184) (κ := 20) (len := 196) ⟨rfl, rfl⟩ (by decide) (by decide)).1 (by omega) (by rw [(ttKc kT (a := 184) (κ := 20) (len := 196) ⟨rfl, rfl⟩ (by decide) (by decide)).2]; omega) ?_
      refine q_i2 (pc := 45) rfl (fun h45 => ?_) (fun h45 => ?_)
      · replace h45 : (K.1 184 3) ≤ s := h45
        refine q_ii (pc := 127) (i := 4) (c := 1) (x := l) (L' := [(2, 183), (0, p), (0, w), (0, r), (0, (l + 1)), (0, b), (0, s), x7, x8]) rfl rfl rfl (by omega) (by omega) rfl ?_
        refine q_go (pc := 128) rfl ?_
        exact hk K m _ _ _ _ kT kF km m0 (by omega) (yyWr_s kW (by omega) rfl (fun _ _ _ => rfl)) k0 k1
      · replace h45 : s < (K.1 184 3) := h45
        refine q_al (pc := 46) (i := 0) (x := 183) rfl rfl ?_
        refine q_il (pc := 47) (i := 4) (x := l) rfl rfl ?_
        refine q_il (pc := 48) (i := 5) (x := b) rfl rfl ?_
        refine q_il (pc := 49) (i := 6) (x := s) rfl rfl ?_
        refine q_il (pc := 50) (i := 2) (x := w) rfl rfl ?_
        refine q_ic (pc := 51) (v := 1) rfl ?_
        refine q_i2 (pc := 52) rfl (fun h52 => ?_) (fun h52 => ?_)
        · replace h52 : w ≠ 1 := h52
          refine q_ic (pc := 55) (v := 0) rfl ?_
          refine q_iv (pc := 56) (q := 1888980) rfl rfl rfl (ttKc kT (a := 183) (κ := 12) (len := 0) ⟨rfl, rfl⟩ (by decide) (by decide)).1 ?_
          refine lf_periods (by omega) kT (by omega) (by omega) (by omega) (by omega) (fun t ht => ?_)
          refine q_is (pc := 57) (i := 7) (L' := [(2, 183), (0, p), (0, w), (0, r), (0, l), (0, b), (0, s), (0, t), x8]) rfl rfl rfl ?_
          refine q_il (pc := 58) (i := 7) (x := t) rfl rfl ?_
          refine q_ic (pc := 59) (v := (-1)) rfl ?_
          refine q_i2 (pc := 60) rfl (fun h60 => ?_) (fun h60 => ?_)
          · replace h60 : t ≠ (-1) := h60
            obtain ⟨k, hk5⟩ : ∃ k, k = 300 * r + 5 * m := ⟨_, rfl⟩
            replace ht : 1 ≤ t ∧ t ≤ 721 := by omega
            refine q_ic (pc := 62) (v := 300) rfl ?_
            refine q_il (pc := 63) (i := 3) (x := r) rfl rfl ?_
            refine q_im (pc := 64) rfl (by omega) (by omega) ?_
            refine q_ic (pc := 65) (v := 5) rfl ?_
            refine q_al (pc := 66) (i := 0) (x := 183) rfl rfl ?_
            refine q_gf (pc := 67) (m := 12202) (t := 2) (c := 20) rfl (ttKc kT (a := 183) (κ := 12) (len := 0) ⟨rfl, rfl⟩ (by decide) (by decide)).1 rfl rfl ?_
            rw [show K.1 183 20 = 190 from ttFx kT (by decide) (by decide) rfl rfl rfl]
            refine q_il (pc := 68) (i := 3) (x := r) rfl rfl ?_
            refine q_ai (pc := 69) rfl (ttKc kT (a := 190) (κ := 20) (len := 16) ⟨rfl, rfl⟩ (by decide) (by decide)).1 (by omega) (by rw [(ttKc kT (a := 190) (κ := 20) (len := 16) ⟨rfl, rfl⟩ (by decide) (by decide)).2]; omega) ?_
            rw [km]
            refine q_im (pc := 70) rfl (by omega) (by omega) ?_
            refine q_ia (pc := 71) rfl (by omega) (by omega) ?_
            rw [← hk5]
            refine q_is (pc := 72) (i := 8) (L' := [(2, 183), (0, p), (0, w), (0, r), (0, l), (0, b), (0, s), (0, t), (0, k)]) rfl rfl rfl ?_
            refine q_al (pc := 73) (i := 0) (x := 183) rfl rfl ?_
            refine q_gf (pc := 74) (m := 12212) (t := 2) (c := 21) rfl (ttKc kT (a := 183) (κ := 12) (len := 0) ⟨rfl, rfl⟩ (by decide) (by decide)).1 rfl rfl ?_
            rw [show K.1 183 21 = 191 from ttFx kT (by decide) (by decide) rfl rfl rfl]
            refine q_il (pc := 75) (i := 8) (x := k) rfl rfl ?_
            refine q_il (pc := 76) (i := 4) (x := l) rfl rfl ?_
            refine q_si (pc := 77) rfl (by decide) (ttKc kT (a := 191) (κ := 20) (len := 4800) ⟨rfl, rfl⟩ (by decide) (by decide)).1 (by omega) (by rw [(ttKc kT (a := 191) (κ := 20) (len := 4800) ⟨rfl, rfl⟩ (by decide) (by decide)).2]; omega) ?_
            have ujc1 := ttPuT kT kF (a := 191) (j := k) (x := l) (by decide) (fun _ _ => wy_pt (k := k) (c := 0) (by omega) (by omega) (by decide) (by decide) (show ttM _ (0, 0, 9) _ from ⟨(by omega : (0 : Int) ≤ l), (by omega : l ≤ 9)⟩)) ⟨(191, 0, 4799), List.mem_cons_of_mem _ (List.mem_cons_self ..), ⟨⟨by decide, rfl⟩, by show (0 : Int) ≤ k; omega, by show k ≤ 4799; omega⟩⟩
            have ujr1 : ∀ j : Int, j ≠ k → xUp K.1 191 k l 191 j = K.1 191 j := fun j hj => up_ne (by omega)
            have ujw1 : ∀ a j : Int, a ≠ 191 → xUp K.1 191 k l a j = K.1 a j := fun a j ha => up_na ha
            have uje1 : xUp K.1 191 k l 191 k = l := up_eq
            skip
            obtain ⟨ujK1, hK1⟩ : ∃ X : xH, X = (xUp K.1 191 k l, K.2) := ⟨_, rfl⟩
            rw [← hK1] at ujc1 ⊢
            rw [show xUp K.1 191 k l = ujK1.1 from by rw [hK1]] at ujr1 ujw1 uje1
            refine q_al (pc := 78) (i := 0) (x := 183) rfl rfl ?_
            refine q_gf (pc := 79) (m := 12212) (t := 2) (c := 21) rfl (ttKc ujc1.1 (a := 183) (κ := 12) (len := 0) ⟨rfl, rfl⟩ (by decide) (by decide)).1 rfl rfl ?_
            rw [show ujK1.1 183 21 = 191 from ttFx ujc1.1 (by decide) (by decide) rfl rfl rfl]
            refine q_il (pc := 80) (i := 8) (x := k) rfl rfl ?_
            refine q_ic (pc := 81) (v := 1) rfl ?_
            refine q_ia (pc := 82) rfl (by omega) (by omega) ?_
            refine q_il (pc := 83) (i := 6) (x := s) rfl rfl ?_
            refine q_si (pc := 84) rfl (by decide) (ttKc ujc1.1 (a := 191) (κ := 20) (len := 4800) ⟨rfl, rfl⟩ (by decide) (by decide)).1 (by omega) (by rw [(ttKc ujc1.1 (a := 191) (κ := 20) (len := 4800) ⟨rfl, rfl⟩ (by decide) (by decide)).2]; omega) ?_
            have ujc2 := ttPuT ujc1.1 ujc1.2 (a := 191) (j := (k + 1)) (x := s) (by decide) (fun _ _ => wy_pt (k := k) (c := 1) (by omega) (by omega) (by decide) (by decide) (show ttM _ (0, 0, 5) _ from ⟨(by omega : (0 : Int) ≤ s), (by omega : s ≤ 5)⟩)) ⟨(191, 0, 4799), List.mem_cons_of_mem _ (List.mem_cons_self ..), ⟨⟨by decide, rfl⟩, by show (0 : Int) ≤ (k + 1); omega, by show (k + 1) ≤ 4799; omega⟩⟩
            have ujr2 : ∀ j : Int, j ≠ (k + 1) → xUp ujK1.1 191 (k + 1) s 191 j = ujK1.1 191 j := fun j hj => up_ne (by omega)
            have ujw2 : ∀ a j : Int, a ≠ 191 → xUp ujK1.1 191 (k + 1) s a j = ujK1.1 a j := fun a j ha => up_na ha
            have uje2 : xUp ujK1.1 191 (k + 1) s 191 (k + 1) = s := up_eq
            skip
            obtain ⟨ujK2, hK2⟩ : ∃ X : xH, X = (xUp ujK1.1 191 (k + 1) s, ujK1.2) := ⟨_, rfl⟩
            rw [← hK2] at ujc2 ⊢
            rw [show xUp ujK1.1 191 (k + 1) s = ujK2.1 from by rw [hK2]] at ujr2 ujw2 uje2
            refine q_al (pc := 85) (i := 0) (x := 183) rfl rfl ?_
            refine q_gf (pc := 86) (m := 12212) (t := 2) (c := 21) rfl (ttKc ujc2.1 (a := 183) (κ := 12) (len := 0) ⟨rfl, rfl⟩ (by decide) (by decide)).1 rfl rfl ?_
            rw [show ujK2.1 183 21 = 191 from ttFx ujc2.1 (by decide) (by decide) rfl rfl rfl]
            refine q_il (pc := 87) (i := 8) (x := k) rfl rfl ?_
            refine q_ic (pc := 88) (v := 2) rfl ?_
            refine q_ia (pc := 89) rfl (by omega) (by omega) ?_
            refine q_al (pc := 90) (i := 0) (x := 183) rfl rfl ?_
            refine q_il (pc := 91) (i := 4) (x := l) rfl rfl ?_
            refine q_il (pc := 92) (i := 5) (x := b) rfl rfl ?_
            refine q_if (pc := 93) rfl (fun h93 => ?_) (fun h93 => ?_)
            · replace h93 : b = 0 := h93
              refine q_ic (pc := 96) (v := 1) rfl ?_
              refine q_iv (pc := 97) (q := 1672972) rfl rfl rfl (ttKc ujc2.1 (a := 183) (κ := 12) (len := 0) ⟨rfl, rfl⟩ (by decide) (by decide)).1 ?_
              refine lf_ofLeg (j := (85 + 6 * l)) (by omega) (by omega) ujc2.1 (by omega) (by omega) (by omega) (by omega) ?_
              refine q_si (pc := 98) rfl (by decide) (ttKc ujc2.1 (a := 191) (κ := 20) (len := 4800) ⟨rfl, rfl⟩ (by decide) (by decide)).1 (by omega) (by rw [(ttKc ujc2.1 (a := 191) (κ := 20) (len := 4800) ⟨rfl, rfl⟩ (by decide) (by decide)).2]; omega) ?_
              obtain ⟨y, hy⟩ : ∃ y, y = (ujK2.1 184 (85 + 6 * l)) := ⟨_, rfl⟩
              rw [← hy]
              have hy0 : 0 ≤ y ∧ y ≤ 7 ∧ y < H.1 184 1 := by
                have ujq6 : ∀ j : Int, ujK2.1 184 j = H.1 184 j := fun j => fr_no ujc2.2 184 (by omega) rfl (by decide)
                have := lg_ty hT l0 (by omega : l ≤ 9)
                rw [hy, ujq6]
                omega
              have ujc3 := ttPuT ujc2.1 ujc2.2 (a := 191) (j := (k + 2)) (x := y) (by decide) (fun _ _ => wy_pt (k := k) (c := 2) (by omega) (by omega) (by decide) (by decide) (show ttM _ (0, 0, 7) _ from ⟨(by omega : (0 : Int) ≤ y), (by omega : y ≤ 7)⟩)) ⟨(191, 0, 4799), List.mem_cons_of_mem _ (List.mem_cons_self ..), ⟨⟨by decide, rfl⟩, by show (0 : Int) ≤ (k + 2); omega, by show (k + 2) ≤ 4799; omega⟩⟩
              have ujr3 : ∀ j : Int, j ≠ (k + 2) → xUp ujK2.1 191 (k + 2) y 191 j = ujK2.1 191 j := fun j hj => up_ne (by omega)
              have ujw3 : ∀ a j : Int, a ≠ 191 → xUp ujK2.1 191 (k + 2) y a j = ujK2.1 a j := fun a j ha => up_na ha
              have uje3 : xUp ujK2.1 191 (k + 2) y 191 (k + 2) = y := up_eq
              skip
              obtain ⟨ujK3, hK3⟩ : ∃ X : xH, X = (xUp ujK2.1 191 (k + 2) y, ujK2.2) := ⟨_, rfl⟩
              rw [← hK3] at ujc3 ⊢
              rw [show xUp ujK2.1 191 (k + 2) y = ujK3.1 from by rw [hK3]] at ujr3 ujw3 uje3
              refine q_al (pc := 99) (i := 0) (x := 183) rfl rfl ?_
              refine q_gf (pc := 100) (m := 12212) (t := 2) (c := 21) rfl (ttKc ujc3.1 (a := 183) (κ := 12) (len := 0) ⟨rfl, rfl⟩ (by decide) (by decide)).1 rfl rfl ?_
              rw [show ujK3.1 183 21 = 191 from ttFx ujc3.1 (by decide) (by decide) rfl rfl rfl]
              refine q_il (pc := 101) (i := 8) (x := k) rfl rfl ?_
              refine q_ic (pc := 102) (v := 3) rfl ?_
              refine q_ia (pc := 103) rfl (by omega) (by omega) ?_
              refine q_il (pc := 104) (i := 7) (x := t) rfl rfl ?_
              refine q_si (pc := 105) rfl (by decide) (ttKc ujc3.1 (a := 191) (κ := 20) (len := 4800) ⟨rfl, rfl⟩ (by decide) (by decide)).1 (by omega) (by rw [(ttKc ujc3.1 (a := 191) (κ := 20) (len := 4800) ⟨rfl, rfl⟩ (by decide) (by decide)).2]; omega) ?_
              have ujc4 := ttPuT ujc3.1 ujc3.2 (a := 191) (j := (k + 3)) (x := t) (by decide) (fun _ _ => wy_pt (k := k) (c := 3) (by omega) (by omega) (by decide) (by decide) (show ttM _ (0, 0, 721) _ from ⟨(by omega : (0 : Int) ≤ t), (by omega : t ≤ 721)⟩)) ⟨(191, 0, 4799), List.mem_cons_of_mem _ (List.mem_cons_self ..), ⟨⟨by decide, rfl⟩, by show (0 : Int) ≤ (k + 3); omega, by show (k + 3) ≤ 4799; omega⟩⟩
              have ujr4 : ∀ j : Int, j ≠ (k + 3) → xUp ujK3.1 191 (k + 3) t 191 j = ujK3.1 191 j := fun j hj => up_ne (by omega)
              have ujw4 : ∀ a j : Int, a ≠ 191 → xUp ujK3.1 191 (k + 3) t a j = ujK3.1 a j := fun a j ha => up_na ha
              have uje4 : xUp ujK3.1 191 (k + 3) t 191 (k + 3) = t := up_eq
              skip
              obtain ⟨ujK4, hK4⟩ : ∃ X : xH, X = (xUp ujK3.1 191 (k + 3) t, ujK3.2) := ⟨_, rfl⟩
              rw [← hK4] at ujc4 ⊢
              rw [show xUp ujK3.1 191 (k + 3) t = ujK4.1 from by rw [hK4]] at ujr4 ujw4 uje4
              refine q_al (pc := 106) (i := 0) (x := 183) rfl rfl ?_
              refine q_gf (pc := 107) (m := 12212) (t := 2) (c := 21) rfl (ttKc ujc4.1 (a := 183) (κ := 12) (len := 0) ⟨rfl, rfl⟩ (by decide) (by decide)).1 rfl rfl ?_
              rw [show ujK4.1 183 21 = 191 from ttFx ujc4.1 (by decide) (by decide) rfl rfl rfl]
              refine q_il (pc := 108) (i := 8) (x := k) rfl rfl ?_
              refine q_ic (pc := 109) (v := 4) rfl ?_
              refine q_ia (pc := 110) rfl (by omega) (by omega) ?_
              refine q_al (pc := 111) (i := 0) (x := 183) rfl rfl ?_
              refine q_il (pc := 112) (i := 4) (x := l) rfl rfl ?_
              refine q_il (pc := 113) (i := 6) (x := s) rfl rfl ?_
              refine q_il (pc := 114) (i := 7) (x := t) rfl rfl ?_
              refine q_iv (pc := 115) (q := 1896976) rfl rfl rfl (ttKc ujc4.1 (a := 183) (κ := 12) (len := 0) ⟨rfl, rfl⟩ (by decide) (by decide)).1 ?_
              refine lf_loss (by omega) ujc4.1 (by omega) (by omega) (by omega) (by omega) (by omega) (by omega) (fun x hx => ?_)
              refine q_si (pc := 116) rfl (by decide) (ttKc ujc4.1 (a := 191) (κ := 20) (len := 4800) ⟨rfl, rfl⟩ (by decide) (by decide)).1 (by omega) (by rw [(ttKc ujc4.1 (a := 191) (κ := 20) (len := 4800) ⟨rfl, rfl⟩ (by decide) (by decide)).2]; omega) ?_
              have ujc5 := ttPuT ujc4.1 ujc4.2 (a := 191) (j := (k + 4)) (x := x) (by decide) (fun _ _ => wy_pt (k := k) (c := 4) (by omega) (by omega) (by decide) (by decide) (show ttM _ (0, (-2147483648), 2147483647) _ from ⟨(by omega : (-2147483648 : Int) ≤ x), (by omega : x ≤ 2147483647)⟩)) ⟨(191, 0, 4799), List.mem_cons_of_mem _ (List.mem_cons_self ..), ⟨⟨by decide, rfl⟩, by show (0 : Int) ≤ (k + 4); omega, by show (k + 4) ≤ 4799; omega⟩⟩
              have ujr5 : ∀ j : Int, j ≠ (k + 4) → xUp ujK4.1 191 (k + 4) x 191 j = ujK4.1 191 j := fun j hj => up_ne (by omega)
              have ujw5 : ∀ a j : Int, a ≠ 191 → xUp ujK4.1 191 (k + 4) x a j = ujK4.1 a j := fun a j ha => up_na ha
              have uje5 : xUp ujK4.1 191 (k + 4) x 191 (k + 4) = x := up_eq
              skip
              obtain ⟨ujK5, hK5⟩ : ∃ X : xH, X = (xUp ujK4.1 191 (k + 4) x, ujK4.2) := ⟨_, rfl⟩
              rw [← hK5] at ujc5 ⊢
              rw [show xUp ujK4.1 191 (k + 4) x = ujK5.1 from by rw [hK5]] at ujr5 ujw5 uje5
              refine q_al (pc := 117) (i := 0) (x := 183) rfl rfl ?_
              refine q_gf (pc := 118) (m := 12202) (t := 2) (c := 20) rfl (ttKc ujc5.1 (a := 183) (κ := 12) (len := 0) ⟨rfl, rfl⟩ (by decide) (by decide)).1 rfl rfl ?_
              rw [show ujK5.1 183 20 = 190 from ttFx ujc5.1 (by decide) (by decide) rfl rfl rfl]
              refine q_il (pc := 119) (i := 3) (x := r) rfl rfl ?_
              refine q_dd (pc := 120) rfl ?_
              refine q_ai (pc := 121) rfl (ttKc ujc5.1 (a := 190) (κ := 20) (len := 16) ⟨rfl, rfl⟩ (by decide) (by decide)).1 (by omega) (by rw [(ttKc ujc5.1 (a := 190) (κ := 20) (len := 16) ⟨rfl, rfl⟩ (by decide) (by decide)).2]; omega) ?_
              rw [show ujK5.1 190 r = m from (ujw5 190 r (by decide)).trans ((ujw4 190 r (by decide)).trans ((ujw3 190 r (by decide)).trans ((ujw2 190 r (by decide)).trans ((ujw1 190 r (by decide)).trans km))))]
              refine q_ic (pc := 122) (v := 1) rfl ?_
              refine q_ia (pc := 123) rfl (by omega) (by omega) ?_
              refine q_si (pc := 124) rfl (by decide) (ttKc ujc5.1 (a := 190) (κ := 20) (len := 16) ⟨rfl, rfl⟩ (by decide) (by decide)).1 (by omega) (by rw [(ttKc ujc5.1 (a := 190) (κ := 20) (len := 16) ⟨rfl, rfl⟩ (by decide) (by decide)).2]; omega) ?_
              have ujc6 := ttPuT ujc5.1 ujc5.2 (a := 190) (j := r) (x := m + 1) (by decide) (fun _ _ => ttTyr rfl (by omega) (by omega)) ⟨(190, 0, 15), List.mem_cons_self .., ⟨⟨by decide, rfl⟩, by show (0 : Int) ≤ r; omega, by show r ≤ 15; omega⟩⟩
              have ujr6 : ∀ j : Int, j ≠ r → xUp ujK5.1 190 r (m + 1) 190 j = ujK5.1 190 j := fun j hj => up_ne (by omega)
              have ujw6 : ∀ a j : Int, a ≠ 190 → xUp ujK5.1 190 r (m + 1) a j = ujK5.1 a j := fun a j ha => up_na ha
              have uje6 : xUp ujK5.1 190 r (m + 1) 190 r = (m + 1) := up_eq
              skip
              obtain ⟨ujK6, hK6⟩ : ∃ X : xH, X = (xUp ujK5.1 190 r (m + 1), ujK5.2) := ⟨_, rfl⟩
              rw [← hK6] at ujc6 ⊢
              rw [show xUp ujK5.1 190 r (m + 1) = ujK6.1 from by rw [hK6]] at ujr6 ujw6 uje6
              refine q_ii (pc := 125) (i := 6) (c := 1) (x := s) (L' := [(2, 183), (0, p), (0, w), (0, r), (0, l), (0, b), (0, (s + 1)), (0, t), (0, k)]) rfl rfl rfl (by omega) (by omega) rfl ?_
              refine q_go (pc := 126) rfl ?_
              have ro : ∀ j : Int, ¬ (k ≤ j ∧ j < k + 5) → ujK6.1 191 j = K.1 191 j := fun j hj => (ujw6 191 j (by decide)).trans ((ujr5 j (by omega)).trans ((ujr4 j (by omega)).trans ((ujr3 j (by omega)).trans ((ujr2 j (by omega)).trans (ujr1 j (by omega))))))
              have ujq0 : ujK6.1 191 k = l := (ujw6 191 _ (by decide)).trans ((ujr5 _ (by omega)).trans ((ujr4 _ (by omega)).trans ((ujr3 _ (by omega)).trans ((ujr2 _ (by omega)).trans uje1))))
              have ujq1 : ujK6.1 191 (k + 1) = s := (ujw6 191 _ (by decide)).trans ((ujr5 _ (by omega)).trans ((ujr4 _ (by omega)).trans ((ujr3 _ (by omega)).trans uje2)))
              have ujq2 : ujK6.1 191 (k + 2) = y := (ujw6 191 _ (by decide)).trans ((ujr5 _ (by omega)).trans ((ujr4 _ (by omega)).trans uje3))
              have ujq3 : ujK6.1 191 (k + 3) = t := (ujw6 191 _ (by decide)).trans ((ujr5 _ (by omega)).trans uje4)
              have ujq6 : ∀ j : Int, ujK6.1 184 j = H.1 184 j := fun j => fr_no ujc6.2 184 (by omega) rfl (by decide)
              have kW6 : yyWr ujK6.1 r (10 * l + s) m := yyWr_s kW (by omega) ((ujq6 1).trans (kw 1).symm) (fun j _ _ => ro j (by omega))
              rw [hk5] at ujq0 ujq1 ujq2 ujq3
              exact ih ujK6 (m + 1) (s + 1) b _ _ hb (by omega) (by omega) (by omega) ujc6.1 ujc6.2 uje6 (by omega) (by omega) (show yyWr ujK6.1 r (10 * l + (s + 1)) (m + 1) from by rw [show 10 * l + (s + 1) = 10 * l + s + 1 by omega]; exact yyWr_a kW6 (by rw [ujq2, ujq6 1]; omega) (by rw [ujq3]; omega) (by rw [ujq0, ujq1])) (fun j hj => (ujr6 j hj).trans ((ujw5 190 j (by decide)).trans ((ujw4 190 j (by decide)).trans ((ujw3 190 j (by decide)).trans ((ujw2 190 j (by decide)).trans ((ujw1 190 j (by decide)).trans (k0 j hj))))))) (fun j hj => (ro j (by omega)).trans (k1 j hj))
            · replace h93 : b ≠ 0 := h93
              refine q_ic (pc := 94) (v := 0) rfl ?_
              refine q_go (pc := 95) rfl ?_
              refine q_iv (pc := 97) (q := 1672972) rfl rfl rfl (ttKc ujc2.1 (a := 183) (κ := 12) (len := 0) ⟨rfl, rfl⟩ (by decide) (by decide)).1 ?_
              refine lf_ofLeg (j := (84 + 6 * l)) (by omega) (by omega) ujc2.1 (by omega) (by omega) (by omega) (by omega) ?_
              refine q_si (pc := 98) rfl (by decide) (ttKc ujc2.1 (a := 191) (κ := 20) (len := 4800) ⟨rfl, rfl⟩ (by decide) (by decide)).1 (by omega) (by rw [(ttKc ujc2.1 (a := 191) (κ := 20) (len := 4800) ⟨rfl, rfl⟩ (by decide) (by decide)).2]; omega) ?_
              obtain ⟨y, hy⟩ : ∃ y, y = (ujK2.1 184 (84 + 6 * l)) := ⟨_, rfl⟩
              rw [← hy]
              have hy0 : 0 ≤ y ∧ y ≤ 7 ∧ y < H.1 184 1 := by
                have ujq6 : ∀ j : Int, ujK2.1 184 j = H.1 184 j := fun j => fr_no ujc2.2 184 (by omega) rfl (by decide)
                have := lg_ty hT l0 (by omega : l ≤ 9)
                rw [hy, ujq6]
                omega
              have ujc3 := ttPuT ujc2.1 ujc2.2 (a := 191) (j := (k + 2)) (x := y) (by decide) (fun _ _ => wy_pt (k := k) (c := 2) (by omega) (by omega) (by decide) (by decide) (show ttM _ (0, 0, 7) _ from ⟨(by omega : (0 : Int) ≤ y), (by omega : y ≤ 7)⟩)) ⟨(191, 0, 4799), List.mem_cons_of_mem _ (List.mem_cons_self ..), ⟨⟨by decide, rfl⟩, by show (0 : Int) ≤ (k + 2); omega, by show (k + 2) ≤ 4799; omega⟩⟩
              have ujr3 : ∀ j : Int, j ≠ (k + 2) → xUp ujK2.1 191 (k + 2) y 191 j = ujK2.1 191 j := fun j hj => up_ne (by omega)
              have ujw3 : ∀ a j : Int, a ≠ 191 → xUp ujK2.1 191 (k + 2) y a j = ujK2.1 a j := fun a j ha => up_na ha
              have uje3 : xUp ujK2.1 191 (k + 2) y 191 (k + 2) = y := up_eq
              skip
              obtain ⟨ujK3, hK3⟩ : ∃ X : xH, X = (xUp ujK2.1 191 (k + 2) y, ujK2.2) := ⟨_, rfl⟩
              rw [← hK3] at ujc3 ⊢
              rw [show xUp ujK2.1 191 (k + 2) y = ujK3.1 from by rw [hK3]] at ujr3 ujw3 uje3
              refine q_al (pc := 99) (i := 0) (x := 183) rfl rfl ?_
              refine q_gf (pc := 100) (m := 12212) (t := 2) (c := 21) rfl (ttKc ujc3.1 (a := 183) (κ := 12) (len := 0) ⟨rfl, rfl⟩ (by decide) (by decide)).1 rfl rfl ?_
              rw [show ujK3.1 183 21 = 191 from ttFx ujc3.1 (by decide) (by decide) rfl rfl rfl]
              refine q_il (pc := 101) (i := 8) (x := k) rfl rfl ?_
              refine q_ic (pc := 102) (v := 3) rfl ?_
              refine q_ia (pc := 103) rfl (by omega) (by omega) ?_
              refine q_il (pc := 104) (i := 7) (x := t) rfl rfl ?_
              refine q_si (pc := 105) rfl (by decide) (ttKc ujc3.1 (a := 191) (κ := 20) (len := 4800) ⟨rfl, rfl⟩ (by decide) (by decide)).1 (by omega) (by rw [(ttKc ujc3.1 (a := 191) (κ := 20) (len := 4800) ⟨rfl, rfl⟩ (by decide) (by decide)).2]; omega) ?_
              have ujc4 := ttPuT ujc3.1 ujc3.2 (a := 191) (j := (k + 3)) (x := t) (by decide) (fun _ _ => wy_pt (k := k) (c := 3) (by omega) (by omega) (by decide) (by decide) (show ttM _ (0, 0, 721) _ from ⟨(by omega : (0 : Int) ≤ t), (by omega : t ≤ 721)⟩)) ⟨(191, 0, 4799), List.mem_cons_of_mem _ (List.mem_cons_self ..), ⟨⟨by decide, rfl⟩, by show (0 : Int) ≤ (k + 3); omega, by show (k + 3) ≤ 4799; omega⟩⟩
              have ujr4 : ∀ j : Int, j ≠ (k + 3) → xUp ujK3.1 191 (k + 3) t 191 j = ujK3.1 191 j := fun j hj => up_ne (by omega)
              have ujw4 : ∀ a j : Int, a ≠ 191 → xUp ujK3.1 191 (k + 3) t a j = ujK3.1 a j := fun a j ha => up_na ha
              have uje4 : xUp ujK3.1 191 (k + 3) t 191 (k + 3) = t := up_eq
              skip
              obtain ⟨ujK4, hK4⟩ : ∃ X : xH, X = (xUp ujK3.1 191 (k + 3) t, ujK3.2) := ⟨_, rfl⟩
              rw [← hK4] at ujc4 ⊢
              rw [show xUp ujK3.1 191 (k + 3) t = ujK4.1 from by rw [hK4]] at ujr4 ujw4 uje4
              refine q_al (pc := 106) (i := 0) (x := 183) rfl rfl ?_
              refine q_gf (pc := 107) (m := 12212) (t := 2) (c := 21) rfl (ttKc ujc4.1 (a := 183) (κ := 12) (len := 0) ⟨rfl, rfl⟩ (by decide) (by decide)).1 rfl rfl ?_
              rw [show ujK4.1 183 21 = 191 from ttFx ujc4.1 (by decide) (by decide) rfl rfl rfl]
              refine q_il (pc := 108) (i := 8) (x := k) rfl rfl ?_
              refine q_ic (pc := 109) (v := 4) rfl ?_
              refine q_ia (pc := 110) rfl (by omega) (by omega) ?_
              refine q_al (pc := 111) (i := 0) (x := 183) rfl rfl ?_
              refine q_il (pc := 112) (i := 4) (x := l) rfl rfl ?_
              refine q_il (pc := 113) (i := 6) (x := s) rfl rfl ?_
              refine q_il (pc := 114) (i := 7) (x := t) rfl rfl ?_
              refine q_iv (pc := 115) (q := 1896976) rfl rfl rfl (ttKc ujc4.1 (a := 183) (κ := 12) (len := 0) ⟨rfl, rfl⟩ (by decide) (by decide)).1 ?_
              refine lf_loss (by omega) ujc4.1 (by omega) (by omega) (by omega) (by omega) (by omega) (by omega) (fun x hx => ?_)
              refine q_si (pc := 116) rfl (by decide) (ttKc ujc4.1 (a := 191) (κ := 20) (len := 4800) ⟨rfl, rfl⟩ (by decide) (by decide)).1 (by omega) (by rw [(ttKc ujc4.1 (a := 191) (κ := 20) (len := 4800) ⟨rfl, rfl⟩ (by decide) (by decide)).2]; omega) ?_
              have ujc5 := ttPuT ujc4.1 ujc4.2 (a := 191) (j := (k + 4)) (x := x) (by decide) (fun _ _ => wy_pt (k := k) (c := 4) (by omega) (by omega) (by decide) (by decide) (show ttM _ (0, (-2147483648), 2147483647) _ from ⟨(by omega : (-2147483648 : Int) ≤ x), (by omega : x ≤ 2147483647)⟩)) ⟨(191, 0, 4799), List.mem_cons_of_mem _ (List.mem_cons_self ..), ⟨⟨by decide, rfl⟩, by show (0 : Int) ≤ (k + 4); omega, by show (k + 4) ≤ 4799; omega⟩⟩
              have ujr5 : ∀ j : Int, j ≠ (k + 4) → xUp ujK4.1 191 (k + 4) x 191 j = ujK4.1 191 j := fun j hj => up_ne (by omega)
              have ujw5 : ∀ a j : Int, a ≠ 191 → xUp ujK4.1 191 (k + 4) x a j = ujK4.1 a j := fun a j ha => up_na ha
              have uje5 : xUp ujK4.1 191 (k + 4) x 191 (k + 4) = x := up_eq
              skip
              obtain ⟨ujK5, hK5⟩ : ∃ X : xH, X = (xUp ujK4.1 191 (k + 4) x, ujK4.2) := ⟨_, rfl⟩
              rw [← hK5] at ujc5 ⊢
              rw [show xUp ujK4.1 191 (k + 4) x = ujK5.1 from by rw [hK5]] at ujr5 ujw5 uje5
              refine q_al (pc := 117) (i := 0) (x := 183) rfl rfl ?_
              refine q_gf (pc := 118) (m := 12202) (t := 2) (c := 20) rfl (ttKc ujc5.1 (a := 183) (κ := 12) (len := 0) ⟨rfl, rfl⟩ (by decide) (by decide)).1 rfl rfl ?_
              rw [show ujK5.1 183 20 = 190 from ttFx ujc5.1 (by decide) (by decide) rfl rfl rfl]
              refine q_il (pc := 119) (i := 3) (x := r) rfl rfl ?_
              refine q_dd (pc := 120) rfl ?_
              refine q_ai (pc := 121) rfl (ttKc ujc5.1 (a := 190) (κ := 20) (len := 16) ⟨rfl, rfl⟩ (by decide) (by decide)).1 (by omega) (by rw [(ttKc ujc5.1 (a := 190) (κ := 20) (len := 16) ⟨rfl, rfl⟩ (by decide) (by decide)).2]; omega) ?_
              rw [show ujK5.1 190 r = m from (ujw5 190 r (by decide)).trans ((ujw4 190 r (by decide)).trans ((ujw3 190 r (by decide)).trans ((ujw2 190 r (by decide)).trans ((ujw1 190 r (by decide)).trans km))))]
              refine q_ic (pc := 122) (v := 1) rfl ?_
              refine q_ia (pc := 123) rfl (by omega) (by omega) ?_
              refine q_si (pc := 124) rfl (by decide) (ttKc ujc5.1 (a := 190) (κ := 20) (len := 16) ⟨rfl, rfl⟩ (by decide) (by decide)).1 (by omega) (by rw [(ttKc ujc5.1 (a := 190) (κ := 20) (len := 16) ⟨rfl, rfl⟩ (by decide) (by decide)).2]; omega) ?_
              have ujc6 := ttPuT ujc5.1 ujc5.2 (a := 190) (j := r) (x := m + 1) (by decide) (fun _ _ => ttTyr rfl (by omega) (by omega)) ⟨(190, 0, 15), List.mem_cons_self .., ⟨⟨by decide, rfl⟩, by show (0 : Int) ≤ r; omega, by show r ≤ 15; omega⟩⟩
              have ujr6 : ∀ j : Int, j ≠ r → xUp ujK5.1 190 r (m + 1) 190 j = ujK5.1 190 j := fun j hj => up_ne (by omega)
              have ujw6 : ∀ a j : Int, a ≠ 190 → xUp ujK5.1 190 r (m + 1) a j = ujK5.1 a j := fun a j ha => up_na ha
              have uje6 : xUp ujK5.1 190 r (m + 1) 190 r = (m + 1) := up_eq
              skip
              obtain ⟨ujK6, hK6⟩ : ∃ X : xH, X = (xUp ujK5.1 190 r (m + 1), ujK5.2) := ⟨_, rfl⟩
              rw [← hK6] at ujc6 ⊢
              rw [show xUp ujK5.1 190 r (m + 1) = ujK6.1 from by rw [hK6]] at ujr6 ujw6 uje6
              refine q_ii (pc := 125) (i := 6) (c := 1) (x := s) (L' := [(2, 183), (0, p), (0, w), (0, r), (0, l), (0, b), (0, (s + 1)), (0, t), (0, k)]) rfl rfl rfl (by omega) (by omega) rfl ?_
              refine q_go (pc := 126) rfl ?_
              have ro : ∀ j : Int, ¬ (k ≤ j ∧ j < k + 5) → ujK6.1 191 j = K.1 191 j := fun j hj => (ujw6 191 j (by decide)).trans ((ujr5 j (by omega)).trans ((ujr4 j (by omega)).trans ((ujr3 j (by omega)).trans ((ujr2 j (by omega)).trans (ujr1 j (by omega))))))
              have ujq0 : ujK6.1 191 k = l := (ujw6 191 _ (by decide)).trans ((ujr5 _ (by omega)).trans ((ujr4 _ (by omega)).trans ((ujr3 _ (by omega)).trans ((ujr2 _ (by omega)).trans uje1))))
              have ujq1 : ujK6.1 191 (k + 1) = s := (ujw6 191 _ (by decide)).trans ((ujr5 _ (by omega)).trans ((ujr4 _ (by omega)).trans ((ujr3 _ (by omega)).trans uje2)))
              have ujq2 : ujK6.1 191 (k + 2) = y := (ujw6 191 _ (by decide)).trans ((ujr5 _ (by omega)).trans ((ujr4 _ (by omega)).trans uje3))
              have ujq3 : ujK6.1 191 (k + 3) = t := (ujw6 191 _ (by decide)).trans ((ujr5 _ (by omega)).trans uje4)
              have ujq6 : ∀ j : Int, ujK6.1 184 j = H.1 184 j := fun j => fr_no ujc6.2 184 (by omega) rfl (by decide)
              have kW6 : yyWr ujK6.1 r (10 * l + s) m := yyWr_s kW (by omega) ((ujq6 1).trans (kw 1).symm) (fun j _ _ => ro j (by omega))
              rw [hk5] at ujq0 ujq1 ujq2 ujq3
              exact ih ujK6 (m + 1) (s + 1) b _ _ hb (by omega) (by omega) (by omega) ujc6.1 ujc6.2 uje6 (by omega) (by omega) (show yyWr ujK6.1 r (10 * l + (s + 1)) (m + 1) from by rw [show 10 * l + (s + 1) = 10 * l + s + 1 by omega]; exact yyWr_a kW6 (by rw [ujq2, ujq6 1]; omega) (by rw [ujq3]; omega) (by rw [ujq0, ujq1])) (fun j hj => (ujr6 j hj).trans ((ujw5 190 j (by decide)).trans ((ujw4 190 j (by decide)).trans ((ujw3 190 j (by decide)).trans ((ujw2 190 j (by decide)).trans ((ujw1 190 j (by decide)).trans (k0 j hj))))))) (fun j hj => (ro j (by omega)).trans (k1 j hj))
          · replace h60 : t = (-1) := h60
            refine q_go (pc := 61) rfl ?_
            refine q_ii (pc := 125) (i := 6) (c := 1) (x := s) (L' := [(2, 183), (0, p), (0, w), (0, r), (0, l), (0, b), (0, (s + 1)), (0, t), x8]) rfl rfl rfl (by omega) (by omega) rfl ?_
            refine q_go (pc := 126) rfl ?_
            exact ih K m (s + 1) b _ _ hb (by omega) (by omega) (by omega) kT kF km m0 (by omega) (yyWr_s kW (by omega) rfl (fun _ _ _ => rfl)) k0 k1
        · replace h52 : w = 1 := h52
          refine q_ic (pc := 53) (v := 1) rfl ?_
          refine q_go (pc := 54) rfl ?_
          refine q_iv (pc := 56) (q := 1888980) rfl rfl rfl (ttKc kT (a := 183) (κ := 12) (len := 0) ⟨rfl, rfl⟩ (by decide) (by decide)).1 ?_
          refine lf_periods (by omega) kT (by omega) (by omega) (by omega) (by omega) (fun t ht => ?_)
          refine q_is (pc := 57) (i := 7) (L' := [(2, 183), (0, p), (0, w), (0, r), (0, l), (0, b), (0, s), (0, t), x8]) rfl rfl rfl ?_
          refine q_il (pc := 58) (i := 7) (x := t) rfl rfl ?_
          refine q_ic (pc := 59) (v := (-1)) rfl ?_
          refine q_i2 (pc := 60) rfl (fun h60 => ?_) (fun h60 => ?_)
          · replace h60 : t ≠ (-1) := h60
            obtain ⟨k, hk5⟩ : ∃ k, k = 300 * r + 5 * m := ⟨_, rfl⟩
            replace ht : 1 ≤ t ∧ t ≤ 721 := by omega
            refine q_ic (pc := 62) (v := 300) rfl ?_
            refine q_il (pc := 63) (i := 3) (x := r) rfl rfl ?_
            refine q_im (pc := 64) rfl (by omega) (by omega) ?_
            refine q_ic (pc := 65) (v := 5) rfl ?_
            refine q_al (pc := 66) (i := 0) (x := 183) rfl rfl ?_
            refine q_gf (pc := 67) (m := 12202) (t := 2) (c := 20) rfl (ttKc kT (a := 183) (κ := 12) (len := 0) ⟨rfl, rfl⟩ (by decide) (by decide)).1 rfl rfl ?_
            rw [show K.1 183 20 = 190 from ttFx kT (by decide) (by decide) rfl rfl rfl]
            refine q_il (pc := 68) (i := 3) (x := r) rfl rfl ?_
            refine q_ai (pc := 69) rfl (ttKc kT (a := 190) (κ := 20) (len := 16) ⟨rfl, rfl⟩ (by decide) (by decide)).1 (by omega) (by rw [(ttKc kT (a := 190) (κ := 20) (len := 16) ⟨rfl, rfl⟩ (by decide) (by decide)).2]; omega) ?_
            rw [km]
            refine q_im (pc := 70) rfl (by omega) (by omega) ?_
            refine q_ia (pc := 71) rfl (by omega) (by omega) ?_
            rw [← hk5]
            refine q_is (pc := 72) (i := 8) (L' := [(2, 183), (0, p), (0, w), (0, r), (0, l), (0, b), (0, s), (0, t), (0, k)]) rfl rfl rfl ?_
            refine q_al (pc := 73) (i := 0) (x := 183) rfl rfl ?_
            refine q_gf (pc := 74) (m := 12212) (t := 2) (c := 21) rfl (ttKc kT (a := 183) (κ := 12) (len := 0) ⟨rfl, rfl⟩ (by decide) (by decide)).1 rfl rfl ?_
            rw [show K.1 183 21 = 191 from ttFx kT (by decide) (by decide) rfl rfl rfl]
            refine q_il (pc := 75) (i := 8) (x := k) rfl rfl ?_
            refine q_il (pc := 76) (i := 4) (x := l) rfl rfl ?_
            refine q_si (pc := 77) rfl (by decide) (ttKc kT (a := 191) (κ := 20) (len := 4800) ⟨rfl, rfl⟩ (by decide) (by decide)).1 (by omega) (by rw [(ttKc kT (a := 191) (κ := 20) (len := 4800) ⟨rfl, rfl⟩ (by decide) (by decide)).2]; omega) ?_
            have ujc1 := ttPuT kT kF (a := 191) (j := k) (x := l) (by decide) (fun _ _ => wy_pt (k := k) (c := 0) (by omega) (by omega) (by decide) (by decide) (show ttM _ (0, 0, 9) _ from ⟨(by omega : (0 : Int) ≤ l), (by omega : l ≤ 9)⟩)) ⟨(191, 0, 4799), List.mem_cons_of_mem _ (List.mem_cons_self ..), ⟨⟨by decide, rfl⟩, by show (0 : Int) ≤ k; omega, by show k ≤ 4799; omega⟩⟩
            have ujr1 : ∀ j : Int, j ≠ k → xUp K.1 191 k l 191 j = K.1 191 j := fun j hj => up_ne (by omega)
            have ujw1 : ∀ a j : Int, a ≠ 191 → xUp K.1 191 k l a j = K.1 a j := fun a j ha => up_na ha
            have uje1 : xUp K.1 191 k l 191 k = l := up_eq
            skip
            obtain ⟨ujK1, hK1⟩ : ∃ X : xH, X = (xUp K.1 191 k l, K.2) := ⟨_, rfl⟩
            rw [← hK1] at ujc1 ⊢
            rw [show xUp K.1 191 k l = ujK1.1 from by rw [hK1]] at ujr1 ujw1 uje1
            refine q_al (pc := 78) (i := 0) (x := 183) rfl rfl ?_
            refine q_gf (pc := 79) (m := 12212) (t := 2) (c := 21) rfl (ttKc ujc1.1 (a := 183) (κ := 12) (len := 0) ⟨rfl, rfl⟩ (by decide) (by decide)).1 rfl rfl ?_
            rw [show ujK1.1 183 21 = 191 from ttFx ujc1.1 (by decide) (by decide) rfl rfl rfl]
            refine q_il (pc := 80) (i := 8) (x := k) rfl rfl ?_
            refine q_ic (pc := 81) (v := 1) rfl ?_
            refine q_ia (pc := 82) rfl (by omega) (by omega) ?_
            refine q_il (pc := 83) (i := 6) (x := s) rfl rfl ?_
            refine q_si (pc := 84) rfl (by decide) (ttKc ujc1.1 (a := 191) (κ := 20) (len := 4800) ⟨rfl, rfl⟩ (by decide) (by decide)).1 (by omega) (by rw [(ttKc ujc1.1 (a := 191) (κ := 20) (len := 4800) ⟨rfl, rfl⟩ (by decide) (by decide)).2]; omega) ?_
            have ujc2 := ttPuT ujc1.1 ujc1.2 (a := 191) (j := (k + 1)) (x := s) (by decide) (fun _ _ => wy_pt (k := k) (c := 1) (by omega) (by omega) (by decide) (by decide) (show ttM _ (0, 0, 5) _ from ⟨(by omega : (0 : Int) ≤ s), (by omega : s ≤ 5)⟩)) ⟨(191, 0, 4799), List.mem_cons_of_mem _ (List.mem_cons_self ..), ⟨⟨by decide, rfl⟩, by show (0 : Int) ≤ (k + 1); omega, by show (k + 1) ≤ 4799; omega⟩⟩
            have ujr2 : ∀ j : Int, j ≠ (k + 1) → xUp ujK1.1 191 (k + 1) s 191 j = ujK1.1 191 j := fun j hj => up_ne (by omega)
            have ujw2 : ∀ a j : Int, a ≠ 191 → xUp ujK1.1 191 (k + 1) s a j = ujK1.1 a j := fun a j ha => up_na ha
            have uje2 : xUp ujK1.1 191 (k + 1) s 191 (k + 1) = s := up_eq
            skip
            obtain ⟨ujK2, hK2⟩ : ∃ X : xH, X = (xUp ujK1.1 191 (k + 1) s, ujK1.2) := ⟨_, rfl⟩
            rw [← hK2] at ujc2 ⊢
            rw [show xUp ujK1.1 191 (k + 1) s = ujK2.1 from by rw [hK2]] at ujr2 ujw2 uje2
            refine q_al (pc := 85) (i := 0) (x := 183) rfl rfl ?_
            refine q_gf (pc := 86) (m := 12212) (t := 2) (c := 21) rfl (ttKc ujc2.1 (a := 183) (κ := 12) (len := 0) ⟨rfl, rfl⟩ (by decide) (by decide)).1 rfl rfl ?_
            rw [show ujK2.1 183 21 = 191 from ttFx ujc2.1 (by decide) (by decide) rfl rfl rfl]
            refine q_il (pc := 87) (i := 8) (x := k) rfl rfl ?_
            refine q_ic (pc := 88) (v := 2) rfl ?_
            refine q_ia (pc := 89) rfl (by omega) (by omega) ?_
            refine q_al (pc := 90) (i := 0) (x := 183) rfl rfl ?_
            refine q_il (pc := 91) (i := 4) (x := l) rfl rfl ?_
            refine q_il (pc := 92) (i := 5) (x := b) rfl rfl ?_
            refine q_if (pc := 93) rfl (fun h93 => ?_) (fun h93 => ?_)
            · replace h93 : b = 0 := h93
              refine q_ic (pc := 96) (v := 1) rfl ?_
              refine q_iv (pc := 97) (q := 1672972) rfl rfl rfl (ttKc ujc2.1 (a := 183) (κ := 12) (len := 0) ⟨rfl, rfl⟩ (by decide) (by decide)).1 ?_
              refine lf_ofLeg (j := (85 + 6 * l)) (by omega) (by omega) ujc2.1 (by omega) (by omega) (by omega) (by omega) ?_
              refine q_si (pc := 98) rfl (by decide) (ttKc ujc2.1 (a := 191) (κ := 20) (len := 4800) ⟨rfl, rfl⟩ (by decide) (by decide)).1 (by omega) (by rw [(ttKc ujc2.1 (a := 191) (κ := 20) (len := 4800) ⟨rfl, rfl⟩ (by decide) (by decide)).2]; omega) ?_
              obtain ⟨y, hy⟩ : ∃ y, y = (ujK2.1 184 (85 + 6 * l)) := ⟨_, rfl⟩
              rw [← hy]
              have hy0 : 0 ≤ y ∧ y ≤ 7 ∧ y < H.1 184 1 := by
                have ujq6 : ∀ j : Int, ujK2.1 184 j = H.1 184 j := fun j => fr_no ujc2.2 184 (by omega) rfl (by decide)
                have := lg_ty hT l0 (by omega : l ≤ 9)
                rw [hy, ujq6]
                omega
              have ujc3 := ttPuT ujc2.1 ujc2.2 (a := 191) (j := (k + 2)) (x := y) (by decide) (fun _ _ => wy_pt (k := k) (c := 2) (by omega) (by omega) (by decide) (by decide) (show ttM _ (0, 0, 7) _ from ⟨(by omega : (0 : Int) ≤ y), (by omega : y ≤ 7)⟩)) ⟨(191, 0, 4799), List.mem_cons_of_mem _ (List.mem_cons_self ..), ⟨⟨by decide, rfl⟩, by show (0 : Int) ≤ (k + 2); omega, by show (k + 2) ≤ 4799; omega⟩⟩
              have ujr3 : ∀ j : Int, j ≠ (k + 2) → xUp ujK2.1 191 (k + 2) y 191 j = ujK2.1 191 j := fun j hj => up_ne (by omega)
              have ujw3 : ∀ a j : Int, a ≠ 191 → xUp ujK2.1 191 (k + 2) y a j = ujK2.1 a j := fun a j ha => up_na ha
              have uje3 : xUp ujK2.1 191 (k + 2) y 191 (k + 2) = y := up_eq
              skip
              obtain ⟨ujK3, hK3⟩ : ∃ X : xH, X = (xUp ujK2.1 191 (k + 2) y, ujK2.2) := ⟨_, rfl⟩
              rw [← hK3] at ujc3 ⊢
              rw [show xUp ujK2.1 191 (k + 2) y = ujK3.1 from by rw [hK3]] at ujr3 ujw3 uje3
              refine q_al (pc := 99) (i := 0) (x := 183) rfl rfl ?_
              refine q_gf (pc := 100) (m := 12212) (t := 2) (c := 21) rfl (ttKc ujc3.1 (a := 183) (κ := 12) (len := 0) ⟨rfl, rfl⟩ (by decide) (by decide)).1 rfl rfl ?_
              rw [show ujK3.1 183 21 = 191 from ttFx ujc3.1 (by decide) (by decide) rfl rfl rfl]
              refine q_il (pc := 101) (i := 8) (x := k) rfl rfl ?_
              refine q_ic (pc := 102) (v := 3) rfl ?_
              refine q_ia (pc := 103) rfl (by omega) (by omega) ?_
              refine q_il (pc := 104) (i := 7) (x := t) rfl rfl ?_
              refine q_si (pc := 105) rfl (by decide) (ttKc ujc3.1 (a := 191) (κ := 20) (len := 4800) ⟨rfl, rfl⟩ (by decide) (by decide)).1 (by omega) (by rw [(ttKc ujc3.1 (a := 191) (κ := 20) (len := 4800) ⟨rfl, rfl⟩ (by decide) (by decide)).2]; omega) ?_
              have ujc4 := ttPuT ujc3.1 ujc3.2 (a := 191) (j := (k + 3)) (x := t) (by decide) (fun _ _ => wy_pt (k := k) (c := 3) (by omega) (by omega) (by decide) (by decide) (show ttM _ (0, 0, 721) _ from ⟨(by omega : (0 : Int) ≤ t), (by omega : t ≤ 721)⟩)) ⟨(191, 0, 4799), List.mem_cons_of_mem _ (List.mem_cons_self ..), ⟨⟨by decide, rfl⟩, by show (0 : Int) ≤ (k + 3); omega, by show (k + 3) ≤ 4799; omega⟩⟩
              have ujr4 : ∀ j : Int, j ≠ (k + 3) → xUp ujK3.1 191 (k + 3) t 191 j = ujK3.1 191 j := fun j hj => up_ne (by omega)
              have ujw4 : ∀ a j : Int, a ≠ 191 → xUp ujK3.1 191 (k + 3) t a j = ujK3.1 a j := fun a j ha => up_na ha
              have uje4 : xUp ujK3.1 191 (k + 3) t 191 (k + 3) = t := up_eq
              skip
              obtain ⟨ujK4, hK4⟩ : ∃ X : xH, X = (xUp ujK3.1 191 (k + 3) t, ujK3.2) := ⟨_, rfl⟩
              rw [← hK4] at ujc4 ⊢
              rw [show xUp ujK3.1 191 (k + 3) t = ujK4.1 from by rw [hK4]] at ujr4 ujw4 uje4
              refine q_al (pc := 106) (i := 0) (x := 183) rfl rfl ?_
              refine q_gf (pc := 107) (m := 12212) (t := 2) (c := 21) rfl (ttKc ujc4.1 (a := 183) (κ := 12) (len := 0) ⟨rfl, rfl⟩ (by decide) (by decide)).1 rfl rfl ?_
              rw [show ujK4.1 183 21 = 191 from ttFx ujc4.1 (by decide) (by decide) rfl rfl rfl]
              refine q_il (pc := 108) (i := 8) (x := k) rfl rfl ?_
              refine q_ic (pc := 109) (v := 4) rfl ?_
              refine q_ia (pc := 110) rfl (by omega) (by omega) ?_
              refine q_al (pc := 111) (i := 0) (x := 183) rfl rfl ?_
              refine q_il (pc := 112) (i := 4) (x := l) rfl rfl ?_
              refine q_il (pc := 113) (i := 6) (x := s) rfl rfl ?_
              refine q_il (pc := 114) (i := 7) (x := t) rfl rfl ?_
              refine q_iv (pc := 115) (q := 1896976) rfl rfl rfl (ttKc ujc4.1 (a := 183) (κ := 12) (len := 0) ⟨rfl, rfl⟩ (by decide) (by decide)).1 ?_
              refine lf_loss (by omega) ujc4.1 (by omega) (by omega) (by omega) (by omega) (by omega) (by omega) (fun x hx => ?_)
              refine q_si (pc := 116) rfl (by decide) (ttKc ujc4.1 (a := 191) (κ := 20) (len := 4800) ⟨rfl, rfl⟩ (by decide) (by decide)).1 (by omega) (by rw [(ttKc ujc4.1 (a := 191) (κ := 20) (len := 4800) ⟨rfl, rfl⟩ (by decide) (by decide)).2]; omega) ?_
              have ujc5 := ttPuT ujc4.1 ujc4.2 (a := 191) (j := (k + 4)) (x := x) (by decide) (fun _ _ => wy_pt (k := k) (c := 4) (by omega) (by omega) (by decide) (by decide) (show ttM _ (0, (-2147483648), 2147483647) _ from ⟨(by omega : (-2147483648 : Int) ≤ x), (by omega : x ≤ 2147483647)⟩)) ⟨(191, 0, 4799), List.mem_cons_of_mem _ (List.mem_cons_self ..), ⟨⟨by decide, rfl⟩, by show (0 : Int) ≤ (k + 4); omega, by show (k + 4) ≤ 4799; omega⟩⟩
              have ujr5 : ∀ j : Int, j ≠ (k + 4) → xUp ujK4.1 191 (k + 4) x 191 j = ujK4.1 191 j := fun j hj => up_ne (by omega)
              have ujw5 : ∀ a j : Int, a ≠ 191 → xUp ujK4.1 191 (k + 4) x a j = ujK4.1 a j := fun a j ha => up_na ha
              have uje5 : xUp ujK4.1 191 (k + 4) x 191 (k + 4) = x := up_eq
              skip
              obtain ⟨ujK5, hK5⟩ : ∃ X : xH, X = (xUp ujK4.1 191 (k + 4) x, ujK4.2) := ⟨_, rfl⟩
              rw [← hK5] at ujc5 ⊢
              rw [show xUp ujK4.1 191 (k + 4) x = ujK5.1 from by rw [hK5]] at ujr5 ujw5 uje5
              refine q_al (pc := 117) (i := 0) (x := 183) rfl rfl ?_
              refine q_gf (pc := 118) (m := 12202) (t := 2) (c := 20) rfl (ttKc ujc5.1 (a := 183) (κ := 12) (len := 0) ⟨rfl, rfl⟩ (by decide) (by decide)).1 rfl rfl ?_
              rw [show ujK5.1 183 20 = 190 from ttFx ujc5.1 (by decide) (by decide) rfl rfl rfl]
              refine q_il (pc := 119) (i := 3) (x := r) rfl rfl ?_
              refine q_dd (pc := 120) rfl ?_
              refine q_ai (pc := 121) rfl (ttKc ujc5.1 (a := 190) (κ := 20) (len := 16) ⟨rfl, rfl⟩ (by decide) (by decide)).1 (by omega) (by rw [(ttKc ujc5.1 (a := 190) (κ := 20) (len := 16) ⟨rfl, rfl⟩ (by decide) (by decide)).2]; omega) ?_
              rw [show ujK5.1 190 r = m from (ujw5 190 r (by decide)).trans ((ujw4 190 r (by decide)).trans ((ujw3 190 r (by decide)).trans ((ujw2 190 r (by decide)).trans ((ujw1 190 r (by decide)).trans km))))]
              refine q_ic (pc := 122) (v := 1) rfl ?_
              refine q_ia (pc := 123) rfl (by omega) (by omega) ?_
              refine q_si (pc := 124) rfl (by decide) (ttKc ujc5.1 (a := 190) (κ := 20) (len := 16) ⟨rfl, rfl⟩ (by decide) (by decide)).1 (by omega) (by rw [(ttKc ujc5.1 (a := 190) (κ := 20) (len := 16) ⟨rfl, rfl⟩ (by decide) (by decide)).2]; omega) ?_
              have ujc6 := ttPuT ujc5.1 ujc5.2 (a := 190) (j := r) (x := m + 1) (by decide) (fun _ _ => ttTyr rfl (by omega) (by omega)) ⟨(190, 0, 15), List.mem_cons_self .., ⟨⟨by decide, rfl⟩, by show (0 : Int) ≤ r; omega, by show r ≤ 15; omega⟩⟩
              have ujr6 : ∀ j : Int, j ≠ r → xUp ujK5.1 190 r (m + 1) 190 j = ujK5.1 190 j := fun j hj => up_ne (by omega)
              have ujw6 : ∀ a j : Int, a ≠ 190 → xUp ujK5.1 190 r (m + 1) a j = ujK5.1 a j := fun a j ha => up_na ha
              have uje6 : xUp ujK5.1 190 r (m + 1) 190 r = (m + 1) := up_eq
              skip
              obtain ⟨ujK6, hK6⟩ : ∃ X : xH, X = (xUp ujK5.1 190 r (m + 1), ujK5.2) := ⟨_, rfl⟩
              rw [← hK6] at ujc6 ⊢
              rw [show xUp ujK5.1 190 r (m + 1) = ujK6.1 from by rw [hK6]] at ujr6 ujw6 uje6
              refine q_ii (pc := 125) (i := 6) (c := 1) (x := s) (L' := [(2, 183), (0, p), (0, w), (0, r), (0, l), (0, b), (0, (s + 1)), (0, t), (0, k)]) rfl rfl rfl (by omega) (by omega) rfl ?_
              refine q_go (pc := 126) rfl ?_
              have ro : ∀ j : Int, ¬ (k ≤ j ∧ j < k + 5) → ujK6.1 191 j = K.1 191 j := fun j hj => (ujw6 191 j (by decide)).trans ((ujr5 j (by omega)).trans ((ujr4 j (by omega)).trans ((ujr3 j (by omega)).trans ((ujr2 j (by omega)).trans (ujr1 j (by omega))))))
              have ujq0 : ujK6.1 191 k = l := (ujw6 191 _ (by decide)).trans ((ujr5 _ (by omega)).trans ((ujr4 _ (by omega)).trans ((ujr3 _ (by omega)).trans ((ujr2 _ (by omega)).trans uje1))))
              have ujq1 : ujK6.1 191 (k + 1) = s := (ujw6 191 _ (by decide)).trans ((ujr5 _ (by omega)).trans ((ujr4 _ (by omega)).trans ((ujr3 _ (by omega)).trans uje2)))
              have ujq2 : ujK6.1 191 (k + 2) = y := (ujw6 191 _ (by decide)).trans ((ujr5 _ (by omega)).trans ((ujr4 _ (by omega)).trans uje3))
              have ujq3 : ujK6.1 191 (k + 3) = t := (ujw6 191 _ (by decide)).trans ((ujr5 _ (by omega)).trans uje4)
              have ujq6 : ∀ j : Int, ujK6.1 184 j = H.1 184 j := fun j => fr_no ujc6.2 184 (by omega) rfl (by decide)
              have kW6 : yyWr ujK6.1 r (10 * l + s) m := yyWr_s kW (by omega) ((ujq6 1).trans (kw 1).symm) (fun j _ _ => ro j (by omega))
              rw [hk5] at ujq0 ujq1 ujq2 ujq3
              exact ih ujK6 (m + 1) (s + 1) b _ _ hb (by omega) (by omega) (by omega) ujc6.1 ujc6.2 uje6 (by omega) (by omega) (show yyWr ujK6.1 r (10 * l + (s + 1)) (m + 1) from by rw [show 10 * l + (s + 1) = 10 * l + s + 1 by omega]; exact yyWr_a kW6 (by rw [ujq2, ujq6 1]; omega) (by rw [ujq3]; omega) (by rw [ujq0, ujq1])) (fun j hj => (ujr6 j hj).trans ((ujw5 190 j (by decide)).trans ((ujw4 190 j (by decide)).trans ((ujw3 190 j (by decide)).trans ((ujw2 190 j (by decide)).trans ((ujw1 190 j (by decide)).trans (k0 j hj))))))) (fun j hj => (ro j (by omega)).trans (k1 j hj))
            · replace h93 : b ≠ 0 := h93
              refine q_ic (pc := 94) (v := 0) rfl ?_
              refine q_go (pc := 95) rfl ?_
              refine q_iv (pc := 97) (q := 1672972) rfl rfl rfl (ttKc ujc2.1 (a := 183) (κ := 12) (len := 0) ⟨rfl, rfl⟩ (by decide) (by decide)).1 ?_
              refine lf_ofLeg (j := (84 + 6 * l)) (by omega) (by omega) ujc2.1 (by omega) (by omega) (by omega) (by omega) ?_
              refine q_si (pc := 98) rfl (by decide) (ttKc ujc2.1 (a := 191) (κ := 20) (len := 4800) ⟨rfl, rfl⟩ (by decide) (by decide)).1 (by omega) (by rw [(ttKc ujc2.1 (a := 191) (κ := 20) (len := 4800) ⟨rfl, rfl⟩ (by decide) (by decide)).2]; omega) ?_
              obtain ⟨y, hy⟩ : ∃ y, y = (ujK2.1 184 (84 + 6 * l)) := ⟨_, rfl⟩
              rw [← hy]
              have hy0 : 0 ≤ y ∧ y ≤ 7 ∧ y < H.1 184 1 := by
                have ujq6 : ∀ j : Int, ujK2.1 184 j = H.1 184 j := fun j => fr_no ujc2.2 184 (by omega) rfl (by decide)
                have := lg_ty hT l0 (by omega : l ≤ 9)
                rw [hy, ujq6]
                omega
              have ujc3 := ttPuT ujc2.1 ujc2.2 (a := 191) (j := (k + 2)) (x := y) (by decide) (fun _ _ => wy_pt (k := k) (c := 2) (by omega) (by omega) (by decide) (by decide) (show ttM _ (0, 0, 7) _ from ⟨(by omega : (0 : Int) ≤ y), (by omega : y ≤ 7)⟩)) ⟨(191, 0, 4799), List.mem_cons_of_mem _ (List.mem_cons_self ..), ⟨⟨by decide, rfl⟩, by show (0 : Int) ≤ (k + 2); omega, by show (k + 2) ≤ 4799; omega⟩⟩
              have ujr3 : ∀ j : Int, j ≠ (k + 2) → xUp ujK2.1 191 (k + 2) y 191 j = ujK2.1 191 j := fun j hj => up_ne (by omega)
              have ujw3 : ∀ a j : Int, a ≠ 191 → xUp ujK2.1 191 (k + 2) y a j = ujK2.1 a j := fun a j ha => up_na ha
              have uje3 : xUp ujK2.1 191 (k + 2) y 191 (k + 2) = y := up_eq
              skip
              obtain ⟨ujK3, hK3⟩ : ∃ X : xH, X = (xUp ujK2.1 191 (k + 2) y, ujK2.2) := ⟨_, rfl⟩
              rw [← hK3] at ujc3 ⊢
              rw [show xUp ujK2.1 191 (k + 2) y = ujK3.1 from by rw [hK3]] at ujr3 ujw3 uje3
              refine q_al (pc := 99) (i := 0) (x := 183) rfl rfl ?_
              refine q_gf (pc := 100) (m := 12212) (t := 2) (c := 21) rfl (ttKc ujc3.1 (a := 183) (κ := 12) (len := 0) ⟨rfl, rfl⟩ (by decide) (by decide)).1 rfl rfl ?_
              rw [show ujK3.1 183 21 = 191 from ttFx ujc3.1 (by decide) (by decide) rfl rfl rfl]
              refine q_il (pc := 101) (i := 8) (x := k) rfl rfl ?_
              refine q_ic (pc := 102) (v := 3) rfl ?_
              refine q_ia (pc := 103) rfl (by omega) (by omega) ?_
              refine q_il (pc := 104) (i := 7) (x := t) rfl rfl ?_
              refine q_si (pc := 105) rfl (by decide) (ttKc ujc3.1 (a := 191) (κ := 20) (len := 4800) ⟨rfl, rfl⟩ (by decide) (by decide)).1 (by omega) (by rw [(ttKc ujc3.1 (a := 191) (κ := 20) (len := 4800) ⟨rfl, rfl⟩ (by decide) (by decide)).2]; omega) ?_
              have ujc4 := ttPuT ujc3.1 ujc3.2 (a := 191) (j := (k + 3)) (x := t) (by decide) (fun _ _ => wy_pt (k := k) (c := 3) (by omega) (by omega) (by decide) (by decide) (show ttM _ (0, 0, 721) _ from ⟨(by omega : (0 : Int) ≤ t), (by omega : t ≤ 721)⟩)) ⟨(191, 0, 4799), List.mem_cons_of_mem _ (List.mem_cons_self ..), ⟨⟨by decide, rfl⟩, by show (0 : Int) ≤ (k + 3); omega, by show (k + 3) ≤ 4799; omega⟩⟩
              have ujr4 : ∀ j : Int, j ≠ (k + 3) → xUp ujK3.1 191 (k + 3) t 191 j = ujK3.1 191 j := fun j hj => up_ne (by omega)
              have ujw4 : ∀ a j : Int, a ≠ 191 → xUp ujK3.1 191 (k + 3) t a j = ujK3.1 a j := fun a j ha => up_na ha
              have uje4 : xUp ujK3.1 191 (k + 3) t 191 (k + 3) = t := up_eq
              skip
              obtain ⟨ujK4, hK4⟩ : ∃ X : xH, X = (xUp ujK3.1 191 (k + 3) t, ujK3.2) := ⟨_, rfl⟩
              rw [← hK4] at ujc4 ⊢
              rw [show xUp ujK3.1 191 (k + 3) t = ujK4.1 from by rw [hK4]] at ujr4 ujw4 uje4
              refine q_al (pc := 106) (i := 0) (x := 183) rfl rfl ?_
              refine q_gf (pc := 107) (m := 12212) (t := 2) (c := 21) rfl (ttKc ujc4.1 (a := 183) (κ := 12) (len := 0) ⟨rfl, rfl⟩ (by decide) (by decide)).1 rfl rfl ?_
              rw [show ujK4.1 183 21 = 191 from ttFx ujc4.1 (by decide) (by decide) rfl rfl rfl]
              refine q_il (pc := 108) (i := 8) (x := k) rfl rfl ?_
              refine q_ic (pc := 109) (v := 4) rfl ?_
              refine q_ia (pc := 110) rfl (by omega) (by omega) ?_
              refine q_al (pc := 111) (i := 0) (x := 183) rfl rfl ?_
              refine q_il (pc := 112) (i := 4) (x := l) rfl rfl ?_
              refine q_il (pc := 113) (i := 6) (x := s) rfl rfl ?_
              refine q_il (pc := 114) (i := 7) (x := t) rfl rfl ?_
              refine q_iv (pc := 115) (q := 1896976) rfl rfl rfl (ttKc ujc4.1 (a := 183) (κ := 12) (len := 0) ⟨rfl, rfl⟩ (by decide) (by decide)).1 ?_
              refine lf_loss (by omega) ujc4.1 (by omega) (by omega) (by omega) (by omega) (by omega) (by omega) (fun x hx => ?_)
              refine q_si (pc := 116) rfl (by decide) (ttKc ujc4.1 (a := 191) (κ := 20) (len := 4800) ⟨rfl, rfl⟩ (by decide) (by decide)).1 (by omega) (by rw [(ttKc ujc4.1 (a := 191) (κ := 20) (len := 4800) ⟨rfl, rfl⟩ (by decide) (by decide)).2]; omega) ?_
              have ujc5 := ttPuT ujc4.1 ujc4.2 (a := 191) (j := (k + 4)) (x := x) (by decide) (fun _ _ => wy_pt (k := k) (c := 4) (by omega) (by omega) (by decide) (by decide) (show ttM _ (0, (-2147483648), 2147483647) _ from ⟨(by omega : (-2147483648 : Int) ≤ x), (by omega : x ≤ 2147483647)⟩)) ⟨(191, 0, 4799), List.mem_cons_of_mem _ (List.mem_cons_self ..), ⟨⟨by decide, rfl⟩, by show (0 : Int) ≤ (k + 4); omega, by show (k + 4) ≤ 4799; omega⟩⟩
              have ujr5 : ∀ j : Int, j ≠ (k + 4) → xUp ujK4.1 191 (k + 4) x 191 j = ujK4.1 191 j := fun j hj => up_ne (by omega)
              have ujw5 : ∀ a j : Int, a ≠ 191 → xUp ujK4.1 191 (k + 4) x a j = ujK4.1 a j := fun a j ha => up_na ha
              have uje5 : xUp ujK4.1 191 (k + 4) x 191 (k + 4) = x := up_eq
              skip
              obtain ⟨ujK5, hK5⟩ : ∃ X : xH, X = (xUp ujK4.1 191 (k + 4) x, ujK4.2) := ⟨_, rfl⟩
              rw [← hK5] at ujc5 ⊢
              rw [show xUp ujK4.1 191 (k + 4) x = ujK5.1 from by rw [hK5]] at ujr5 ujw5 uje5
              refine q_al (pc := 117) (i := 0) (x := 183) rfl rfl ?_
              refine q_gf (pc := 118) (m := 12202) (t := 2) (c := 20) rfl (ttKc ujc5.1 (a := 183) (κ := 12) (len := 0) ⟨rfl, rfl⟩ (by decide) (by decide)).1 rfl rfl ?_
              rw [show ujK5.1 183 20 = 190 from ttFx ujc5.1 (by decide) (by decide) rfl rfl rfl]
              refine q_il (pc := 119) (i := 3) (x := r) rfl rfl ?_
              refine q_dd (pc := 120) rfl ?_
              refine q_ai (pc := 121) rfl (ttKc ujc5.1 (a := 190) (κ := 20) (len := 16) ⟨rfl, rfl⟩ (by decide) (by decide)).1 (by omega) (by rw [(ttKc ujc5.1 (a := 190) (κ := 20) (len := 16) ⟨rfl, rfl⟩ (by decide) (by decide)).2]; omega) ?_
              rw [show ujK5.1 190 r = m from (ujw5 190 r (by decide)).trans ((ujw4 190 r (by decide)).trans ((ujw3 190 r (by decide)).trans ((ujw2 190 r (by decide)).trans ((ujw1 190 r (by decide)).trans km))))]
              refine q_ic (pc := 122) (v := 1) rfl ?_
              refine q_ia (pc := 123) rfl (by omega) (by omega) ?_
              refine q_si (pc := 124) rfl (by decide) (ttKc ujc5.1 (a := 190) (κ := 20) (len := 16) ⟨rfl, rfl⟩ (by decide) (by decide)).1 (by omega) (by rw [(ttKc ujc5.1 (a := 190) (κ := 20) (len := 16) ⟨rfl, rfl⟩ (by decide) (by decide)).2]; omega) ?_
              have ujc6 := ttPuT ujc5.1 ujc5.2 (a := 190) (j := r) (x := m + 1) (by decide) (fun _ _ => ttTyr rfl (by omega) (by omega)) ⟨(190, 0, 15), List.mem_cons_self .., ⟨⟨by decide, rfl⟩, by show (0 : Int) ≤ r; omega, by show r ≤ 15; omega⟩⟩
              have ujr6 : ∀ j : Int, j ≠ r → xUp ujK5.1 190 r (m + 1) 190 j = ujK5.1 190 j := fun j hj => up_ne (by omega)
              have ujw6 : ∀ a j : Int, a ≠ 190 → xUp ujK5.1 190 r (m + 1) a j = ujK5.1 a j := fun a j ha => up_na ha
              have uje6 : xUp ujK5.1 190 r (m + 1) 190 r = (m + 1) := up_eq
              skip
              obtain ⟨ujK6, hK6⟩ : ∃ X : xH, X = (xUp ujK5.1 190 r (m + 1), ujK5.2) := ⟨_, rfl⟩
              rw [← hK6] at ujc6 ⊢
              rw [show xUp ujK5.1 190 r (m + 1) = ujK6.1 from by rw [hK6]] at ujr6 ujw6 uje6
              refine q_ii (pc := 125) (i := 6) (c := 1) (x := s) (L' := [(2, 183), (0, p), (0, w), (0, r), (0, l), (0, b), (0, (s + 1)), (0, t), (0, k)]) rfl rfl rfl (by omega) (by omega) rfl ?_
              refine q_go (pc := 126) rfl ?_
              have ro : ∀ j : Int, ¬ (k ≤ j ∧ j < k + 5) → ujK6.1 191 j = K.1 191 j := fun j hj => (ujw6 191 j (by decide)).trans ((ujr5 j (by omega)).trans ((ujr4 j (by omega)).trans ((ujr3 j (by omega)).trans ((ujr2 j (by omega)).trans (ujr1 j (by omega))))))
              have ujq0 : ujK6.1 191 k = l := (ujw6 191 _ (by decide)).trans ((ujr5 _ (by omega)).trans ((ujr4 _ (by omega)).trans ((ujr3 _ (by omega)).trans ((ujr2 _ (by omega)).trans uje1))))
              have ujq1 : ujK6.1 191 (k + 1) = s := (ujw6 191 _ (by decide)).trans ((ujr5 _ (by omega)).trans ((ujr4 _ (by omega)).trans ((ujr3 _ (by omega)).trans uje2)))
              have ujq2 : ujK6.1 191 (k + 2) = y := (ujw6 191 _ (by decide)).trans ((ujr5 _ (by omega)).trans ((ujr4 _ (by omega)).trans uje3))
              have ujq3 : ujK6.1 191 (k + 3) = t := (ujw6 191 _ (by decide)).trans ((ujr5 _ (by omega)).trans uje4)
              have ujq6 : ∀ j : Int, ujK6.1 184 j = H.1 184 j := fun j => fr_no ujc6.2 184 (by omega) rfl (by decide)
              have kW6 : yyWr ujK6.1 r (10 * l + s) m := yyWr_s kW (by omega) ((ujq6 1).trans (kw 1).symm) (fun j _ _ => ro j (by omega))
              rw [hk5] at ujq0 ujq1 ujq2 ujq3
              exact ih ujK6 (m + 1) (s + 1) b _ _ hb (by omega) (by omega) (by omega) ujc6.1 ujc6.2 uje6 (by omega) (by omega) (show yyWr ujK6.1 r (10 * l + (s + 1)) (m + 1) from by rw [show 10 * l + (s + 1) = 10 * l + s + 1 by omega]; exact yyWr_a kW6 (by rw [ujq2, ujq6 1]; omega) (by rw [ujq3]; omega) (by rw [ujq0, ujq1])) (fun j hj => (ujr6 j hj).trans ((ujw5 190 j (by decide)).trans ((ujw4 190 j (by decide)).trans ((ujw3 190 j (by decide)).trans ((ujw2 190 j (by decide)).trans ((ujw1 190 j (by decide)).trans (k0 j hj))))))) (fun j hj => (ro j (by omega)).trans (k1 j hj))
          · replace h60 : t = (-1) := h60
            refine q_go (pc := 61) rfl ?_
            refine q_ii (pc := 125) (i := 6) (c := 1) (x := s) (L' := [(2, 183), (0, p), (0, w), (0, r), (0, l), (0, b), (0, (s + 1)), (0, t), x8]) rfl rfl rfl (by omega) (by omega) rfl ?_
            refine q_go (pc := 126) rfl ?_
            exact ih K m (s + 1) b _ _ hb (by omega) (by omega) (by omega) kT kF km m0 (by omega) (yyWr_s kW (by omega) rfl (fun _ _ _ => rfl)) k0 k1
  have hl : ∀ n : Nat, ∀ (K : xH) (m l : Int) (x5 x6 x7 x8 : xV), 0 ≤ l → l ≤ 10 → 10 - l ≤ (n : Int) → ttTI K → ttFr (true, [(190, 0, 15), (191, 0, 4799)]) H K → K.1 190 r = m → 0 ≤ m → m ≤ 6 * l → yyWr K.1 r (10 * l) m → (∀ j : Int, j ≠ r → K.1 190 j = H.1 190 j) → (∀ j : Int, ¬ (300 * r ≤ j ∧ j < 300 * r + 300) → K.1 191 j = H.1 191 j) → xW e cd_251 Q (13, [(2, 183), (0, p), (0, w), (0, r), (0, l), x5, x6, x7, x8], [], K) := by
    intro n
    induction n with
    | zero =>
      intro K m l x5 x6 x7 x8 l0 l1 hn2 kT kF km m0 m1 kW k0 k1
      have kw : ∀ j : Int, K.1 184 j = H.1 184 j := fun j => fr_no kF 184 (by omega) rfl (by decide)
      have kw2 := kw 2
      refine q_il (pc := 13) (i := 4) (x := l) rfl rfl ?_
      refine q_al (pc := 14) (i := 0) (x := 183) rfl rfl ?_
      refine q_gf (pc := 15) (m := 12012) (t := 2) (c := 1) rfl (ttKc kT (a := 183) (κ := 12) (len := 0) ⟨rfl, rfl⟩ (by decide) (by decide)).1 rfl rfl ?_
      rw [show K.1 183 1 = 184 from ttFx kT (by decide) (by decide) rfl rfl rfl]
      refine q_ic (pc := 16) (v := 2) rfl ?_
      refine q_ai (pc := 17) rfl (ttKc kT (a := 184) (κ := 20) (len := 196) ⟨rfl, rfl⟩ (by decide) (by decide)).1 (by omega) (by rw [(ttKc kT (a := 184) (κ := 20) (len := 196) ⟨rfl, rfl⟩ (by decide) (by decide)).2]; omega) ?_
      refine q_i2 (pc := 18) rfl (fun h18 => ?_) (fun h18 => ?_)
      · replace h18 : (K.1 184 2) ≤ l := h18
        refine q_rv (pc := 129) rfl ?_
        exact hQ K m kT kF km (yyWr_s kW (by omega) rfl (fun _ _ _ => rfl)) k0 k1
      · replace h18 : l < (K.1 184 2) := h18
        omega
    | succ n ih =>
      intro K m l x5 x6 x7 x8 l0 l1 hn2 kT kF km m0 m1 kW k0 k1
      have kw : ∀ j : Int, K.1 184 j = H.1 184 j := fun j => fr_no kF 184 (by omega) rfl (by decide)
      have kw2 := kw 2
      refine q_il (pc := 13) (i := 4) (x := l) rfl rfl ?_
      refine q_al (pc := 14) (i := 0) (x := 183) rfl rfl ?_
      refine q_gf (pc := 15) (m := 12012) (t := 2) (c := 1) rfl (ttKc kT (a := 183) (κ := 12) (len := 0) ⟨rfl, rfl⟩ (by decide) (by decide)).1 rfl rfl ?_
      rw [show K.1 183 1 = 184 from ttFx kT (by decide) (by decide) rfl rfl rfl]
      refine q_ic (pc := 16) (v := 2) rfl ?_
      refine q_ai (pc := 17) rfl (ttKc kT (a := 184) (κ := 20) (len := 196) ⟨rfl, rfl⟩ (by decide) (by decide)).1 (by omega) (by rw [(ttKc kT (a := 184) (κ := 20) (len := 196) ⟨rfl, rfl⟩ (by decide) (by decide)).2]; omega) ?_
      refine q_i2 (pc := 18) rfl (fun h18 => ?_) (fun h18 => ?_)
      · replace h18 : (K.1 184 2) ≤ l := h18
        refine q_rv (pc := 129) rfl ?_
        exact hQ K m kT kF km (yyWr_s kW (by omega) rfl (fun _ _ _ => rfl)) k0 k1
      · replace h18 : l < (K.1 184 2) := h18
        refine q_al (pc := 19) (i := 0) (x := 183) rfl rfl ?_
        refine q_il (pc := 20) (i := 4) (x := l) rfl rfl ?_
        refine q_ic (pc := 21) (v := 1) rfl ?_
        refine q_iv (pc := 22) (q := 1672972) rfl rfl rfl (ttKc kT (a := 183) (κ := 12) (len := 0) ⟨rfl, rfl⟩ (by decide) (by decide)).1 ?_
        refine lf_ofLeg (j := (85 + 6 * l)) (by omega) (by omega) kT (by omega) (by omega) (by omega) (by omega) ?_
        refine q_il (pc := 23) (i := 1) (x := p) rfl rfl ?_
        refine q_i2 (pc := 24) rfl (fun h24 => ?_) (fun h24 => ?_)
        · replace h24 : (K.1 184 (85 + 6 * l)) ≠ p := h24
          refine q_ic (pc := 27) (v := 0) rfl ?_
          refine q_is (pc := 28) (i := 5) (L' := [(2, 183), (0, p), (0, w), (0, r), (0, l), (0, 0), x6, x7, x8]) rfl rfl rfl ?_
          refine q_il (pc := 29) (i := 5) (x := 0) rfl rfl ?_
          refine q_if (pc := 30) rfl (fun h30 => ?_) (fun h30 => ?_)
          · replace h30 : (0 : Int) ≠ 0 := h30
            omega
          · replace h30 : (0 : Int) = 0 := h30
            refine q_al (pc := 31) (i := 0) (x := 183) rfl rfl ?_
            refine q_il (pc := 32) (i := 4) (x := l) rfl rfl ?_
            refine q_ic (pc := 33) (v := 0) rfl ?_
            refine q_iv (pc := 34) (q := 1672972) rfl rfl rfl (ttKc kT (a := 183) (κ := 12) (len := 0) ⟨rfl, rfl⟩ (by decide) (by decide)).1 ?_
            refine lf_ofLeg (j := (84 + 6 * l)) (by omega) (by omega) kT (by omega) (by omega) (by omega) (by omega) ?_
            refine q_il (pc := 35) (i := 1) (x := p) rfl rfl ?_
            refine q_i2 (pc := 36) rfl (fun h36 => ?_) (fun h36 => ?_)
            · replace h36 : (K.1 184 (84 + 6 * l)) = p := h36
              refine q_ic (pc := 38) (v := 0) rfl ?_
              refine q_is (pc := 39) (i := 6) (L' := [(2, 183), (0, p), (0, w), (0, r), (0, l), (0, 0), (0, 0), x7, x8]) rfl rfl rfl ?_
              refine hs l l0 (by omega) (by omega) (fun K m x5 x6 x7 x8 a1 a2 a3 a4 a5 a6 a7 a8 => ih K m (l + 1) x5 x6 x7 x8 (by omega) (by omega) (by omega) a1 a2 a3 a4 a5 a6 a7 a8) 6 K m 0 _ _ _ (by omega) (by decide) (by decide) (by decide) kT kF km m0 (by omega) (yyWr_s kW (by omega) rfl (fun _ _ _ => rfl)) k0 k1
            · replace h36 : (K.1 184 (84 + 6 * l)) ≠ p := h36
              refine q_go (pc := 37) rfl ?_
              refine q_ii (pc := 127) (i := 4) (c := 1) (x := l) (L' := [(2, 183), (0, p), (0, w), (0, r), (0, (l + 1)), (0, 0), x6, x7, x8]) rfl rfl rfl (by omega) (by omega) rfl ?_
              refine q_go (pc := 128) rfl ?_
              exact ih K m (l + 1) _ _ _ _ (by omega) (by omega) (by omega) kT kF km m0 (by omega) (yyWr_s kW (by omega) rfl (fun _ _ _ => rfl)) k0 k1
        · replace h24 : (K.1 184 (85 + 6 * l)) = p := h24
          refine q_ic (pc := 25) (v := 1) rfl ?_
          refine q_go (pc := 26) rfl ?_
          refine q_is (pc := 28) (i := 5) (L' := [(2, 183), (0, p), (0, w), (0, r), (0, l), (0, 1), x6, x7, x8]) rfl rfl rfl ?_
          refine q_il (pc := 29) (i := 5) (x := 1) rfl rfl ?_
          refine q_if (pc := 30) rfl (fun h30 => ?_) (fun h30 => ?_)
          · replace h30 : (1 : Int) ≠ 0 := h30
            refine q_ic (pc := 38) (v := 0) rfl ?_
            refine q_is (pc := 39) (i := 6) (L' := [(2, 183), (0, p), (0, w), (0, r), (0, l), (0, 1), (0, 0), x7, x8]) rfl rfl rfl ?_
            refine hs l l0 (by omega) (by omega) (fun K m x5 x6 x7 x8 a1 a2 a3 a4 a5 a6 a7 a8 => ih K m (l + 1) x5 x6 x7 x8 (by omega) (by omega) (by omega) a1 a2 a3 a4 a5 a6 a7 a8) 6 K m 0 _ _ _ (by omega) (by decide) (by decide) (by decide) kT kF km m0 (by omega) (yyWr_s kW (by omega) rfl (fun _ _ _ => rfl)) k0 k1
          · replace h30 : (1 : Int) = 0 := h30
            omega
  refine xC_of (L := [(2, 183), (0, p), (0, w), (9, 0), (9, 0), (9, 0), (9, 0), (9, 0), (9, 0)]) (cd := cd_251) rfl rfl rfl ?_
  refine q_ic (pc := 0) (v := 2) rfl ?_
  refine q_il (pc := 1) (i := 1) (x := p) rfl rfl ?_
  refine q_im (pc := 2) rfl (by omega) (by omega) ?_
  refine q_il (pc := 3) (i := 2) (x := w) rfl rfl ?_
  refine q_ia (pc := 4) rfl (by omega) (by omega) ?_
  rw [← hr]
  refine q_is (pc := 5) (i := 3) (L' := [(2, 183), (0, p), (0, w), (0, r), (9, 0), (9, 0), (9, 0), (9, 0), (9, 0)]) rfl rfl rfl ?_
  refine q_al (pc := 6) (i := 0) (x := 183) rfl rfl ?_
  refine q_gf (pc := 7) (m := 12202) (t := 2) (c := 20) rfl (ttKc hT (a := 183) (κ := 12) (len := 0) ⟨rfl, rfl⟩ (by decide) (by decide)).1 rfl rfl ?_
  rw [show H.1 183 20 = 190 from ttFx hT (by decide) (by decide) rfl rfl rfl]
  refine q_il (pc := 8) (i := 3) (x := r) rfl rfl ?_
  refine q_ic (pc := 9) (v := 0) rfl ?_
  refine q_si (pc := 10) rfl (by decide) (ttKc hT (a := 190) (κ := 20) (len := 16) ⟨rfl, rfl⟩ (by decide) (by decide)).1 (by omega) (by rw [(ttKc hT (a := 190) (κ := 20) (len := 16) ⟨rfl, rfl⟩ (by decide) (by decide)).2]; omega) ?_
  have c := ttPuT hT (ttFr_rf (true, [(190, 0, 15), (191, 0, 4799)]) H) (a := 190) (j := r) (x := 0) (by decide) (fun _ _ => ttTyr rfl (by decide) (by decide)) ⟨(190, 0, 15), List.mem_cons_self .., ⟨⟨by decide, rfl⟩, by show (0 : Int) ≤ r; omega, by show r ≤ 15; omega⟩⟩
  refine q_ic (pc := 11) (v := 0) rfl ?_
  refine q_is (pc := 12) (i := 4) (L' := [(2, 183), (0, p), (0, w), (0, r), (0, 0), (9, 0), (9, 0), (9, 0), (9, 0)]) rfl rfl rfl ?_
  exact hl 10 _ 0 0 _ _ _ _ (by decide) (by decide) (by decide) c.1 c.2 (show xUp H.1 190 r 0 190 r = 0 from up_eq) (by decide) (by decide) (fun i i0 i1 => by omega) (fun j hj => show xUp H.1 190 r 0 190 j = _ from up_ne (by omega)) (fun j _ => show xUp H.1 190 r 0 191 j = _ from up_na (by decide))
