/-! leaves of the reference, as functions -/
theorem ty_way {k c : Int} (h : k % 5 = 0) (c0 : 0 ≤ c) (c1 : c < 5) : ttTy (ttTb 191) (k + c) = ttTy (ttTb 191) c := by
  unfold ttTy
  rw [show (ttTb 191).2.2.2.1 = 5 from rfl, show (k + c) % 5 = c % 5 by omega]
theorem wy_ty {H : xH} (hT : ttTI H) {k : Int} (k0 : 0 ≤ k) (k1 : k ≤ 4795) (km : k % 5 = 0) : (0 ≤ H.1 191 k ∧ H.1 191 k ≤ 9) ∧ (0 ≤ H.1 191 (k + 1) ∧ H.1 191 (k + 1) ≤ 5) ∧ (0 ≤ H.1 191 (k + 2) ∧ H.1 191 (k + 2) ≤ 7) ∧ (0 ≤ H.1 191 (k + 3) ∧ H.1 191 (k + 3) ≤ 721) ∧ (-2147483648 ≤ H.1 191 (k + 4) ∧ H.1 191 (k + 4) ≤ 2147483647) := by
  have q : ∀ c : Int, 0 ≤ c → c < 5 → ttM (H.2.2.2.1 : Int) (ttTy (ttTb 191) c) (H.1 191 (k + c)) := fun c c0 c1 => by
    have z := ttMc hT (a := 191) (j := k + c) (by decide) (by decide) (by omega) (by show k + c < 4800; omega)
    rw [show ttRo 191 = 191 from rfl, ty_way km c0 c1] at z
    exact z
  have z := q 0 (by decide) (by decide)
  rw [Int.add_zero] at z
  exact ⟨z, q 1 (by decide) (by decide), q 2 (by decide) (by decide), q 3 (by decide) (by decide), q 4 (by decide) (by decide)⟩
theorem lg_ty {H : xH} (hT : ttTI H) {l : Int} (l0 : 0 ≤ l) (l1 : l ≤ 9) : (0 ≤ H.1 184 (84 + 6 * l) ∧ H.1 184 (84 + 6 * l) ≤ 7) ∧ (0 ≤ H.1 184 (85 + 6 * l) ∧ H.1 184 (85 + 6 * l) ≤ 7) ∧ (0 ≤ H.1 184 (86 + 6 * l) ∧ H.1 184 (86 + 6 * l) ≤ 60) ∧ (-999 ≤ H.1 184 (87 + 6 * l) ∧ H.1 184 (87 + 6 * l) ≤ 999) ∧ (-60 ≤ H.1 184 (88 + 6 * l) ∧ H.1 184 (88 + 6 * l) ≤ 60) ∧ (0 ≤ H.1 184 (89 + 6 * l) ∧ H.1 184 (89 + 6 * l) ≤ 40) := by
  have e : ∀ n : Nat, n < 10 → ∀ c : Nat, c < 6 → ttTy (ttTb 184) (84 + 6 * (n : Int) + c) = ([(0, 0, 7), (0, 0, 7), (0, 0, 60), (0, -999, 999), (0, -60, 60), (0, 0, 40)] : List ttI).getD c (9, 0, 0) := by decide +kernel
  have q : ∀ c : Nat, c < 6 → ttM (H.2.2.2.1 : Int) (([(0, 0, 7), (0, 0, 7), (0, 0, 60), (0, -999, 999), (0, -60, 60), (0, 0, 40)] : List ttI).getD c (9, 0, 0)) (H.1 184 (84 + 6 * l + c)) := fun c c1 => by
    have z := ttMc hT (a := 184) (j := 84 + 6 * l + c) (by decide) (by decide) (by omega) (by show _ < (196 : Int); omega)
    have k := e l.toNat (by omega) c c1
    rw [Int.toNat_of_nonneg l0] at k
    rw [show ttRo 184 = 184 from rfl, k] at z
    exact z
  have g : ∀ c : Nat, ∀ m : Int, m = 84 + c → m + 6 * l = 84 + 6 * l + c := fun c m h => by omega
  rw [show 84 + 6 * l = 84 + 6 * l + (0 : Nat) from (Int.add_zero _).symm, g 1 85 rfl, g 2 86 rfl, g 3 87 rfl, g 4 88 rfl, g 5 89 rfl]
  exact ⟨q 0 (by decide), q 1 (by decide), q 2 (by decide), q 3 (by decide), q 4 (by decide), q 5 (by decide)⟩
theorem pl_ty {H : xH} (hT : ttTI H) {p : Int} (p0 : 0 ≤ p) (p1 : p ≤ 7) : (0 ≤ H.1 184 (20 + 8 * p) ∧ H.1 184 (20 + 8 * p) ≤ 30) ∧ (0 ≤ H.1 184 (21 + 8 * p) ∧ H.1 184 (21 + 8 * p) ≤ 2) := by
  have e : ∀ n : Nat, n < 8 → ttTy (ttTb 184) (20 + 8 * (n : Int)) = (0, 0, 30) ∧ ttTy (ttTb 184) (21 + 8 * (n : Int)) = (0, 0, 2) := by decide +kernel
  obtain ⟨k1, k2⟩ := e p.toNat (by omega)
  rw [Int.toNat_of_nonneg p0] at k1 k2
  have z1 := ttMc hT (a := 184) (j := 20 + 8 * p) (by decide) (by decide) (by omega) (by show _ < (196 : Int); omega)
  have z2 := ttMc hT (a := 184) (j := 21 + 8 * p) (by decide) (by decide) (by omega) (by show _ < (196 : Int); omega)
  rw [show ttRo 184 = 184 from rfl, k1] at z1
  rw [show ttRo 184 = 184 from rfl, k2] at z2
  exact ⟨z1, z2⟩
theorem td_720 {a b : Int} (a0 : 0 ≤ a) (a1 : a ≤ 720) (b1 : 1 ≤ b) : 0 ≤ w32 (Int.tdiv a b) ∧ w32 (Int.tdiv a b) ≤ 720 := by
  have h1 : 0 ≤ Int.tdiv a b := Int.tdiv_nonneg a0 (by omega)
  have h2 : Int.tdiv a b ≤ a := Int.tdiv_le_self b a0
  rw [w32_eq (x := Int.tdiv a b) (show -2147483648 ≤ Int.tdiv a b ∧ Int.tdiv a b < 2147483648 from ⟨by omega, by omega⟩)]
  omega
theorem lf_ofLeg {dd : Nat} {l c j : Int} (hj : j = 84 + 6 * l + c) (hd : 1 ≤ dd) {H : xH} (hT : ttTI H) (l0 : 0 ≤ l) (l1 : l ≤ 9) (c0 : 0 ≤ c) (c1 : c ≤ 5) {Q : Int → xH → Prop} (hQ : Q (H.1 184 j) H) : xCall dd 209 [(2, 183), (0, l), (0, c)] H Q := by
  obtain ⟨e, rfl, he⟩ := ttRun0 (n := 0) hd
  subst hj
  refine xC_of (L := [(2, 183), (0, l), (0, c)]) (cd := cd_209) rfl rfl rfl ?_
  refine q_al (pc := 0) (i := 0) (x := 183) rfl rfl ?_
  refine q_gf (pc := 1) (m := 12012) (t := 2) (c := 1) rfl (ttKc hT (a := 183) (κ := 12) (len := 0) ⟨rfl, rfl⟩ (by decide) (by decide)).1 rfl rfl ?_
  rw [show H.1 183 1 = 184 from ttFx hT (by decide) (by decide) rfl rfl rfl]
  refine q_ic (pc := 2) (v := 84) rfl ?_
  refine q_ic (pc := 3) (v := 6) rfl ?_
  refine q_il (pc := 4) (i := 1) (x := l) rfl rfl ?_
  refine q_im (pc := 5) rfl (by omega) (by omega) ?_
  refine q_ia (pc := 6) rfl (by omega) (by omega) ?_
  refine q_il (pc := 7) (i := 2) (x := c) rfl rfl ?_
  refine q_ia (pc := 8) rfl (by omega) (by omega) ?_
  refine q_ai (pc := 9) rfl (ttKc hT (a := 184) (κ := 20) (len := 196) ⟨rfl, rfl⟩ (by decide) (by decide)).1 (by omega) (by rw [(ttKc hT (a := 184) (κ := 20) (len := 196) ⟨rfl, rfl⟩ (by decide) (by decide)).2]; omega) ?_
  refine q_ri (pc := 10) rfl ?_
  exact hQ
theorem lf_ofPlace {dd : Nat} {l c j : Int} (hj : j = 20 + 8 * l + c) (hd : 1 ≤ dd) {H : xH} (hT : ttTI H) (l0 : 0 ≤ l) (l1 : l ≤ 7) (c0 : 0 ≤ c) (c1 : c ≤ 7) {Q : Int → xH → Prop} (hQ : Q (H.1 184 j) H) : xCall dd 208 [(2, 183), (0, l), (0, c)] H Q := by
  obtain ⟨e, rfl, he⟩ := ttRun0 (n := 0) hd
  subst hj
  refine xC_of (L := [(2, 183), (0, l), (0, c)]) (cd := cd_208) rfl rfl rfl ?_
  refine q_al (pc := 0) (i := 0) (x := 183) rfl rfl ?_
  refine q_gf (pc := 1) (m := 12012) (t := 2) (c := 1) rfl (ttKc hT (a := 183) (κ := 12) (len := 0) ⟨rfl, rfl⟩ (by decide) (by decide)).1 rfl rfl ?_
  rw [show H.1 183 1 = 184 from ttFx hT (by decide) (by decide) rfl rfl rfl]
  refine q_ic (pc := 2) (v := 20) rfl ?_
  refine q_ic (pc := 3) (v := 8) rfl ?_
  refine q_il (pc := 4) (i := 1) (x := l) rfl rfl ?_
  refine q_im (pc := 5) rfl (by omega) (by omega) ?_
  refine q_ia (pc := 6) rfl (by omega) (by omega) ?_
  refine q_il (pc := 7) (i := 2) (x := c) rfl rfl ?_
  refine q_ia (pc := 8) rfl (by omega) (by omega) ?_
  refine q_ai (pc := 9) rfl (ttKc hT (a := 184) (κ := 20) (len := 196) ⟨rfl, rfl⟩ (by decide) (by decide)).1 (by omega) (by rw [(ttKc hT (a := 184) (κ := 20) (len := 196) ⟨rfl, rfl⟩ (by decide) (by decide)).2]; omega) ?_
  refine q_ri (pc := 10) rfl ?_
  exact hQ
theorem lf_comesAt {dd : Nat} {k h : Int} (hd : 2 ≤ dd) {H : xH} (hT : ttTI H) (k0 : 0 ≤ k) (k1 : k ≤ 4795) (km : k % 5 = 0) {Q : Int → xH → Prop} (hy : yyC H.1 k h → Q (yyA H.1 k h) H) (hn : ¬ yyC H.1 k h → Q (-1) H) : xCall dd 252 [(2, 183), (0, k), (0, h)] H Q := by
  obtain ⟨e, rfl, he⟩ := ttRun0 (n := 1) hd
  have he : 1 ≤ e := he
  obtain ⟨t0, -, t2, -, -⟩ := wy_ty hT k0 k1 km
  refine xC_of (L := [(2, 183), (0, k), (0, h), (9, 0), (9, 0)]) (cd := cd_252) rfl rfl rfl ?_
  refine q_al (pc := 0) (i := 0) (x := 183) rfl rfl ?_
  refine q_gf (pc := 1) (m := 12212) (t := 2) (c := 21) rfl (ttKc hT (a := 183) (κ := 12) (len := 0) ⟨rfl, rfl⟩ (by decide) (by decide)).1 rfl rfl ?_
  rw [show H.1 183 21 = 191 from ttFx hT (by decide) (by decide) rfl rfl rfl]
  refine q_il (pc := 2) (i := 1) (x := k) rfl rfl ?_
  refine q_ic (pc := 3) (v := 2) rfl ?_
  refine q_ia (pc := 4) rfl (by omega) (by omega) ?_
  refine q_ai (pc := 5) rfl (ttKc hT (a := 191) (κ := 20) (len := 4800) ⟨rfl, rfl⟩ (by decide) (by decide)).1 (by omega) (by rw [(ttKc hT (a := 191) (κ := 20) (len := 4800) ⟨rfl, rfl⟩ (by decide) (by decide)).2]; omega) ?_
  refine q_is (pc := 6) (i := 3) (L' := [(2, 183), (0, k), (0, h), (0, (H.1 191 (k + 2))), (9, 0)]) rfl rfl rfl ?_
  refine q_al (pc := 7) (i := 0) (x := 183) rfl rfl ?_
  refine q_gf (pc := 8) (m := 12012) (t := 2) (c := 1) rfl (ttKc hT (a := 183) (κ := 12) (len := 0) ⟨rfl, rfl⟩ (by decide) (by decide)).1 rfl rfl ?_
  rw [show H.1 183 1 = 184 from ttFx hT (by decide) (by decide) rfl rfl rfl]
  refine q_ic (pc := 9) (v := 7) rfl ?_
  refine q_ai (pc := 10) rfl (ttKc hT (a := 184) (κ := 20) (len := 196) ⟨rfl, rfl⟩ (by decide) (by decide)).1 (by omega) (by rw [(ttKc hT (a := 184) (κ := 20) (len := 196) ⟨rfl, rfl⟩ (by decide) (by decide)).2]; omega) ?_
  refine q_il (pc := 11) (i := 2) (x := h) rfl rfl ?_
  refine q_al (pc := 12) (i := 0) (x := 183) rfl rfl ?_
  refine q_gf (pc := 13) (m := 12212) (t := 2) (c := 21) rfl (ttKc hT (a := 183) (κ := 12) (len := 0) ⟨rfl, rfl⟩ (by decide) (by decide)).1 rfl rfl ?_
  rw [show H.1 183 21 = 191 from ttFx hT (by decide) (by decide) rfl rfl rfl]
  refine q_il (pc := 14) (i := 1) (x := k) rfl rfl ?_
  refine q_ic (pc := 15) (v := 4) rfl ?_
  refine q_ia (pc := 16) rfl (by omega) (by omega) ?_
  refine q_ai (pc := 17) rfl (ttKc hT (a := 191) (κ := 20) (len := 4800) ⟨rfl, rfl⟩ (by decide) (by decide)).1 (by omega) (by rw [(ttKc hT (a := 191) (κ := 20) (len := 4800) ⟨rfl, rfl⟩ (by decide) (by decide)).2]; omega) ?_
  refine q_wb (pc := 18) rfl ?_
  refine q_mn (pc := 19) rfl rfl (by omega) ?_
  refine q_is (pc := 20) (i := 4) (L' := [(2, 183), (0, k), (0, h), (0, (H.1 191 (k + 2))), (0, (min (H.1 184 7) (w32 (h - (H.1 191 (k + 4))))))]) rfl rfl rfl ?_
  refine q_il (pc := 21) (i := 2) (x := h) rfl rfl ?_
  refine q_al (pc := 22) (i := 0) (x := 183) rfl rfl ?_
  refine q_gf (pc := 23) (m := 12212) (t := 2) (c := 21) rfl (ttKc hT (a := 183) (κ := 12) (len := 0) ⟨rfl, rfl⟩ (by decide) (by decide)).1 rfl rfl ?_
  rw [show H.1 183 21 = 191 from ttFx hT (by decide) (by decide) rfl rfl rfl]
  refine q_il (pc := 24) (i := 1) (x := k) rfl rfl ?_
  refine q_ic (pc := 25) (v := 4) rfl ?_
  refine q_ia (pc := 26) rfl (by omega) (by omega) ?_
  refine q_ai (pc := 27) rfl (ttKc hT (a := 191) (κ := 20) (len := 4800) ⟨rfl, rfl⟩ (by decide) (by decide)).1 (by omega) (by rw [(ttKc hT (a := 191) (κ := 20) (len := 4800) ⟨rfl, rfl⟩ (by decide) (by decide)).2]; omega) ?_
  refine q_ic (pc := 28) (v := 2) rfl ?_
  refine q_wd (pc := 29) rfl (by decide) ?_
  refine q_wb (pc := 30) rfl ?_
  refine q_al (pc := 31) (i := 0) (x := 183) rfl rfl ?_
  refine q_al (pc := 32) (i := 0) (x := 183) rfl rfl ?_
  refine q_gf (pc := 33) (m := 12212) (t := 2) (c := 21) rfl (ttKc hT (a := 183) (κ := 12) (len := 0) ⟨rfl, rfl⟩ (by decide) (by decide)).1 rfl rfl ?_
  rw [show H.1 183 21 = 191 from ttFx hT (by decide) (by decide) rfl rfl rfl]
  refine q_il (pc := 34) (i := 1) (x := k) rfl rfl ?_
  refine q_ai (pc := 35) rfl (ttKc hT (a := 191) (κ := 20) (len := 4800) ⟨rfl, rfl⟩ (by decide) (by decide)).1 (by omega) (by rw [(ttKc hT (a := 191) (κ := 20) (len := 4800) ⟨rfl, rfl⟩ (by decide) (by decide)).2]; omega) ?_
  refine q_ic (pc := 36) (v := 5) rfl ?_
  refine q_iv (pc := 37) (q := 1672972) rfl rfl rfl (ttKc hT (a := 183) (κ := 12) (len := 0) ⟨rfl, rfl⟩ (by decide) (by decide)).1 ?_
  refine lf_ofLeg (j := (89 + 6 * (H.1 191 k))) (by omega) (by omega) hT (by omega) (by omega) (by omega) (by omega) ?_
  refine q_i2 (pc := 38) rfl (fun h38 => ?_) (fun h38 => ?_)
  · replace h38 : (w32 (h - (w32 (Int.tdiv (H.1 191 (k + 4)) 2)))) < (H.1 184 (89 + 6 * (H.1 191 k))) := h38
    refine q_ic (pc := 45) (v := (-1)) rfl ?_
    refine q_go (pc := 46) rfl ?_
    refine q_ri (pc := 48) rfl ?_
    first | exact hn (fun z => by have a := z.2.2.1; have b := z.2.2.2; omega) | exact hy ⟨t0, t2, by omega, by omega⟩
  · replace h38 : (H.1 184 (89 + 6 * (H.1 191 k))) ≤ (w32 (h - (w32 (Int.tdiv (H.1 191 (k + 4)) 2)))) := h38
    refine q_il (pc := 39) (i := 4) (x := (min (H.1 184 7) (w32 (h - (H.1 191 (k + 4)))))) rfl rfl ?_
    refine q_al (pc := 40) (i := 0) (x := 183) rfl rfl ?_
    refine q_il (pc := 41) (i := 3) (x := (H.1 191 (k + 2))) rfl rfl ?_
    refine q_ic (pc := 42) (v := 0) rfl ?_
    refine q_iv (pc := 43) (q := 1664972) rfl rfl rfl (ttKc hT (a := 183) (κ := 12) (len := 0) ⟨rfl, rfl⟩ (by decide) (by decide)).1 ?_
    refine lf_ofPlace (j := (20 + 8 * (H.1 191 (k + 2)))) (by omega) (by omega) hT (by omega) (by omega) (by omega) (by omega) ?_
    refine q_i2 (pc := 44) rfl (fun h44 => ?_) (fun h44 => ?_)
    · replace h44 : (H.1 184 (20 + 8 * (H.1 191 (k + 2)))) ≤ (min (H.1 184 7) (w32 (h - (H.1 191 (k + 4))))) := h44
      refine q_il (pc := 47) (i := 4) (x := (min (H.1 184 7) (w32 (h - (H.1 191 (k + 4)))))) rfl rfl ?_
      refine q_ri (pc := 48) rfl ?_
      first | exact hn (fun z => by have a := z.2.2.1; have b := z.2.2.2; omega) | exact hy ⟨t0, t2, by omega, by omega⟩
    · replace h44 : (min (H.1 184 7) (w32 (h - (H.1 191 (k + 4))))) < (H.1 184 (20 + 8 * (H.1 191 (k + 2)))) := h44
      refine q_ic (pc := 45) (v := (-1)) rfl ?_
      refine q_go (pc := 46) rfl ?_
      refine q_ri (pc := 48) rfl ?_
      first | exact hn (fun z => by have a := z.2.2.1; have b := z.2.2.2; omega) | exact hy ⟨t0, t2, by omega, by omega⟩
theorem lf_periods {dd : Nat} {l b s w : Int} (hd : 2 ≤ dd) {H : xH} (hT : ttTI H) (l0 : 0 ≤ l) (l1 : l ≤ 9) (s0 : 0 ≤ s) (s1 : s ≤ 5) {Q : Int → xH → Prop} (hQ : ∀ r, r = -1 ∨ (1 ≤ r ∧ r ≤ 721) → Q r H) : xCall dd 236 [(2, 183), (0, l), (0, b), (0, s), (0, w)] H Q := by
  obtain ⟨e, rfl, he⟩ := ttRun0 (n := 1) hd
  have he : 1 ≤ e := he
  obtain ⟨-, -, mi, -, -, -⟩ := lg_ty hT l0 l1
  refine xC_of (L := [(2, 183), (0, l), (0, b), (0, s), (0, w), (9, 0), (9, 0)]) (cd := cd_236) rfl rfl rfl ?_
  refine q_al (pc := 0) (i := 0) (x := 183) rfl rfl ?_
  refine q_gf (pc := 1) (m := 12012) (t := 2) (c := 1) rfl (ttKc hT (a := 183) (κ := 12) (len := 0) ⟨rfl, rfl⟩ (by decide) (by decide)).1 rfl rfl ?_
  rw [show H.1 183 1 = 184 from ttFx hT (by decide) (by decide) rfl rfl rfl]
  refine q_ic (pc := 2) (v := 144) rfl ?_
  refine q_ic (pc := 3) (v := 2) rfl ?_
  refine q_il (pc := 4) (i := 3) (x := s) rfl rfl ?_
  refine q_im (pc := 5) rfl (by omega) (by omega) ?_
  refine q_ia (pc := 6) rfl (by omega) (by omega) ?_
  refine q_ai (pc := 7) rfl (ttKc hT (a := 184) (κ := 20) (len := 196) ⟨rfl, rfl⟩ (by decide) (by decide)).1 (by omega) (by rw [(ttKc hT (a := 184) (κ := 20) (len := 196) ⟨rfl, rfl⟩ (by decide) (by decide)).2]; omega) ?_
  refine q_is (pc := 8) (i := 5) (L' := [(2, 183), (0, l), (0, b), (0, s), (0, w), (0, (H.1 184 (144 + (2 * s)))), (9, 0)]) rfl rfl rfl ?_
  refine q_il (pc := 9) (i := 5) (x := (H.1 184 (144 + (2 * s)))) rfl rfl ?_
  refine q_il (pc := 10) (i := 4) (x := w) rfl rfl ?_
  refine q_if (pc := 11) rfl (fun h11 => ?_) (fun h11 => ?_)
  · replace h11 : w = 0 := h11
    refine q_ic (pc := 21) (v := 0) rfl ?_
    refine q_wa (pc := 22) rfl ?_
    refine q_il (pc := 23) (i := 2) (x := b) rfl rfl ?_
    refine q_if (pc := 24) rfl (fun h24 => ?_) (fun h24 => ?_)
    · replace h24 : b = 0 := h24
      refine q_al (pc := 31) (i := 0) (x := 183) rfl rfl ?_
      refine q_il (pc := 32) (i := 1) (x := l) rfl rfl ?_
      refine q_ic (pc := 33) (v := 4) rfl ?_
      refine q_iv (pc := 34) (q := 1672972) rfl rfl rfl (ttKc hT (a := 183) (κ := 12) (len := 0) ⟨rfl, rfl⟩ (by decide) (by decide)).1 ?_
      refine lf_ofLeg (j := (88 + 6 * l)) (by omega) (by omega) hT (by omega) (by omega) (by omega) (by omega) ?_
      refine q_wa (pc := 35) rfl ?_
      refine q_is (pc := 36) (i := 6) (L' := [(2, 183), (0, l), (0, b), (0, s), (0, w), (0, (H.1 184 (144 + (2 * s)))), (0, (w32 ((w32 ((H.1 184 (144 + (2 * s))) + 0)) + (H.1 184 (88 + 6 * l)))))]) rfl rfl rfl ?_
      refine q_il (pc := 37) (i := 6) (x := (w32 ((w32 ((H.1 184 (144 + (2 * s))) + 0)) + (H.1 184 (88 + 6 * l))))) rfl rfl ?_
      refine q_ic (pc := 38) (v := 1) rfl ?_
      refine q_i2 (pc := 39) rfl (fun h39 => ?_) (fun h39 => ?_)
      · replace h39 : 1 ≤ (w32 ((w32 ((H.1 184 (144 + (2 * s))) + 0)) + (H.1 184 (88 + 6 * l)))) := h39
        refine q_ic (pc := 42) (v := 12) rfl ?_
        refine q_al (pc := 43) (i := 0) (x := 183) rfl rfl ?_
        refine q_il (pc := 44) (i := 1) (x := l) rfl rfl ?_
        refine q_ic (pc := 45) (v := 2) rfl ?_
        refine q_iv (pc := 46) (q := 1672972) rfl rfl rfl (ttKc hT (a := 183) (κ := 12) (len := 0) ⟨rfl, rfl⟩ (by decide) (by decide)).1 ?_
        refine lf_ofLeg (j := (86 + 6 * l)) (by omega) (by omega) hT (by omega) (by omega) (by omega) (by omega) ?_
        refine q_im (pc := 47) rfl (by omega) (by omega) ?_
        refine q_il (pc := 48) (i := 6) (x := (w32 ((w32 ((H.1 184 (144 + (2 * s))) + 0)) + (H.1 184 (88 + 6 * l))))) rfl rfl ?_
        refine q_wd (pc := 49) rfl (by omega) ?_
        have tq := td_720 (a := 12 * H.1 184 (86 + 6 * l)) (b := (w32 ((w32 ((H.1 184 (144 + (2 * s))) + 0)) + (H.1 184 (88 + 6 * l))))) (by omega) (by omega) (by omega)
        refine q_ic (pc := 50) (v := 1) rfl ?_
        refine q_ia (pc := 51) rfl (by omega) (by omega) ?_
        exact q_ri (pc := 52) rfl (hQ _ (by omega))
      · replace h39 : (w32 ((w32 ((H.1 184 (144 + (2 * s))) + 0)) + (H.1 184 (88 + 6 * l)))) < 1 := h39
        refine q_ic (pc := 40) (v := (-1)) rfl ?_
        refine q_go (pc := 41) rfl ?_
        refine q_ri (pc := 52) rfl ?_
        exact hQ _ (by omega)
    · replace h24 : b ≠ 0 := h24
      refine q_al (pc := 25) (i := 0) (x := 183) rfl rfl ?_
      refine q_il (pc := 26) (i := 1) (x := l) rfl rfl ?_
      refine q_ic (pc := 27) (v := 4) rfl ?_
      refine q_iv (pc := 28) (q := 1672972) rfl rfl rfl (ttKc hT (a := 183) (κ := 12) (len := 0) ⟨rfl, rfl⟩ (by decide) (by decide)).1 ?_
      refine lf_ofLeg (j := (88 + 6 * l)) (by omega) (by omega) hT (by omega) (by omega) (by omega) (by omega) ?_
      refine q_in (pc := 29) rfl ?_
      refine q_go (pc := 30) rfl ?_
      refine q_wa (pc := 35) rfl ?_
      refine q_is (pc := 36) (i := 6) (L' := [(2, 183), (0, l), (0, b), (0, s), (0, w), (0, (H.1 184 (144 + (2 * s)))), (0, (w32 ((w32 ((H.1 184 (144 + (2 * s))) + 0)) + (w32 (-(H.1 184 (88 + 6 * l)))))))]) rfl rfl rfl ?_
      refine q_il (pc := 37) (i := 6) (x := (w32 ((w32 ((H.1 184 (144 + (2 * s))) + 0)) + (w32 (-(H.1 184 (88 + 6 * l))))))) rfl rfl ?_
      refine q_ic (pc := 38) (v := 1) rfl ?_
      refine q_i2 (pc := 39) rfl (fun h39 => ?_) (fun h39 => ?_)
      · replace h39 : 1 ≤ (w32 ((w32 ((H.1 184 (144 + (2 * s))) + 0)) + (w32 (-(H.1 184 (88 + 6 * l)))))) := h39
        refine q_ic (pc := 42) (v := 12) rfl ?_
        refine q_al (pc := 43) (i := 0) (x := 183) rfl rfl ?_
        refine q_il (pc := 44) (i := 1) (x := l) rfl rfl ?_
        refine q_ic (pc := 45) (v := 2) rfl ?_
        refine q_iv (pc := 46) (q := 1672972) rfl rfl rfl (ttKc hT (a := 183) (κ := 12) (len := 0) ⟨rfl, rfl⟩ (by decide) (by decide)).1 ?_
        refine lf_ofLeg (j := (86 + 6 * l)) (by omega) (by omega) hT (by omega) (by omega) (by omega) (by omega) ?_
        refine q_im (pc := 47) rfl (by omega) (by omega) ?_
        refine q_il (pc := 48) (i := 6) (x := (w32 ((w32 ((H.1 184 (144 + (2 * s))) + 0)) + (w32 (-(H.1 184 (88 + 6 * l))))))) rfl rfl ?_
        refine q_wd (pc := 49) rfl (by omega) ?_
        have tq := td_720 (a := 12 * H.1 184 (86 + 6 * l)) (b := (w32 ((w32 ((H.1 184 (144 + (2 * s))) + 0)) + (w32 (-(H.1 184 (88 + 6 * l))))))) (by omega) (by omega) (by omega)
        refine q_ic (pc := 50) (v := 1) rfl ?_
        refine q_ia (pc := 51) rfl (by omega) (by omega) ?_
        exact q_ri (pc := 52) rfl (hQ _ (by omega))
      · replace h39 : (w32 ((w32 ((H.1 184 (144 + (2 * s))) + 0)) + (w32 (-(H.1 184 (88 + 6 * l)))))) < 1 := h39
        refine q_ic (pc := 40) (v := (-1)) rfl ?_
        refine q_go (pc := 41) rfl ?_
        refine q_ri (pc := 52) rfl ?_
        exact hQ _ (by omega)
  · replace h11 : w ≠ 0 := h11
    refine q_il (pc := 12) (i := 5) (x := (H.1 184 (144 + (2 * s)))) rfl rfl ?_
    refine q_al (pc := 13) (i := 0) (x := 183) rfl rfl ?_
    refine q_gf (pc := 14) (m := 12012) (t := 2) (c := 1) rfl (ttKc hT (a := 183) (κ := 12) (len := 0) ⟨rfl, rfl⟩ (by decide) (by decide)).1 rfl rfl ?_
    rw [show H.1 183 1 = 184 from ttFx hT (by decide) (by decide) rfl rfl rfl]
    refine q_ic (pc := 15) (v := 6) rfl ?_
    refine q_ai (pc := 16) rfl (ttKc hT (a := 184) (κ := 20) (len := 196) ⟨rfl, rfl⟩ (by decide) (by decide)).1 (by omega) (by rw [(ttKc hT (a := 184) (κ := 20) (len := 196) ⟨rfl, rfl⟩ (by decide) (by decide)).2]; omega) ?_
    refine q_wm (pc := 17) rfl ?_
    refine q_ic (pc := 18) (v := 100) rfl ?_
    refine q_wd (pc := 19) rfl (by decide) ?_
    refine q_go (pc := 20) rfl ?_
    refine q_wa (pc := 22) rfl ?_
    refine q_il (pc := 23) (i := 2) (x := b) rfl rfl ?_
    refine q_if (pc := 24) rfl (fun h24 => ?_) (fun h24 => ?_)
    · replace h24 : b = 0 := h24
      refine q_al (pc := 31) (i := 0) (x := 183) rfl rfl ?_
      refine q_il (pc := 32) (i := 1) (x := l) rfl rfl ?_
      refine q_ic (pc := 33) (v := 4) rfl ?_
      refine q_iv (pc := 34) (q := 1672972) rfl rfl rfl (ttKc hT (a := 183) (κ := 12) (len := 0) ⟨rfl, rfl⟩ (by decide) (by decide)).1 ?_
      refine lf_ofLeg (j := (88 + 6 * l)) (by omega) (by omega) hT (by omega) (by omega) (by omega) (by omega) ?_
      refine q_wa (pc := 35) rfl ?_
      refine q_is (pc := 36) (i := 6) (L' := [(2, 183), (0, l), (0, b), (0, s), (0, w), (0, (H.1 184 (144 + (2 * s)))), (0, (w32 ((w32 ((H.1 184 (144 + (2 * s))) + (w32 (Int.tdiv (w32 ((H.1 184 (144 + (2 * s))) * (H.1 184 6))) 100)))) + (H.1 184 (88 + 6 * l)))))]) rfl rfl rfl ?_
      refine q_il (pc := 37) (i := 6) (x := (w32 ((w32 ((H.1 184 (144 + (2 * s))) + (w32 (Int.tdiv (w32 ((H.1 184 (144 + (2 * s))) * (H.1 184 6))) 100)))) + (H.1 184 (88 + 6 * l))))) rfl rfl ?_
      refine q_ic (pc := 38) (v := 1) rfl ?_
      refine q_i2 (pc := 39) rfl (fun h39 => ?_) (fun h39 => ?_)
      · replace h39 : 1 ≤ (w32 ((w32 ((H.1 184 (144 + (2 * s))) + (w32 (Int.tdiv (w32 ((H.1 184 (144 + (2 * s))) * (H.1 184 6))) 100)))) + (H.1 184 (88 + 6 * l)))) := h39
        refine q_ic (pc := 42) (v := 12) rfl ?_
        refine q_al (pc := 43) (i := 0) (x := 183) rfl rfl ?_
        refine q_il (pc := 44) (i := 1) (x := l) rfl rfl ?_
        refine q_ic (pc := 45) (v := 2) rfl ?_
        refine q_iv (pc := 46) (q := 1672972) rfl rfl rfl (ttKc hT (a := 183) (κ := 12) (len := 0) ⟨rfl, rfl⟩ (by decide) (by decide)).1 ?_
        refine lf_ofLeg (j := (86 + 6 * l)) (by omega) (by omega) hT (by omega) (by omega) (by omega) (by omega) ?_
        refine q_im (pc := 47) rfl (by omega) (by omega) ?_
        refine q_il (pc := 48) (i := 6) (x := (w32 ((w32 ((H.1 184 (144 + (2 * s))) + (w32 (Int.tdiv (w32 ((H.1 184 (144 + (2 * s))) * (H.1 184 6))) 100)))) + (H.1 184 (88 + 6 * l))))) rfl rfl ?_
        refine q_wd (pc := 49) rfl (by omega) ?_
        have tq := td_720 (a := 12 * H.1 184 (86 + 6 * l)) (b := (w32 ((w32 ((H.1 184 (144 + (2 * s))) + (w32 (Int.tdiv (w32 ((H.1 184 (144 + (2 * s))) * (H.1 184 6))) 100)))) + (H.1 184 (88 + 6 * l))))) (by omega) (by omega) (by omega)
        refine q_ic (pc := 50) (v := 1) rfl ?_
        refine q_ia (pc := 51) rfl (by omega) (by omega) ?_
        exact q_ri (pc := 52) rfl (hQ _ (by omega))
      · replace h39 : (w32 ((w32 ((H.1 184 (144 + (2 * s))) + (w32 (Int.tdiv (w32 ((H.1 184 (144 + (2 * s))) * (H.1 184 6))) 100)))) + (H.1 184 (88 + 6 * l)))) < 1 := h39
        refine q_ic (pc := 40) (v := (-1)) rfl ?_
        refine q_go (pc := 41) rfl ?_
        refine q_ri (pc := 52) rfl ?_
        exact hQ _ (by omega)
    · replace h24 : b ≠ 0 := h24
      refine q_al (pc := 25) (i := 0) (x := 183) rfl rfl ?_
      refine q_il (pc := 26) (i := 1) (x := l) rfl rfl ?_
      refine q_ic (pc := 27) (v := 4) rfl ?_
      refine q_iv (pc := 28) (q := 1672972) rfl rfl rfl (ttKc hT (a := 183) (κ := 12) (len := 0) ⟨rfl, rfl⟩ (by decide) (by decide)).1 ?_
      refine lf_ofLeg (j := (88 + 6 * l)) (by omega) (by omega) hT (by omega) (by omega) (by omega) (by omega) ?_
      refine q_in (pc := 29) rfl ?_
      refine q_go (pc := 30) rfl ?_
      refine q_wa (pc := 35) rfl ?_
      refine q_is (pc := 36) (i := 6) (L' := [(2, 183), (0, l), (0, b), (0, s), (0, w), (0, (H.1 184 (144 + (2 * s)))), (0, (w32 ((w32 ((H.1 184 (144 + (2 * s))) + (w32 (Int.tdiv (w32 ((H.1 184 (144 + (2 * s))) * (H.1 184 6))) 100)))) + (w32 (-(H.1 184 (88 + 6 * l)))))))]) rfl rfl rfl ?_
      refine q_il (pc := 37) (i := 6) (x := (w32 ((w32 ((H.1 184 (144 + (2 * s))) + (w32 (Int.tdiv (w32 ((H.1 184 (144 + (2 * s))) * (H.1 184 6))) 100)))) + (w32 (-(H.1 184 (88 + 6 * l))))))) rfl rfl ?_
      refine q_ic (pc := 38) (v := 1) rfl ?_
      refine q_i2 (pc := 39) rfl (fun h39 => ?_) (fun h39 => ?_)
      · replace h39 : 1 ≤ (w32 ((w32 ((H.1 184 (144 + (2 * s))) + (w32 (Int.tdiv (w32 ((H.1 184 (144 + (2 * s))) * (H.1 184 6))) 100)))) + (w32 (-(H.1 184 (88 + 6 * l)))))) := h39
        refine q_ic (pc := 42) (v := 12) rfl ?_
        refine q_al (pc := 43) (i := 0) (x := 183) rfl rfl ?_
        refine q_il (pc := 44) (i := 1) (x := l) rfl rfl ?_
        refine q_ic (pc := 45) (v := 2) rfl ?_
        refine q_iv (pc := 46) (q := 1672972) rfl rfl rfl (ttKc hT (a := 183) (κ := 12) (len := 0) ⟨rfl, rfl⟩ (by decide) (by decide)).1 ?_
        refine lf_ofLeg (j := (86 + 6 * l)) (by omega) (by omega) hT (by omega) (by omega) (by omega) (by omega) ?_
        refine q_im (pc := 47) rfl (by omega) (by omega) ?_
        refine q_il (pc := 48) (i := 6) (x := (w32 ((w32 ((H.1 184 (144 + (2 * s))) + (w32 (Int.tdiv (w32 ((H.1 184 (144 + (2 * s))) * (H.1 184 6))) 100)))) + (w32 (-(H.1 184 (88 + 6 * l))))))) rfl rfl ?_
        refine q_wd (pc := 49) rfl (by omega) ?_
        have tq := td_720 (a := 12 * H.1 184 (86 + 6 * l)) (b := (w32 ((w32 ((H.1 184 (144 + (2 * s))) + (w32 (Int.tdiv (w32 ((H.1 184 (144 + (2 * s))) * (H.1 184 6))) 100)))) + (w32 (-(H.1 184 (88 + 6 * l))))))) (by omega) (by omega) (by omega)
        refine q_ic (pc := 50) (v := 1) rfl ?_
        refine q_ia (pc := 51) rfl (by omega) (by omega) ?_
        exact q_ri (pc := 52) rfl (hQ _ (by omega))
      · replace h39 : (w32 ((w32 ((H.1 184 (144 + (2 * s))) + (w32 (Int.tdiv (w32 ((H.1 184 (144 + (2 * s))) * (H.1 184 6))) 100)))) + (w32 (-(H.1 184 (88 + 6 * l)))))) < 1 := h39
        refine q_ic (pc := 40) (v := (-1)) rfl ?_
        refine q_go (pc := 41) rfl ?_
        refine q_ri (pc := 52) rfl ?_
        exact hQ _ (by omega)
