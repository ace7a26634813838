/-! how high a lift takes -/
theorem td_b {y b : Int} (b1 : 1 ≤ b) (h0 : -600000 ≤ y) (h1 : y ≤ 112500) : -600000 ≤ w32 (Int.tdiv y b) ∧ w32 (Int.tdiv y b) ≤ 112500 ∧ (0 ≤ y → 0 ≤ w32 (Int.tdiv y b)) ∧ (y ≤ 11250 → w32 (Int.tdiv y b) ≤ 11250) := by
  have k : -600000 ≤ Int.tdiv y b ∧ Int.tdiv y b ≤ 112500 ∧ (0 ≤ y → 0 ≤ Int.tdiv y b) ∧ (y ≤ 11250 → Int.tdiv y b ≤ 11250) := by
    by_cases z : 0 ≤ y
    · have z1 : 0 ≤ Int.tdiv y b := Int.tdiv_nonneg z (by omega)
      have z2 : Int.tdiv y b ≤ y := Int.tdiv_le_self b z
      omega
    · have z1 : 0 ≤ Int.tdiv (-y) b := Int.tdiv_nonneg (by omega) (by omega)
      have z2 : Int.tdiv (-y) b ≤ -y := Int.tdiv_le_self b (by omega)
      rw [Int.neg_tdiv] at z1 z2
      omega
  rw [w32_eq (x := Int.tdiv y b) (show -2147483648 ≤ Int.tdiv y b ∧ Int.tdiv y b < 2147483648 from ⟨by omega, by omega⟩)]
  exact k
theorem ml_b {u v : Int} (u0 : 0 ≤ u) (u1 : u ≤ 2250) (v0 : 0 ≤ v) (v1 : v ≤ 50) : 0 ≤ w32 (u * v) ∧ w32 (u * v) ≤ 112500 := by
  have h0 : 0 ≤ u * v := Int.mul_nonneg u0 v0
  have h1 : u * v ≤ 2250 * 50 := Int.mul_le_mul u1 v1 v0 (by decide)
  rw [w32_eq (x := u * v) (show -2147483648 ≤ u * v ∧ u * v < 2147483648 from ⟨by omega, by omega⟩)]
  omega
theorem pu_ty {H : xH} (hT : ttTI H) {p : Int} (p0 : 0 ≤ p) (p1 : p ≤ 7) : 0 ≤ H.1 184 (25 + 8 * p) ∧ H.1 184 (25 + 8 * p) ≤ 2000 := by
  have e : ∀ n : Nat, n < 8 → ttTy (ttTb 184) (25 + 8 * (n : Int)) = (0, 0, 2000) := by decide +kernel
  have k1 := e p.toNat (by omega)
  rw [Int.toNat_of_nonneg p0] at k1
  have z1 := ttMc hT (a := 184) (j := 25 + 8 * p) (by decide) (by decide) (by omega) (by show _ < (196 : Int); omega)
  rw [show ttRo 184 = 184 from rfl, k1] at z1
  exact z1
theorem lf_up {dd : Nat} {p : Int} (hd : 2 ≤ dd) {H : xH} (hT : ttTI H) (p0 : 0 ≤ p) (p1 : p ≤ 7) {Q : Int → xH → Prop} (hQ : ∀ r, 0 ≤ r ∧ r ≤ 2250 → Q r H) : xCall dd 240 [(2, 183), (0, p)] H Q := by
  obtain ⟨e, rfl, he⟩ := ttRun0 (n := 1) hd
  have he : 1 ≤ e := he
  have zu := pu_ty hT p0 p1
  have zt : 0 ≤ H.1 183 19 ∧ H.1 183 19 ≤ 2250 := ttMc hT (a := 183) (j := 19) (by decide) (by decide) (by decide) (by decide)
  refine xC_of (L := [(2, 183), (0, p)]) (cd := cd_240) rfl rfl rfl ?_
  refine q_il (pc := 0) (i := 1) (x := p) rfl rfl ?_
  refine q_al (pc := 1) (i := 0) (x := 183) rfl rfl ?_
  refine q_gf (pc := 2) (m := 12180) (t := 0) (c := 18) rfl (ttKc hT (a := 183) (κ := 12) (len := 0) ⟨rfl, rfl⟩ (by decide) (by decide)).1 rfl rfl ?_
  refine q_i2 (pc := 3) rfl (fun h3 => ?_) (fun h3 => ?_)
  · replace h3 : p ≠ (H.1 183 18) := h3
    refine q_al (pc := 7) (i := 0) (x := 183) rfl rfl ?_
    refine q_il (pc := 8) (i := 1) (x := p) rfl rfl ?_
    refine q_ic (pc := 9) (v := 5) rfl ?_
    refine q_iv (pc := 10) (q := 1664972) rfl rfl rfl (ttKc hT (a := 183) (κ := 12) (len := 0) ⟨rfl, rfl⟩ (by decide) (by decide)).1 ?_
    refine lf_ofPlace (j := (25 + 8 * p)) (by omega) (by omega) hT (by omega) (by omega) (by omega) (by omega) ?_
    refine q_ri (pc := 11) rfl ?_
    exact hQ _ (by omega)
  · replace h3 : p = (H.1 183 18) := h3
    refine q_al (pc := 4) (i := 0) (x := 183) rfl rfl ?_
    refine q_gf (pc := 5) (m := 12190) (t := 0) (c := 19) rfl (ttKc hT (a := 183) (κ := 12) (len := 0) ⟨rfl, rfl⟩ (by decide) (by decide)).1 rfl rfl ?_
    refine q_go (pc := 6) rfl ?_
    refine q_ri (pc := 11) rfl ?_
    exact hQ _ (by omega)
theorem lf_climb {dd : Nat} {p w : Int} (hd : 3 ≤ dd) {H : xH} (hT : ttTI H) (p0 : 0 ≤ p) (p1 : p ≤ 7) {Q : Int → xH → Prop} (hQ : ∀ r, 0 ≤ r ∧ r ≤ 11250 → Q r H) : xCall dd 241 [(2, 183), (0, p), (0, w)] H Q := by
  obtain ⟨e, rfl, he⟩ := ttRun0 (n := 2) hd
  have he : 2 ≤ e := he
  have zw : 0 ≤ H.1 184 6 ∧ H.1 184 6 ≤ 50 := ttMc hT (a := 184) (j := 6) (by decide) (by decide) (by decide) (by decide)
  have zn : 0 ≤ H.1 184 5 ∧ H.1 184 5 ≤ 999 := ttMc hT (a := 184) (j := 5) (by decide) (by decide) (by decide) (by decide)
  refine xC_of (L := [(2, 183), (0, p), (0, w), (9, 0)]) (cd := cd_241) rfl rfl rfl ?_
  refine q_al (pc := 0) (i := 0) (x := 183) rfl rfl ?_
  refine q_il (pc := 1) (i := 1) (x := p) rfl rfl ?_
  refine q_ic (pc := 2) (v := 3) rfl ?_
  refine q_iv (pc := 3) (q := 1664972) rfl rfl rfl (ttKc hT (a := 183) (κ := 12) (len := 0) ⟨rfl, rfl⟩ (by decide) (by decide)).1 ?_
  refine lf_ofPlace (j := (23 + 8 * p)) (by omega) (by omega) hT (by omega) (by omega) (by omega) (by omega) ?_
  refine q_if (pc := 4) rfl (fun h4 => ?_) (fun h4 => ?_)
  · replace h4 : (H.1 184 (23 + 8 * p)) ≠ 0 := h4
    refine q_al (pc := 7) (i := 0) (x := 183) rfl rfl ?_
    refine q_il (pc := 8) (i := 1) (x := p) rfl rfl ?_
    refine q_iv (pc := 9) (q := 1920968) rfl rfl rfl (ttKc hT (a := 183) (κ := 12) (len := 0) ⟨rfl, rfl⟩ (by decide) (by decide)).1 ?_
    refine lf_up (by omega) hT (by omega) (by omega) (fun u hu => ?_)
    have zm := ml_b hu.1 hu.2 zw.1 zw.2
    have zd := td_b (b := 100) (by decide) (show -600000 ≤ w32 (u * H.1 184 6) from by omega) zm.2
    refine q_is (pc := 10) (i := 3) (L' := [(2, 183), (0, p), (0, w), (0, u)]) rfl rfl rfl ?_
    refine q_ic (pc := 11) (v := 0) rfl ?_
    refine q_ic (pc := 12) (v := 5) rfl ?_
    refine q_il (pc := 13) (i := 3) (x := u) rfl rfl ?_
    refine q_il (pc := 14) (i := 2) (x := w) rfl rfl ?_
    refine q_if (pc := 15) rfl (fun h15 => ?_) (fun h15 => ?_)
    · replace h15 : w = 0 := h15
      refine q_ic (pc := 25) (v := 0) rfl ?_
      refine q_ib (pc := 26) rfl (by omega) (by omega) ?_
      refine q_al (pc := 27) (i := 0) (x := 183) rfl rfl ?_
      refine q_gf (pc := 28) (m := 12012) (t := 2) (c := 1) rfl (ttKc hT (a := 183) (κ := 12) (len := 0) ⟨rfl, rfl⟩ (by decide) (by decide)).1 rfl rfl ?_
      rw [show H.1 183 1 = 184 from ttFx hT (by decide) (by decide) rfl rfl rfl]
      refine q_ic (pc := 29) (v := 5) rfl ?_
      refine q_ai (pc := 30) rfl (ttKc hT (a := 184) (κ := 20) (len := 196) ⟨rfl, rfl⟩ (by decide) (by decide)).1 (by omega) (by rw [(ttKc hT (a := 184) (κ := 20) (len := 196) ⟨rfl, rfl⟩ (by decide) (by decide)).2]; omega) ?_
      refine q_ib (pc := 31) rfl (by omega) (by omega) ?_
      refine q_im (pc := 32) rfl (by omega) (by omega) ?_
      have ze := td_b (b := 100) (y := (5 * ((u - 0) - (H.1 184 5)))) (by decide) (by omega) (by omega)
      refine q_ic (pc := 33) (v := 100) rfl ?_
      refine q_wd (pc := 34) rfl (by decide) ?_
      refine q_mx (pc := 35) rfl rfl (by omega) ?_
      refine q_ri (pc := 36) rfl ?_
      exact hQ _ (by omega)
    · replace h15 : w ≠ 0 := h15
      refine q_il (pc := 16) (i := 3) (x := u) rfl rfl ?_
      refine q_al (pc := 17) (i := 0) (x := 183) rfl rfl ?_
      refine q_gf (pc := 18) (m := 12012) (t := 2) (c := 1) rfl (ttKc hT (a := 183) (κ := 12) (len := 0) ⟨rfl, rfl⟩ (by decide) (by decide)).1 rfl rfl ?_
      rw [show H.1 183 1 = 184 from ttFx hT (by decide) (by decide) rfl rfl rfl]
      refine q_ic (pc := 19) (v := 6) rfl ?_
      refine q_ai (pc := 20) rfl (ttKc hT (a := 184) (κ := 20) (len := 196) ⟨rfl, rfl⟩ (by decide) (by decide)).1 (by omega) (by rw [(ttKc hT (a := 184) (κ := 20) (len := 196) ⟨rfl, rfl⟩ (by decide) (by decide)).2]; omega) ?_
      refine q_wm (pc := 21) rfl ?_
      refine q_ic (pc := 22) (v := 100) rfl ?_
      refine q_wd (pc := 23) rfl (by decide) ?_
      refine q_go (pc := 24) rfl ?_
      refine q_ib (pc := 26) rfl (by omega) (by omega) ?_
      refine q_al (pc := 27) (i := 0) (x := 183) rfl rfl ?_
      refine q_gf (pc := 28) (m := 12012) (t := 2) (c := 1) rfl (ttKc hT (a := 183) (κ := 12) (len := 0) ⟨rfl, rfl⟩ (by decide) (by decide)).1 rfl rfl ?_
      rw [show H.1 183 1 = 184 from ttFx hT (by decide) (by decide) rfl rfl rfl]
      refine q_ic (pc := 29) (v := 5) rfl ?_
      refine q_ai (pc := 30) rfl (ttKc hT (a := 184) (κ := 20) (len := 196) ⟨rfl, rfl⟩ (by decide) (by decide)).1 (by omega) (by rw [(ttKc hT (a := 184) (κ := 20) (len := 196) ⟨rfl, rfl⟩ (by decide) (by decide)).2]; omega) ?_
      refine q_ib (pc := 31) rfl (by omega) (by omega) ?_
      refine q_im (pc := 32) rfl (by omega) (by omega) ?_
      have ze := td_b (b := 100) (y := (5 * ((u - (w32 (Int.tdiv (w32 (u * (H.1 184 6))) 100))) - (H.1 184 5)))) (by decide) (by omega) (by omega)
      refine q_ic (pc := 33) (v := 100) rfl ?_
      refine q_wd (pc := 34) rfl (by decide) ?_
      refine q_mx (pc := 35) rfl rfl (by omega) ?_
      refine q_ri (pc := 36) rfl ?_
      exact hQ _ (by omega)
  · replace h4 : (H.1 184 (23 + 8 * p)) = 0 := h4
    refine q_ic (pc := 5) (v := 0) rfl ?_
    refine q_ri (pc := 6) rfl ?_
    exact hQ _ (by omega)
theorem lf_higher {dd : Nat} {p h w : Int} (hd : 4 ≤ dd) {H : xH} (hT : ttTI H) (p0 : 0 ≤ p) (p1 : p ≤ 7) (h0 : 0 ≤ h) (h1 : h ≤ 60) {Q : Int → xH → Prop} (hQ : ∀ r, r ≤ H.1 184 7 → (h ≤ H.1 184 7 → h ≤ r) → Q r H) : xCall dd 269 [(2, 183), (0, p), (0, h), (0, w)] H Q := by
  obtain ⟨e, rfl, he⟩ := ttRun0 (n := 3) hd
  have he : 3 ≤ e := he
  refine xC_of (L := [(2, 183), (0, p), (0, h), (0, w)]) (cd := cd_269) rfl rfl rfl ?_
  refine q_al (pc := 0) (i := 0) (x := 183) rfl rfl ?_
  refine q_gf (pc := 1) (m := 12012) (t := 2) (c := 1) rfl (ttKc hT (a := 183) (κ := 12) (len := 0) ⟨rfl, rfl⟩ (by decide) (by decide)).1 rfl rfl ?_
  rw [show H.1 183 1 = 184 from ttFx hT (by decide) (by decide) rfl rfl rfl]
  refine q_ic (pc := 2) (v := 7) rfl ?_
  refine q_ai (pc := 3) rfl (ttKc hT (a := 184) (κ := 20) (len := 196) ⟨rfl, rfl⟩ (by decide) (by decide)).1 (by omega) (by rw [(ttKc hT (a := 184) (κ := 20) (len := 196) ⟨rfl, rfl⟩ (by decide) (by decide)).2]; omega) ?_
  refine q_il (pc := 4) (i := 2) (x := h) rfl rfl ?_
  refine q_al (pc := 5) (i := 0) (x := 183) rfl rfl ?_
  refine q_il (pc := 6) (i := 1) (x := p) rfl rfl ?_
  refine q_il (pc := 7) (i := 3) (x := w) rfl rfl ?_
  refine q_ic (pc := 8) (v := 1) rfl ?_
  refine q_i2 (pc := 9) rfl (fun h9 => ?_) (fun h9 => ?_)
  · replace h9 : w ≠ 1 := h9
    refine q_ic (pc := 12) (v := 0) rfl ?_
    refine q_iv (pc := 13) (q := 1928972) rfl rfl rfl (ttKc hT (a := 183) (κ := 12) (len := 0) ⟨rfl, rfl⟩ (by decide) (by decide)).1 ?_
    refine lf_climb (by omega) hT (by omega) (by omega) (fun u hu => ?_)
    refine q_ia (pc := 14) rfl (by omega) (by omega) ?_
    refine q_mn (pc := 15) rfl rfl (by omega) ?_
    refine q_ri (pc := 16) rfl ?_
    exact hQ _ (by omega) (fun _ => by omega)
  · replace h9 : w = 1 := h9
    refine q_ic (pc := 10) (v := 1) rfl ?_
    refine q_go (pc := 11) rfl ?_
    refine q_iv (pc := 13) (q := 1928972) rfl rfl rfl (ttKc hT (a := 183) (κ := 12) (len := 0) ⟨rfl, rfl⟩ (by decide) (by decide)).1 ?_
    refine lf_climb (by omega) hT (by omega) (by omega) (fun u hu => ?_)
    refine q_ia (pc := 14) rfl (by omega) (by omega) ?_
    refine q_mn (pc := 15) rfl rfl (by omega) ?_
    refine q_ri (pc := 16) rfl ?_
    exact hQ _ (by omega) (fun _ => by omega)
