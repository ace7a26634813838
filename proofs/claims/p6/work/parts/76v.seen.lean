/-! what is seen, exactly -/
def rsSight (R : Int → Int) (p s : Int) : Int := if (0 ≤ p ∧ p < R 1) ∧ (0 ≤ s ∧ s ≤ 3) then (if R 4 = 20 then -3 else R 4 + 1) else -2
def rsSeen (R : Int → Int) (p s : Int) : Int → Int := if ((0 ≤ p ∧ p < R 1) ∧ (0 ≤ s ∧ s ≤ 3)) ∧ R 4 ≠ 20 then sUp (sUp (sUp R (156 + 2 * R 4) p) (156 + 2 * R 4 + 1) s) 4 (R 4 + 1) else R
def rsUns (R : Int → Int) (n : Int) : Int := if 0 ≤ n ∧ n ≤ R 4 then R 4 - n else -2
def rsUnsee (R : Int → Int) (n : Int) : Int → Int := if 0 ≤ n ∧ n ≤ R 4 then sUp R 4 (R 4 - n) else R
theorem sr_sight {D D' : xD} {b : Int} {S : tSa} {R R' : Int → Int} {h n p s : Int} (hR : skR D b (S, R, h)) (ujr6 : R 3 ≤ 6) (n0 : 0 ≤ n) (n1 : n ≤ 19) (hn : R 4 = n) (dA : ∀ j : Int, D' b j = D b j) (d6 : D' (b + 6) 0 = n + 1) (dN : ∀ a j : Int, b < a → a ≤ b + 26 → a ≠ b + 6 → a ≠ b + 7 → a ≠ b + 8 → D' a j = D a j) (dv : D' (b + 7) n = p ∧ D' (b + 8) n = s) (dw : ∀ j : Int, j ≠ n → D' (b + 7) j = D (b + 7) j ∧ D' (b + 8) j = D (b + 8) j) (rv : R' (156 + 2 * n) = p ∧ R' (156 + 2 * n + 1) = s) (ujr4 : R' 4 = n + 1) (rN : ∀ i : Int, i ≠ 4 → i ≠ 156 + 2 * n → i ≠ 156 + 2 * n + 1 → R' i = R i) : skR D' b (S, R', h) := by
  obtain ⟨h1, h2, h3, h4, h5, h6⟩ := hR
  have h5 : skI D b R := h5
  refine ⟨skA_c h1 (fun j _ => dA j) (fun i i0 i1 i3 i4 => rN i i4 (by omega) (by omega)), skP_c h2 (fun a j a0 a1 => dN a j (by omega) (by omega) (by omega) (by omega) (by omega)) (rN 1 (by decide) (by omega) (by omega)) (fun i i0 i1 => rN i (by omega) (by omega) (by omega)), skL_c h3 (fun a j a0 a1 => dN a j (by omega) (by omega) (by omega) (by omega) (by omega)) (rN 2 (by decide) (by omega) (by omega)) (fun i i0 i1 => rN i (by omega) (by omega) (by omega)), skV_c h4 ujr6 (fun a j a0 a1 => dN a j (by omega) (by omega) (by omega) (by omega) (by omega)) (rN 3 (by decide) (by omega) (by omega)) (fun i i0 i1 => rN i (by omega) (by omega) (by omega)), ⟨d6.trans ujr4.symm, fun q q0 q1 => ?_⟩, skH_c h6 (dA 14) (rN 1 (by decide) (by omega) (by omega)) (fun p p0 p1 => rN _ (by omega) (by omega) (by omega))⟩
  have q1 : q < R' 4 := q1
  show D' (b + 7) q = R' (156 + 2 * q) ∧ D' (b + 8) q = R' (156 + 2 * q + 1)
  by_cases z : q = n
  · rw [z]; exact ⟨dv.1.trans rv.1.symm, dv.2.trans rv.2.symm⟩
  · rw [(dw q z).1, (dw q z).2, rN _ (by omega) (by omega) (by omega), rN _ (by omega) (by omega) (by omega)]
    exact h5.2 q q0 (by omega)
theorem sr_uns {D D' : xD} {b : Int} {S : tSa} {R : Int → Int} {h n : Int} (hR : skR D b (S, R, h)) (ujr6 : R 3 ≤ 6) (n1 : n ≤ R 4) (d6 : D' (b + 6) 0 = n) (dN : ∀ a j : Int, b ≤ a → a ≤ b + 26 → ¬ (a = b + 6 ∧ j = 0) → D' a j = D a j) : skR D' b (S, sUp R 4 n, h) := by
  obtain ⟨h1, h2, h3, h4, h5, h6⟩ := hR
  have h5 : skI D b R := h5
  have e : ∀ i : Int, i ≠ 4 → sUp R 4 n i = R i := fun i hi => sUp_ne hi
  refine ⟨skA_c h1 (fun j _ => dN b j (by omega) (by omega) (by omega)) (fun i _ _ _ i4 => e i i4), skP_c h2 (fun a j a0 a1 => dN a j (by omega) (by omega) (by omega)) (e 1 (by decide)) (fun i i0 i1 => e i (by omega)), skL_c h3 (fun a j a0 a1 => dN a j (by omega) (by omega) (by omega)) (e 2 (by decide)) (fun i i0 i1 => e i (by omega)), ⟨?_, fun s s0 s1 => ?_⟩, ⟨d6.trans (show n = sUp R 4 n 4 from sUp_eq.symm), fun q q0 q1 => ?_⟩, skH_c h6 (dN b 14 (by omega) (by omega) (by omega)) (e 1 (by decide)) (fun p p0 p1 => e _ (by omega))⟩
  · show D' (b + 3) 0 = sUp R 4 n 3
    rw [dN (b + 3) 0 (by omega) (by omega) (by omega), e 3 (by decide)]; exact h4.1
  · have s1 : s < sUp R 4 n 3 := s1
    rw [e 3 (by decide)] at s1
    show D' (b + 4) s = sUp R 4 n (144 + 2 * s) ∧ D' (b + 5) s = sUp R 4 n (144 + 2 * s + 1)
    rw [dN (b + 4) s (by omega) (by omega) (by omega), dN (b + 5) s (by omega) (by omega) (by omega), e _ (by omega), e _ (by omega)]; exact h4.2 s s0 s1
  · have q1 : q < sUp R 4 n 4 := q1
    rw [sUp_eq] at q1
    show D' (b + 7) q = sUp R 4 n (156 + 2 * q) ∧ D' (b + 8) q = sUp R 4 n (156 + 2 * q + 1)
    rw [dN (b + 7) q (by omega) (by omega) (by omega), dN (b + 8) q (by omega) (by omega) (by omega), e _ (by omega), e _ (by omega)]; exact h5.2 q q0 (by omega)
theorem ty_20 (r : Nat) (hr : r = 14 ∨ r = 15) {N j x : Int} (h0 : -2147483648 ≤ x) (h1 : x ≤ 2147483647) : ttM N (ttTy (ttTb r) j) x := by
  have h : ttTb r = (20, 20, 20, 1, [(0, -2147483648, 2147483647)]) := by rcases hr with rfl | rfl <;> rfl
  rw [h]
  unfold ttTy
  rw [Int.emod_one]
  exact ⟨h0, h1⟩
abbrev eW : ttEf := (true, [(13, 0, 0), (14, 0, 19), (15, 0, 19)])
theorem ty_fi {s : Int} (s0 : 0 ≤ s) (s1 : s ≤ 19) : ∀ c : Nat, c < 2 → ttTy (ttTb 184) (156 + 2 * s + c) = ([(0, 0, 7), (0, 0, 3)] : List ttI).getD c (9, 0, 0) := by
  have k : ∀ n : Nat, n < 20 → ∀ c : Nat, c < 2 → ttTy (ttTb 184) (156 + 2 * (n : Int) + (c : Int)) = ([(0, 0, 7), (0, 0, 3)] : List ttI).getD c (9, 0, 0) := by decide
  obtain ⟨n, rfl⟩ := Int.eq_ofNat_of_zero_le s0
  exact k n (by omega)
theorem ls_sadd {dd : Nat} (hd : 1 ≤ dd) {H : xH} (hT : ttTI H) (hX : ttXX YY H) {b n x y : Int} (hB : skB b) (hW : skW H.1 b) (es : H.1 (b + 6) 0 = n) (n0 : 0 ≤ n) (n1 : n ≤ 19) (x0 : -2147483648 ≤ x) (x1 : x ≤ 2147483647) (y0 : -2147483648 ≤ y) (y1 : y ≤ 2147483647) {Q : Int → xH → Prop} (hq : ∀ J, ttTI J → ttXX YY J → ttFr eW H J → J = (xUp (xUp (xUp H.1 (b + 7) n x) (b + 8) n y) (b + 6) 0 (n + 1), H.2) → Q 0 J) : xCall dd 108 [(2, b + 6), (0, x), (0, y)] H Q := by
  obtain ⟨e, rfl, he⟩ := ttRun0 (n := 0) hd
  have hi := skB_in hB
  have hn : 210 ≤ (H.2.2.2.1 : Int) := by have := hT.1; omega
  have y9 : ttTI H ∧ ttXX YY H ∧ ttFr eW H H := ⟨hT, hX, ttFr_rf _ H⟩
  refine xC_of (L := [(2, b + 6), (0, x), (0, y)]) (cd := cd_108) rfl rfl rfl ?_
  refine q_al (pc := 0) (i := 0) (x := (b + 6)) rfl rfl ?_
  refine q_gf (pc := 1) (m := 9000) (t := 0) (c := 0) rfl (sk_kx y9.1 hB (o := 6) (by decide) (by decide) (κ := 9) (len := 0) ⟨rfl, rfl⟩).1 rfl rfl ?_
  rw [show H.1 (b + 6) 0 = n from es]
  refine q_ic (pc := 2) (v := 20) rfl ?_
  refine q_i2 (pc := 3) rfl (fun h3 => ?_) (fun h3 => ?_)
  · replace h3 : 20 ≤ n := h3
    refine q_rv (pc := 22) rfl ?_
    omega
  · replace h3 : n < 20 := h3
    refine q_al (pc := 4) (i := 0) (x := (b + 6)) rfl rfl ?_
    refine q_gf (pc := 5) (m := 9012) (t := 2) (c := 1) rfl (sk_kx y9.1 hB (o := 6) (by decide) (by decide) (κ := 9) (len := 0) ⟨rfl, rfl⟩).1 rfl rfl ?_
    rw [show H.1 (b + 6) 1 = (b + 7) from (skW_fr y9.2.2 hn hB (by decide) hW).2.2.2.2.1]
    refine q_al (pc := 6) (i := 0) (x := (b + 6)) rfl rfl ?_
    refine q_gf (pc := 7) (m := 9000) (t := 0) (c := 0) rfl (sk_kx y9.1 hB (o := 6) (by decide) (by decide) (κ := 9) (len := 0) ⟨rfl, rfl⟩).1 rfl rfl ?_
    rw [show H.1 (b + 6) 0 = n from es]
    refine q_il (pc := 8) (i := 1) (x := x) rfl rfl ?_
    refine q_si (pc := 9) rfl (by omega) (sk_kx y9.1 hB (o := 7) (by decide) (by decide) (κ := 20) (len := 20) ⟨rfl, rfl⟩).1 (by omega) (by rw [(sk_kx y9.1 hB (o := 7) (by decide) (by decide) (κ := 20) (len := 20) ⟨rfl, rfl⟩).2]; omega) ?_
    have y10 := rE_put y9.1 y9.2.1 y9.2.2 (a := (b + 7)) (j := n) (x := x) 14 (sk_ro hB (o := 7) (by decide) (by decide)).1 (by omega) (ty_20 14 (Or.inl rfl) (by omega) (by omega)) ⟨(14, 0, 19), by decide, rfl, (show (0 : Int) ≤ n ∧ n ≤ 19 from ⟨by omega, by omega⟩)⟩ (by decide)
    obtain ⟨Y10, yk10⟩ : ∃ X : xH, X = (xUp H.1 (b + 7) n x, H.2) := ⟨_, rfl⟩
    rw [← yk10] at y10 ⊢
    have tr_Y10_b6_0 : Y10.1 (b + 6) 0 = n := by rw [yk10]; exact (up_ne (by omega)).trans (es)
    refine q_al (pc := 10) (i := 0) (x := (b + 6)) rfl rfl ?_
    refine q_gf (pc := 11) (m := 9022) (t := 2) (c := 2) rfl (sk_kx y10.1 hB (o := 6) (by decide) (by decide) (κ := 9) (len := 0) ⟨rfl, rfl⟩).1 rfl rfl ?_
    rw [show Y10.1 (b + 6) 2 = (b + 8) from (skW_fr y10.2.2 hn hB (by decide) hW).2.2.2.2.2]
    refine q_al (pc := 12) (i := 0) (x := (b + 6)) rfl rfl ?_
    refine q_gf (pc := 13) (m := 9000) (t := 0) (c := 0) rfl (sk_kx y10.1 hB (o := 6) (by decide) (by decide) (κ := 9) (len := 0) ⟨rfl, rfl⟩).1 rfl rfl ?_
    rw [show Y10.1 (b + 6) 0 = n from tr_Y10_b6_0]
    refine q_il (pc := 14) (i := 2) (x := y) rfl rfl ?_
    refine q_si (pc := 15) rfl (by omega) (sk_kx y10.1 hB (o := 8) (by decide) (by decide) (κ := 20) (len := 20) ⟨rfl, rfl⟩).1 (by omega) (by rw [(sk_kx y10.1 hB (o := 8) (by decide) (by decide) (κ := 20) (len := 20) ⟨rfl, rfl⟩).2]; omega) ?_
    have y11 := rE_put y10.1 y10.2.1 y10.2.2 (a := (b + 8)) (j := n) (x := y) 15 (sk_ro hB (o := 8) (by decide) (by decide)).1 (by omega) (ty_20 15 (Or.inr rfl) (by omega) (by omega)) ⟨(15, 0, 19), by decide, rfl, (show (0 : Int) ≤ n ∧ n ≤ 19 from ⟨by omega, by omega⟩)⟩ (by decide)
    obtain ⟨Y11, yk11⟩ : ∃ X : xH, X = (xUp Y10.1 (b + 8) n y, Y10.2) := ⟨_, rfl⟩
    rw [← yk11] at y11 ⊢
    have tr_Y11_b6_0 : Y11.1 (b + 6) 0 = n := by rw [yk11]; exact (up_ne (by omega)).trans (tr_Y10_b6_0)
    refine q_al (pc := 16) (i := 0) (x := (b + 6)) rfl rfl ?_
    refine q_d2 (pc := 17) rfl ?_
    refine q_gf (pc := 18) (m := 9000) (t := 0) (c := 0) rfl (sk_kx y11.1 hB (o := 6) (by decide) (by decide) (κ := 9) (len := 0) ⟨rfl, rfl⟩).1 rfl rfl ?_
    rw [show Y11.1 (b + 6) 0 = n from tr_Y11_b6_0]
    refine q_ic (pc := 19) (v := 1) rfl ?_
    refine q_ia (pc := 20) rfl (by omega) (by omega) ?_
    refine q_pf (pc := 21) (m := 9000) (c := 0) rfl (show xPt 0 0 _ _ from (sk_kx y11.1 hB (o := 6) (by decide) (by decide) (κ := 9) (len := 0) ⟨rfl, rfl⟩).1) rfl ?_
    have y12 := rE_put y11.1 y11.2.1 y11.2.2 (a := (b + 6)) (j := 0) (x := (n + 1)) 13 (sk_ro hB (o := 6) (by decide) (by decide)).1 (by omega) (show (0 : Int) ≤ (n + 1) ∧ (n + 1) ≤ 20 from ⟨by omega, by omega⟩) ⟨(13, 0, 0), by decide, rfl, (show (0 : Int) ≤ 0 ∧ 0 ≤ 0 from ⟨by omega, by omega⟩)⟩ (by decide)
    obtain ⟨Y12, yk12⟩ : ∃ X : xH, X = (xUp Y11.1 (b + 6) 0 (n + 1), Y11.2) := ⟨_, rfl⟩
    rw [← yk12] at y12 ⊢
    have tr_Y12_b6_0 : Y12.1 (b + 6) 0 = (n + 1) := by rw [yk12]; exact up_eq
    refine q_rv (pc := 22) rfl ?_
    refine hq Y12 y12.1 y12.2.1 y12.2.2 ?_
    rw [yk12, yk11, yk10]
theorem lx_sight1 {dd : Nat} (hd : 2 ≤ dd) {H : xH} (hT : ttTI H) (hX : ttXX YY H) {b : Int} (hB : skB b) (h5 : H.1 1 5 = b) (hW : skW H.1 b) {S : tSa} {R : Int → Int} {h : Int} (hR : skR H.1 b (S, R, h)) (ujr6 : R 3 ≤ 6) {p s : Int} (p0 : -2147483648 ≤ p) (p1 : p ≤ 2147483647) (s0 : -2147483648 ≤ s) (s1 : s ≤ 2147483647) {Q : Int → xH → Prop} (hq : ∀ r K, r = rsSight R p s → skR K.1 b (S, rsSeen R p s, h) → skO b H K → Q r K) : xCall dd 143 [(2, 1), (0, p), (0, s)] H Q := by
  obtain ⟨e, rfl, he⟩ := ttRun0 (n := 1) hd
  have he : 1 ≤ e := he
  have hi := skB_in hB
  have hn : 210 ≤ (H.2.2.2.1 : Int) := by have := hT.1; omega
  have eN : H.1 b 4 = R 1 := skA_i hR.1 (j := 4) (i := 1) (by decide)
  have es : H.1 (b + 6) 0 = R 4 := hR.2.2.2.2.1.1
  have t4 : 0 ≤ R 4 ∧ R 4 ≤ 20 := by
    have w := sk_ro hB (o := 6) (by decide) (by decide)
    have u := ttMc hT (a := b + 6) (j := 0) w.2.1 w.2.2 (by decide) (by rw [w.1]; decide)
    rw [w.1] at u
    rw [← es]
    exact u
  refine xC_of (L := [(2, 1), (0, p), (0, s)]) (cd := cd_143) rfl rfl rfl ?_
  refine q_al (pc := 0) (i := 0) (x := 1) rfl rfl ?_
  refine q_gf (pc := 1) (m := 11052) (t := 2) (c := 5) rfl (ttKc hT (a := 1) (κ := 11) (len := 0) ⟨rfl, rfl⟩ (by decide) (by decide)).1 rfl rfl ?_
  rw [show H.1 1 5 = b from h5]
  refine q_il (pc := 2) (i := 1) (x := p) rfl rfl ?_
  refine q_iv (pc := 3) (q := 904808) rfl rfl rfl (sk_kb hT hB).1 ?_
  refine ls_has (by omega) hT hB eN (fun hp => ?_) (fun hp => ?_)
  · skip
    refine q_if (pc := 4) rfl (fun h4 => ?_) (fun h4 => ?_)
    · replace h4 : (1 : Int) = 0 := h4
      omega
    · replace h4 : (1 : Int) ≠ 0 := h4
      refine q_il (pc := 5) (i := 2) (x := s) rfl rfl ?_
      refine q_if (pc := 6) rfl (fun h6 => ?_) (fun h6 => ?_)
      · replace h6 : s < 0 := h6
        refine q_ic (pc := 10) (v := (-2)) rfl ?_
        refine q_ri (pc := 11) rfl ?_
        refine hq _ H ?_ ?_ skO_r
        · unfold rsSight
          rw [if_neg (fun z => by omega)]
        · rw [show rsSeen R p s = R from if_neg (fun z => by omega)]
          exact hR
      · replace h6 : 0 ≤ s := h6
        refine q_il (pc := 7) (i := 2) (x := s) rfl rfl ?_
        refine q_ic (pc := 8) (v := 3) rfl ?_
        refine q_i2 (pc := 9) rfl (fun h9 => ?_) (fun h9 => ?_)
        · replace h9 : s ≤ 3 := h9
          refine q_al (pc := 12) (i := 0) (x := 1) rfl rfl ?_
          refine q_gf (pc := 13) (m := 11052) (t := 2) (c := 5) rfl (ttKc hT (a := 1) (κ := 11) (len := 0) ⟨rfl, rfl⟩ (by decide) (by decide)).1 rfl rfl ?_
          rw [show H.1 1 5 = b from h5]
          refine q_gf (pc := 14) (m := 10032) (t := 2) (c := 3) rfl (sk_kb hT hB).1 rfl rfl ?_
          rw [show H.1 b 3 = b + 6 from hW.1.2.2.2]
          refine q_gf (pc := 15) (m := 9000) (t := 0) (c := 0) rfl (sk_kx hT hB (o := 6) (by decide) (by decide) (κ := 9) (len := 0) ⟨rfl, rfl⟩).1 rfl rfl ?_
          rw [es]
          refine q_ic (pc := 16) (v := 20) rfl ?_
          refine q_i2 (pc := 17) rfl (fun h17 => ?_) (fun h17 => ?_)
          · replace h17 : (R 4) < 20 := h17
            refine q_al (pc := 20) (i := 0) (x := 1) rfl rfl ?_
            refine q_gf (pc := 21) (m := 11052) (t := 2) (c := 5) rfl (ttKc hT (a := 1) (κ := 11) (len := 0) ⟨rfl, rfl⟩ (by decide) (by decide)).1 rfl rfl ?_
            rw [show H.1 1 5 = b from h5]
            refine q_gf (pc := 22) (m := 10032) (t := 2) (c := 3) rfl (sk_kb hT hB).1 rfl rfl ?_
            rw [show H.1 b 3 = b + 6 from hW.1.2.2.2]
            refine q_il (pc := 23) (i := 1) (x := p) rfl rfl ?_
            refine q_il (pc := 24) (i := 2) (x := s) rfl rfl ?_
            refine q_iv (pc := 25) (q := 864735) rfl rfl rfl (sk_kx hT hB (o := 6) (by decide) (by decide) (κ := 9) (len := 0) ⟨rfl, rfl⟩).1 ?_
            refine ls_sadd (by omega) hT hX hB hW es (by omega) (by omega) p0 p1 s0 s1 (fun J jT jX jF jJ => ?_)
            have jn : 210 ≤ (J.2.2.2.1 : Int) := by have := jT.1; omega
            have jd : J.1 = xUp (xUp (xUp H.1 (b + 7) (R 4) p) (b + 8) (R 4) s) (b + 6) 0 (R 4 + 1) := by rw [jJ]
            refine q_al (pc := 26) (i := 0) (x := 1) rfl rfl ?_
            refine q_iv (pc := 27) (q := 1104887) rfl rfl rfl (ttKc jT (a := 1) (κ := 11) (len := 0) ⟨rfl, rfl⟩ (by decide) (by decide)).1 ?_
            refine hc_4 (ttXX_out yyStab (fun _ _ => trivial)) e (by show 1 ≤ e; omega) [(2, 1)] J jT jX ⟨⟨rfl, ttPk_of rfl⟩, trivial⟩ (fun _ hq => absurd hq List.not_mem_nil) _ (fun ujr3 M mT mX mF mr _ => ?_)
            have jO : skO b H J := skO_u (K := (xUp (xUp H.1 (b + 7) (R 4) p) (b + 8) (R 4) s, H.2)) (skO_u (K := (xUp H.1 (b + 7) (R 4) p, H.2)) (skO_u (K := H) skO_r hB (by omega) rfl) hB (by omega) rfl) hB (by omega) jJ
            have mO : skO b H M := fun c hc hne a j a0 a1 => (sk_fr mF jn hc (by decide) a0 a1).trans (jO c hc hne a j a0 a1)
            have ms : ∀ a j : Int, b ≤ a → a ≤ b + 26 → M.1 a j = J.1 a j := fun a j a0 a1 => sk_fr mF jn hB (by decide) a0 a1
            have m5 : M.1 1 5 = b := (fr_no mF 1 (by omega) rfl (by decide)).trans ((fr_no jF 1 (by omega) rfl (by decide)).trans h5)
            have mW : skW M.1 b := skW_fr mF jn hB (by decide) (skW_fr jF hn hB (by decide) hW)
            have m6 : M.1 (b + 6) 0 = R 4 + 1 := by rw [ms _ _ (by omega) (by omega), jd]; exact up_eq
            refine q_al (pc := 28) (i := 0) (x := 1) rfl rfl ?_
            refine q_gf (pc := 29) (m := 11052) (t := 2) (c := 5) rfl (ttKc mT (a := 1) (κ := 11) (len := 0) ⟨rfl, rfl⟩ (by decide) (by decide)).1 rfl rfl ?_
            rw [show M.1 1 5 = b from m5]
            refine q_gf (pc := 30) (m := 10032) (t := 2) (c := 3) rfl (sk_kb mT hB).1 rfl rfl ?_
            rw [show M.1 b 3 = b + 6 from mW.1.2.2.2]
            refine q_gf (pc := 31) (m := 9000) (t := 0) (c := 0) rfl (sk_kx mT hB (o := 6) (by decide) (by decide) (κ := 9) (len := 0) ⟨rfl, rfl⟩).1 rfl rfl ?_
            rw [m6]
            refine q_ri (pc := 32) rfl ?_
            have cd : ((0 ≤ p ∧ p < R 1) ∧ (0 ≤ s ∧ s ≤ 3)) ∧ R 4 ≠ 20 := ⟨⟨hp, by omega, by omega⟩, by omega⟩
            refine hq _ M ?_ ?_ mO
            · unfold rsSight
              rw [if_pos cd.1, if_neg cd.2]
            · rw [show rsSeen R p s = sUp (sUp (sUp R (156 + 2 * R 4) p) (156 + 2 * R 4 + 1) s) 4 (R 4 + 1) from if_pos cd]
              have e : ∀ a j : Int, b ≤ a → a ≤ b + 26 → M.1 a j = xUp (xUp (xUp H.1 (b + 7) (R 4) p) (b + 8) (R 4) s) (b + 6) 0 (R 4 + 1) a j := fun a j a0 a1 => by rw [ms a j a0 a1, jd]
              exact sr_sight hR ujr6 t4.1 (by omega) rfl (fun j => (e b j (by omega) (by omega)).trans ((up_ne (by omega)).trans ((up_ne (by omega)).trans (up_ne (by omega))))) (by rw [e _ _ (by omega) (by omega)]; exact up_eq) (fun a j a0 a1 a2 a3 a4 => (e a j (by omega) a1).trans ((up_ne (by omega)).trans ((up_ne (by omega)).trans (up_ne (by omega))))) ⟨(e _ _ (by omega) (by omega)).trans ((up_ne (by omega)).trans ((up_ne (by omega)).trans up_eq)), (e _ _ (by omega) (by omega)).trans ((up_ne (by omega)).trans up_eq)⟩ (fun j ujj0 => ⟨(e _ _ (by omega) (by omega)).trans ((up_ne (by omega)).trans ((up_ne (by omega)).trans (up_ne (by omega)))), (e _ _ (by omega) (by omega)).trans ((up_ne (by omega)).trans ((up_ne (by omega)).trans (up_ne (by omega))))⟩) ⟨(sUp_ne (by omega)).trans ((sUp_ne (by omega)).trans sUp_eq), (sUp_ne (by omega)).trans sUp_eq⟩ sUp_eq (fun i i0 i1 i2 => (sUp_ne (by omega)).trans ((sUp_ne (by omega)).trans (sUp_ne (by omega))))
          · replace h17 : 20 ≤ (R 4) := h17
            refine q_ic (pc := 18) (v := (-3)) rfl ?_
            refine q_ri (pc := 19) rfl ?_
            refine hq _ H ?_ ?_ skO_r
            · unfold rsSight
              rw [if_pos ⟨hp, by omega, by omega⟩, if_pos (by omega)]
            · rw [show rsSeen R p s = R from if_neg (fun z => z.2 (by omega))]
              exact hR
        · replace h9 : 3 < s := h9
          refine q_ic (pc := 10) (v := (-2)) rfl ?_
          refine q_ri (pc := 11) rfl ?_
          refine hq _ H ?_ ?_ skO_r
          · unfold rsSight
            rw [if_neg (fun z => by omega)]
          · rw [show rsSeen R p s = R from if_neg (fun z => by omega)]
            exact hR
  · skip
    refine q_if (pc := 4) rfl (fun h4 => ?_) (fun h4 => ?_)
    · replace h4 : (0 : Int) = 0 := h4
      refine q_ic (pc := 10) (v := (-2)) rfl ?_
      refine q_ri (pc := 11) rfl ?_
      refine hq _ H ?_ ?_ skO_r
      · unfold rsSight
        rw [if_neg (fun z => hp z.1)]
      · rw [show rsSeen R p s = R from if_neg (fun z => hp z.1.1)]
        exact hR
    · replace h4 : (0 : Int) ≠ 0 := h4
      omega
theorem lf_isPl {dd : Nat} {p : Int} (hd : 2 ≤ dd) {H : xH} (hT : ttTI H) {Q : Int → xH → Prop} (hy : 0 ≤ p ∧ p < H.1 184 1 → Q 1 H) (hn : ¬ (0 ≤ p ∧ p < H.1 184 1) → Q 0 H) : xCall dd 207 [(2, 183), (0, p)] H Q := by
  obtain ⟨e, rfl, he⟩ := ttRun0 (n := 1) hd
  have he : 1 ≤ e := he
  have z1 := ttMc hT (a := 184) (j := 1) (by decide) (by decide) (by decide) (by decide)
  have z1 : 0 ≤ H.1 184 1 ∧ H.1 184 1 ≤ 8 := z1
  refine xC_of (L := [(2, 183), (0, p)]) (cd := cd_207) rfl rfl rfl ?_
  refine q_il (pc := 0) (i := 1) (x := p) rfl rfl ?_
  refine q_2l (pc := 1) rfl ?_
  refine q_lc (pc := 2) (v := 0) rfl ?_
  refine q_al (pc := 3) (i := 0) (x := 183) rfl rfl ?_
  refine q_gf (pc := 4) (m := 12012) (t := 2) (c := 1) rfl (ttKc hT (a := 183) (κ := 12) (len := 0) ⟨rfl, rfl⟩ (by decide) (by decide)).1 rfl rfl ?_
  rw [show H.1 183 1 = 184 from ttFx hT (by decide) (by decide) rfl rfl rfl]
  refine q_ic (pc := 5) (v := 1) rfl ?_
  refine q_ai (pc := 6) rfl (ttKc hT (a := 184) (κ := 20) (len := 196) ⟨rfl, rfl⟩ (by decide) (by decide)).1 (by omega) (by rw [(ttKc hT (a := 184) (κ := 20) (len := 196) ⟨rfl, rfl⟩ (by decide) (by decide)).2]; omega) ?_
  refine q_ic (pc := 7) (v := 1) rfl ?_
  refine q_ib (pc := 8) rfl (by omega) (by omega) ?_
  refine q_2l (pc := 9) rfl ?_
  refine q_ij (pc := 10) (q := 1615932) rfl rfl rfl trivial ?_
  refine lf_in (by omega) (fun jn10 => ?_) (fun jn10 => ?_)
  · skip
    refine q_rz (pc := 11) rfl (by omega) ?_
    exact hy ⟨by omega, by omega⟩
  · skip
    refine q_rz (pc := 11) rfl (by omega) ?_
    exact hn (fun z => by omega)
theorem lx_sight2 {dd : Nat} (hd : 3 ≤ dd) {H : xH} (hT : ttTI H) {p s : Int} (p0 : -2147483648 ≤ p) (p1 : p ≤ 2147483647) {Q : Int → xH → Prop} (hq : ∀ r K, r = rsSight (H.1 184) p s → K.1 184 = rsSeen (H.1 184) p s → Q r K) : xCall dd 247 [(2, 183), (0, p), (0, s)] H Q := by
  obtain ⟨e, rfl, he⟩ := ttRun0 (n := 2) hd
  have he : 2 ≤ e := he
  have hn : 210 ≤ (H.2.2.2.1 : Int) := by have := hT.1; omega
  have z4 : 0 ≤ H.1 184 4 ∧ H.1 184 4 ≤ 20 := ttMc hT (a := 184) (j := 4) (by decide) (by decide) (by decide) (by decide)
  have z1 : 0 ≤ H.1 184 1 ∧ H.1 184 1 ≤ 8 := ttMc hT (a := 184) (j := 1) (by decide) (by decide) (by decide) (by decide)
  obtain ⟨n, en⟩ : ∃ n, H.1 184 4 = n := ⟨_, rfl⟩
  refine xC_of (L := [(2, 183), (0, p), (0, s)]) (cd := cd_247) rfl rfl rfl ?_
  refine q_al (pc := 0) (i := 0) (x := 183) rfl rfl ?_
  refine q_il (pc := 1) (i := 1) (x := p) rfl rfl ?_
  refine q_iv (pc := 2) (q := 1656968) rfl rfl rfl (ttKc hT (a := 183) (κ := 12) (len := 0) ⟨rfl, rfl⟩ (by decide) (by decide)).1 ?_
  refine lf_isPl (by omega) hT (fun hp => ?_) (fun hp => ?_)
  · skip
    refine q_if (pc := 3) rfl (fun h3 => ?_) (fun h3 => ?_)
    · replace h3 : (1 : Int) = 0 := h3
      omega
    · replace h3 : (1 : Int) ≠ 0 := h3
      refine q_il (pc := 4) (i := 2) (x := s) rfl rfl ?_
      refine q_2l (pc := 5) rfl ?_
      refine q_lc (pc := 6) (v := 0) rfl ?_
      refine q_lc (pc := 7) (v := 3) rfl ?_
      refine q_ij (pc := 8) (q := 1615932) rfl rfl rfl trivial ?_
      refine lf_in (by omega) (fun jn8 => ?_) (fun jn8 => ?_)
      · skip
        refine q_if (pc := 9) rfl (fun h9 => ?_) (fun h9 => ?_)
        · replace h9 : (1 : Int) ≠ 0 := h9
          refine q_al (pc := 12) (i := 0) (x := 183) rfl rfl ?_
          refine q_gf (pc := 13) (m := 12012) (t := 2) (c := 1) rfl (ttKc hT (a := 183) (κ := 12) (len := 0) ⟨rfl, rfl⟩ (by decide) (by decide)).1 rfl rfl ?_
          rw [show H.1 183 1 = 184 from ttFx hT (by decide) (by decide) rfl rfl rfl]
          refine q_ic (pc := 14) (v := 4) rfl ?_
          refine q_ai (pc := 15) rfl (ttKc hT (a := 184) (κ := 20) (len := 196) ⟨rfl, rfl⟩ (by decide) (by decide)).1 (by omega) (by rw [(ttKc hT (a := 184) (κ := 20) (len := 196) ⟨rfl, rfl⟩ (by decide) (by decide)).2]; omega) ?_
          rw [en]
          rw [en] at z4
          refine q_ic (pc := 16) (v := 20) rfl ?_
          refine q_i2 (pc := 17) rfl (fun h17 => ?_) (fun h17 => ?_)
          · replace h17 : n ≠ 20 := h17
            refine q_al (pc := 20) (i := 0) (x := 183) rfl rfl ?_
            refine q_gf (pc := 21) (m := 12012) (t := 2) (c := 1) rfl (ttKc hT (a := 183) (κ := 12) (len := 0) ⟨rfl, rfl⟩ (by decide) (by decide)).1 rfl rfl ?_
            rw [show H.1 183 1 = 184 from ttFx hT (by decide) (by decide) rfl rfl rfl]
            refine q_ic (pc := 22) (v := 156) rfl ?_
            refine q_ic (pc := 23) (v := 2) rfl ?_
            refine q_al (pc := 24) (i := 0) (x := 183) rfl rfl ?_
            refine q_gf (pc := 25) (m := 12012) (t := 2) (c := 1) rfl (ttKc hT (a := 183) (κ := 12) (len := 0) ⟨rfl, rfl⟩ (by decide) (by decide)).1 rfl rfl ?_
            rw [show H.1 183 1 = 184 from ttFx hT (by decide) (by decide) rfl rfl rfl]
            refine q_ic (pc := 26) (v := 4) rfl ?_
            refine q_ai (pc := 27) rfl (ttKc hT (a := 184) (κ := 20) (len := 196) ⟨rfl, rfl⟩ (by decide) (by decide)).1 (by omega) (by rw [(ttKc hT (a := 184) (κ := 20) (len := 196) ⟨rfl, rfl⟩ (by decide) (by decide)).2]; omega) ?_
            rw [en]
            refine q_im (pc := 28) rfl (by omega) (by omega) ?_
            refine q_ia (pc := 29) rfl (by omega) (by omega) ?_
            refine q_il (pc := 30) (i := 1) (x := p) rfl rfl ?_
            refine q_si (pc := 31) rfl (by decide) (ttKc hT (a := 184) (κ := 20) (len := 196) ⟨rfl, rfl⟩ (by decide) (by decide)).1 (by omega) (by rw [(ttKc hT (a := 184) (κ := 20) (len := 196) ⟨rfl, rfl⟩ (by decide) (by decide)).2]; omega) ?_
            have ufc1 := ttPuT hT (ttFr_rf (true, [(184, 0, 195)]) H) (a := 184) (j := (156 + (2 * n))) (x := p) (by decide) (fun _ _ => by rw [show ttRo 184 = 184 from rfl, show (156 + (2 * n)) = 156 + 2 * n + ((0 : Nat) : Int) from by omega, ty_fi (by omega) (by omega) 0 (by decide)]; exact (show (0 : Int) ≤ p ∧ p ≤ 7 from ⟨by omega, by omega⟩)) ⟨(184, 0, 195), by simp, ⟨⟨by decide, rfl⟩, by show (0 : Int) ≤ (156 + (2 * n)); omega, by show (156 + (2 * n)) ≤ (195 : Int); omega⟩⟩
            obtain ⟨ufZ1, ufk1⟩ : ∃ X : xH, X = (xUp H.1 184 (156 + (2 * n)) p, H.2) := ⟨_, rfl⟩
            rw [← ufk1] at ufc1 ⊢
            have ufo1 : ∀ j : Int, j ≠ (156 + (2 * n)) → ufZ1.1 184 j = H.1 184 j := fun j hj => by rw [ufk1]; exact up_j hj
            have ufe1 : ufZ1.1 184 (156 + (2 * n)) = p := by rw [ufk1]; exact up_eq (D := H.1) (a := 184) (j := (156 + (2 * n))) (x := p)
            refine q_al (pc := 32) (i := 0) (x := 183) rfl rfl ?_
            refine q_gf (pc := 33) (m := 12012) (t := 2) (c := 1) rfl (ttKc ufc1.1 (a := 183) (κ := 12) (len := 0) ⟨rfl, rfl⟩ (by decide) (by decide)).1 rfl rfl ?_
            rw [show ufZ1.1 183 1 = 184 from ttFx ufc1.1 (by decide) (by decide) rfl rfl rfl]
            refine q_ic (pc := 34) (v := 156) rfl ?_
            refine q_ic (pc := 35) (v := 2) rfl ?_
            refine q_al (pc := 36) (i := 0) (x := 183) rfl rfl ?_
            refine q_gf (pc := 37) (m := 12012) (t := 2) (c := 1) rfl (ttKc ufc1.1 (a := 183) (κ := 12) (len := 0) ⟨rfl, rfl⟩ (by decide) (by decide)).1 rfl rfl ?_
            rw [show ufZ1.1 183 1 = 184 from ttFx ufc1.1 (by decide) (by decide) rfl rfl rfl]
            refine q_ic (pc := 38) (v := 4) rfl ?_
            refine q_ai (pc := 39) rfl (ttKc ufc1.1 (a := 184) (κ := 20) (len := 196) ⟨rfl, rfl⟩ (by decide) (by decide)).1 (by omega) (by rw [(ttKc ufc1.1 (a := 184) (κ := 20) (len := 196) ⟨rfl, rfl⟩ (by decide) (by decide)).2]; omega) ?_
            rw [show ufZ1.1 184 4 = n from (ufo1 4 (by omega)).trans en]
            refine q_im (pc := 40) rfl (by omega) (by omega) ?_
            refine q_ia (pc := 41) rfl (by omega) (by omega) ?_
            refine q_ic (pc := 42) (v := 1) rfl ?_
            refine q_ia (pc := 43) rfl (by omega) (by omega) ?_
            refine q_il (pc := 44) (i := 2) (x := s) rfl rfl ?_
            refine q_si (pc := 45) rfl (by decide) (ttKc ufc1.1 (a := 184) (κ := 20) (len := 196) ⟨rfl, rfl⟩ (by decide) (by decide)).1 (by omega) (by rw [(ttKc ufc1.1 (a := 184) (κ := 20) (len := 196) ⟨rfl, rfl⟩ (by decide) (by decide)).2]; omega) ?_
            have ufc2 := ttPuT ufc1.1 (ttFr_rf (true, [(184, 0, 195)]) ufZ1) (a := 184) (j := ((156 + (2 * n)) + 1)) (x := s) (by decide) (fun _ _ => by rw [show ttRo 184 = 184 from rfl, show ((156 + (2 * n)) + 1) = 156 + 2 * n + ((1 : Nat) : Int) from by omega, ty_fi (by omega) (by omega) 1 (by decide)]; exact (show (0 : Int) ≤ s ∧ s ≤ 3 from ⟨by omega, by omega⟩)) ⟨(184, 0, 195), by simp, ⟨⟨by decide, rfl⟩, by show (0 : Int) ≤ ((156 + (2 * n)) + 1); omega, by show ((156 + (2 * n)) + 1) ≤ (195 : Int); omega⟩⟩
            obtain ⟨ufZ2, ufk2⟩ : ∃ X : xH, X = (xUp ufZ1.1 184 ((156 + (2 * n)) + 1) s, ufZ1.2) := ⟨_, rfl⟩
            rw [← ufk2] at ufc2 ⊢
            have ufo2 : ∀ j : Int, j ≠ ((156 + (2 * n)) + 1) → ufZ2.1 184 j = ufZ1.1 184 j := fun j hj => by rw [ufk2]; exact up_j hj
            have ufe2 : ufZ2.1 184 ((156 + (2 * n)) + 1) = s := by rw [ufk2]; exact up_eq (D := ufZ1.1) (a := 184) (j := ((156 + (2 * n)) + 1)) (x := s)
            refine q_al (pc := 46) (i := 0) (x := 183) rfl rfl ?_
            refine q_gf (pc := 47) (m := 12012) (t := 2) (c := 1) rfl (ttKc ufc2.1 (a := 183) (κ := 12) (len := 0) ⟨rfl, rfl⟩ (by decide) (by decide)).1 rfl rfl ?_
            rw [show ufZ2.1 183 1 = 184 from ttFx ufc2.1 (by decide) (by decide) rfl rfl rfl]
            refine q_ic (pc := 48) (v := 4) rfl ?_
            refine q_dd (pc := 49) rfl ?_
            refine q_ai (pc := 50) rfl (ttKc ufc2.1 (a := 184) (κ := 20) (len := 196) ⟨rfl, rfl⟩ (by decide) (by decide)).1 (by omega) (by rw [(ttKc ufc2.1 (a := 184) (κ := 20) (len := 196) ⟨rfl, rfl⟩ (by decide) (by decide)).2]; omega) ?_
            rw [show ufZ2.1 184 4 = n from (ufo2 4 (by omega)).trans ((ufo1 4 (by omega)).trans en)]
            refine q_ic (pc := 51) (v := 1) rfl ?_
            refine q_ia (pc := 52) rfl (by omega) (by omega) ?_
            refine q_si (pc := 53) rfl (by decide) (ttKc ufc2.1 (a := 184) (κ := 20) (len := 196) ⟨rfl, rfl⟩ (by decide) (by decide)).1 (by omega) (by rw [(ttKc ufc2.1 (a := 184) (κ := 20) (len := 196) ⟨rfl, rfl⟩ (by decide) (by decide)).2]; omega) ?_
            have ufc3 := ttPuT ufc2.1 (ttFr_rf (true, [(184, 0, 195)]) ufZ2) (a := 184) (j := 4) (x := (n + 1)) (by decide) (fun _ _ => show (0 : Int) ≤ (n + 1) ∧ (n + 1) ≤ 20 from ⟨by omega, by omega⟩) ⟨(184, 0, 195), by simp, ⟨⟨by decide, rfl⟩, by show (0 : Int) ≤ 4; omega, by show 4 ≤ (195 : Int); omega⟩⟩
            obtain ⟨ufZ3, ufk3⟩ : ∃ X : xH, X = (xUp ufZ2.1 184 4 (n + 1), ufZ2.2) := ⟨_, rfl⟩
            rw [← ufk3] at ufc3 ⊢
            have ufo3 : ∀ j : Int, j ≠ 4 → ufZ3.1 184 j = ufZ2.1 184 j := fun j hj => by rw [ufk3]; exact up_j hj
            have ufe3 : ufZ3.1 184 4 = (n + 1) := by rw [ufk3]; exact up_eq (D := ufZ2.1) (a := 184) (j := 4) (x := (n + 1))
            refine q_al (pc := 54) (i := 0) (x := 183) rfl rfl ?_
            refine q_iv (pc := 55) (q := 2128967) rfl rfl rfl (ttKc ufc3.1 (a := 183) (κ := 12) (len := 0) ⟨rfl, rfl⟩ (by decide) (by decide)).1 ?_
            refine lf_forgets (by omega) ufc3.1 (fun M mT mF m22 m29 => ?_)
            have m4 : ∀ j : Int, M.1 184 j = ufZ3.1 184 j := fun j => fr_no mF 184 (by have := ufc3.1.1; omega) rfl (by decide)
            refine q_al (pc := 56) (i := 0) (x := 183) rfl rfl ?_
            refine q_gf (pc := 57) (m := 12012) (t := 2) (c := 1) rfl (ttKc mT (a := 183) (κ := 12) (len := 0) ⟨rfl, rfl⟩ (by decide) (by decide)).1 rfl rfl ?_
            rw [show M.1 183 1 = 184 from ttFx mT (by decide) (by decide) rfl rfl rfl]
            refine q_ic (pc := 58) (v := 4) rfl ?_
            refine q_ai (pc := 59) rfl (ttKc mT (a := 184) (κ := 20) (len := 196) ⟨rfl, rfl⟩ (by decide) (by decide)).1 (by omega) (by rw [(ttKc mT (a := 184) (κ := 20) (len := 196) ⟨rfl, rfl⟩ (by decide) (by decide)).2]; omega) ?_
            rw [m4 4, ufe3]
            refine q_ri (pc := 60) rfl ?_
            have cd : ((0 ≤ p ∧ p < H.1 184 1) ∧ (0 ≤ s ∧ s ≤ 3)) ∧ H.1 184 4 ≠ 20 := ⟨⟨hp, by omega, by omega⟩, by omega⟩
            refine hq _ M ?_ (funext (fun j => ?_))
            · unfold rsSight
              rw [if_pos cd.1, if_neg cd.2, en]
            · rw [show rsSeen (H.1 184) p s = sUp (sUp (sUp (H.1 184) (156 + 2 * H.1 184 4) p) (156 + 2 * H.1 184 4 + 1) s) 4 (H.1 184 4 + 1) from if_pos cd, en, m4 j]
              by_cases z4 : j = 4
              · rw [z4, ufe3, sUp_eq]
              · rw [sUp_ne z4, ufo3 j z4]
                by_cases z5 : j = 156 + 2 * n + 1
                · rw [z5, ufe2, sUp_eq]
                · rw [sUp_ne z5, ufo2 j z5]
                  by_cases z6 : j = 156 + 2 * n
                  · rw [z6, ufe1, sUp_eq]
                  · rw [sUp_ne z6, ufo1 j z6]
          · replace h17 : n = 20 := h17
            refine q_ic (pc := 18) (v := (-3)) rfl ?_
            refine q_ri (pc := 19) rfl ?_
            refine hq _ H ?_ ?_
            · unfold rsSight
              rw [if_pos ⟨hp, by omega, by omega⟩, if_pos (by omega)]
            · exact (if_neg (fun z => z.2 (by omega))).symm
        · replace h9 : (1 : Int) = 0 := h9
          omega
      · skip
        refine q_if (pc := 9) rfl (fun h9 => ?_) (fun h9 => ?_)
        · replace h9 : (0 : Int) ≠ 0 := h9
          omega
        · replace h9 : (0 : Int) = 0 := h9
          refine q_ic (pc := 10) (v := (-2)) rfl ?_
          refine q_ri (pc := 11) rfl ?_
          refine hq _ H ?_ ?_
          · unfold rsSight
            rw [if_neg (fun z => absurd z.2 jn8)]
          · exact (if_neg (fun z => absurd z.1.2 jn8)).symm
  · skip
    refine q_if (pc := 3) rfl (fun h3 => ?_) (fun h3 => ?_)
    · replace h3 : (0 : Int) = 0 := h3
      refine q_ic (pc := 10) (v := (-2)) rfl ?_
      refine q_ri (pc := 11) rfl ?_
      refine hq _ H ?_ ?_
      · unfold rsSight
        rw [if_neg (fun z => hp z.1)]
      · exact (if_neg (fun z => hp z.1.1)).symm
    · replace h3 : (0 : Int) ≠ 0 := h3
      omega
theorem lx_unsee1 {dd : Nat} (hd : 2 ≤ dd) {H : xH} (hT : ttTI H) (hX : ttXX YY H) {b : Int} (hB : skB b) (h5 : H.1 1 5 = b) (hW : skW H.1 b) {S : tSa} {R : Int → Int} {h : Int} (hR : skR H.1 b (S, R, h)) (ujr6 : R 3 ≤ 6) {n : Int} (n0 : -2147483648 ≤ n) (n1 : n ≤ 2147483647) {Q : Int → xH → Prop} (hq : ∀ r K, r = rsUns R n → skR K.1 b (S, rsUnsee R n, h) → skO b H K → Q r K) : xCall dd 144 [(2, 1), (0, n)] H Q := by
  obtain ⟨e, rfl, he⟩ := ttRun0 (n := 1) hd
  have he : 1 ≤ e := he
  have hi := skB_in hB
  have hn : 210 ≤ (H.2.2.2.1 : Int) := by have := hT.1; omega
  have es : H.1 (b + 6) 0 = R 4 := hR.2.2.2.2.1.1
  have t4 : 0 ≤ R 4 ∧ R 4 ≤ 20 := by
    have w := sk_ro hB (o := 6) (by decide) (by decide)
    have u := ttMc hT (a := b + 6) (j := 0) w.2.1 w.2.2 (by decide) (by rw [w.1]; decide)
    rw [w.1] at u
    rw [← es]
    exact u
  refine xC_of (L := [(2, 1), (0, n)]) (cd := cd_144) rfl rfl rfl ?_
  refine q_il (pc := 0) (i := 1) (x := n) rfl rfl ?_
  refine q_if (pc := 1) rfl (fun h1 => ?_) (fun h1 => ?_)
  · replace h1 : n < 0 := h1
    refine q_ic (pc := 8) (v := (-2)) rfl ?_
    refine q_ri (pc := 9) rfl ?_
    refine hq _ H ?_ ?_ skO_r
    · exact (if_neg (fun z => by omega)).symm
    · rw [show rsUnsee R n = R from if_neg (fun z => by omega)]
      exact hR
  · replace h1 : 0 ≤ n := h1
    refine q_il (pc := 2) (i := 1) (x := n) rfl rfl ?_
    refine q_al (pc := 3) (i := 0) (x := 1) rfl rfl ?_
    refine q_gf (pc := 4) (m := 11052) (t := 2) (c := 5) rfl (ttKc hT (a := 1) (κ := 11) (len := 0) ⟨rfl, rfl⟩ (by decide) (by decide)).1 rfl rfl ?_
    rw [show H.1 1 5 = b from h5]
    refine q_gf (pc := 5) (m := 10032) (t := 2) (c := 3) rfl (sk_kb hT hB).1 rfl rfl ?_
    rw [show H.1 b 3 = b + 6 from hW.1.2.2.2]
    refine q_gf (pc := 6) (m := 9000) (t := 0) (c := 0) rfl (sk_kx hT hB (o := 6) (by decide) (by decide) (κ := 9) (len := 0) ⟨rfl, rfl⟩).1 rfl rfl ?_
    rw [es]
    refine q_i2 (pc := 7) rfl (fun h7 => ?_) (fun h7 => ?_)
    · replace h7 : n ≤ (R 4) := h7
      refine q_al (pc := 10) (i := 0) (x := 1) rfl rfl ?_
      refine q_gf (pc := 11) (m := 11052) (t := 2) (c := 5) rfl (ttKc hT (a := 1) (κ := 11) (len := 0) ⟨rfl, rfl⟩ (by decide) (by decide)).1 rfl rfl ?_
      rw [show H.1 1 5 = b from h5]
      refine q_gf (pc := 12) (m := 10032) (t := 2) (c := 3) rfl (sk_kb hT hB).1 rfl rfl ?_
      rw [show H.1 b 3 = b + 6 from hW.1.2.2.2]
      refine q_d2 (pc := 13) rfl ?_
      refine q_gf (pc := 14) (m := 9000) (t := 0) (c := 0) rfl (sk_kx hT hB (o := 6) (by decide) (by decide) (κ := 9) (len := 0) ⟨rfl, rfl⟩).1 rfl rfl ?_
      rw [es]
      refine q_il (pc := 15) (i := 1) (x := n) rfl rfl ?_
      refine q_ib (pc := 16) rfl (by omega) (by omega) ?_
      refine q_pf (pc := 17) (m := 9000) (c := 0) rfl (show xPt 0 0 _ _ from (sk_kx hT hB (o := 6) (by decide) (by decide) (κ := 9) (len := 0) ⟨rfl, rfl⟩).1) rfl ?_
      have y1 := rE_put (ef := eW) hT hX (ttFr_rf eW H) (a := b + 6) (j := 0) (x := ((R 4) - n)) 13 (sk_ro hB (o := 6) (by decide) (by decide)).1 (by omega) (show (0 : Int) ≤ ((R 4) - n) ∧ ((R 4) - n) ≤ 20 from ⟨by omega, by omega⟩) ⟨(13, 0, 0), by decide, rfl, by decide, by decide⟩ (by decide)
      obtain ⟨J, jJ⟩ : ∃ X : xH, X = (xUp H.1 (b + 6) 0 ((R 4) - n), H.2) := ⟨_, rfl⟩
      rw [← jJ] at y1 ⊢
      have jd : J.1 = xUp H.1 (b + 6) 0 ((R 4) - n) := by rw [jJ]
      obtain ⟨jT, jX, jF⟩ := y1
      have jn : 210 ≤ (J.2.2.2.1 : Int) := by have := jT.1; omega
      refine q_al (pc := 18) (i := 0) (x := 1) rfl rfl ?_
      refine q_iv (pc := 19) (q := 1104887) rfl rfl rfl (ttKc jT (a := 1) (κ := 11) (len := 0) ⟨rfl, rfl⟩ (by decide) (by decide)).1 ?_
      refine hc_4 (ttXX_out yyStab (fun _ _ => trivial)) e (by show 1 ≤ e; omega) [(2, 1)] J jT jX ⟨⟨rfl, ttPk_of rfl⟩, trivial⟩ (fun _ hq => absurd hq List.not_mem_nil) _ (fun ujr3 M mT mX mF mr _ => ?_)
      have jO : skO b H J := skO_u (K := H) skO_r hB (by omega) jJ
      have mO : skO b H M := fun c hc hne a j a0 a1 => (sk_fr mF jn hc (by decide) a0 a1).trans (jO c hc hne a j a0 a1)
      have ms : ∀ a j : Int, b ≤ a → a ≤ b + 26 → M.1 a j = J.1 a j := fun a j a0 a1 => sk_fr mF jn hB (by decide) a0 a1
      have m5 : M.1 1 5 = b := (fr_no mF 1 (by omega) rfl (by decide)).trans ((fr_no jF 1 (by omega) rfl (by decide)).trans h5)
      have mW : skW M.1 b := skW_fr mF jn hB (by decide) (skW_fr jF hn hB (by decide) hW)
      have m6 : M.1 (b + 6) 0 = R 4 - n := by rw [ms _ _ (by omega) (by omega), jd]; exact up_eq
      refine q_al (pc := 20) (i := 0) (x := 1) rfl rfl ?_
      refine q_gf (pc := 21) (m := 11052) (t := 2) (c := 5) rfl (ttKc mT (a := 1) (κ := 11) (len := 0) ⟨rfl, rfl⟩ (by decide) (by decide)).1 rfl rfl ?_
      rw [show M.1 1 5 = b from m5]
      refine q_gf (pc := 22) (m := 10032) (t := 2) (c := 3) rfl (sk_kb mT hB).1 rfl rfl ?_
      rw [show M.1 b 3 = b + 6 from mW.1.2.2.2]
      refine q_gf (pc := 23) (m := 9000) (t := 0) (c := 0) rfl (sk_kx mT hB (o := 6) (by decide) (by decide) (κ := 9) (len := 0) ⟨rfl, rfl⟩).1 rfl rfl ?_
      rw [m6]
      refine q_ri (pc := 24) rfl ?_
      refine hq _ M ?_ ?_ mO
      · exact (if_pos ⟨by omega, by omega⟩).symm
      · rw [show rsUnsee R n = sUp R 4 (R 4 - n) from if_pos ⟨by omega, by omega⟩]
        exact sr_uns hR ujr6 (by omega) m6 (fun a j a0 a1 h => (ms a j a0 a1).trans (by rw [jd]; exact up_ne h))
    · replace h7 : (R 4) < n := h7
      refine q_ic (pc := 8) (v := (-2)) rfl ?_
      refine q_ri (pc := 9) rfl ?_
      refine hq _ H ?_ ?_ skO_r
      · exact (if_neg (fun z => by omega)).symm
      · rw [show rsUnsee R n = R from if_neg (fun z => by omega)]
        exact hR
theorem lx_unsee2 {dd : Nat} (hd : 2 ≤ dd) {H : xH} (hT : ttTI H) {n : Int} (n0 : -2147483648 ≤ n) (n1 : n ≤ 2147483647) {Q : Int → xH → Prop} (hq : ∀ r K, r = rsUns (H.1 184) n → K.1 184 = rsUnsee (H.1 184) n → Q r K) : xCall dd 248 [(2, 183), (0, n)] H Q := by
  obtain ⟨e, rfl, he⟩ := ttRun0 (n := 1) hd
  have he : 1 ≤ e := he
  have z4 : 0 ≤ H.1 184 4 ∧ H.1 184 4 ≤ 20 := ttMc hT (a := 184) (j := 4) (by decide) (by decide) (by decide) (by decide)
  obtain ⟨c, ec⟩ : ∃ c, H.1 184 4 = c := ⟨_, rfl⟩
  rw [ec] at z4
  refine xC_of (L := [(2, 183), (0, n)]) (cd := cd_248) rfl rfl rfl ?_
  refine q_il (pc := 0) (i := 1) (x := n) rfl rfl ?_
  refine q_2l (pc := 1) rfl ?_
  refine q_lc (pc := 2) (v := 0) rfl ?_
  refine q_al (pc := 3) (i := 0) (x := 183) rfl rfl ?_
  refine q_gf (pc := 4) (m := 12012) (t := 2) (c := 1) rfl (ttKc hT (a := 183) (κ := 12) (len := 0) ⟨rfl, rfl⟩ (by decide) (by decide)).1 rfl rfl ?_
  rw [show H.1 183 1 = 184 from ttFx hT (by decide) (by decide) rfl rfl rfl]
  refine q_ic (pc := 5) (v := 4) rfl ?_
  refine q_ai (pc := 6) rfl (ttKc hT (a := 184) (κ := 20) (len := 196) ⟨rfl, rfl⟩ (by decide) (by decide)).1 (by omega) (by rw [(ttKc hT (a := 184) (κ := 20) (len := 196) ⟨rfl, rfl⟩ (by decide) (by decide)).2]; omega) ?_
  rw [ec]
  refine q_2l (pc := 7) rfl ?_
  refine q_ij (pc := 8) (q := 1615932) rfl rfl rfl trivial ?_
  refine lf_in (by omega) (fun jn8 => ?_) (fun jn8 => ?_)
  · skip
    refine q_if (pc := 9) rfl (fun h9 => ?_) (fun h9 => ?_)
    · replace h9 : (1 : Int) ≠ 0 := h9
      refine q_al (pc := 12) (i := 0) (x := 183) rfl rfl ?_
      refine q_gf (pc := 13) (m := 12012) (t := 2) (c := 1) rfl (ttKc hT (a := 183) (κ := 12) (len := 0) ⟨rfl, rfl⟩ (by decide) (by decide)).1 rfl rfl ?_
      rw [show H.1 183 1 = 184 from ttFx hT (by decide) (by decide) rfl rfl rfl]
      refine q_ic (pc := 14) (v := 4) rfl ?_
      refine q_dd (pc := 15) rfl ?_
      refine q_ai (pc := 16) rfl (ttKc hT (a := 184) (κ := 20) (len := 196) ⟨rfl, rfl⟩ (by decide) (by decide)).1 (by omega) (by rw [(ttKc hT (a := 184) (κ := 20) (len := 196) ⟨rfl, rfl⟩ (by decide) (by decide)).2]; omega) ?_
      rw [ec]
      refine q_il (pc := 17) (i := 1) (x := n) rfl rfl ?_
      refine q_ib (pc := 18) rfl (by omega) (by omega) ?_
      refine q_si (pc := 19) rfl (by decide) (ttKc hT (a := 184) (κ := 20) (len := 196) ⟨rfl, rfl⟩ (by decide) (by decide)).1 (by omega) (by rw [(ttKc hT (a := 184) (κ := 20) (len := 196) ⟨rfl, rfl⟩ (by decide) (by decide)).2]; omega) ?_
      have c1 := ttPuT hT (ttFr_rf (true, [(184, 0, 195)]) H) (a := 184) (j := 4) (x := (c - n)) (by decide) (fun _ _ => show (0 : Int) ≤ (c - n) ∧ (c - n) ≤ 20 from ⟨by omega, by omega⟩) ⟨(184, 0, 195), by simp, ⟨⟨by decide, rfl⟩, by decide, by decide⟩⟩
      obtain ⟨Y, jY⟩ : ∃ X : xH, X = (xUp H.1 184 4 (c - n), H.2) := ⟨_, rfl⟩
      rw [← jY] at c1 ⊢
      have o1 : ∀ j : Int, j ≠ 4 → Y.1 184 j = H.1 184 j := fun j hj => by rw [jY]; exact up_j hj
      have e1 : Y.1 184 4 = (c - n) := by rw [jY]; exact up_eq (D := H.1) (a := 184) (j := 4) (x := (c - n))
      refine q_al (pc := 20) (i := 0) (x := 183) rfl rfl ?_
      refine q_iv (pc := 21) (q := 2128967) rfl rfl rfl (ttKc c1.1 (a := 183) (κ := 12) (len := 0) ⟨rfl, rfl⟩ (by decide) (by decide)).1 ?_
      refine lf_forgets (by omega) c1.1 (fun M mT mF m22 m29 => ?_)
      have m4 : ∀ j : Int, M.1 184 j = Y.1 184 j := fun j => fr_no mF 184 (by have := c1.1.1; omega) rfl (by decide)
      refine q_al (pc := 22) (i := 0) (x := 183) rfl rfl ?_
      refine q_gf (pc := 23) (m := 12012) (t := 2) (c := 1) rfl (ttKc mT (a := 183) (κ := 12) (len := 0) ⟨rfl, rfl⟩ (by decide) (by decide)).1 rfl rfl ?_
      rw [show M.1 183 1 = 184 from ttFx mT (by decide) (by decide) rfl rfl rfl]
      refine q_ic (pc := 24) (v := 4) rfl ?_
      refine q_ai (pc := 25) rfl (ttKc mT (a := 184) (κ := 20) (len := 196) ⟨rfl, rfl⟩ (by decide) (by decide)).1 (by omega) (by rw [(ttKc mT (a := 184) (κ := 20) (len := 196) ⟨rfl, rfl⟩ (by decide) (by decide)).2]; omega) ?_
      rw [m4 4, e1]
      refine q_ri (pc := 26) rfl ?_
      refine hq _ M ?_ (funext (fun j => ?_))
      · rw [show rsUns (H.1 184) n = H.1 184 4 - n from if_pos ⟨by omega, by omega⟩, ec]
      · rw [show rsUnsee (H.1 184) n = sUp (H.1 184) 4 (H.1 184 4 - n) from if_pos ⟨by omega, by omega⟩, ec, m4 j]
        by_cases z : j = 4
        · rw [z, e1, sUp_eq]
        · rw [sUp_ne z, o1 j z]
    · replace h9 : (1 : Int) = 0 := h9
      omega
  · skip
    refine q_if (pc := 9) rfl (fun h9 => ?_) (fun h9 => ?_)
    · replace h9 : (0 : Int) ≠ 0 := h9
      omega
    · replace h9 : (0 : Int) = 0 := h9
      refine q_ic (pc := 10) (v := (-2)) rfl ?_
      refine q_ri (pc := 11) rfl ?_
      refine hq _ H ?_ ?_
      · exact (if_neg (fun z => jn8 ⟨z.1, by omega⟩)).symm
      · exact (if_neg (fun z => jn8 ⟨z.1, by omega⟩)).symm
