/-! the first's table of ways, exactly -/
def wsM (R : Int → Int) (p w l s : Int) : Int := max (max (R (84 + 6 * l + 5) + Int.tdiv (wsX R p w l s) 2) (R (20 + 8 * wsD R p l) + wsX R p w l s)) (R (20 + 8 * p))
def hpE (D : xD) (R : Int → Int) (p w l s h : Int) : Prop := D 65 h = wsD R p l ∧ D 66 h = wsP R p w l s ∧ D 67 h = wsX R p w l s ∧ D 68 h = wsM R p w l s ∧ D 69 h = 100 + 10 * l + s
def hpT (D : xD) (R : Int → Int) (p w c : Int) (Z : Int × (Int → Int)) : Prop := ∀ i : Int, 0 ≤ i → i < Z.1 → ∃ l s : Int, (0 ≤ l ∧ l ≤ 9) ∧ (0 ≤ s ∧ s ≤ 5) ∧ Z.2 i = 10 * l + s ∧ wsU R p w l s ∧ hpE D R p w l s (c + i)
theorem hpE_c {D D' : xD} {R : Int → Int} {p w l s h : Int} (y : hpE D R p w l s h) (e : ∀ a : Int, 65 ≤ a → a ≤ 69 → D' a h = D a h) : hpE D' R p w l s h := by
  obtain ⟨y1, y2, y3, y4, y5⟩ := y
  exact ⟨(e 65 (by decide) (by decide)).trans y1, (e 66 (by decide) (by decide)).trans y2, (e 67 (by decide) (by decide)).trans y3, (e 68 (by decide) (by decide)).trans y4, (e 69 (by decide) (by decide)).trans y5⟩
theorem hpT_c {D D' : xD} {R : Int → Int} {p w c : Int} {Z : Int × (Int → Int)} (y : hpT D R p w c Z) (e : ∀ a j : Int, 65 ≤ a → a ≤ 69 → c ≤ j → j < c + Z.1 → D' a j = D a j) : hpT D' R p w c Z := fun i i0 i1 => by
  obtain ⟨l, s, l0, s0, y1, y2, y3⟩ := y i i0 i1
  exact ⟨l, s, l0, s0, y1, y2, hpE_c y3 (fun a a0 a1 => e a (c + i) a0 a1 (by omega) (by omega))⟩
theorem hpT_a {D D' : xD} {R : Int → Int} {p w c l s : Int} {Z : Int × (Int → Int)} (y : hpT D R p w c Z) (e : ∀ a j : Int, 65 ≤ a → a ≤ 69 → j ≠ c + Z.1 → D' a j = D a j) (l0 : 0 ≤ l ∧ l ≤ 9) (s0 : 0 ≤ s ∧ s ≤ 5) (u : wsU R p w l s) (n : hpE D' R p w l s (c + Z.1)) : hpT D' R p w c (wsA Z (10 * l + s)) := fun i i0 i1 => by
  have i1 : i < Z.1 + 1 := i1
  by_cases z : i = Z.1
  · subst z
    exact ⟨l, s, l0, s0, if_pos rfl, u, n⟩
  · obtain ⟨l2, s2, a1, a2, y1, y2, y3⟩ := y i i0 (by omega)
    exact ⟨l2, s2, a1, a2, (show (if i = Z.1 then 10 * l + s else Z.2 i) = _ from if_neg z).trans y1, y2, hpE_c y3 (fun a a0 a1 => e a (c + i) a0 a1 (by omega))⟩
theorem skB_65 {b : Int} (h : skB b) : b + 26 < 63 ∨ 72 < b := by
  unfold skB at h
  omega
theorem hp_takes {dd : Nat} (hd : 2 ≤ dd) {H : xH} (hT : ttTI H) {b : Int} (hB : skB b) (hW : skW H.1 b) {S : tSa} {R : Int → Int} {h : Int} (hR : skR H.1 b (S, R, h)) (hw : wsR R) {l k s w : Int} (l0 : 0 ≤ l) (l1 : l < R 2) (s0 : 0 ≤ s) (s1 : s < R 3) {Q : Int → xH → Prop} (hq : Q (rsT R l k s w) H) : xCall dd 124 [(2, b), (0, l), (0, k), (0, s), (0, w)] H Q := by
  have w2 := hw.2.1
  have w3 := hw.2.2.1
  exact ls_takes hd hT hB hW (hR.2.2.2.1.2 s s0 s1).1 (skA_i hR.1 (j := 8) (i := 6) (by decide)) (hR.2.2.1.1 l 4 l0 l1 (by omega) (by decide) (by decide)) l0 (by omega) s0 (by omega) (hR.2.2.1.1 l 2 l0 l1 (by omega) (by decide) (by decide)) rfl hq
theorem hp_loses {dd : Nat} (hd : 3 ≤ dd) {H : xH} (hT : ttTI H) {b : Int} (hB : skB b) (hW : skW H.1 b) {S : tSa} {R : Int → Int} {h : Int} (hR : skR H.1 b (S, R, h)) (hw : wsR R) {l k s w : Int} (l0 : 0 ≤ l) (l1 : l < R 2) (s0 : 0 ≤ s) (s1 : s < R 3) {Q : Int → xH → Prop} (hq : Q (rsV R l k s w) H) : xCall dd 125 [(2, b), (0, l), (0, k), (0, s), (0, w)] H Q := by
  have w2 := hw.2.1
  have w3 := hw.2.2.1
  exact ls_loses hd hT hB hW (hR.2.2.2.1.2 s s0 s1).1 (skA_i hR.1 (j := 8) (i := 6) (by decide)) (hR.2.2.1.1 l 4 l0 l1 (by omega) (by decide) (by decide)) l0 (by omega) s0 (by omega) (hR.2.2.1.1 l 2 l0 l1 (by omega) (by decide) (by decide)) rfl (hR.2.2.2.1.2 s s0 s1).2 (hR.2.2.1.1 l 3 l0 l1 (by omega) (by decide) (by decide)) hq
theorem hp_add {dd : Nat} (hd : 4 ≤ dd) {H : xH} (hT : ttTI H) {b : Int} (hB : skB b) (hW : skW H.1 b) {S : tSa} {R : Int → Int} {h : Int} (hR : skR H.1 b (S, R, h)) (hw : wsR R) {l k s w p c : Int} (l0 : 0 ≤ l) (l1 : l < R 2) (s0 : 0 ≤ s) (s1 : s < R 3) (hu : R (84 + 6 * l) = p ∨ R (84 + 6 * l + 1) = p) (hk : k = wsB R p l) (ec : H.1 63 6 = c) (c0 : 0 ≤ c) (c1 : rsT R l k s w ≠ -1 → c < 240) {Q : Int → xH → Prop} (hn : rsT R l k s w = -1 → Q 0 H) (hy : rsT R l k s w ≠ -1 → ∀ K, ttTI K → ttFr (true, [(63, 6, 6), (64, 0, 16), (65, 0, 239), (66, 0, 239), (67, 0, 239), (68, 0, 239), (69, 0, 239), (70, 0, 15)]) H K → K.1 63 6 = c + 1 → hpE K.1 R p w l s c → (∀ a j : Int, a < 65 ∨ 69 < a → ¬ (a = 63 ∧ j = 6) → K.1 a j = H.1 a j) → (∀ a j : Int, 65 ≤ a → a ≤ 69 → j ≠ c → K.1 a j = H.1 a j) → Q 0 K) : xCall dd 19 [(2, 63), (2, b), (0, l), (0, k), (0, s), (0, w)] H Q := by
  obtain ⟨e, rfl, he⟩ := ttRun0 (n := 3) hd
  have he : 3 ≤ e := he
  have hi := skB_in hB
  have h65 := skB_65 hB
  have w1 := hw.1
  have w2 := hw.2.1
  have w3 := hw.2.2.1
  have wg := hw.2.2.2.2.1
  obtain ⟨lf, ls, lm, la, lh⟩ := hw.2.2.2.2.2.1 l l0 (by omega)
  obtain ⟨lg, lk⟩ := hw.2.2.2.2.2.2.2 l l0 l1
  have hl : ∀ c : Int, 0 ≤ c → c ≤ 5 → H.1 (b + 17 + l) c = R (84 + 6 * l + c) := fun c c0 c1 => hR.2.2.1.1 l c l0 l1 (by omega) c0 c1
  refine xC_of (L := [(2, 63), (2, b), (0, l), (0, k), (0, s), (0, w), (9, 0), (9, 0), (9, 0), (9, 0), (9, 0), (9, 0)]) (cd := cd_19) rfl rfl rfl ?_
  refine q_al (pc := 0) (i := 1) (x := b) rfl rfl ?_
  refine q_il (pc := 1) (i := 2) (x := l) rfl rfl ?_
  refine q_il (pc := 2) (i := 3) (x := k) rfl rfl ?_
  refine q_il (pc := 3) (i := 4) (x := s) rfl rfl ?_
  refine q_il (pc := 4) (i := 5) (x := w) rfl rfl ?_
  refine q_iv (pc := 5) (q := 992820) rfl rfl rfl (sk_kb hT hB).1 ?_
  refine hp_takes (by omega) hT hB hW hR hw l0 l1 s0 s1 ?_
  obtain ⟨t, jt⟩ : ∃ t, t = rsT R l k s w := ⟨_, rfl⟩
  rw [← jt]
  refine q_is (pc := 6) (i := 6) (L' := [(2, 63), (2, b), (0, l), (0, k), (0, s), (0, w), (0, t), (9, 0), (9, 0), (9, 0), (9, 0), (9, 0)]) rfl rfl rfl ?_
  refine q_il (pc := 7) (i := 6) (x := t) rfl rfl ?_
  refine q_ic (pc := 8) (v := (-1)) rfl ?_
  refine q_i2 (pc := 9) rfl (fun h9 => ?_) (fun h9 => ?_)
  · replace h9 : t = (-1) := h9
    refine q_rv (pc := 14) rfl ?_
    exact hn (jt.symm.trans h9)
  · replace h9 : t ≠ (-1) := h9
    have c240 := c1 (by rw [← jt]; exact h9)
    refine q_al (pc := 10) (i := 0) (x := 63) rfl rfl ?_
    refine q_gf (pc := 11) (m := 1060) (t := 0) (c := 6) rfl (ttKc hT (a := 63) (κ := 1) (len := 0) ⟨rfl, rfl⟩ (by decide) (by decide)).1 rfl rfl ?_
    rw [show H.1 63 6 = c from ec]
    refine q_ic (pc := 12) (v := 240) rfl ?_
    refine q_i2 (pc := 13) rfl (fun h13 => ?_) (fun h13 => ?_)
    · replace h13 : c < 240 := h13
      refine q_al (pc := 15) (i := 1) (x := b) rfl rfl ?_
      refine q_gf (pc := 16) (m := 10012) (t := 2) (c := 1) rfl (sk_kb hT hB).1 rfl rfl ?_
      rw [show H.1 b 1 = (b + 2) from hW.1.2.1]
      refine q_il (pc := 17) (i := 2) (x := l) rfl rfl ?_
      refine q_aa (pc := 18) rfl (by rw [(sk_kx hT hB (o := 2) (by decide) (by decide) (κ := 26) (len := 10) ⟨rfl, rfl⟩).1]; decide) (by omega) (by rw [(sk_kx hT hB (o := 2) (by decide) (by decide) (κ := 26) (len := 10) ⟨rfl, rfl⟩).2]; omega) ?_
      rw [show H.1 (b + 2) l = (b + 17 + l) from hW.2.2.1 l l0 (by omega)]
      refine q_as (pc := 19) (i := 7) (L' := [(2, 63), (2, b), (0, l), (0, k), (0, s), (0, w), (0, t), (2, (b + 17 + l)), (9, 0), (9, 0), (9, 0), (9, 0)]) rfl rfl rfl (by omega) ?_
      refine q_il (pc := 20) (i := 3) (x := k) rfl rfl ?_
      refine q_if (pc := 21) rfl (fun h21 => ?_) (fun h21 => ?_)
      · replace h21 : k = 0 := h21
        refine q_al (pc := 25) (i := 7) (x := (b + 17 + l)) rfl rfl ?_
        refine q_gf (pc := 26) (m := 2000) (t := 0) (c := 0) rfl (sk_kl hT hB l0 (by omega)).1 rfl rfl ?_
        rw [show H.1 (b + 17 + l) 0 = (R (84 + 6 * l)) from (hl 0 (by decide) (by decide)).trans (by rw [Int.add_zero])]
        have e2 : R (84 + 6 * l + 1) ≠ p := wsB_0 (by rw [← hk]; exact h21)
        have ed : wsD R p l = R (84 + 6 * l + 1) := if_neg e2
        have e1 : R (84 + 6 * l) = p := hu.resolve_right e2
        have pb : 0 ≤ p ∧ p < R 1 := by omega
        rw [show (R (84 + 6 * l)) = p from e1]
        refine q_is (pc := 27) (i := 8) (L' := [(2, 63), (2, b), (0, l), (0, k), (0, s), (0, w), (0, t), (2, (b + 17 + l)), (0, p), (9, 0), (9, 0), (9, 0)]) rfl rfl rfl ?_
        refine q_il (pc := 28) (i := 3) (x := k) rfl rfl ?_
        refine q_if (pc := 29) rfl (fun h29 => ?_) (fun h29 => ?_)
        · replace h29 : k = 0 := h29
          refine q_al (pc := 33) (i := 7) (x := (b + 17 + l)) rfl rfl ?_
          refine q_gf (pc := 34) (m := 2010) (t := 0) (c := 1) rfl (sk_kl hT hB l0 (by omega)).1 rfl rfl ?_
          rw [show H.1 (b + 17 + l) 1 = (R (84 + 6 * l + 1)) from hl 1 (by decide) (by decide)]
          obtain ⟨y, jy⟩ : ∃ y, y = wsD R p l := ⟨_, rfl⟩
          rw [show (R (84 + 6 * l + 1)) = y from ed.symm.trans jy.symm]
          rw [← jy] at ed
          have yb : 0 ≤ y ∧ y < R 1 := by omega
          have gy := wg y (by omega) (by omega)
          have gp := wg p (by omega) (by omega)
          refine q_is (pc := 35) (i := 9) (L' := [(2, 63), (2, b), (0, l), (0, k), (0, s), (0, w), (0, t), (2, (b + 17 + l)), (0, p), (0, y), (9, 0), (9, 0)]) rfl rfl rfl ?_
          refine q_al (pc := 36) (i := 1) (x := b) rfl rfl ?_
          refine q_il (pc := 37) (i := 2) (x := l) rfl rfl ?_
          refine q_il (pc := 38) (i := 3) (x := k) rfl rfl ?_
          refine q_il (pc := 39) (i := 4) (x := s) rfl rfl ?_
          refine q_il (pc := 40) (i := 5) (x := w) rfl rfl ?_
          refine q_iv (pc := 41) (q := 1000820) rfl rfl rfl (sk_kb hT hB).1 ?_
          refine hp_loses (by omega) hT hB hW hR hw l0 l1 s0 s1 ?_
          have ht : wsP R p w l s = t := by
            unfold wsP
            rw [← hk]
            exact jt.symm
          obtain ⟨x, jx⟩ : ∃ x, x = wsX R p w l s := ⟨_, rfl⟩
          have hx := wsX_in hw (w := w) (p := p) l0 (by omega) s0 (by omega) (by rw [ht]; exact h9)
          rw [← jx] at hx
          have htb := wsP_in hw (w := w) (p := p) (s := s) l0 (by omega) (by rw [ht]; exact h9)
          rw [ht] at htb
          have ex : rsV R l k s w = x := by
            rw [jx]
            show (if rsT R l k s w = -1 then -2000000000 else rsLs _ _ (rsT R l k s w)) = rsLs _ _ (wsP R p w l s)
            rw [ht, ← jt]
            exact if_neg h9
          rw [ex]
          refine q_is (pc := 42) (i := 10) (L' := [(2, 63), (2, b), (0, l), (0, k), (0, s), (0, w), (0, t), (2, (b + 17 + l)), (0, p), (0, y), (0, x), (9, 0)]) rfl rfl rfl ?_
          refine q_al (pc := 43) (i := 7) (x := (b + 17 + l)) rfl rfl ?_
          refine q_gf (pc := 44) (m := 2050) (t := 0) (c := 5) rfl (sk_kl hT hB l0 (by omega)).1 rfl rfl ?_
          rw [show H.1 (b + 17 + l) 5 = (R (84 + 6 * l + 5)) from hl 5 (by decide) (by decide)]
          refine q_il (pc := 45) (i := 10) (x := x) rfl rfl ?_
          refine q_ic (pc := 46) (v := 2) rfl ?_
          refine q_wd (pc := 47) rfl (by decide) ?_
          obtain ⟨v, jv⟩ : ∃ v, v = Int.tdiv x 2 := ⟨_, rfl⟩
          have hv := ws_td (b := 2) hx.1 hx.2 (by decide)
          rw [← jv] at hv
          rw [show w32 (Int.tdiv x 2) = v from by rw [← jv]; exact w32_eq ⟨by omega, by omega⟩]
          refine q_ia (pc := 48) rfl (by omega) (by omega) ?_
          refine q_al (pc := 49) (i := 1) (x := b) rfl rfl ?_
          refine q_gf (pc := 50) (m := 10002) (t := 2) (c := 0) rfl (sk_kb hT hB).1 rfl rfl ?_
          rw [show H.1 b 0 = (b + 1) from hW.1.1]
          refine q_il (pc := 51) (i := 9) (x := y) rfl rfl ?_
          refine q_aa (pc := 52) rfl (by rw [(sk_kx hT hB (o := 1) (by decide) (by decide) (κ := 25) (len := 8) ⟨rfl, rfl⟩).1]; decide) (by omega) (by rw [(sk_kx hT hB (o := 1) (by decide) (by decide) (κ := 25) (len := 8) ⟨rfl, rfl⟩).2]; omega) ?_
          rw [show H.1 (b + 1) y = (b + 9 + y) from hW.2.1 y (by omega) (by omega)]
          refine q_gf (pc := 53) (m := 4000) (t := 0) (c := 0) rfl (sk_kp hT hB (by omega) (by omega)).1 rfl rfl ?_
          rw [show H.1 (b + 9 + y) 0 = (R (20 + 8 * y)) from (hR.2.1 y (by omega) (by omega)).1.1]
          refine q_il (pc := 54) (i := 10) (x := x) rfl rfl ?_
          refine q_ia (pc := 55) rfl (by omega) (by omega) ?_
          refine q_mx (pc := 56) rfl rfl (by omega) ?_
          refine q_is (pc := 57) (i := 11) (L' := [(2, 63), (2, b), (0, l), (0, k), (0, s), (0, w), (0, t), (2, (b + 17 + l)), (0, p), (0, y), (0, x), (0, (max ((R (84 + 6 * l + 5)) + v) ((R (20 + 8 * y)) + x)))]) rfl rfl rfl ?_
          refine q_al (pc := 58) (i := 0) (x := 63) rfl rfl ?_
          refine q_gf (pc := 59) (m := 1012) (t := 2) (c := 1) rfl (ttKc hT (a := 63) (κ := 1) (len := 0) ⟨rfl, rfl⟩ (by decide) (by decide)).1 rfl rfl ?_
          rw [show H.1 63 1 = 65 from ttFx hT (by decide) (by decide) rfl rfl rfl]
          refine q_al (pc := 60) (i := 0) (x := 63) rfl rfl ?_
          refine q_gf (pc := 61) (m := 1060) (t := 0) (c := 6) rfl (ttKc hT (a := 63) (κ := 1) (len := 0) ⟨rfl, rfl⟩ (by decide) (by decide)).1 rfl rfl ?_
          rw [show H.1 63 6 = c from ec]
          refine q_il (pc := 62) (i := 9) (x := y) rfl rfl ?_
          refine q_si (pc := 63) rfl (by decide) (ttKc hT (a := 65) (κ := 20) (len := 240) ⟨rfl, rfl⟩ (by decide) (by decide)).1 (by omega) (by rw [(ttKc hT (a := 65) (κ := 20) (len := 240) ⟨rfl, rfl⟩ (by decide) (by decide)).2]; omega) ?_
          have c11 := ttPuT hT (ttFr_rf (true, [(63, 6, 6), (64, 0, 16), (65, 0, 239), (66, 0, 239), (67, 0, 239), (68, 0, 239), (69, 0, 239), (70, 0, 15)]) H) (a := 65) (j := c) (x := y) (by decide) (fun _ _ => ttTyr rfl (by omega) (by omega)) ⟨(65, 0, 239), by decide, ⟨⟨by decide, rfl⟩, by show (0 : Int) ≤ c; omega, by show c ≤ 239; omega⟩⟩
          have z1 : ∀ a j : Int, a < 65 ∨ 69 < a → xUp H.1 65 c y a j = H.1 a j := fun a j ha => (up_na (by omega)).trans (rfl)
          have y1 : ∀ a j : Int, 65 ≤ a → a ≤ 69 → j ≠ c → xUp H.1 65 c y a j = H.1 a j := fun a j a0 a1 hj => (up_ne (fun q => hj q.2)).trans (rfl)
          have e65_1 : xUp H.1 65 c y 65 c = y := up_eq
          obtain ⟨ujK1, hK1⟩ : ∃ X : xH, X = (xUp H.1 65 c y, H.2) := ⟨_, rfl⟩
          rw [← hK1] at c11 ⊢
          rw [show xUp H.1 65 c y = ujK1.1 from by rw [hK1]] at z1 y1 e65_1
          refine q_al (pc := 64) (i := 0) (x := 63) rfl rfl ?_
          refine q_gf (pc := 65) (m := 1022) (t := 2) (c := 2) rfl (ttKc c11.1 (a := 63) (κ := 1) (len := 0) ⟨rfl, rfl⟩ (by decide) (by decide)).1 rfl rfl ?_
          rw [show ujK1.1 63 2 = 66 from ttFx c11.1 (by decide) (by decide) rfl rfl rfl]
          refine q_al (pc := 66) (i := 0) (x := 63) rfl rfl ?_
          refine q_gf (pc := 67) (m := 1060) (t := 0) (c := 6) rfl (ttKc c11.1 (a := 63) (κ := 1) (len := 0) ⟨rfl, rfl⟩ (by decide) (by decide)).1 rfl rfl ?_
          rw [show ujK1.1 63 6 = c from (z1 _ _ (by omega)).trans (ec)]
          refine q_il (pc := 68) (i := 6) (x := t) rfl rfl ?_
          refine q_si (pc := 69) rfl (by decide) (ttKc c11.1 (a := 66) (κ := 20) (len := 240) ⟨rfl, rfl⟩ (by decide) (by decide)).1 (by omega) (by rw [(ttKc c11.1 (a := 66) (κ := 20) (len := 240) ⟨rfl, rfl⟩ (by decide) (by decide)).2]; omega) ?_
          have c12 := ttPuT c11.1 c11.2 (a := 66) (j := c) (x := t) (by decide) (fun _ _ => ttTyr rfl (by omega) (by omega)) ⟨(66, 0, 239), by decide, ⟨⟨by decide, rfl⟩, by show (0 : Int) ≤ c; omega, by show c ≤ 239; omega⟩⟩
          have z2 : ∀ a j : Int, a < 65 ∨ 69 < a → xUp ujK1.1 66 c t a j = H.1 a j := fun a j ha => (up_na (by omega)).trans (z1 a j ha)
          have y2 : ∀ a j : Int, 65 ≤ a → a ≤ 69 → j ≠ c → xUp ujK1.1 66 c t a j = H.1 a j := fun a j a0 a1 hj => (up_ne (fun q => hj q.2)).trans (y1 a j a0 a1 hj)
          have e65_2 : xUp ujK1.1 66 c t 65 c = y := (up_na (by decide)).trans e65_1
          have e66_2 : xUp ujK1.1 66 c t 66 c = t := up_eq
          obtain ⟨ujK2, hK2⟩ : ∃ X : xH, X = (xUp ujK1.1 66 c t, ujK1.2) := ⟨_, rfl⟩
          rw [← hK2] at c12 ⊢
          rw [show xUp ujK1.1 66 c t = ujK2.1 from by rw [hK2]] at z2 y2 e65_2 e66_2
          refine q_al (pc := 70) (i := 0) (x := 63) rfl rfl ?_
          refine q_gf (pc := 71) (m := 1032) (t := 2) (c := 3) rfl (ttKc c12.1 (a := 63) (κ := 1) (len := 0) ⟨rfl, rfl⟩ (by decide) (by decide)).1 rfl rfl ?_
          rw [show ujK2.1 63 3 = 67 from ttFx c12.1 (by decide) (by decide) rfl rfl rfl]
          refine q_al (pc := 72) (i := 0) (x := 63) rfl rfl ?_
          refine q_gf (pc := 73) (m := 1060) (t := 0) (c := 6) rfl (ttKc c12.1 (a := 63) (κ := 1) (len := 0) ⟨rfl, rfl⟩ (by decide) (by decide)).1 rfl rfl ?_
          rw [show ujK2.1 63 6 = c from (z2 _ _ (by omega)).trans (ec)]
          refine q_il (pc := 74) (i := 10) (x := x) rfl rfl ?_
          refine q_si (pc := 75) rfl (by decide) (ttKc c12.1 (a := 67) (κ := 20) (len := 240) ⟨rfl, rfl⟩ (by decide) (by decide)).1 (by omega) (by rw [(ttKc c12.1 (a := 67) (κ := 20) (len := 240) ⟨rfl, rfl⟩ (by decide) (by decide)).2]; omega) ?_
          have c13 := ttPuT c12.1 c12.2 (a := 67) (j := c) (x := x) (by decide) (fun _ _ => ttTyr rfl (by omega) (by omega)) ⟨(67, 0, 239), by decide, ⟨⟨by decide, rfl⟩, by show (0 : Int) ≤ c; omega, by show c ≤ 239; omega⟩⟩
          have z3 : ∀ a j : Int, a < 65 ∨ 69 < a → xUp ujK2.1 67 c x a j = H.1 a j := fun a j ha => (up_na (by omega)).trans (z2 a j ha)
          have y3 : ∀ a j : Int, 65 ≤ a → a ≤ 69 → j ≠ c → xUp ujK2.1 67 c x a j = H.1 a j := fun a j a0 a1 hj => (up_ne (fun q => hj q.2)).trans (y2 a j a0 a1 hj)
          have e65_3 : xUp ujK2.1 67 c x 65 c = y := (up_na (by decide)).trans e65_2
          have e66_3 : xUp ujK2.1 67 c x 66 c = t := (up_na (by decide)).trans e66_2
          have e67_3 : xUp ujK2.1 67 c x 67 c = x := up_eq
          obtain ⟨ujK3, hK3⟩ : ∃ X : xH, X = (xUp ujK2.1 67 c x, ujK2.2) := ⟨_, rfl⟩
          rw [← hK3] at c13 ⊢
          rw [show xUp ujK2.1 67 c x = ujK3.1 from by rw [hK3]] at z3 y3 e65_3 e66_3 e67_3
          refine q_al (pc := 76) (i := 0) (x := 63) rfl rfl ?_
          refine q_gf (pc := 77) (m := 1042) (t := 2) (c := 4) rfl (ttKc c13.1 (a := 63) (κ := 1) (len := 0) ⟨rfl, rfl⟩ (by decide) (by decide)).1 rfl rfl ?_
          rw [show ujK3.1 63 4 = 68 from ttFx c13.1 (by decide) (by decide) rfl rfl rfl]
          refine q_al (pc := 78) (i := 0) (x := 63) rfl rfl ?_
          refine q_gf (pc := 79) (m := 1060) (t := 0) (c := 6) rfl (ttKc c13.1 (a := 63) (κ := 1) (len := 0) ⟨rfl, rfl⟩ (by decide) (by decide)).1 rfl rfl ?_
          rw [show ujK3.1 63 6 = c from (z3 _ _ (by omega)).trans (ec)]
          refine q_il (pc := 80) (i := 11) (x := (max ((R (84 + 6 * l + 5)) + v) ((R (20 + 8 * y)) + x))) rfl rfl ?_
          refine q_al (pc := 81) (i := 1) (x := b) rfl rfl ?_
          refine q_gf (pc := 82) (m := 10002) (t := 2) (c := 0) rfl (sk_kb c13.1 hB).1 rfl rfl ?_
          rw [show ujK3.1 b 0 = (b + 1) from (z3 _ _ (by omega)).trans (hW.1.1)]
          refine q_il (pc := 83) (i := 8) (x := p) rfl rfl ?_
          refine q_aa (pc := 84) rfl (by rw [(sk_kx c13.1 hB (o := 1) (by decide) (by decide) (κ := 25) (len := 8) ⟨rfl, rfl⟩).1]; decide) (by omega) (by rw [(sk_kx c13.1 hB (o := 1) (by decide) (by decide) (κ := 25) (len := 8) ⟨rfl, rfl⟩).2]; omega) ?_
          rw [show ujK3.1 (b + 1) p = (b + 9 + p) from (z3 _ _ (by omega)).trans (hW.2.1 p (by omega) (by omega))]
          refine q_gf (pc := 85) (m := 4000) (t := 0) (c := 0) rfl (sk_kp c13.1 hB (by omega) (by omega)).1 rfl rfl ?_
          rw [show ujK3.1 (b + 9 + p) 0 = (R (20 + 8 * p)) from (z3 _ _ (by omega)).trans ((hR.2.1 p (by omega) (by omega)).1.1)]
          refine q_mx (pc := 86) rfl rfl (by omega) ?_
          refine q_si (pc := 87) rfl (by decide) (ttKc c13.1 (a := 68) (κ := 20) (len := 240) ⟨rfl, rfl⟩ (by decide) (by decide)).1 (by omega) (by rw [(ttKc c13.1 (a := 68) (κ := 20) (len := 240) ⟨rfl, rfl⟩ (by decide) (by decide)).2]; omega) ?_
          obtain ⟨m, jm⟩ : ∃ m, m = (max (max ((R (84 + 6 * l + 5)) + v) ((R (20 + 8 * y)) + x)) (R (20 + 8 * p))) := ⟨_, rfl⟩
          rw [← jm]
          have em : wsM R p w l s = m := by
            unfold wsM
            rw [← jx, ← jy, ← jv, jm]
          have hm : -2147483648 ≤ m ∧ m ≤ 2147483647 := by omega
          have c14 := ttPuT c13.1 c13.2 (a := 68) (j := c) (x := m) (by decide) (fun _ _ => ttTyr rfl (by omega) (by omega)) ⟨(68, 0, 239), by decide, ⟨⟨by decide, rfl⟩, by show (0 : Int) ≤ c; omega, by show c ≤ 239; omega⟩⟩
          have z4 : ∀ a j : Int, a < 65 ∨ 69 < a → xUp ujK3.1 68 c m a j = H.1 a j := fun a j ha => (up_na (by omega)).trans (z3 a j ha)
          have y4 : ∀ a j : Int, 65 ≤ a → a ≤ 69 → j ≠ c → xUp ujK3.1 68 c m a j = H.1 a j := fun a j a0 a1 hj => (up_ne (fun q => hj q.2)).trans (y3 a j a0 a1 hj)
          have e65_4 : xUp ujK3.1 68 c m 65 c = y := (up_na (by decide)).trans e65_3
          have e66_4 : xUp ujK3.1 68 c m 66 c = t := (up_na (by decide)).trans e66_3
          have e67_4 : xUp ujK3.1 68 c m 67 c = x := (up_na (by decide)).trans e67_3
          have e68_4 : xUp ujK3.1 68 c m 68 c = m := up_eq
          obtain ⟨ujK4, hK4⟩ : ∃ X : xH, X = (xUp ujK3.1 68 c m, ujK3.2) := ⟨_, rfl⟩
          rw [← hK4] at c14 ⊢
          rw [show xUp ujK3.1 68 c m = ujK4.1 from by rw [hK4]] at z4 y4 e65_4 e66_4 e67_4 e68_4
          refine q_al (pc := 88) (i := 0) (x := 63) rfl rfl ?_
          refine q_gf (pc := 89) (m := 1052) (t := 2) (c := 5) rfl (ttKc c14.1 (a := 63) (κ := 1) (len := 0) ⟨rfl, rfl⟩ (by decide) (by decide)).1 rfl rfl ?_
          rw [show ujK4.1 63 5 = 69 from ttFx c14.1 (by decide) (by decide) rfl rfl rfl]
          refine q_al (pc := 90) (i := 0) (x := 63) rfl rfl ?_
          refine q_gf (pc := 91) (m := 1060) (t := 0) (c := 6) rfl (ttKc c14.1 (a := 63) (κ := 1) (len := 0) ⟨rfl, rfl⟩ (by decide) (by decide)).1 rfl rfl ?_
          rw [show ujK4.1 63 6 = c from (z4 _ _ (by omega)).trans (ec)]
          refine q_ic (pc := 92) (v := 100) rfl ?_
          refine q_ic (pc := 93) (v := 10) rfl ?_
          refine q_il (pc := 94) (i := 2) (x := l) rfl rfl ?_
          refine q_im (pc := 95) rfl (by omega) (by omega) ?_
          refine q_ia (pc := 96) rfl (by omega) (by omega) ?_
          refine q_il (pc := 97) (i := 4) (x := s) rfl rfl ?_
          refine q_ia (pc := 98) rfl (by omega) (by omega) ?_
          refine q_si (pc := 99) rfl (by decide) (ttKc c14.1 (a := 69) (κ := 20) (len := 240) ⟨rfl, rfl⟩ (by decide) (by decide)).1 (by omega) (by rw [(ttKc c14.1 (a := 69) (κ := 20) (len := 240) ⟨rfl, rfl⟩ (by decide) (by decide)).2]; omega) ?_
          obtain ⟨d, jd⟩ : ∃ d, d = ((100 + (10 * l)) + s) := ⟨_, rfl⟩
          rw [← jd]
          have c15 := ttPuT c14.1 c14.2 (a := 69) (j := c) (x := d) (by decide) (fun _ _ => ttTyr rfl (by omega) (by omega)) ⟨(69, 0, 239), by decide, ⟨⟨by decide, rfl⟩, by show (0 : Int) ≤ c; omega, by show c ≤ 239; omega⟩⟩
          have z5 : ∀ a j : Int, a < 65 ∨ 69 < a → xUp ujK4.1 69 c d a j = H.1 a j := fun a j ha => (up_na (by omega)).trans (z4 a j ha)
          have y5 : ∀ a j : Int, 65 ≤ a → a ≤ 69 → j ≠ c → xUp ujK4.1 69 c d a j = H.1 a j := fun a j a0 a1 hj => (up_ne (fun q => hj q.2)).trans (y4 a j a0 a1 hj)
          have e65_5 : xUp ujK4.1 69 c d 65 c = y := (up_na (by decide)).trans e65_4
          have e66_5 : xUp ujK4.1 69 c d 66 c = t := (up_na (by decide)).trans e66_4
          have e67_5 : xUp ujK4.1 69 c d 67 c = x := (up_na (by decide)).trans e67_4
          have e68_5 : xUp ujK4.1 69 c d 68 c = m := (up_na (by decide)).trans e68_4
          have e69_5 : xUp ujK4.1 69 c d 69 c = d := up_eq
          obtain ⟨ujK5, hK5⟩ : ∃ X : xH, X = (xUp ujK4.1 69 c d, ujK4.2) := ⟨_, rfl⟩
          rw [← hK5] at c15 ⊢
          rw [show xUp ujK4.1 69 c d = ujK5.1 from by rw [hK5]] at z5 y5 e65_5 e66_5 e67_5 e68_5 e69_5
          refine q_al (pc := 100) (i := 0) (x := 63) rfl rfl ?_
          refine q_d2 (pc := 101) rfl ?_
          refine q_gf (pc := 102) (m := 1060) (t := 0) (c := 6) rfl (ttKc c15.1 (a := 63) (κ := 1) (len := 0) ⟨rfl, rfl⟩ (by decide) (by decide)).1 rfl rfl ?_
          rw [show ujK5.1 63 6 = c from (z5 _ _ (by omega)).trans (ec)]
          refine q_ic (pc := 103) (v := 1) rfl ?_
          refine q_ia (pc := 104) rfl (by omega) (by omega) ?_
          refine q_pf (pc := 105) (m := 1060) (c := 6) rfl (show xPt 0 0 _ _ from (ttKc c15.1 (a := 63) (κ := 1) (len := 0) ⟨rfl, rfl⟩ (by decide) (by decide)).1) rfl ?_
          have c16 := ttPuT c15.1 c15.2 (a := 63) (j := 6) (x := (c + 1)) (by decide) (fun _ _ => show ttM _ (0, 0, 240) (c + 1) from ⟨(by omega : (0 : Int) ≤ c + 1), (by omega : c + 1 ≤ 240)⟩) ⟨(63, 6, 6), by decide, ⟨⟨by decide, rfl⟩, by decide, by decide⟩⟩
          have z6 : ∀ a j : Int, a < 65 ∨ 69 < a → ¬ (a = 63 ∧ j = 6) → xUp ujK5.1 63 6 (c + 1) a j = H.1 a j := fun a j ha hq => (up_ne hq).trans (z5 a j ha)
          have y6 : ∀ a j : Int, 65 ≤ a → a ≤ 69 → j ≠ c → xUp ujK5.1 63 6 (c + 1) a j = H.1 a j := fun a j a0 a1 hj => (up_na (by omega)).trans (y5 a j a0 a1 hj)
          have e65_6 : xUp ujK5.1 63 6 (c + 1) 65 c = y := (up_na (by decide)).trans e65_5
          have e66_6 : xUp ujK5.1 63 6 (c + 1) 66 c = t := (up_na (by decide)).trans e66_5
          have e67_6 : xUp ujK5.1 63 6 (c + 1) 67 c = x := (up_na (by decide)).trans e67_5
          have e68_6 : xUp ujK5.1 63 6 (c + 1) 68 c = m := (up_na (by decide)).trans e68_5
          have e69_6 : xUp ujK5.1 63 6 (c + 1) 69 c = d := (up_na (by decide)).trans e69_5
          have e63 : xUp ujK5.1 63 6 (c + 1) 63 6 = c + 1 := up_eq
          obtain ⟨ujK6, hK6⟩ : ∃ X : xH, X = (xUp ujK5.1 63 6 (c + 1), ujK5.2) := ⟨_, rfl⟩
          rw [← hK6] at c16 ⊢
          rw [show xUp ujK5.1 63 6 (c + 1) = ujK6.1 from by rw [hK6]] at z6 y6 e65_6 e66_6 e67_6 e68_6 e69_6 e63
          refine q_rv (pc := 106) rfl ?_
          exact hy (by rw [← jt]; exact h9) ujK6 c16.1 c16.2 e63 ⟨e65_6.trans jy, e66_6.trans ht.symm, e67_6.trans jx, e68_6.trans em.symm, e69_6.trans jd⟩ z6 y6
        · replace h29 : k ≠ 0 := h29
          exact absurd h21 h29
      · replace h21 : k ≠ 0 := h21
        refine q_al (pc := 22) (i := 7) (x := (b + 17 + l)) rfl rfl ?_
        refine q_gf (pc := 23) (m := 2010) (t := 0) (c := 1) rfl (sk_kl hT hB l0 (by omega)).1 rfl rfl ?_
        rw [show H.1 (b + 17 + l) 1 = (R (84 + 6 * l + 1)) from hl 1 (by decide) (by decide)]
        refine q_go (pc := 24) rfl ?_
        have e2 : R (84 + 6 * l + 1) = p := wsB_1 (by rw [← hk]; exact h21)
        have ed : wsD R p l = R (84 + 6 * l) := if_pos e2
        have pb : 0 ≤ p ∧ p < R 1 := by omega
        rw [show (R (84 + 6 * l + 1)) = p from e2]
        refine q_is (pc := 27) (i := 8) (L' := [(2, 63), (2, b), (0, l), (0, k), (0, s), (0, w), (0, t), (2, (b + 17 + l)), (0, p), (9, 0), (9, 0), (9, 0)]) rfl rfl rfl ?_
        refine q_il (pc := 28) (i := 3) (x := k) rfl rfl ?_
        refine q_if (pc := 29) rfl (fun h29 => ?_) (fun h29 => ?_)
        · replace h29 : k = 0 := h29
          exact absurd h29 h21
        · replace h29 : k ≠ 0 := h29
          refine q_al (pc := 30) (i := 7) (x := (b + 17 + l)) rfl rfl ?_
          refine q_gf (pc := 31) (m := 2000) (t := 0) (c := 0) rfl (sk_kl hT hB l0 (by omega)).1 rfl rfl ?_
          rw [show H.1 (b + 17 + l) 0 = (R (84 + 6 * l)) from (hl 0 (by decide) (by decide)).trans (by rw [Int.add_zero])]
          refine q_go (pc := 32) rfl ?_
          obtain ⟨y, jy⟩ : ∃ y, y = wsD R p l := ⟨_, rfl⟩
          rw [show (R (84 + 6 * l)) = y from ed.symm.trans jy.symm]
          rw [← jy] at ed
          have yb : 0 ≤ y ∧ y < R 1 := by omega
          have gy := wg y (by omega) (by omega)
          have gp := wg p (by omega) (by omega)
          refine q_is (pc := 35) (i := 9) (L' := [(2, 63), (2, b), (0, l), (0, k), (0, s), (0, w), (0, t), (2, (b + 17 + l)), (0, p), (0, y), (9, 0), (9, 0)]) rfl rfl rfl ?_
          refine q_al (pc := 36) (i := 1) (x := b) rfl rfl ?_
          refine q_il (pc := 37) (i := 2) (x := l) rfl rfl ?_
          refine q_il (pc := 38) (i := 3) (x := k) rfl rfl ?_
          refine q_il (pc := 39) (i := 4) (x := s) rfl rfl ?_
          refine q_il (pc := 40) (i := 5) (x := w) rfl rfl ?_
          refine q_iv (pc := 41) (q := 1000820) rfl rfl rfl (sk_kb hT hB).1 ?_
          refine hp_loses (by omega) hT hB hW hR hw l0 l1 s0 s1 ?_
          have ht : wsP R p w l s = t := by
            unfold wsP
            rw [← hk]
            exact jt.symm
          obtain ⟨x, jx⟩ : ∃ x, x = wsX R p w l s := ⟨_, rfl⟩
          have hx := wsX_in hw (w := w) (p := p) l0 (by omega) s0 (by omega) (by rw [ht]; exact h9)
          rw [← jx] at hx
          have htb := wsP_in hw (w := w) (p := p) (s := s) l0 (by omega) (by rw [ht]; exact h9)
          rw [ht] at htb
          have ex : rsV R l k s w = x := by
            rw [jx]
            show (if rsT R l k s w = -1 then -2000000000 else rsLs _ _ (rsT R l k s w)) = rsLs _ _ (wsP R p w l s)
            rw [ht, ← jt]
            exact if_neg h9
          rw [ex]
          refine q_is (pc := 42) (i := 10) (L' := [(2, 63), (2, b), (0, l), (0, k), (0, s), (0, w), (0, t), (2, (b + 17 + l)), (0, p), (0, y), (0, x), (9, 0)]) rfl rfl rfl ?_
          refine q_al (pc := 43) (i := 7) (x := (b + 17 + l)) rfl rfl ?_
          refine q_gf (pc := 44) (m := 2050) (t := 0) (c := 5) rfl (sk_kl hT hB l0 (by omega)).1 rfl rfl ?_
          rw [show H.1 (b + 17 + l) 5 = (R (84 + 6 * l + 5)) from hl 5 (by decide) (by decide)]
          refine q_il (pc := 45) (i := 10) (x := x) rfl rfl ?_
          refine q_ic (pc := 46) (v := 2) rfl ?_
          refine q_wd (pc := 47) rfl (by decide) ?_
          obtain ⟨v, jv⟩ : ∃ v, v = Int.tdiv x 2 := ⟨_, rfl⟩
          have hv := ws_td (b := 2) hx.1 hx.2 (by decide)
          rw [← jv] at hv
          rw [show w32 (Int.tdiv x 2) = v from by rw [← jv]; exact w32_eq ⟨by omega, by omega⟩]
          refine q_ia (pc := 48) rfl (by omega) (by omega) ?_
          refine q_al (pc := 49) (i := 1) (x := b) rfl rfl ?_
          refine q_gf (pc := 50) (m := 10002) (t := 2) (c := 0) rfl (sk_kb hT hB).1 rfl rfl ?_
          rw [show H.1 b 0 = (b + 1) from hW.1.1]
          refine q_il (pc := 51) (i := 9) (x := y) rfl rfl ?_
          refine q_aa (pc := 52) rfl (by rw [(sk_kx hT hB (o := 1) (by decide) (by decide) (κ := 25) (len := 8) ⟨rfl, rfl⟩).1]; decide) (by omega) (by rw [(sk_kx hT hB (o := 1) (by decide) (by decide) (κ := 25) (len := 8) ⟨rfl, rfl⟩).2]; omega) ?_
          rw [show H.1 (b + 1) y = (b + 9 + y) from hW.2.1 y (by omega) (by omega)]
          refine q_gf (pc := 53) (m := 4000) (t := 0) (c := 0) rfl (sk_kp hT hB (by omega) (by omega)).1 rfl rfl ?_
          rw [show H.1 (b + 9 + y) 0 = (R (20 + 8 * y)) from (hR.2.1 y (by omega) (by omega)).1.1]
          refine q_il (pc := 54) (i := 10) (x := x) rfl rfl ?_
          refine q_ia (pc := 55) rfl (by omega) (by omega) ?_
          refine q_mx (pc := 56) rfl rfl (by omega) ?_
          refine q_is (pc := 57) (i := 11) (L' := [(2, 63), (2, b), (0, l), (0, k), (0, s), (0, w), (0, t), (2, (b + 17 + l)), (0, p), (0, y), (0, x), (0, (max ((R (84 + 6 * l + 5)) + v) ((R (20 + 8 * y)) + x)))]) rfl rfl rfl ?_
          refine q_al (pc := 58) (i := 0) (x := 63) rfl rfl ?_
          refine q_gf (pc := 59) (m := 1012) (t := 2) (c := 1) rfl (ttKc hT (a := 63) (κ := 1) (len := 0) ⟨rfl, rfl⟩ (by decide) (by decide)).1 rfl rfl ?_
          rw [show H.1 63 1 = 65 from ttFx hT (by decide) (by decide) rfl rfl rfl]
          refine q_al (pc := 60) (i := 0) (x := 63) rfl rfl ?_
          refine q_gf (pc := 61) (m := 1060) (t := 0) (c := 6) rfl (ttKc hT (a := 63) (κ := 1) (len := 0) ⟨rfl, rfl⟩ (by decide) (by decide)).1 rfl rfl ?_
          rw [show H.1 63 6 = c from ec]
          refine q_il (pc := 62) (i := 9) (x := y) rfl rfl ?_
          refine q_si (pc := 63) rfl (by decide) (ttKc hT (a := 65) (κ := 20) (len := 240) ⟨rfl, rfl⟩ (by decide) (by decide)).1 (by omega) (by rw [(ttKc hT (a := 65) (κ := 20) (len := 240) ⟨rfl, rfl⟩ (by decide) (by decide)).2]; omega) ?_
          have c11 := ttPuT hT (ttFr_rf (true, [(63, 6, 6), (64, 0, 16), (65, 0, 239), (66, 0, 239), (67, 0, 239), (68, 0, 239), (69, 0, 239), (70, 0, 15)]) H) (a := 65) (j := c) (x := y) (by decide) (fun _ _ => ttTyr rfl (by omega) (by omega)) ⟨(65, 0, 239), by decide, ⟨⟨by decide, rfl⟩, by show (0 : Int) ≤ c; omega, by show c ≤ 239; omega⟩⟩
          have z1 : ∀ a j : Int, a < 65 ∨ 69 < a → xUp H.1 65 c y a j = H.1 a j := fun a j ha => (up_na (by omega)).trans (rfl)
          have y1 : ∀ a j : Int, 65 ≤ a → a ≤ 69 → j ≠ c → xUp H.1 65 c y a j = H.1 a j := fun a j a0 a1 hj => (up_ne (fun q => hj q.2)).trans (rfl)
          have e65_1 : xUp H.1 65 c y 65 c = y := up_eq
          obtain ⟨ujK1, hK1⟩ : ∃ X : xH, X = (xUp H.1 65 c y, H.2) := ⟨_, rfl⟩
          rw [← hK1] at c11 ⊢
          rw [show xUp H.1 65 c y = ujK1.1 from by rw [hK1]] at z1 y1 e65_1
          refine q_al (pc := 64) (i := 0) (x := 63) rfl rfl ?_
          refine q_gf (pc := 65) (m := 1022) (t := 2) (c := 2) rfl (ttKc c11.1 (a := 63) (κ := 1) (len := 0) ⟨rfl, rfl⟩ (by decide) (by decide)).1 rfl rfl ?_
          rw [show ujK1.1 63 2 = 66 from ttFx c11.1 (by decide) (by decide) rfl rfl rfl]
          refine q_al (pc := 66) (i := 0) (x := 63) rfl rfl ?_
          refine q_gf (pc := 67) (m := 1060) (t := 0) (c := 6) rfl (ttKc c11.1 (a := 63) (κ := 1) (len := 0) ⟨rfl, rfl⟩ (by decide) (by decide)).1 rfl rfl ?_
          rw [show ujK1.1 63 6 = c from (z1 _ _ (by omega)).trans (ec)]
          refine q_il (pc := 68) (i := 6) (x := t) rfl rfl ?_
          refine q_si (pc := 69) rfl (by decide) (ttKc c11.1 (a := 66) (κ := 20) (len := 240) ⟨rfl, rfl⟩ (by decide) (by decide)).1 (by omega) (by rw [(ttKc c11.1 (a := 66) (κ := 20) (len := 240) ⟨rfl, rfl⟩ (by decide) (by decide)).2]; omega) ?_
          have c12 := ttPuT c11.1 c11.2 (a := 66) (j := c) (x := t) (by decide) (fun _ _ => ttTyr rfl (by omega) (by omega)) ⟨(66, 0, 239), by decide, ⟨⟨by decide, rfl⟩, by show (0 : Int) ≤ c; omega, by show c ≤ 239; omega⟩⟩
          have z2 : ∀ a j : Int, a < 65 ∨ 69 < a → xUp ujK1.1 66 c t a j = H.1 a j := fun a j ha => (up_na (by omega)).trans (z1 a j ha)
          have y2 : ∀ a j : Int, 65 ≤ a → a ≤ 69 → j ≠ c → xUp ujK1.1 66 c t a j = H.1 a j := fun a j a0 a1 hj => (up_ne (fun q => hj q.2)).trans (y1 a j a0 a1 hj)
          have e65_2 : xUp ujK1.1 66 c t 65 c = y := (up_na (by decide)).trans e65_1
          have e66_2 : xUp ujK1.1 66 c t 66 c = t := up_eq
          obtain ⟨ujK2, hK2⟩ : ∃ X : xH, X = (xUp ujK1.1 66 c t, ujK1.2) := ⟨_, rfl⟩
          rw [← hK2] at c12 ⊢
          rw [show xUp ujK1.1 66 c t = ujK2.1 from by rw [hK2]] at z2 y2 e65_2 e66_2
          refine q_al (pc := 70) (i := 0) (x := 63) rfl rfl ?_
          refine q_gf (pc := 71) (m := 1032) (t := 2) (c := 3) rfl (ttKc c12.1 (a := 63) (κ := 1) (len := 0) ⟨rfl, rfl⟩ (by decide) (by decide)).1 rfl rfl ?_
          rw [show ujK2.1 63 3 = 67 from ttFx c12.1 (by decide) (by decide) rfl rfl rfl]
          refine q_al (pc := 72) (i := 0) (x := 63) rfl rfl ?_
          refine q_gf (pc := 73) (m := 1060) (t := 0) (c := 6) rfl (ttKc c12.1 (a := 63) (κ := 1) (len := 0) ⟨rfl, rfl⟩ (by decide) (by decide)).1 rfl rfl ?_
          rw [show ujK2.1 63 6 = c from (z2 _ _ (by omega)).trans (ec)]
          refine q_il (pc := 74) (i := 10) (x := x) rfl rfl ?_
          refine q_si (pc := 75) rfl (by decide) (ttKc c12.1 (a := 67) (κ := 20) (len := 240) ⟨rfl, rfl⟩ (by decide) (by decide)).1 (by omega) (by rw [(ttKc c12.1 (a := 67) (κ := 20) (len := 240) ⟨rfl, rfl⟩ (by decide) (by decide)).2]; omega) ?_
          have c13 := ttPuT c12.1 c12.2 (a := 67) (j := c) (x := x) (by decide) (fun _ _ => ttTyr rfl (by omega) (by omega)) ⟨(67, 0, 239), by decide, ⟨⟨by decide, rfl⟩, by show (0 : Int) ≤ c; omega, by show c ≤ 239; omega⟩⟩
          have z3 : ∀ a j : Int, a < 65 ∨ 69 < a → xUp ujK2.1 67 c x a j = H.1 a j := fun a j ha => (up_na (by omega)).trans (z2 a j ha)
          have y3 : ∀ a j : Int, 65 ≤ a → a ≤ 69 → j ≠ c → xUp ujK2.1 67 c x a j = H.1 a j := fun a j a0 a1 hj => (up_ne (fun q => hj q.2)).trans (y2 a j a0 a1 hj)
          have e65_3 : xUp ujK2.1 67 c x 65 c = y := (up_na (by decide)).trans e65_2
          have e66_3 : xUp ujK2.1 67 c x 66 c = t := (up_na (by decide)).trans e66_2
          have e67_3 : xUp ujK2.1 67 c x 67 c = x := up_eq
          obtain ⟨ujK3, hK3⟩ : ∃ X : xH, X = (xUp ujK2.1 67 c x, ujK2.2) := ⟨_, rfl⟩
          rw [← hK3] at c13 ⊢
          rw [show xUp ujK2.1 67 c x = ujK3.1 from by rw [hK3]] at z3 y3 e65_3 e66_3 e67_3
          refine q_al (pc := 76) (i := 0) (x := 63) rfl rfl ?_
          refine q_gf (pc := 77) (m := 1042) (t := 2) (c := 4) rfl (ttKc c13.1 (a := 63) (κ := 1) (len := 0) ⟨rfl, rfl⟩ (by decide) (by decide)).1 rfl rfl ?_
          rw [show ujK3.1 63 4 = 68 from ttFx c13.1 (by decide) (by decide) rfl rfl rfl]
          refine q_al (pc := 78) (i := 0) (x := 63) rfl rfl ?_
          refine q_gf (pc := 79) (m := 1060) (t := 0) (c := 6) rfl (ttKc c13.1 (a := 63) (κ := 1) (len := 0) ⟨rfl, rfl⟩ (by decide) (by decide)).1 rfl rfl ?_
          rw [show ujK3.1 63 6 = c from (z3 _ _ (by omega)).trans (ec)]
          refine q_il (pc := 80) (i := 11) (x := (max ((R (84 + 6 * l + 5)) + v) ((R (20 + 8 * y)) + x))) rfl rfl ?_
          refine q_al (pc := 81) (i := 1) (x := b) rfl rfl ?_
          refine q_gf (pc := 82) (m := 10002) (t := 2) (c := 0) rfl (sk_kb c13.1 hB).1 rfl rfl ?_
          rw [show ujK3.1 b 0 = (b + 1) from (z3 _ _ (by omega)).trans (hW.1.1)]
          refine q_il (pc := 83) (i := 8) (x := p) rfl rfl ?_
          refine q_aa (pc := 84) rfl (by rw [(sk_kx c13.1 hB (o := 1) (by decide) (by decide) (κ := 25) (len := 8) ⟨rfl, rfl⟩).1]; decide) (by omega) (by rw [(sk_kx c13.1 hB (o := 1) (by decide) (by decide) (κ := 25) (len := 8) ⟨rfl, rfl⟩).2]; omega) ?_
          rw [show ujK3.1 (b + 1) p = (b + 9 + p) from (z3 _ _ (by omega)).trans (hW.2.1 p (by omega) (by omega))]
          refine q_gf (pc := 85) (m := 4000) (t := 0) (c := 0) rfl (sk_kp c13.1 hB (by omega) (by omega)).1 rfl rfl ?_
          rw [show ujK3.1 (b + 9 + p) 0 = (R (20 + 8 * p)) from (z3 _ _ (by omega)).trans ((hR.2.1 p (by omega) (by omega)).1.1)]
          refine q_mx (pc := 86) rfl rfl (by omega) ?_
          refine q_si (pc := 87) rfl (by decide) (ttKc c13.1 (a := 68) (κ := 20) (len := 240) ⟨rfl, rfl⟩ (by decide) (by decide)).1 (by omega) (by rw [(ttKc c13.1 (a := 68) (κ := 20) (len := 240) ⟨rfl, rfl⟩ (by decide) (by decide)).2]; omega) ?_
          obtain ⟨m, jm⟩ : ∃ m, m = (max (max ((R (84 + 6 * l + 5)) + v) ((R (20 + 8 * y)) + x)) (R (20 + 8 * p))) := ⟨_, rfl⟩
          rw [← jm]
          have em : wsM R p w l s = m := by
            unfold wsM
            rw [← jx, ← jy, ← jv, jm]
          have hm : -2147483648 ≤ m ∧ m ≤ 2147483647 := by omega
          have c14 := ttPuT c13.1 c13.2 (a := 68) (j := c) (x := m) (by decide) (fun _ _ => ttTyr rfl (by omega) (by omega)) ⟨(68, 0, 239), by decide, ⟨⟨by decide, rfl⟩, by show (0 : Int) ≤ c; omega, by show c ≤ 239; omega⟩⟩
          have z4 : ∀ a j : Int, a < 65 ∨ 69 < a → xUp ujK3.1 68 c m a j = H.1 a j := fun a j ha => (up_na (by omega)).trans (z3 a j ha)
          have y4 : ∀ a j : Int, 65 ≤ a → a ≤ 69 → j ≠ c → xUp ujK3.1 68 c m a j = H.1 a j := fun a j a0 a1 hj => (up_ne (fun q => hj q.2)).trans (y3 a j a0 a1 hj)
          have e65_4 : xUp ujK3.1 68 c m 65 c = y := (up_na (by decide)).trans e65_3
          have e66_4 : xUp ujK3.1 68 c m 66 c = t := (up_na (by decide)).trans e66_3
          have e67_4 : xUp ujK3.1 68 c m 67 c = x := (up_na (by decide)).trans e67_3
          have e68_4 : xUp ujK3.1 68 c m 68 c = m := up_eq
          obtain ⟨ujK4, hK4⟩ : ∃ X : xH, X = (xUp ujK3.1 68 c m, ujK3.2) := ⟨_, rfl⟩
          rw [← hK4] at c14 ⊢
          rw [show xUp ujK3.1 68 c m = ujK4.1 from by rw [hK4]] at z4 y4 e65_4 e66_4 e67_4 e68_4
          refine q_al (pc := 88) (i := 0) (x := 63) rfl rfl ?_
          refine q_gf (pc := 89) (m := 1052) (t := 2) (c := 5) rfl (ttKc c14.1 (a := 63) (κ := 1) (len := 0) ⟨rfl, rfl⟩ (by decide) (by decide)).1 rfl rfl ?_
          rw [show ujK4.1 63 5 = 69 from ttFx c14.1 (by decide) (by decide) rfl rfl rfl]
          refine q_al (pc := 90) (i := 0) (x := 63) rfl rfl ?_
          refine q_gf (pc := 91) (m := 1060) (t := 0) (c := 6) rfl (ttKc c14.1 (a := 63) (κ := 1) (len := 0) ⟨rfl, rfl⟩ (by decide) (by decide)).1 rfl rfl ?_
          rw [show ujK4.1 63 6 = c from (z4 _ _ (by omega)).trans (ec)]
          refine q_ic (pc := 92) (v := 100) rfl ?_
          refine q_ic (pc := 93) (v := 10) rfl ?_
          refine q_il (pc := 94) (i := 2) (x := l) rfl rfl ?_
          refine q_im (pc := 95) rfl (by omega) (by omega) ?_
          refine q_ia (pc := 96) rfl (by omega) (by omega) ?_
          refine q_il (pc := 97) (i := 4) (x := s) rfl rfl ?_
          refine q_ia (pc := 98) rfl (by omega) (by omega) ?_
          refine q_si (pc := 99) rfl (by decide) (ttKc c14.1 (a := 69) (κ := 20) (len := 240) ⟨rfl, rfl⟩ (by decide) (by decide)).1 (by omega) (by rw [(ttKc c14.1 (a := 69) (κ := 20) (len := 240) ⟨rfl, rfl⟩ (by decide) (by decide)).2]; omega) ?_
          obtain ⟨d, jd⟩ : ∃ d, d = ((100 + (10 * l)) + s) := ⟨_, rfl⟩
          rw [← jd]
          have c15 := ttPuT c14.1 c14.2 (a := 69) (j := c) (x := d) (by decide) (fun _ _ => ttTyr rfl (by omega) (by omega)) ⟨(69, 0, 239), by decide, ⟨⟨by decide, rfl⟩, by show (0 : Int) ≤ c; omega, by show c ≤ 239; omega⟩⟩
          have z5 : ∀ a j : Int, a < 65 ∨ 69 < a → xUp ujK4.1 69 c d a j = H.1 a j := fun a j ha => (up_na (by omega)).trans (z4 a j ha)
          have y5 : ∀ a j : Int, 65 ≤ a → a ≤ 69 → j ≠ c → xUp ujK4.1 69 c d a j = H.1 a j := fun a j a0 a1 hj => (up_ne (fun q => hj q.2)).trans (y4 a j a0 a1 hj)
          have e65_5 : xUp ujK4.1 69 c d 65 c = y := (up_na (by decide)).trans e65_4
          have e66_5 : xUp ujK4.1 69 c d 66 c = t := (up_na (by decide)).trans e66_4
          have e67_5 : xUp ujK4.1 69 c d 67 c = x := (up_na (by decide)).trans e67_4
          have e68_5 : xUp ujK4.1 69 c d 68 c = m := (up_na (by decide)).trans e68_4
          have e69_5 : xUp ujK4.1 69 c d 69 c = d := up_eq
          obtain ⟨ujK5, hK5⟩ : ∃ X : xH, X = (xUp ujK4.1 69 c d, ujK4.2) := ⟨_, rfl⟩
          rw [← hK5] at c15 ⊢
          rw [show xUp ujK4.1 69 c d = ujK5.1 from by rw [hK5]] at z5 y5 e65_5 e66_5 e67_5 e68_5 e69_5
          refine q_al (pc := 100) (i := 0) (x := 63) rfl rfl ?_
          refine q_d2 (pc := 101) rfl ?_
          refine q_gf (pc := 102) (m := 1060) (t := 0) (c := 6) rfl (ttKc c15.1 (a := 63) (κ := 1) (len := 0) ⟨rfl, rfl⟩ (by decide) (by decide)).1 rfl rfl ?_
          rw [show ujK5.1 63 6 = c from (z5 _ _ (by omega)).trans (ec)]
          refine q_ic (pc := 103) (v := 1) rfl ?_
          refine q_ia (pc := 104) rfl (by omega) (by omega) ?_
          refine q_pf (pc := 105) (m := 1060) (c := 6) rfl (show xPt 0 0 _ _ from (ttKc c15.1 (a := 63) (κ := 1) (len := 0) ⟨rfl, rfl⟩ (by decide) (by decide)).1) rfl ?_
          have c16 := ttPuT c15.1 c15.2 (a := 63) (j := 6) (x := (c + 1)) (by decide) (fun _ _ => show ttM _ (0, 0, 240) (c + 1) from ⟨(by omega : (0 : Int) ≤ c + 1), (by omega : c + 1 ≤ 240)⟩) ⟨(63, 6, 6), by decide, ⟨⟨by decide, rfl⟩, by decide, by decide⟩⟩
          have z6 : ∀ a j : Int, a < 65 ∨ 69 < a → ¬ (a = 63 ∧ j = 6) → xUp ujK5.1 63 6 (c + 1) a j = H.1 a j := fun a j ha hq => (up_ne hq).trans (z5 a j ha)
          have y6 : ∀ a j : Int, 65 ≤ a → a ≤ 69 → j ≠ c → xUp ujK5.1 63 6 (c + 1) a j = H.1 a j := fun a j a0 a1 hj => (up_na (by omega)).trans (y5 a j a0 a1 hj)
          have e65_6 : xUp ujK5.1 63 6 (c + 1) 65 c = y := (up_na (by decide)).trans e65_5
          have e66_6 : xUp ujK5.1 63 6 (c + 1) 66 c = t := (up_na (by decide)).trans e66_5
          have e67_6 : xUp ujK5.1 63 6 (c + 1) 67 c = x := (up_na (by decide)).trans e67_5
          have e68_6 : xUp ujK5.1 63 6 (c + 1) 68 c = m := (up_na (by decide)).trans e68_5
          have e69_6 : xUp ujK5.1 63 6 (c + 1) 69 c = d := (up_na (by decide)).trans e69_5
          have e63 : xUp ujK5.1 63 6 (c + 1) 63 6 = c + 1 := up_eq
          obtain ⟨ujK6, hK6⟩ : ∃ X : xH, X = (xUp ujK5.1 63 6 (c + 1), ujK5.2) := ⟨_, rfl⟩
          rw [← hK6] at c16 ⊢
          rw [show xUp ujK5.1 63 6 (c + 1) = ujK6.1 from by rw [hK6]] at z6 y6 e65_6 e66_6 e67_6 e68_6 e69_6 e63
          refine q_rv (pc := 106) rfl ?_
          exact hy (by rw [← jt]; exact h9) ujK6 c16.1 c16.2 e63 ⟨e65_6.trans jy, e66_6.trans ht.symm, e67_6.trans jx, e68_6.trans em.symm, e69_6.trans jd⟩ z6 y6
    · replace h13 : 240 ≤ c := h13
      omega

def hpI (H K : xH) (R : Int → Int) (p w c : Int) (n : Nat) : Prop := ttTI K ∧ ttFr (true, [(63, 6, 6), (64, 0, 16), (65, 0, 239), (66, 0, 239), (67, 0, 239), (68, 0, 239), (69, 0, 239), (70, 0, 15)]) H K ∧ K.1 63 6 = c + (wsW R p w n).1 ∧ hpT K.1 R p w c (wsW R p w n) ∧ (∀ a j : Int, a < 65 ∨ 69 < a → ¬ (a = 63 ∧ j = 6) → K.1 a j = H.1 a j) ∧ (∀ a j : Int, 65 ≤ a → a ≤ 69 → j < c → K.1 a j = H.1 a j)
theorem hpI_e {H K : xH} {R : Int → Int} {p w c : Int} {n m : Nat} (e : wsW R p w m = wsW R p w n) (y : hpI H K R p w c n) : hpI H K R p w c m := by
  unfold hpI at *
  rw [e]
  exact y
theorem wsW_lt {R : Int → Int} {p w l s : Int} {n : Nat} (hn : (n : Int) = 6 * l + s) (n60 : n < 60) (s0 : 0 ≤ s) (s1 : s < 6) (u : wsU R p w l s) : (wsW R p w n).1 + 1 ≤ (wsW R p w 60).1 := by
  have z := wsW_le (R := R) (p := p) (w := w) (n := n + 1) (59 - n)
  rw [show n + 1 + (59 - n) = 60 from by omega, wsW_y hn s0 s1 u] at z
  exact z
theorem hpI_n {H K : xH} {R : Int → Int} {p w c l s : Int} {n : Nat} (hn : (n : Int) = 6 * l + s) (s0 : 0 ≤ s) (s1 : s < 6) (u : ¬ wsU R p w l s) (y : hpI H K R p w c n) : hpI H K R p w c (n + 1) := hpI_e (wsW_n hn s0 s1 u) y
theorem hpI_y {H K M : xH} {R : Int → Int} {p w c l s : Int} {n : Nat} (hn : (n : Int) = 6 * l + s) (l0 : 0 ≤ l ∧ l ≤ 9) (s0 : 0 ≤ s) (s1 : s < 6) (u : wsU R p w l s) (y : hpI H K R p w c n) (mT : ttTI M) (mF : ttFr (true, [(63, 6, 6), (64, 0, 16), (65, 0, 239), (66, 0, 239), (67, 0, 239), (68, 0, 239), (69, 0, 239), (70, 0, 15)]) K M) (mc : M.1 63 6 = c + (wsW R p w n).1 + 1) (me : hpE M.1 R p w l s (c + (wsW R p w n).1)) (mo : ∀ a j : Int, a < 65 ∨ 69 < a → ¬ (a = 63 ∧ j = 6) → M.1 a j = K.1 a j) (mi : ∀ a j : Int, 65 ≤ a → a ≤ 69 → j ≠ c + (wsW R p w n).1 → M.1 a j = K.1 a j) : hpI H M R p w c (n + 1) := by
  obtain ⟨y1, y2, y3, y4, y5, y6⟩ := y
  have i0 := (wsW_in (R := R) (p := p) (w := w) n).1.1
  unfold hpI
  rw [wsW_y hn s0 s1 u]
  refine ⟨mT, ttFr_tr y2 mF (fun _ => rfl) (by decide), ?_, hpT_a y4 mi l0 ⟨s0, by omega⟩ u me, fun a j ha hq => (mo a j ha hq).trans (y5 a j ha hq), fun a j a0 a1 hj => (mi a j a0 a1 (by omega)).trans (y6 a j a0 a1 hj)⟩
  show M.1 63 6 = c + ((wsW R p w n).1 + 1)
  omega
theorem hp_from {dd : Nat} (hd : 5 ≤ dd) {H : xH} (hT : ttTI H) {b : Int} (hB : skB b) (hW : skW H.1 b) {S : tSa} {R : Int → Int} {h : Int} (hR : skR H.1 b (S, R, h)) (hw : wsR R) {p w c : Int} (ec : H.1 63 6 = c) (c0 : 0 ≤ c) (c1 : c + (wsW R p w 60).1 ≤ 240) {Q : Int → xH → Prop} (hq : ∀ K, hpI H K R p w c 60 → Q 0 K) : xCall dd 18 [(2, 63), (2, b), (0, p), (0, w)] H Q := by
  obtain ⟨e, rfl, he⟩ := ttRun0 (n := 4) hd
  have he : 4 ≤ e := he
  have hn : 210 ≤ (H.2.2.2.1 : Int) := by have := hT.1; omega
  have hi := skB_in hB
  have w2 := hw.2.1
  have w3 := hw.2.2.1
  have hs : ∀ l : Int, 0 ≤ l → l < R 2 → (R (84 + 6 * l) = p ∨ R (84 + 6 * l + 1) = p) → (∀ (K : xH) (x5 x6 : xV) (N : Nat), (N : Int) = 6 * (l + 1) → hpI H K R p w c N → xW e cd_18 Q (2, [(2, 63), (2, b), (0, p), (0, w), (0, (l + 1)), x5, x6], [], K)) → ∀ n : Nat, ∀ (K : xH) (s : Int) (N : Nat), (N : Int) = 6 * l + s → 0 ≤ s → s ≤ R 3 → R 3 - s ≤ (n : Int) → hpI H K R p w c N → xW e cd_18 Q (21, [(2, 63), (2, b), (0, p), (0, w), (0, l), (2, b + 17 + l), (0, s)], [], K) := by
    intro l l0 l1 hu hk n
    induction n with
    | zero =>
      intro K s N hN s0 s1 hz kI
      obtain ⟨kT, kF, kc, -⟩ := id kI
      have kW : skW K.1 b := skW_fr kF hn hB (by decide) hW
      have kR : skR K.1 b (S, R, h) := skR_D hR w3.2 (fun a j a0 a1 => sk_fr kF hn hB (by decide) a0 a1)
      refine q_il (pc := 21) (i := 6) (x := s) rfl rfl ?_
      refine q_al (pc := 22) (i := 1) (x := b) rfl rfl ?_
      refine q_gf (pc := 23) (m := 10022) (t := 2) (c := 2) rfl (sk_kb kT hB).1 rfl rfl ?_
      rw [show K.1 b 2 = (b + 3) from kW.1.2.2.1]
      refine q_gf (pc := 24) (m := 6000) (t := 0) (c := 0) rfl (sk_kx kT hB (o := 3) (by decide) (by decide) (κ := 6) (len := 0) ⟨rfl, rfl⟩).1 rfl rfl ?_
      rw [show K.1 (b + 3) 0 = (R 3) from kR.2.2.2.1.1]
      refine q_i2 (pc := 25) rfl (fun h25 => ?_) (fun h25 => ?_)
      · replace h25 : (R 3) ≤ s := h25
        refine q_ii (pc := 41) (i := 4) (c := 1) (x := l) (L' := [(2, 63), (2, b), (0, p), (0, w), (0, (l + 1)), (2, (b + 17 + l)), (0, s)]) rfl rfl rfl (by omega) (by omega) rfl ?_
        refine q_go (pc := 42) rfl ?_
        exact hk K _ _ (6 * (l.toNat + 1)) (by omega) (hpI_e (wsW_k (by omega) (fun l2 s2 a1 a2 a3 a4 u => by have := u.2.1; omega)) kI)
      · replace h25 : s < (R 3) := h25
        omega
    | succ n ih =>
      intro K s N hN s0 s1 hz kI
      obtain ⟨kT, kF, kc, -⟩ := id kI
      have kW : skW K.1 b := skW_fr kF hn hB (by decide) hW
      have kR : skR K.1 b (S, R, h) := skR_D hR w3.2 (fun a j a0 a1 => sk_fr kF hn hB (by decide) a0 a1)
      refine q_il (pc := 21) (i := 6) (x := s) rfl rfl ?_
      refine q_al (pc := 22) (i := 1) (x := b) rfl rfl ?_
      refine q_gf (pc := 23) (m := 10022) (t := 2) (c := 2) rfl (sk_kb kT hB).1 rfl rfl ?_
      rw [show K.1 b 2 = (b + 3) from kW.1.2.2.1]
      refine q_gf (pc := 24) (m := 6000) (t := 0) (c := 0) rfl (sk_kx kT hB (o := 3) (by decide) (by decide) (κ := 6) (len := 0) ⟨rfl, rfl⟩).1 rfl rfl ?_
      rw [show K.1 (b + 3) 0 = (R 3) from kR.2.2.2.1.1]
      refine q_i2 (pc := 25) rfl (fun h25 => ?_) (fun h25 => ?_)
      · replace h25 : (R 3) ≤ s := h25
        refine q_ii (pc := 41) (i := 4) (c := 1) (x := l) (L' := [(2, 63), (2, b), (0, p), (0, w), (0, (l + 1)), (2, (b + 17 + l)), (0, s)]) rfl rfl rfl (by omega) (by omega) rfl ?_
        refine q_go (pc := 42) rfl ?_
        exact hk K _ _ (6 * (l.toNat + 1)) (by omega) (hpI_e (wsW_k (by omega) (fun l2 s2 a1 a2 a3 a4 u => by have := u.2.1; omega)) kI)
      · replace h25 : s < (R 3) := h25
        refine q_al (pc := 26) (i := 0) (x := 63) rfl rfl ?_
        refine q_al (pc := 27) (i := 1) (x := b) rfl rfl ?_
        refine q_il (pc := 28) (i := 4) (x := l) rfl rfl ?_
        refine q_al (pc := 29) (i := 5) (x := (b + 17 + l)) rfl rfl ?_
        refine q_gf (pc := 30) (m := 2010) (t := 0) (c := 1) rfl (sk_kl kT hB l0 (by omega)).1 rfl rfl ?_
        rw [show K.1 (b + 17 + l) 1 = (R (84 + 6 * l + 1)) from kR.2.2.1.1 l 1 l0 (by omega) (by omega) (by decide) (by decide)]
        refine q_il (pc := 31) (i := 2) (x := p) rfl rfl ?_
        refine q_i2 (pc := 32) rfl (fun h32 => ?_) (fun h32 => ?_)
        · replace h32 : (R (84 + 6 * l + 1)) ≠ p := h32
          refine q_ic (pc := 35) (v := 0) rfl ?_
          refine q_il (pc := 36) (i := 6) (x := s) rfl rfl ?_
          refine q_il (pc := 37) (i := 3) (x := w) rfl rfl ?_
          have hk2 : (0 : Int) = wsB R p l := (if_neg h32).symm
          refine q_iv (pc := 38) (q := 152107) rfl rfl rfl ⟨by omega, (ttKc kT (a := 63) (κ := 1) (len := 0) ⟨rfl, rfl⟩ (by decide) (by decide)).1⟩ ?_
          have i0 := (wsW_in (R := R) (p := p) (w := w) N).1.1
          refine hp_add (by omega) kT hB kW kR hw l0 l1 s0 (by omega) hu hk2 kc (by omega) (fun z => ?_) (fun z => ?_) (fun z M mT mF mc me mo mi => ?_)
          · have := wsW_lt hN (by omega) s0 (by omega) (show wsU R p w l s from ⟨⟨l1, hu⟩, by omega, by rw [← hk2]; exact z⟩)
            omega
          · refine q_ii (pc := 39) (i := 6) (c := 1) (x := s) (L' := [(2, 63), (2, b), (0, p), (0, w), (0, l), (2, (b + 17 + l)), (0, (s + 1))]) rfl rfl rfl (by omega) (by omega) rfl ?_
            refine q_go (pc := 40) rfl ?_
            exact ih K (s + 1) (N + 1) (by omega) (by omega) (by omega) (by omega) (hpI_n hN s0 (by omega) (fun u => u.2.2 (by rw [← hk2]; exact z)) kI)
          · refine q_ii (pc := 39) (i := 6) (c := 1) (x := s) (L' := [(2, 63), (2, b), (0, p), (0, w), (0, l), (2, (b + 17 + l)), (0, (s + 1))]) rfl rfl rfl (by omega) (by omega) rfl ?_
            refine q_go (pc := 40) rfl ?_
            exact ih M (s + 1) (N + 1) (by omega) (by omega) (by omega) (by omega) (hpI_y hN ⟨l0, by omega⟩ s0 (by omega) ⟨⟨l1, hu⟩, by omega, by rw [← hk2]; exact z⟩ kI mT mF mc me mo mi)
        · replace h32 : (R (84 + 6 * l + 1)) = p := h32
          refine q_ic (pc := 33) (v := 1) rfl ?_
          refine q_go (pc := 34) rfl ?_
          refine q_il (pc := 36) (i := 6) (x := s) rfl rfl ?_
          refine q_il (pc := 37) (i := 3) (x := w) rfl rfl ?_
          have hk2 : (1 : Int) = wsB R p l := (if_pos h32).symm
          refine q_iv (pc := 38) (q := 152107) rfl rfl rfl ⟨by omega, (ttKc kT (a := 63) (κ := 1) (len := 0) ⟨rfl, rfl⟩ (by decide) (by decide)).1⟩ ?_
          have i0 := (wsW_in (R := R) (p := p) (w := w) N).1.1
          refine hp_add (by omega) kT hB kW kR hw l0 l1 s0 (by omega) hu hk2 kc (by omega) (fun z => ?_) (fun z => ?_) (fun z M mT mF mc me mo mi => ?_)
          · have := wsW_lt hN (by omega) s0 (by omega) (show wsU R p w l s from ⟨⟨l1, hu⟩, by omega, by rw [← hk2]; exact z⟩)
            omega
          · refine q_ii (pc := 39) (i := 6) (c := 1) (x := s) (L' := [(2, 63), (2, b), (0, p), (0, w), (0, l), (2, (b + 17 + l)), (0, (s + 1))]) rfl rfl rfl (by omega) (by omega) rfl ?_
            refine q_go (pc := 40) rfl ?_
            exact ih K (s + 1) (N + 1) (by omega) (by omega) (by omega) (by omega) (hpI_n hN s0 (by omega) (fun u => u.2.2 (by rw [← hk2]; exact z)) kI)
          · refine q_ii (pc := 39) (i := 6) (c := 1) (x := s) (L' := [(2, 63), (2, b), (0, p), (0, w), (0, l), (2, (b + 17 + l)), (0, (s + 1))]) rfl rfl rfl (by omega) (by omega) rfl ?_
            refine q_go (pc := 40) rfl ?_
            exact ih M (s + 1) (N + 1) (by omega) (by omega) (by omega) (by omega) (hpI_y hN ⟨l0, by omega⟩ s0 (by omega) ⟨⟨l1, hu⟩, by omega, by rw [← hk2]; exact z⟩ kI mT mF mc me mo mi)
  have hl : ∀ n : Nat, ∀ (K : xH) (l : Int) (x5 x6 : xV) (N : Nat), (N : Int) = 6 * l → 0 ≤ l → l ≤ R 2 → R 2 - l ≤ (n : Int) → hpI H K R p w c N → xW e cd_18 Q (2, [(2, 63), (2, b), (0, p), (0, w), (0, l), x5, x6], [], K) := by
    intro n
    induction n with
    | zero =>
      intro K l x5 x6 N hN l0 l1 hz kI
      obtain ⟨kT, kF, kc, -⟩ := id kI
      have kW : skW K.1 b := skW_fr kF hn hB (by decide) hW
      have kR : skR K.1 b (S, R, h) := skR_D hR w3.2 (fun a j a0 a1 => sk_fr kF hn hB (by decide) a0 a1)
      refine q_il (pc := 2) (i := 4) (x := l) rfl rfl ?_
      refine q_al (pc := 3) (i := 1) (x := b) rfl rfl ?_
      refine q_gf (pc := 4) (m := 10050) (t := 0) (c := 5) rfl (sk_kb kT hB).1 rfl rfl ?_
      rw [show K.1 b 5 = (R 2) from skA_i kR.1 (j := 5) (i := 2) (by decide)]
      refine q_i2 (pc := 5) rfl (fun h5 => ?_) (fun h5 => ?_)
      · replace h5 : (R 2) ≤ l := h5
        refine q_rv (pc := 43) rfl ?_
        exact hq K (hpI_e (wsW_k (by omega) (fun l2 s2 a1 a2 a3 a4 u => by have := u.1.1; omega)) kI)
      · replace h5 : l < (R 2) := h5
        omega
    | succ n ih =>
      intro K l x5 x6 N hN l0 l1 hz kI
      obtain ⟨kT, kF, kc, -⟩ := id kI
      have kW : skW K.1 b := skW_fr kF hn hB (by decide) hW
      have kR : skR K.1 b (S, R, h) := skR_D hR w3.2 (fun a j a0 a1 => sk_fr kF hn hB (by decide) a0 a1)
      refine q_il (pc := 2) (i := 4) (x := l) rfl rfl ?_
      refine q_al (pc := 3) (i := 1) (x := b) rfl rfl ?_
      refine q_gf (pc := 4) (m := 10050) (t := 0) (c := 5) rfl (sk_kb kT hB).1 rfl rfl ?_
      rw [show K.1 b 5 = (R 2) from skA_i kR.1 (j := 5) (i := 2) (by decide)]
      refine q_i2 (pc := 5) rfl (fun h5 => ?_) (fun h5 => ?_)
      · replace h5 : (R 2) ≤ l := h5
        refine q_rv (pc := 43) rfl ?_
        exact hq K (hpI_e (wsW_k (by omega) (fun l2 s2 a1 a2 a3 a4 u => by have := u.1.1; omega)) kI)
      · replace h5 : l < (R 2) := h5
        refine q_al (pc := 6) (i := 1) (x := b) rfl rfl ?_
        refine q_gf (pc := 7) (m := 10012) (t := 2) (c := 1) rfl (sk_kb kT hB).1 rfl rfl ?_
        rw [show K.1 b 1 = (b + 2) from kW.1.2.1]
        refine q_il (pc := 8) (i := 4) (x := l) rfl rfl ?_
        refine q_aa (pc := 9) rfl (by rw [(sk_kx kT hB (o := 2) (by decide) (by decide) (κ := 26) (len := 10) ⟨rfl, rfl⟩).1]; decide) (by omega) (by rw [(sk_kx kT hB (o := 2) (by decide) (by decide) (κ := 26) (len := 10) ⟨rfl, rfl⟩).2]; omega) ?_
        rw [show K.1 (b + 2) l = (b + 17 + l) from kW.2.2.1 l l0 (by omega)]
        refine q_as (pc := 10) (i := 5) (L' := [(2, 63), (2, b), (0, p), (0, w), (0, l), (2, (b + 17 + l)), x6]) rfl rfl rfl (by omega) ?_
        refine q_al (pc := 11) (i := 5) (x := (b + 17 + l)) rfl rfl ?_
        refine q_gf (pc := 12) (m := 2000) (t := 0) (c := 0) rfl (sk_kl kT hB l0 (by omega)).1 rfl rfl ?_
        rw [show K.1 (b + 17 + l) 0 = (R (84 + 6 * l)) from (kR.2.2.1.1 l 0 l0 (by omega) (by omega) (by decide) (by decide)).trans (by rw [Int.add_zero])]
        refine q_il (pc := 13) (i := 2) (x := p) rfl rfl ?_
        refine q_i2 (pc := 14) rfl (fun h14 => ?_) (fun h14 => ?_)
        · replace h14 : (R (84 + 6 * l)) = p := h14
          refine q_ic (pc := 19) (v := 0) rfl ?_
          refine q_is (pc := 20) (i := 6) (L' := [(2, 63), (2, b), (0, p), (0, w), (0, l), (2, (b + 17 + l)), (0, 0)]) rfl rfl rfl ?_
          refine hs l l0 (by omega) (by omega) (fun K x5 x6 N a1 a2 => ih K (l + 1) x5 x6 N a1 (by omega) (by omega) (by omega) a2) 6 K 0 N (by omega) (by decide) (by omega) (by omega) kI
        · replace h14 : (R (84 + 6 * l)) ≠ p := h14
          refine q_al (pc := 15) (i := 5) (x := (b + 17 + l)) rfl rfl ?_
          refine q_gf (pc := 16) (m := 2010) (t := 0) (c := 1) rfl (sk_kl kT hB l0 (by omega)).1 rfl rfl ?_
          rw [show K.1 (b + 17 + l) 1 = (R (84 + 6 * l + 1)) from kR.2.2.1.1 l 1 l0 (by omega) (by omega) (by decide) (by decide)]
          refine q_il (pc := 17) (i := 2) (x := p) rfl rfl ?_
          refine q_i2 (pc := 18) rfl (fun h18 => ?_) (fun h18 => ?_)
          · replace h18 : (R (84 + 6 * l + 1)) ≠ p := h18
            refine q_ii (pc := 41) (i := 4) (c := 1) (x := l) (L' := [(2, 63), (2, b), (0, p), (0, w), (0, (l + 1)), (2, (b + 17 + l)), x6]) rfl rfl rfl (by omega) (by omega) rfl ?_
            refine q_go (pc := 42) rfl ?_
            exact ih K (l + 1) _ _ (N + 6) (by omega) (by omega) (by omega) (by omega) (hpI_e (wsW_k (by omega) (fun l2 s2 a1 a2 a3 a4 u => by have el : l2 = l := (by omega); rw [el] at u; exact u.1.2.elim h14 h18)) kI)
          · replace h18 : (R (84 + 6 * l + 1)) = p := h18
            refine q_ic (pc := 19) (v := 0) rfl ?_
            refine q_is (pc := 20) (i := 6) (L' := [(2, 63), (2, b), (0, p), (0, w), (0, l), (2, (b + 17 + l)), (0, 0)]) rfl rfl rfl ?_
            refine hs l l0 (by omega) (by omega) (fun K x5 x6 N a1 a2 => ih K (l + 1) x5 x6 N a1 (by omega) (by omega) (by omega) a2) 6 K 0 N (by omega) (by decide) (by omega) (by omega) kI
  refine xC_of (L := [(2, 63), (2, b), (0, p), (0, w), (9, 0), (9, 0), (9, 0)]) (cd := cd_18) rfl rfl rfl ?_
  refine q_ic (pc := 0) (v := 0) rfl ?_
  refine q_is (pc := 1) (i := 4) (L' := [(2, 63), (2, b), (0, p), (0, w), (0, 0), (9, 0), (9, 0)]) rfl rfl rfl ?_
  exact hl 10 H 0 _ _ 0 rfl (by decide) (by omega) (by omega) ⟨hT, ttFr_rf _ H, by rw [ec]; exact (Int.add_zero c).symm, fun i i0 i1 => absurd i1 (by show ¬ i < 0; omega), fun _ _ _ _ => rfl, fun _ _ _ _ _ => rfl⟩
