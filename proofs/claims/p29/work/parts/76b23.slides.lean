/-! reach, fields, edge, tour of the first, exactly -/
def wsF (R : Int → Int) : Nat → Int
  | 0 => 0
  | g + 1 => wsF R g + (if ((g % 8 : Nat) : Int) < R 1 then (wsW R ((g % 8 : Nat) : Int) ((g / 8 : Nat) : Int) 60).1 else 0)
/-- the first's tables tell the ways of a row -/
def hpA (D : xD) (R : Int → Int) : Prop := (∀ g : Nat, g ≤ 16 → D 64 (g : Int) = wsF R g) ∧ ∀ p w : Int, 0 ≤ p → p < R 1 → (w = 0 ∨ w = 1) → hpT D R p w (wsF R (8 * w + p).toNat) (wsW R p w 60)
def hpB (D : xD) (R : Int → Int) : Prop := hpA D R ∧ ∀ w : Int, (w = 0 ∨ w = 1) → gsE R w (hpEd D w)
theorem one8 (x : Int) : (if x = 0 then (1 : Int) else 0) + (if x = 1 then 1 else 0) + (if x = 2 then 1 else 0) + (if x = 3 then 1 else 0) + (if x = 4 then 1 else 0) + (if x = 5 then 1 else 0) + (if x = 6 then 1 else 0) + (if x = 7 then 1 else 0) ≤ 1 := by
  by_cases c : 0 ≤ x ∧ x ≤ 7
  · obtain rfl | rfl | rfl | rfl | rfl | rfl | rfl | rfl : x = 0 ∨ x = 1 ∨ x = 2 ∨ x = 3 ∨ x = 4 ∨ x = 5 ∨ x = 6 ∨ x = 7 := by omega
    all_goals decide
  · rw [if_neg (show ¬ x = 0 by omega), if_neg (show ¬ x = 1 by omega), if_neg (show ¬ x = 2 by omega), if_neg (show ¬ x = 3 by omega), if_neg (show ¬ x = 4 by omega), if_neg (show ¬ x = 5 by omega), if_neg (show ¬ x = 6 by omega), if_neg (show ¬ x = 7 by omega)]
    decide
theorem wsW_2 {R : Int → Int} {p w l s : Int} {n : Nat} (hn : (n : Int) = 6 * l + s) (s0 : 0 ≤ s) (s1 : s < 6) : (wsW R p w (n + 1)).1 ≤ (wsW R p w n).1 + (if R (84 + 6 * l) = p then 1 else 0) + (if R (84 + 6 * l + 1) = p then 1 else 0) := by
  by_cases c : wsU R p w l s
  · rw [wsW_y hn s0 s1 c]
    show (wsW R p w n).1 + 1 ≤ _
    rcases c.1.2 with z | z
    · rw [if_pos z]
      split <;> omega
    · rw [if_pos z]
      split <;> omega
  · rw [wsW_n hn s0 s1 c]
    split <;> split <;> omega
theorem wsW_t {R : Int → Int} {w : Int} : ∀ n : Nat, (wsW R 0 w n).1 + (wsW R 1 w n).1 + (wsW R 2 w n).1 + (wsW R 3 w n).1 + (wsW R 4 w n).1 + (wsW R 5 w n).1 + (wsW R 6 w n).1 + (wsW R 7 w n).1 ≤ 2 * (n : Int) := by
  intro n
  induction n with
  | zero => exact Int.le_refl _
  | succ n ih =>
    have hn : (n : Int) = 6 * ((n : Int) / 6) + (n : Int) % 6 := by omega
    have k : ∀ p : Int, _ := fun p => wsW_2 (R := R) (p := p) (w := w) hn (by omega) (by omega)
    have k0 := k 0
    have k1 := k 1
    have k2 := k 2
    have k3 := k 3
    have k4 := k 4
    have k5 := k 5
    have k6 := k 6
    have k7 := k 7
    have o1 := one8 (R (84 + 6 * ((n : Int) / 6)))
    have o2 := one8 (R (84 + 6 * ((n : Int) / 6) + 1))
    generalize hA : R (84 + 6 * ((n : Int) / 6)) = x at *
    generalize hB : R (84 + 6 * ((n : Int) / 6) + 1) = y at *
    generalize (if x = 0 then (1 : Int) else 0) = a0 at *
    generalize (if x = 1 then (1 : Int) else 0) = a1 at *
    generalize (if x = 2 then (1 : Int) else 0) = a2 at *
    generalize (if x = 3 then (1 : Int) else 0) = a3 at *
    generalize (if x = 4 then (1 : Int) else 0) = a4 at *
    generalize (if x = 5 then (1 : Int) else 0) = a5 at *
    generalize (if x = 6 then (1 : Int) else 0) = a6 at *
    generalize (if x = 7 then (1 : Int) else 0) = a7 at *
    generalize (if y = 0 then (1 : Int) else 0) = d0 at *
    generalize (if y = 1 then (1 : Int) else 0) = d1 at *
    generalize (if y = 2 then (1 : Int) else 0) = d2 at *
    generalize (if y = 3 then (1 : Int) else 0) = d3 at *
    generalize (if y = 4 then (1 : Int) else 0) = d4 at *
    generalize (if y = 5 then (1 : Int) else 0) = d5 at *
    generalize (if y = 6 then (1 : Int) else 0) = d6 at *
    generalize (if y = 7 then (1 : Int) else 0) = d7 at *
    omega
theorem wsF_s {R : Int → Int} (g : Nat) : wsF R g ≤ wsF R (g + 1) ∧ wsF R (g + 1) ≤ wsF R g + (wsW R ((g % 8 : Nat) : Int) ((g / 8 : Nat) : Int) 60).1 := by
  have i := (wsW_in (R := R) (p := ((g % 8 : Nat) : Int)) (w := ((g / 8 : Nat) : Int)) 60).1.1
  have e : wsF R (g + 1) = wsF R g + (if ((g % 8 : Nat) : Int) < R 1 then (wsW R ((g % 8 : Nat) : Int) ((g / 8 : Nat) : Int) 60).1 else 0) := rfl
  rw [e]
  split <;> omega
theorem wsF_m {R : Int → Int} (g : Nat) : ∀ k : Nat, wsF R g ≤ wsF R (g + k) := by
  intro k
  induction k with
  | zero => exact Int.le_refl _
  | succ k ih => exact Int.le_trans ih (wsF_s (g + k)).1
theorem wsF_16 {R : Int → Int} : wsF R 16 ≤ 240 := by
  have t0 := wsW_t (R := R) (w := 0) 60
  have t1 := wsW_t (R := R) (w := 1) 60
  have f0 : wsF R 1 ≤ wsF R 0 + (wsW R 0 0 60).1 := (wsF_s 0).2
  have f1 : wsF R 2 ≤ wsF R 1 + (wsW R 1 0 60).1 := (wsF_s 1).2
  have f2 : wsF R 3 ≤ wsF R 2 + (wsW R 2 0 60).1 := (wsF_s 2).2
  have f3 : wsF R 4 ≤ wsF R 3 + (wsW R 3 0 60).1 := (wsF_s 3).2
  have f4 : wsF R 5 ≤ wsF R 4 + (wsW R 4 0 60).1 := (wsF_s 4).2
  have f5 : wsF R 6 ≤ wsF R 5 + (wsW R 5 0 60).1 := (wsF_s 5).2
  have f6 : wsF R 7 ≤ wsF R 6 + (wsW R 6 0 60).1 := (wsF_s 6).2
  have f7 : wsF R 8 ≤ wsF R 7 + (wsW R 7 0 60).1 := (wsF_s 7).2
  have f8 : wsF R 9 ≤ wsF R 8 + (wsW R 0 1 60).1 := (wsF_s 8).2
  have f9 : wsF R 10 ≤ wsF R 9 + (wsW R 1 1 60).1 := (wsF_s 9).2
  have g0 : wsF R 11 ≤ wsF R 10 + (wsW R 2 1 60).1 := (wsF_s 10).2
  have g1 : wsF R 12 ≤ wsF R 11 + (wsW R 3 1 60).1 := (wsF_s 11).2
  have g2 : wsF R 13 ≤ wsF R 12 + (wsW R 4 1 60).1 := (wsF_s 12).2
  have g3 : wsF R 14 ≤ wsF R 13 + (wsW R 5 1 60).1 := (wsF_s 13).2
  have g4 : wsF R 15 ≤ wsF R 14 + (wsW R 6 1 60).1 := (wsF_s 14).2
  have g5 : wsF R 16 ≤ wsF R 15 + (wsW R 7 1 60).1 := (wsF_s 15).2
  have z : wsF R 0 = 0 := rfl
  omega
theorem wsF_n {R : Int → Int} {p w : Int} (p0 : 0 ≤ p) (p7 : p ≤ 7) (p1 : p < R 1) (w1 : w = 0 ∨ w = 1) : wsF R (8 * w + p + 1).toNat = wsF R (8 * w + p).toNat + (wsW R p w 60).1 := by
  obtain ⟨g, hg⟩ : ∃ g : Nat, g = (8 * w + p).toNat := ⟨_, rfl⟩
  rw [← hg, show (8 * w + p + 1).toNat = g + 1 from by omega]
  have ep : ((g % 8 : Nat) : Int) = p := by omega
  have ew : ((g / 8 : Nat) : Int) = w := by omega
  show wsF R g + (if ((g % 8 : Nat) : Int) < R 1 then (wsW R ((g % 8 : Nat) : Int) ((g / 8 : Nat) : Int) 60).1 else 0) = _
  rw [ep, ew, if_pos p1]
theorem wsF_0 {R : Int → Int} : ∀ g : Nat, 0 ≤ wsF R g := by
  intro g
  have z := wsF_m (R := R) 0 g
  rw [Nat.zero_add] at z
  exact z
/-- hops as functions of what number a way has -/
def hpc (R : Int → Int) (w p i : Int) : Int := (wsW R p w 60).2 i
def hpt (R : Int → Int) (w p i : Int) : Int := wsD R p (hpc R w p i / 10)
def hpx (R : Int → Int) (w p i : Int) : Int := wsX R p w (hpc R w p i / 10) (hpc R w p i % 10)
def hpm (R : Int → Int) (w p i : Int) : Int := wsM R p w (hpc R w p i / 10) (hpc R w p i % 10)
theorem wsM_in {R : Int → Int} (hw : wsR R) {p w l s : Int} (p0 : 0 ≤ p) (p1 : p < R 1) (l0 : 0 ≤ l ∧ l ≤ 9) (s0 : 0 ≤ s ∧ s ≤ 5) (u : wsU R p w l s) : R (20 + 8 * p) ≤ wsM R p w l s ∧ wsM R p w l s ≤ 9000000 := by
  have n8 := hw.1.2
  have hx := wsX_in hw l0.1 l0.2 s0.1 s0.2 (p := p) (w := w) u.2.2
  have ht := ws_td (b := 2) hx.1 hx.2 (by decide)
  have d := (wsD_in hw l0.1 l0.2 u).1
  have gd := (hw.2.2.2.2.1 _ d.1 d.2).1
  have gp := (hw.2.2.2.2.1 p p0 (by omega)).1
  have hl := (hw.2.2.2.2.2.1 l l0.1 l0.2).2.2.2.2
  unfold wsM
  omega
theorem hp_W {D : xD} {R : Int → Int} (hw : wsR R) (y : hpA D R) {w : Int} (w1 : w = 0 ∨ w = 1) : hpW D R (fun p => wsF R (8 * w + p).toNat) (fun p => (wsW R p w 60).1) (hpt R w) (hpx R w) (hpm R w) w := fun p p0 p1 => by
  have n8 := hw.1.2
  have i0 := (wsW_in (R := R) (p := p) (w := w) 60).1.1
  have e1 := y.1 (8 * w + p).toNat (by omega)
  have e2 := y.1 (8 * w + p + 1).toNat (by omega)
  rw [Int.toNat_of_nonneg (by omega)] at e1 e2
  have f0 := wsF_0 (R := R) (8 * w + p).toNat
  have fn := wsF_n (R := R) p0 (by omega) p1 w1
  have fm := wsF_m (R := R) (8 * w + p + 1).toNat (16 - (8 * w + p + 1).toNat)
  rw [show (8 * w + p + 1).toNat + (16 - (8 * w + p + 1).toNat) = 16 from by omega] at fm
  have f16 := wsF_16 (R := R)
  refine ⟨⟨e1, e2.trans fn⟩, ⟨f0, i0, ?_⟩, fun i a0 a1 => ?_, fun i a0 a1 => ?_⟩
  · show wsF R (8 * w + p).toNat + (wsW R p w 60).1 ≤ 240
    omega
  · obtain ⟨l, s, l0, s0, z1, u, z2⟩ := y.2 p w p0 p1 w1 i a0 a1
    have el : hpc R w p i / 10 = l := by unfold hpc; omega
    have es : hpc R w p i % 10 = s := by unfold hpc; omega
    unfold hpt hpx hpm
    rw [el, es]
    exact ⟨z2.1, z2.2.2.1, z2.2.2.2.1⟩
  · obtain ⟨l, s, l0, s0, z1, u⟩ := wsW_60 hw a0 a1
    have el : hpc R w p i / 10 = l := by unfold hpc; omega
    have es : hpc R w p i % 10 = s := by unfold hpc; omega
    have d := wsD_in hw l0.1 l0.2 u
    have hx := wsX_in hw l0.1 l0.2 s0.1 s0.2 (p := p) (w := w) u.2.2
    have hm := wsM_in hw p0 p1 l0 s0 u
    have gp := (hw.2.2.2.2.1 p p0 (by omega)).1
    unfold hpt hpx hpm
    rw [el, es]
    exact ⟨⟨d.1.1, d.2⟩, hx, by omega, hm.2⟩
theorem hpm_le {R : Int → Int} {w p i l s a : Int} (hw : wsR R) (e : hpc R w p i = 10 * l + s) (l0 : 0 ≤ l ∧ l ≤ 9) (s0 : 0 ≤ s ∧ s ≤ 5) (u : wsU R p w l s) : hpm R w p i ≤ a ↔ (R (84 + 6 * l + 5) ≤ a - Int.tdiv (wsX R p w l s) 2 ∧ R (20 + 8 * wsD R p l) ≤ min (R 7) (a - wsX R p w l s)) ∧ R (20 + 8 * p) ≤ a := by
  have el : hpc R w p i / 10 = l := by omega
  have es : hpc R w p i % 10 = s := by omega
  have d := (wsD_in hw l0.1 l0.2 u).1
  have gd := (hw.2.2.2.2.1 _ d.1 d.2).1
  have c7 := hw.2.2.2.1.1
  unfold hpm wsM
  rw [el, es]
  constructor
  · intro z
    refine ⟨⟨by omega, by omega⟩, by omega⟩
  · rintro ⟨⟨z1, z2⟩, z3⟩
    omega
/-- a glide of the first -/
theorem hs_glide {dd : Nat} (hd : 4 ≤ dd) {H : xH} (hT : ttTI H) {b : Int} (hB : skB b) (hW : skW H.1 b) {S : tSa} {R : Int → Int} {h : Int} (hR : skR H.1 b (S, R, h)) (hw : wsR R) (y : hpA H.1 R) {q a w : Int} (v : gsVd R q a) (w1 : w = 0 ∨ w = 1) {Q : Int → xH → Prop} (hq : ∀ K, ttTI K → ttFr (true, [(71, 0, 7)]) H K → gsG (gsT R w) q a (K.1 71) → Q 0 K) : xCall dd 25 [(2, 63), (2, b), (0, q), (0, a), (0, w)] H Q := by
  have vi := gsVd_in hw v
  have n8 := hw.1.2
  have c7 := hw.2.2.2.1
  refine hp_glide hd hT hB hW hR hw vi.1.1 vi.1.2 vi.2.1 vi.2.2 w1 (hp_W hw y w1) (J := gsJ R w q a) (fun f e o => gsJ_0 hw v e o) (fun f J j ujj0 ujj1 => ?_) (fun f f2 p i J p0 p1 i0 i1 le lt e o => ?_) (fun K kT kF J C => hq K kT kF (gsG_of J (fun r ujr0 ujr1 n i l s i0 i1 l0 s0 e h1 h2 => ?_)))
  · have z := J.2 j ujj0 ujj1
    refine ⟨z.1, ?_⟩
    by_cases c : f j = -1
    · omega
    · have := gsP_in hw v (z.2 c)
      omega
  · obtain ⟨l, s, l0, s0, e1, u⟩ := wsW_60 hw i0 i1
    have el : hpc R w p i / 10 = l := by unfold hpc; omega
    have es : hpc R w p i % 10 = s := by unfold hpc; omega
    have m := (hpm_le hw (a := f p) (show hpc R w p i = 10 * l + s from e1) l0 s0 u).1 le
    have gp := (hw.2.2.2.2.1 p p0 (by omega)).1
    unfold hpt hpx at *
    rw [el, es] at lt e
    rw [el] at o
    exact gsJ_up hw v J p0 p1 (by omega) l0 s0 u m.1.1 m.1.2 lt e o
  · obtain ⟨l2, s2, l20, s20, e2, u⟩ := wsW_60 hw i0 i1
    have ell : l2 = l := by omega
    have ess : s2 = s := by omega
    rw [ell, ess] at u
    have el : hpc R w r i / 10 = l := by unfold hpc; omega
    have es : hpc R w r i % 10 = s := by unfold hpc; omega
    have yr := gsP_in hw v ((J.2 r ujr0 (by omega)).2 n)
    have z := C r ujr0 ujr1 n i i0 i1 ((hpm_le hw (show hpc R w r i = 10 * l + s from e) l0 s0 u).2 ⟨⟨h1, h2⟩, yr.2.1⟩)
    unfold hpt hpx at z
    rw [el, es] at z
    exact z
theorem ls_spot {dd : Nat} (hd : 2 ≤ dd) {H : xH} (hT : ttTI H) {b : Int} (hB : skB b) (hW : skW H.1 b) {S : tSa} {R : Int → Int} {h : Int} (hR : skR H.1 b (S, R, h)) (hw : wsR R) {p a : Int} {Q : Int → xH → Prop} (hy : gsVd R p a → Q 1 H) (hn : ¬ gsVd R p a → Q 0 H) : xCall dd 116 [(2, b), (0, p), (0, a)] H Q := by
  obtain ⟨e, rfl, he⟩ := ttRun0 (n := 1) hd
  have he : 1 ≤ e := he
  have hi := skB_in hB
  have w1 := hw.1
  have eN : H.1 b 4 = R 1 := skA_i hR.1 (j := 4) (i := 1) (by decide)
  refine xC_of (L := [(2, b), (0, p), (0, a)]) (cd := cd_116) rfl rfl rfl ?_
  refine q_al (pc := 0) (i := 0) (x := b) rfl rfl ?_
  refine q_il (pc := 1) (i := 1) (x := p) rfl rfl ?_
  refine q_iv (pc := 2) (q := 904808) rfl rfl rfl (sk_kb hT hB).1 ?_
  refine ls_has (by omega) hT hB eN (fun hp => ?_) (fun hp => ?_)
  · skip
    refine q_if (pc := 3) rfl (fun h3 => ?_) (fun h3 => ?_)
    · replace h3 : (1 : Int) = 0 := h3
      omega
    · replace h3 : (1 : Int) ≠ 0 := h3
      refine q_il (pc := 4) (i := 2) (x := a) rfl rfl ?_
      refine q_al (pc := 5) (i := 0) (x := b) rfl rfl ?_
      refine q_gf (pc := 6) (m := 10002) (t := 2) (c := 0) rfl (sk_kb hT hB).1 rfl rfl ?_
      rw [show H.1 b 0 = (b + 1) from hW.1.1]
      refine q_il (pc := 7) (i := 1) (x := p) rfl rfl ?_
      refine q_aa (pc := 8) rfl (by rw [(sk_kx hT hB (o := 1) (by decide) (by decide) (κ := 25) (len := 8) ⟨rfl, rfl⟩).1]; decide) (by omega) (by rw [(sk_kx hT hB (o := 1) (by decide) (by decide) (κ := 25) (len := 8) ⟨rfl, rfl⟩).2]; omega) ?_
      rw [show H.1 (b + 1) p = (b + 9 + p) from hW.2.1 p (by omega) (by omega)]
      refine q_gf (pc := 9) (m := 4000) (t := 0) (c := 0) rfl (sk_kp hT hB (by omega) (by omega)).1 rfl rfl ?_
      rw [show H.1 (b + 9 + p) 0 = (R (20 + 8 * p)) from (hR.2.1 p (by omega) (by omega)).1.1]
      refine q_i2 (pc := 10) rfl (fun h10 => ?_) (fun h10 => ?_)
      · replace h10 : a < (R (20 + 8 * p)) := h10
        refine q_ic (pc := 17) (v := 0) rfl ?_
        refine q_rz (pc := 18) rfl (by omega) ?_
        exact hn (fun z => by have z1 := z.1; have z2 := z.2; omega)
      · replace h10 : (R (20 + 8 * p)) ≤ a := h10
        refine q_il (pc := 11) (i := 2) (x := a) rfl rfl ?_
        refine q_al (pc := 12) (i := 0) (x := b) rfl rfl ?_
        refine q_gf (pc := 13) (m := 10090) (t := 0) (c := 9) rfl (sk_kb hT hB).1 rfl rfl ?_
        rw [show H.1 b 9 = (R 7) from skA_i hR.1 (j := 9) (i := 7) (by decide)]
        refine q_i2 (pc := 14) rfl (fun h14 => ?_) (fun h14 => ?_)
        · replace h14 : (R 7) < a := h14
          refine q_ic (pc := 17) (v := 0) rfl ?_
          refine q_rz (pc := 18) rfl (by omega) ?_
          exact hn (fun z => by have z1 := z.1; have z2 := z.2; omega)
        · replace h14 : a ≤ (R 7) := h14
          refine q_ic (pc := 15) (v := 1) rfl ?_
          refine q_go (pc := 16) rfl ?_
          refine q_rz (pc := 18) rfl (by omega) ?_
          exact hy ⟨hp, by omega, by omega⟩
  · skip
    refine q_if (pc := 3) rfl (fun h3 => ?_) (fun h3 => ?_)
    · replace h3 : (0 : Int) = 0 := h3
      refine q_ic (pc := 17) (v := 0) rfl ?_
      refine q_rz (pc := 18) rfl (by omega) ?_
      exact hn (fun z => by have z1 := z.1; have z2 := z.2; omega)
    · replace h3 : (0 : Int) ≠ 0 := h3
      omega
