/-! the first builds its tables, exactly -/
theorem gsE_c {R : Int → Int} (hw : wsR R) {w : Int} {e d : Int → Int} (y : gsE R w e) (h : ∀ q : Int, 0 ≤ q → q < R 1 → d q = e q) : gsE R w d := by
  obtain ⟨y1, y2, y3, y4⟩ := y
  refine ⟨fun p p0 p1 => by rw [h p p0 p1]; exact y1 p p0 p1, fun p a p0 p1 => by rw [h p p0 p1]; exact y2 p a p0 p1, fun p p0 p1 => by rw [h p p0 p1]; exact y3 p p0 p1, fun p a q b t => ?_⟩
  have z := gsT_in hw t
  rw [h q z.1.1 z.1.2, h p t.1.1.1 t.1.1.2]
  exact y4 p a q b t
/-- edges under way -/
def gsE3 (R : Int → Int) (w : Int) (e : Int → Int) : Prop := (∀ p : Int, 0 ≤ p → p < R 1 → e p = 1000000 ∨ (R (20 + 8 * p) ≤ e p ∧ e p ≤ R 7)) ∧ (∀ p a : Int, 0 ≤ p → p < R 1 → e p ≤ a → R (20 + 8 * p) ≤ a → a ≤ R 7 → gsL R w p a) ∧ ∀ p : Int, 0 ≤ p → p < R 1 → R (20 + 8 * p + 1) ≠ 0 → e p ≤ R (20 + 8 * p)
theorem gsE3_0 {R : Int → Int} (hw : wsR R) {w : Int} {e : Int → Int} (h : ∀ q : Int, 0 ≤ q → q < R 1 → e q = if R (20 + 8 * q + 1) ≠ 0 then R (20 + 8 * q) else 1000000) : gsE3 R w e := by
  have n8 := hw.1.2
  have c7 := hw.2.2.2.1
  refine ⟨fun p p0 p1 => ?_, fun p a p0 p1 l a0 a1 => ?_, fun p p0 p1 l => ?_⟩
  · have g := (hw.2.2.2.2.1 p p0 (by omega)).1
    rw [h p p0 p1]
    split
    · exact Or.inr ⟨Int.le_refl _, by omega⟩
    · exact Or.inl rfl
  · rw [h p p0 p1] at l
    by_cases c : R (20 + 8 * p + 1) ≠ 0
    · exact ⟨p, a, gsP_0, c⟩
    · rw [if_neg c] at l
      omega
  · rw [h p p0 p1, if_pos l]
    exact Int.le_refl _
theorem gsE3_1 {R : Int → Int} (hw : wsR R) {w p r : Int} {e d : Int → Int} (y : gsE3 R w e) (p0 : 0 ≤ p) (p1 : p < R 1) (hr : hpL R e (hpt R w p) (hpx R w p) (hpm R w p) (wsW R p w 60).1 r) (lt : r < e p) (ed : d p = r) (o : ∀ q : Int, q ≠ p → d q = e q) : gsE3 R w d := by
  obtain ⟨y1, y2, y3⟩ := y
  have n8 := hw.1.2
  have c7 := hw.2.2.2.1
  have gp := (hw.2.2.2.2.1 p p0 (by omega)).1
  obtain ⟨i, i0, i1, en, er, ujr7⟩ : ∃ i : Int, 0 ≤ i ∧ i < (wsW R p w 60).1 ∧ e (hpt R w p i) ≠ 1000000 ∧ r = max (hpm R w p i) (e (hpt R w p i) + hpx R w p i) ∧ r ≤ R 7 := by
    rcases hr.1 with z | ⟨z, i, a0, a1, a2, a3⟩
    · have := y1 p p0 p1
      omega
    · exact ⟨i, a0, a1, a2, a3, z⟩
  obtain ⟨l, s, l0, s0, e1, u⟩ := wsW_60 hw i0 i1
  have el : hpc R w p i / 10 = l := by unfold hpc; omega
  have es : hpc R w p i % 10 = s := by unfold hpc; omega
  have et : hpt R w p i = wsD R p l := by unfold hpt; rw [el]
  have ex : hpx R w p i = wsX R p w l s := by unfold hpx; rw [el, es]
  have dd := wsD_in hw l0.1 l0.2 u
  have mm := hpm_le hw (a := r) (show hpc R w p i = 10 * l + s from e1) l0 s0 u
  rw [et, ex] at er
  rw [et] at en
  have m0 := mm.1 (by omega)
  refine ⟨fun q q0 q1 => ?_, fun q a q0 q1 l2 a0 a1 => ?_, fun q q0 q1 l2 => ?_⟩
  · by_cases c : q = p
    · rw [c, ed]
      exact Or.inr ⟨m0.2, ujr7⟩
    · rw [o q c]
      exact y1 q q0 q1
  · by_cases c : q = p
    · rw [c] at l2 a0 ⊢
      rw [ed] at l2
      have ma := (hpm_le hw (a := a) (show hpc R w p i = 10 * l + s from e1) l0 s0 u).1 (by omega)
      have t : gsT R w p a (wsD R p l) (min (R 7) (a - wsX R p w l s)) := ⟨⟨⟨p0, p1⟩, a0, a1⟩, l, s, l0, s0, u, rfl, rfl, ma.1.1, ma.1.2⟩
      have y1t := y1 _ dd.1.1 dd.2
      exact gsL_t t (y2 _ _ dd.1.1 dd.2 (by omega) ma.1.2 (by omega))
    · rw [o q c] at l2
      exact y2 q a q0 q1 l2 a0 a1
  · by_cases c : q = p
    · rw [c] at l2 ⊢
      rw [ed]
      have := y3 p p0 p1 l2
      omega
    · rw [o q c]
      exact y3 q q0 q1 l2
theorem gsE3_e {R : Int → Int} (hw : wsR R) {w : Int} {e : Int → Int} (y : gsE3 R w e) (C : hpC R e (fun p => (wsW R p w 60).1) (hpt R w) (hpx R w) (hpm R w) (R 1)) : gsE R w e := by
  refine ⟨y.1, y.2.1, y.2.2, fun p a q b t le => ?_⟩
  have z := gsT_in hw t
  have c7 := hw.2.2.2.1
  obtain ⟨⟨⟨p0, p1⟩, g1, g2⟩, l, s, l0, s0, u, eq, eb, hl, g⟩ := t
  obtain ⟨i, i0, i1, i2⟩ := wsW_has l0.1 s0.1 (by omega) u 60 (by omega)
  obtain ⟨r, hr, re⟩ := C p p0 p1
  have el : hpc R w p i / 10 = l := by unfold hpc; omega
  have es : hpc R w p i % 10 = s := by unfold hpc; omega
  have et : hpt R w p i = wsD R p l := by unfold hpt; rw [el]
  have ex : hpx R w p i = wsX R p w l s := by unfold hpx; rw [el, es]
  have k := hr.2 i i0 i1
  rw [et, ex, ← eq] at k
  have mm := (hpm_le hw (a := a) (show hpc R w p i = 10 * l + s from i2) l0 s0 u).2 ⟨⟨hl, by rw [← eq, ← eb]; exact g⟩, g1⟩
  have k2 := k (by omega) (by omega)
  omega
theorem hs_find {dd : Nat} (hd : 4 ≤ dd) {H : xH} (hT : ttTI H) {b : Int} (hB : skB b) (hW : skW H.1 b) {S : tSa} {R : Int → Int} {h : Int} (hR : skR H.1 b (S, R, h)) (hw : wsR R) {w : Int} (w1 : w = 0 ∨ w = 1) (y : hpA H.1 R) {Q : Int → xH → Prop} (hq : ∀ K, ttTI K → ttFr (true, [(70, 0, 15)]) H K → (∀ j : Int, ¬ (8 * w ≤ j ∧ j < 8 * w + 8) → K.1 70 j = H.1 70 j) → gsE R w (hpEd K.1 w) → Q 0 K) : xCall dd 23 [(2, 63), (2, b), (0, w)] H Q :=
  hp_find hd hT hB hW hR hw w1 (hp_W hw y w1) (J := gsE3 R w) (fun E h => gsE3_0 hw h) (fun E E2 p r J p0 p1 hr lt e o => gsE3_1 hw J p0 p1 hr lt e o) (fun E J q q0 q1 => by
    have z := J.1 q q0 q1
    have n8 := hw.1.2
    have c7 := hw.2.2.2.1
    have g := (hw.2.2.2.2.1 q q0 (by omega)).1
    omega) (fun K kT kF ko J C => hq K kT kF ko (gsE3_e hw J C))
theorem tm8 : ∀ n : Nat, n < 16 → Int.tmod (n : Int) 8 = ((n % 8 : Nat) : Int) := by decide
/-- tables up to group n -/
def hpN (D : xD) (R : Int → Int) (n : Nat) : Prop := (∀ g : Nat, g < n → D 64 (g : Int) = wsF R g) ∧ ∀ p w : Int, 0 ≤ p → p < R 1 → (w = 0 ∨ w = 1) → 8 * w + p < (n : Int) → hpT D R p w (wsF R (8 * w + p).toNat) (wsW R p w 60)
theorem hpN_c {D D' : xD} {R : Int → Int} {n : Nat} (n8 : R 1 ≤ 8) (y : hpN D R n) (e4 : ∀ j : Int, 0 ≤ j → j < (n : Int) → D' 64 j = D 64 j) (e : ∀ a j : Int, 65 ≤ a → a ≤ 69 → j < wsF R n → D' a j = D a j) : hpN D' R n := by
  refine ⟨fun g g1 => (e4 g (by omega) (by omega)).trans (y.1 g g1), fun p w p0 p1 w1 lt => hpT_c (y.2 p w p0 p1 w1 lt) (fun a j a0 a1 ujj0 ujj1 => e a j a0 a1 ?_)⟩
  have fn := wsF_n (R := R) p0 (by omega) p1 w1
  have fm := wsF_m (R := R) (8 * w + p + 1).toNat (n - (8 * w + p + 1).toNat)
  rw [show (8 * w + p + 1).toNat + (n - (8 * w + p + 1).toNat) = n from by omega] at fm
  omega
theorem hp_build {dd : Nat} (hd : 6 ≤ dd) {H : xH} (hT : ttTI H) {b : Int} (hB : skB b) (hW : skW H.1 b) {S : tSa} {R : Int → Int} {h : Int} (hR : skR H.1 b (S, R, h)) (hw : wsR R) {Q : Int → xH → Prop} (hq : ∀ K, ttTI K → ttFr (true, [(63, 6, 6), (64, 0, 16), (65, 0, 239), (66, 0, 239), (67, 0, 239), (68, 0, 239), (69, 0, 239), (70, 0, 15)]) H K → hpB K.1 R → Q 0 K) : xCall dd 17 [(2, 63), (2, b)] H Q := by
  obtain ⟨e, rfl, he⟩ := ttRun0 (n := 5) hd
  have he : 5 ≤ e := he
  have hn : 210 ≤ (H.2.2.2.1 : Int) := by have := hT.1; omega
  have hi := skB_in hB
  have w1 := hw.1
  have w3 := hw.2.2.1
  have f16 := wsF_16 (R := R)
  have hl : ∀ n : Nat, ∀ (K : xH) (g : Int) (G : Nat) (x3 : xV), g = (G : Int) → g ≤ 16 → 16 - g ≤ (n : Int) → ttTI K → ttFr (true, [(63, 6, 6), (64, 0, 16), (65, 0, 239), (66, 0, 239), (67, 0, 239), (68, 0, 239), (69, 0, 239), (70, 0, 15)]) H K → K.1 63 6 = wsF R G → hpN K.1 R G → xW e cd_17 Q (5, [(2, 63), (2, b), (0, g), x3], [], K) := by
    intro n
    induction n with
    | zero =>
      intro K g G x3 hg g16 hz kT kF kc kN
      have f0 := wsF_0 (R := R) G
      have fm := wsF_m (R := R) G (16 - G)
      rw [show G + (16 - G) = 16 from by omega] at fm
      refine q_il (pc := 5) (i := 2) (x := g) rfl rfl ?_
      refine q_ic (pc := 6) (v := 16) rfl ?_
      refine q_i2 (pc := 7) rfl (fun h7 => ?_) (fun h7 => ?_)
      · replace h7 : 16 ≤ g := h7
        refine q_al (pc := 34) (i := 0) (x := 63) rfl rfl ?_
        refine q_gf (pc := 35) (m := 1002) (t := 2) (c := 0) rfl (ttKc kT (a := 63) (κ := 1) (len := 0) ⟨rfl, rfl⟩ (by decide) (by decide)).1 rfl rfl ?_
        rw [show K.1 63 0 = 64 from ttFx kT (by decide) (by decide) rfl rfl rfl]
        refine q_ic (pc := 36) (v := 16) rfl ?_
        refine q_al (pc := 37) (i := 0) (x := 63) rfl rfl ?_
        refine q_gf (pc := 38) (m := 1060) (t := 0) (c := 6) rfl (ttKc kT (a := 63) (κ := 1) (len := 0) ⟨rfl, rfl⟩ (by decide) (by decide)).1 rfl rfl ?_
        rw [show K.1 63 6 = (wsF R G) from kc]
        refine q_si (pc := 39) rfl (by decide) (ttKc kT (a := 64) (κ := 20) (len := 17) ⟨rfl, rfl⟩ (by decide) (by decide)).1 (by omega) (by rw [(ttKc kT (a := 64) (κ := 20) (len := 17) ⟨rfl, rfl⟩ (by decide) (by decide)).2]; omega) ?_
        have cc := ttPuT kT kF (a := 64) (j := 16) (x := wsF R G) (by decide) (fun _ _ => ttTyr rfl (by omega) (by omega)) ⟨(64, 0, 16), by decide, ⟨⟨by decide, rfl⟩, by decide, by decide⟩⟩
        obtain ⟨M, hM⟩ : ∃ X : xH, X = (xUp K.1 64 16 (wsF R G), K.2) := ⟨_, rfl⟩
        have m6 : ∀ a j : Int, ¬ (a = 64 ∧ j = 16) → M.1 a j = K.1 a j := fun a j h => by rw [hM]; exact up_ne h
        have m16 : M.1 64 16 = wsF R G := by rw [hM]; exact up_eq (D := K.1) (a := 64) (j := 16) (x := wsF R G)
        rw [← hM] at cc ⊢
        have eG : G = 16 := by omega
        have mA : hpA M.1 R := by
          refine ⟨fun g g1 => ?_, fun p w p0 p1 ww => ?_⟩
          · by_cases c : g = 16
            · rw [c, ← eG]
              exact (show M.1 64 ((G : Nat) : Int) = M.1 64 16 from by rw [eG]; rfl).trans m16
            · exact (m6 64 g (by omega)).trans (kN.1 g (by omega))
          · exact hpT_c (kN.2 p w p0 p1 ww (by omega)) (fun a j _ _ _ _ => m6 a j (by omega))
        obtain ⟨mT, mF⟩ := cc
        have mW : skW M.1 b := skW_fr mF hn hB (by decide) hW
        have mR : skR M.1 b (S, R, h) := skR_D hR w3.2 (fun a j a0 a1 => sk_fr mF hn hB (by decide) a0 a1)
        refine q_al (pc := 40) (i := 0) (x := 63) rfl rfl ?_
        refine q_al (pc := 41) (i := 1) (x := b) rfl rfl ?_
        refine q_ic (pc := 42) (v := 0) rfl ?_
        refine q_iv (pc := 43) (q := 184095) rfl rfl rfl ⟨by omega, (ttKc mT (a := 63) (κ := 1) (len := 0) ⟨rfl, rfl⟩ (by decide) (by decide)).1⟩ ?_
        refine hs_find (by omega) mT hB mW mR hw (Or.inl rfl) mA (fun N nT nF no nE => ?_)
        have nn : 210 ≤ (M.2.2.2.1 : Int) := by have := mT.1; omega
        have n6 : ∀ a j : Int, 64 ≤ a → a ≤ 69 → N.1 a j = M.1 a j := fun a j a0 a1 => by
          have hj : a = 64 ∨ a = 65 ∨ a = 66 ∨ a = 67 ∨ a = 68 ∨ a = 69 := by omega
          rcases hj with rfl | rfl | rfl | rfl | rfl | rfl
          · exact fr_no nF 64 (by omega) rfl (by decide)
          · exact fr_no nF 65 (by omega) rfl (by decide)
          · exact fr_no nF 66 (by omega) rfl (by decide)
          · exact fr_no nF 67 (by omega) rfl (by decide)
          · exact fr_no nF 68 (by omega) rfl (by decide)
          · exact fr_no nF 69 (by omega) rfl (by decide)
        have nA : hpA N.1 R := ⟨fun g g1 => (n6 64 g (by decide) (by decide)).trans (mA.1 g g1), fun p w p0 p1 ww => hpT_c (mA.2 p w p0 p1 ww) (fun a j a0 a1 _ _ => n6 a j (by omega) (by omega))⟩
        have nW : skW N.1 b := skW_fr nF nn hB (by decide) mW
        have nR : skR N.1 b (S, R, h) := skR_D mR w3.2 (fun a j a0 a1 => sk_fr nF nn hB (by decide) a0 a1)
        refine q_al (pc := 44) (i := 0) (x := 63) rfl rfl ?_
        refine q_al (pc := 45) (i := 1) (x := b) rfl rfl ?_
        refine q_ic (pc := 46) (v := 1) rfl ?_
        refine q_iv (pc := 47) (q := 184095) rfl rfl rfl ⟨by omega, (ttKc nT (a := 63) (κ := 1) (len := 0) ⟨rfl, rfl⟩ (by decide) (by decide)).1⟩ ?_
        refine hs_find (by omega) nT hB nW nR hw (Or.inr rfl) nA (fun O oT oF oo oE => ?_)
        have on : 210 ≤ (N.2.2.2.1 : Int) := by have := nT.1; omega
        have o6 : ∀ a j : Int, 64 ≤ a → a ≤ 69 → O.1 a j = N.1 a j := fun a j a0 a1 => by
          have hj : a = 64 ∨ a = 65 ∨ a = 66 ∨ a = 67 ∨ a = 68 ∨ a = 69 := by omega
          rcases hj with rfl | rfl | rfl | rfl | rfl | rfl
          · exact fr_no oF 64 (by omega) rfl (by decide)
          · exact fr_no oF 65 (by omega) rfl (by decide)
          · exact fr_no oF 66 (by omega) rfl (by decide)
          · exact fr_no oF 67 (by omega) rfl (by decide)
          · exact fr_no oF 68 (by omega) rfl (by decide)
          · exact fr_no oF 69 (by omega) rfl (by decide)
        have oA : hpA O.1 R := ⟨fun g g1 => (o6 64 g (by decide) (by decide)).trans (nA.1 g g1), fun p w p0 p1 ww => hpT_c (nA.2 p w p0 p1 ww) (fun a j a0 a1 _ _ => o6 a j (by omega) (by omega))⟩
        have oE0 : gsE R 0 (hpEd O.1 0) := gsE_c hw nE (fun q q0 q1 => oo _ (by omega))
        refine q_rv (pc := 48) rfl ?_
        refine hq O oT (ttFr_tr (ttFr_tr mF nF (fun _ => rfl) (by decide)) oF (fun _ => rfl) (by decide)) ⟨oA, fun w ww => ?_⟩
        rcases ww with rfl | rfl
        · exact oE0
        · exact oE
      · replace h7 : g < 16 := h7
        omega
    | succ n ih =>
      intro K g G x3 hg g16 hz kT kF kc kN
      have f0 := wsF_0 (R := R) G
      have fm := wsF_m (R := R) G (16 - G)
      rw [show G + (16 - G) = 16 from by omega] at fm
      refine q_il (pc := 5) (i := 2) (x := g) rfl rfl ?_
      refine q_ic (pc := 6) (v := 16) rfl ?_
      refine q_i2 (pc := 7) rfl (fun h7 => ?_) (fun h7 => ?_)
      · replace h7 : 16 ≤ g := h7
        refine q_al (pc := 34) (i := 0) (x := 63) rfl rfl ?_
        refine q_gf (pc := 35) (m := 1002) (t := 2) (c := 0) rfl (ttKc kT (a := 63) (κ := 1) (len := 0) ⟨rfl, rfl⟩ (by decide) (by decide)).1 rfl rfl ?_
        rw [show K.1 63 0 = 64 from ttFx kT (by decide) (by decide) rfl rfl rfl]
        refine q_ic (pc := 36) (v := 16) rfl ?_
        refine q_al (pc := 37) (i := 0) (x := 63) rfl rfl ?_
        refine q_gf (pc := 38) (m := 1060) (t := 0) (c := 6) rfl (ttKc kT (a := 63) (κ := 1) (len := 0) ⟨rfl, rfl⟩ (by decide) (by decide)).1 rfl rfl ?_
        rw [show K.1 63 6 = (wsF R G) from kc]
        refine q_si (pc := 39) rfl (by decide) (ttKc kT (a := 64) (κ := 20) (len := 17) ⟨rfl, rfl⟩ (by decide) (by decide)).1 (by omega) (by rw [(ttKc kT (a := 64) (κ := 20) (len := 17) ⟨rfl, rfl⟩ (by decide) (by decide)).2]; omega) ?_
        have cc := ttPuT kT kF (a := 64) (j := 16) (x := wsF R G) (by decide) (fun _ _ => ttTyr rfl (by omega) (by omega)) ⟨(64, 0, 16), by decide, ⟨⟨by decide, rfl⟩, by decide, by decide⟩⟩
        obtain ⟨M, hM⟩ : ∃ X : xH, X = (xUp K.1 64 16 (wsF R G), K.2) := ⟨_, rfl⟩
        have m6 : ∀ a j : Int, ¬ (a = 64 ∧ j = 16) → M.1 a j = K.1 a j := fun a j h => by rw [hM]; exact up_ne h
        have m16 : M.1 64 16 = wsF R G := by rw [hM]; exact up_eq (D := K.1) (a := 64) (j := 16) (x := wsF R G)
        rw [← hM] at cc ⊢
        have eG : G = 16 := by omega
        have mA : hpA M.1 R := by
          refine ⟨fun g g1 => ?_, fun p w p0 p1 ww => ?_⟩
          · by_cases c : g = 16
            · rw [c, ← eG]
              exact (show M.1 64 ((G : Nat) : Int) = M.1 64 16 from by rw [eG]; rfl).trans m16
            · exact (m6 64 g (by omega)).trans (kN.1 g (by omega))
          · exact hpT_c (kN.2 p w p0 p1 ww (by omega)) (fun a j _ _ _ _ => m6 a j (by omega))
        obtain ⟨mT, mF⟩ := cc
        have mW : skW M.1 b := skW_fr mF hn hB (by decide) hW
        have mR : skR M.1 b (S, R, h) := skR_D hR w3.2 (fun a j a0 a1 => sk_fr mF hn hB (by decide) a0 a1)
        refine q_al (pc := 40) (i := 0) (x := 63) rfl rfl ?_
        refine q_al (pc := 41) (i := 1) (x := b) rfl rfl ?_
        refine q_ic (pc := 42) (v := 0) rfl ?_
        refine q_iv (pc := 43) (q := 184095) rfl rfl rfl ⟨by omega, (ttKc mT (a := 63) (κ := 1) (len := 0) ⟨rfl, rfl⟩ (by decide) (by decide)).1⟩ ?_
        refine hs_find (by omega) mT hB mW mR hw (Or.inl rfl) mA (fun N nT nF no nE => ?_)
        have nn : 210 ≤ (M.2.2.2.1 : Int) := by have := mT.1; omega
        have n6 : ∀ a j : Int, 64 ≤ a → a ≤ 69 → N.1 a j = M.1 a j := fun a j a0 a1 => by
          have hj : a = 64 ∨ a = 65 ∨ a = 66 ∨ a = 67 ∨ a = 68 ∨ a = 69 := by omega
          rcases hj with rfl | rfl | rfl | rfl | rfl | rfl
          · exact fr_no nF 64 (by omega) rfl (by decide)
          · exact fr_no nF 65 (by omega) rfl (by decide)
          · exact fr_no nF 66 (by omega) rfl (by decide)
          · exact fr_no nF 67 (by omega) rfl (by decide)
          · exact fr_no nF 68 (by omega) rfl (by decide)
          · exact fr_no nF 69 (by omega) rfl (by decide)
        have nA : hpA N.1 R := ⟨fun g g1 => (n6 64 g (by decide) (by decide)).trans (mA.1 g g1), fun p w p0 p1 ww => hpT_c (mA.2 p w p0 p1 ww) (fun a j a0 a1 _ _ => n6 a j (by omega) (by omega))⟩
        have nW : skW N.1 b := skW_fr nF nn hB (by decide) mW
        have nR : skR N.1 b (S, R, h) := skR_D mR w3.2 (fun a j a0 a1 => sk_fr nF nn hB (by decide) a0 a1)
        refine q_al (pc := 44) (i := 0) (x := 63) rfl rfl ?_
        refine q_al (pc := 45) (i := 1) (x := b) rfl rfl ?_
        refine q_ic (pc := 46) (v := 1) rfl ?_
        refine q_iv (pc := 47) (q := 184095) rfl rfl rfl ⟨by omega, (ttKc nT (a := 63) (κ := 1) (len := 0) ⟨rfl, rfl⟩ (by decide) (by decide)).1⟩ ?_
        refine hs_find (by omega) nT hB nW nR hw (Or.inr rfl) nA (fun O oT oF oo oE => ?_)
        have on : 210 ≤ (N.2.2.2.1 : Int) := by have := nT.1; omega
        have o6 : ∀ a j : Int, 64 ≤ a → a ≤ 69 → O.1 a j = N.1 a j := fun a j a0 a1 => by
          have hj : a = 64 ∨ a = 65 ∨ a = 66 ∨ a = 67 ∨ a = 68 ∨ a = 69 := by omega
          rcases hj with rfl | rfl | rfl | rfl | rfl | rfl
          · exact fr_no oF 64 (by omega) rfl (by decide)
          · exact fr_no oF 65 (by omega) rfl (by decide)
          · exact fr_no oF 66 (by omega) rfl (by decide)
          · exact fr_no oF 67 (by omega) rfl (by decide)
          · exact fr_no oF 68 (by omega) rfl (by decide)
          · exact fr_no oF 69 (by omega) rfl (by decide)
        have oA : hpA O.1 R := ⟨fun g g1 => (o6 64 g (by decide) (by decide)).trans (nA.1 g g1), fun p w p0 p1 ww => hpT_c (nA.2 p w p0 p1 ww) (fun a j a0 a1 _ _ => o6 a j (by omega) (by omega))⟩
        have oE0 : gsE R 0 (hpEd O.1 0) := gsE_c hw nE (fun q q0 q1 => oo _ (by omega))
        refine q_rv (pc := 48) rfl ?_
        refine hq O oT (ttFr_tr (ttFr_tr mF nF (fun _ => rfl) (by decide)) oF (fun _ => rfl) (by decide)) ⟨oA, fun w ww => ?_⟩
        rcases ww with rfl | rfl
        · exact oE0
        · exact oE
      · replace h7 : g < 16 := h7
        refine q_al (pc := 8) (i := 0) (x := 63) rfl rfl ?_
        refine q_gf (pc := 9) (m := 1002) (t := 2) (c := 0) rfl (ttKc kT (a := 63) (κ := 1) (len := 0) ⟨rfl, rfl⟩ (by decide) (by decide)).1 rfl rfl ?_
        rw [show K.1 63 0 = 64 from ttFx kT (by decide) (by decide) rfl rfl rfl]
        refine q_il (pc := 10) (i := 2) (x := g) rfl rfl ?_
        refine q_al (pc := 11) (i := 0) (x := 63) rfl rfl ?_
        refine q_gf (pc := 12) (m := 1060) (t := 0) (c := 6) rfl (ttKc kT (a := 63) (κ := 1) (len := 0) ⟨rfl, rfl⟩ (by decide) (by decide)).1 rfl rfl ?_
        rw [show K.1 63 6 = (wsF R G) from kc]
        refine q_si (pc := 13) rfl (by decide) (ttKc kT (a := 64) (κ := 20) (len := 17) ⟨rfl, rfl⟩ (by decide) (by decide)).1 (by omega) (by rw [(ttKc kT (a := 64) (κ := 20) (len := 17) ⟨rfl, rfl⟩ (by decide) (by decide)).2]; omega) ?_
        have cc := ttPuT kT kF (a := 64) (j := g) (x := wsF R G) (by decide) (fun _ _ => ttTyr rfl (by omega) (by omega)) ⟨(64, 0, 16), by decide, ⟨⟨by decide, rfl⟩, by show (0 : Int) ≤ g; omega, by show g ≤ 16; omega⟩⟩
        obtain ⟨M, hM⟩ : ∃ X : xH, X = (xUp K.1 64 g (wsF R G), K.2) := ⟨_, rfl⟩
        have m6 : ∀ a j : Int, ¬ (a = 64 ∧ j = g) → M.1 a j = K.1 a j := fun a j h => by rw [hM]; exact up_ne h
        have mg : M.1 64 g = wsF R G := by rw [hM]; exact up_eq (D := K.1) (a := 64) (j := g) (x := wsF R G)
        rw [← hM] at cc ⊢
        obtain ⟨mT, mF⟩ := cc
        have mn : 210 ≤ (M.2.2.2.1 : Int) := by have := mT.1; omega
        have kW : skW M.1 b := skW_fr mF hn hB (by decide) hW
        have kR : skR M.1 b (S, R, h) := skR_D hR w3.2 (fun a j a0 a1 => sk_fr mF hn hB (by decide) a0 a1)
        have mc : M.1 63 6 = wsF R G := (m6 63 6 (by omega)).trans kc
        have mN : hpN M.1 R G := hpN_c w1.2 kN (fun j ujj0 ujj1 => m6 64 j (by omega)) (fun a j a0 a1 _ => m6 a j (by omega))
        refine q_il (pc := 14) (i := 2) (x := g) rfl rfl ?_
        refine q_ic (pc := 15) (v := 8) rfl ?_
        refine q_ir (pc := 16) rfl (by decide) ?_
        have ep := tm8 G (by omega)
        rw [← hg] at ep
        rw [ep]
        obtain ⟨p, jp⟩ : ∃ p : Int, p = ((G % 8 : Nat) : Int) := ⟨_, rfl⟩
        rw [← jp]
        refine q_is (pc := 17) (i := 3) (L' := [(2, 63), (2, b), (0, g), (0, p)]) rfl rfl rfl ?_
        refine q_il (pc := 18) (i := 3) (x := p) rfl rfl ?_
        refine q_al (pc := 19) (i := 1) (x := b) rfl rfl ?_
        refine q_gf (pc := 20) (m := 10040) (t := 0) (c := 4) rfl (sk_kb mT hB).1 rfl rfl ?_
        rw [show M.1 b 4 = (R 1) from skA_i kR.1 (j := 4) (i := 1) (by decide)]
        refine q_i2 (pc := 21) rfl (fun h21 => ?_) (fun h21 => ?_)
        · replace h21 : (R 1) ≤ p := h21
          refine q_ii (pc := 32) (i := 2) (c := 1) (x := g) (L' := [(2, 63), (2, b), (0, (g + 1)), (0, p)]) rfl rfl rfl (by omega) (by omega) rfl ?_
          refine q_go (pc := 33) rfl ?_
          have fs : wsF R (G + 1) = wsF R G + (if ((G % 8 : Nat) : Int) < R 1 then (wsW R ((G % 8 : Nat) : Int) ((G / 8 : Nat) : Int) 60).1 else 0) := rfl
          rw [← jp, if_neg (by omega)] at fs
          refine ih M (g + 1) (G + 1) _ (by omega) (by omega) (by omega) mT mF (mc.trans (by omega)) ⟨fun i i1 => ?_, fun p2 v p0 p1 ww lt => ?_⟩
          · by_cases c : i = G
            · rw [c, ← hg]
              exact mg
            · exact mN.1 i (by omega)
          · exact mN.2 p2 v p0 p1 ww (by
              by_cases c : 8 * v + p2 = (G : Int)
              · omega
              · omega)
        · replace h21 : p < (R 1) := h21
          refine q_al (pc := 22) (i := 0) (x := 63) rfl rfl ?_
          refine q_al (pc := 23) (i := 1) (x := b) rfl rfl ?_
          refine q_il (pc := 24) (i := 3) (x := p) rfl rfl ?_
          refine q_il (pc := 25) (i := 2) (x := g) rfl rfl ?_
          refine q_ic (pc := 26) (v := 8) rfl ?_
          refine q_i2 (pc := 27) rfl (fun h27 => ?_) (fun h27 => ?_)
          · replace h27 : g < 8 := h27
            refine q_ic (pc := 30) (v := 0) rfl ?_
            have ew : ((G / 8 : Nat) : Int) = 0 := by omega
            have fs : wsF R (G + 1) = wsF R G + (if ((G % 8 : Nat) : Int) < R 1 then (wsW R ((G % 8 : Nat) : Int) ((G / 8 : Nat) : Int) 60).1 else 0) := rfl
            rw [← jp, if_pos (by omega), ew] at fs
            have fg := wsF_m (R := R) (G + 1) (16 - (G + 1))
            rw [show G + 1 + (16 - (G + 1)) = 16 from by omega] at fg
            refine q_iv (pc := 31) (q := 144099) rfl rfl rfl ⟨by omega, (ttKc mT (a := 63) (κ := 1) (len := 0) ⟨rfl, rfl⟩ (by decide) (by decide)).1⟩ ?_
            refine hp_from (by omega) mT hB kW kR hw mc f0 (by omega) (fun N nI => ?_)
            obtain ⟨nT, nF, nc, nH, no, nb⟩ := nI
            refine q_ii (pc := 32) (i := 2) (c := 1) (x := g) (L' := [(2, 63), (2, b), (0, (g + 1)), (0, p)]) rfl rfl rfl (by omega) (by omega) rfl ?_
            refine q_go (pc := 33) rfl ?_
            refine ih N (g + 1) (G + 1) _ (by omega) (by omega) (by omega) nT (ttFr_tr mF nF (fun _ => rfl) (by decide)) (nc.trans fs.symm) ?_
            have nN : hpN N.1 R G := hpN_c w1.2 mN (fun j ujj0 ujj1 => no 64 j (by omega) (by omega)) (fun a j a0 a1 ujj1 => nb a j a0 a1 ujj1)
            refine ⟨fun i i1 => ?_, fun p2 v p0 p1 ww lt => ?_⟩
            · by_cases c : i = G
              · rw [c, ← hg]
                exact (no 64 g (by omega) (by omega)).trans mg
              · exact nN.1 i (by omega)
            · by_cases c : 8 * v + p2 = (G : Int)
              · have e1 : p2 = p := by omega
                have e2 : v = 0 := by omega
                have e3 : (8 * v + p2).toNat = G := by omega
                rw [e3, e1, e2]
                exact nH
              · exact nN.2 p2 v p0 p1 ww (by omega)
          · replace h27 : 8 ≤ g := h27
            refine q_ic (pc := 28) (v := 1) rfl ?_
            refine q_go (pc := 29) rfl ?_
            have ew : ((G / 8 : Nat) : Int) = 1 := by omega
            have fs : wsF R (G + 1) = wsF R G + (if ((G % 8 : Nat) : Int) < R 1 then (wsW R ((G % 8 : Nat) : Int) ((G / 8 : Nat) : Int) 60).1 else 0) := rfl
            rw [← jp, if_pos (by omega), ew] at fs
            have fg := wsF_m (R := R) (G + 1) (16 - (G + 1))
            rw [show G + 1 + (16 - (G + 1)) = 16 from by omega] at fg
            refine q_iv (pc := 31) (q := 144099) rfl rfl rfl ⟨by omega, (ttKc mT (a := 63) (κ := 1) (len := 0) ⟨rfl, rfl⟩ (by decide) (by decide)).1⟩ ?_
            refine hp_from (by omega) mT hB kW kR hw mc f0 (by omega) (fun N nI => ?_)
            obtain ⟨nT, nF, nc, nH, no, nb⟩ := nI
            refine q_ii (pc := 32) (i := 2) (c := 1) (x := g) (L' := [(2, 63), (2, b), (0, (g + 1)), (0, p)]) rfl rfl rfl (by omega) (by omega) rfl ?_
            refine q_go (pc := 33) rfl ?_
            refine ih N (g + 1) (G + 1) _ (by omega) (by omega) (by omega) nT (ttFr_tr mF nF (fun _ => rfl) (by decide)) (nc.trans fs.symm) ?_
            have nN : hpN N.1 R G := hpN_c w1.2 mN (fun j ujj0 ujj1 => no 64 j (by omega) (by omega)) (fun a j a0 a1 ujj1 => nb a j a0 a1 ujj1)
            refine ⟨fun i i1 => ?_, fun p2 v p0 p1 ww lt => ?_⟩
            · by_cases c : i = G
              · rw [c, ← hg]
                exact (no 64 g (by omega) (by omega)).trans mg
              · exact nN.1 i (by omega)
            · by_cases c : 8 * v + p2 = (G : Int)
              · have e1 : p2 = p := by omega
                have e2 : v = 1 := by omega
                have e3 : (8 * v + p2).toNat = G := by omega
                rw [e3, e1, e2]
                exact nH
              · exact nN.2 p2 v p0 p1 ww (by omega)
  refine xC_of (L := [(2, 63), (2, b), (9, 0), (9, 0)]) (cd := cd_17) rfl rfl rfl ?_
  refine q_al (pc := 0) (i := 0) (x := 63) rfl rfl ?_
  refine q_ic (pc := 1) (v := 0) rfl ?_
  refine q_pf (pc := 2) (m := 1060) (c := 6) rfl (show xPt 0 0 _ _ from (ttKc hT (a := 63) (κ := 1) (len := 0) ⟨rfl, rfl⟩ (by decide) (by decide)).1) rfl ?_
  refine q_ic (pc := 3) (v := 0) rfl ?_
  refine q_is (pc := 4) (i := 2) (L' := [(2, 63), (2, b), (0, 0), (9, 0)]) rfl rfl rfl ?_
  have cc := ttPuT hT (ttFr_rf (true, [(63, 6, 6), (64, 0, 16), (65, 0, 239), (66, 0, 239), (67, 0, 239), (68, 0, 239), (69, 0, 239), (70, 0, 15)]) H) (a := 63) (j := 6) (x := 0) (by decide) (fun _ _ => show ttM _ (0, 0, 240) 0 from ⟨by decide, by decide⟩) ⟨(63, 6, 6), by decide, ⟨⟨by decide, rfl⟩, by decide, by decide⟩⟩
  exact hl 16 _ 0 0 _ rfl (by decide) (by decide) cc.1 cc.2 (show xUp H.1 63 6 0 63 6 = 0 from up_eq) ⟨fun g g1 => absurd g1 (by omega), fun p w p0 p1 ww lt => by omega⟩
