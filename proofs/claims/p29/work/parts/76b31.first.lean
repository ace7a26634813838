/-! reach, fields, edge, tour of the first: what they answer -/
def rsRch (R : Int → Int) (p a q w r : Int) : Prop := (gsVd R p a ∧ (0 ≤ q ∧ q < R 1) → ∃ f : Int → Int, gsG (gsT R w) p a f ∧ r = f q) ∧ (¬ (gsVd R p a ∧ (0 ≤ q ∧ q < R 1)) → r = -2)
def rsFld (R : Int → Int) (p a w r : Int) : Prop := (gsVd R p a → ∃ f : Int → Int, gsG (gsT R w) p a f ∧ r = gsS R f (R 1).toNat) ∧ (¬ gsVd R p a → r = -2)
def rsEdg (R : Int → Int) (p w r : Int) : Prop := (0 ≤ p ∧ p < R 1 → ∃ e : Int → Int, gsE R w e ∧ r = if e p = 1000000 then -1 else e p) ∧ (¬ (0 ≤ p ∧ p < R 1) → r = -2)
/-- places that fulfil a condition, as bits -/
def gsB (C : Nat → Prop) [∀ n, Decidable (C n)] : Nat → Int
  | 0 => 0
  | n + 1 => if C n then xOr (gsB C n) (xShl 1 (n : Int)) else gsB C n
theorem gsB_c {C C' : Nat → Prop} [∀ n, Decidable (C n)] [∀ n, Decidable (C' n)] : ∀ n : Nat, (∀ i : Nat, i < n → (C i ↔ C' i)) → gsB C n = gsB C' n := by
  intro n
  induction n with
  | zero => intro _; rfl
  | succ n ih =>
    intro h
    show (if C n then xOr (gsB C n) (xShl 1 (n : Int)) else gsB C n) = (if C' n then xOr (gsB C' n) (xShl 1 (n : Int)) else gsB C' n)
    rw [ih (fun i i1 => h i (by omega))]
    by_cases c : C n
    · rw [if_pos c, if_pos ((h n (by omega)).1 c)]
    · rw [if_neg c, if_neg (fun y => c ((h n (by omega)).2 y))]
def rsTor (R : Int → Int) (p a w r : Int) : Prop := (gsVd R p a → ∃ f e : Int → Int, gsG (gsT R w) p a f ∧ gsE R w e ∧ r = gsB (fun n => f (n : Int) ≠ -1 ∧ e (n : Int) ≤ f (n : Int)) (R 1).toNat) ∧ (¬ gsVd R p a → r = -2)
theorem lx_rch1 {dd : Nat} (hd : 5 ≤ dd) {H : xH} (hT : ttTI H) {b : Int} (hB : skB b) (hW : skW H.1 b) {S : tSa} {R : Int → Int} {h : Int} (hR : skR H.1 b (S, R, h)) (hw : wsR R) (e15 : H.1 1 5 = b) (y : hpA H.1 R) {p a q w : Int} (ww : w = 0 ∨ w = 1) {Q : Int → xH → Prop} (hq : ∀ r K, rsRch R p a q w r → Q r K) : xCall dd 146 [(2, 1), (0, p), (0, a), (0, q), (0, w)] H Q := by
  obtain ⟨e, rfl, he⟩ := ttRun0 (n := 4) hd
  have he : 4 ≤ e := he
  have hi := skB_in hB
  have hn : 210 ≤ (H.2.2.2.1 : Int) := by have := hT.1; omega
  have w1 := hw.1
  have w3 := hw.2.2.1
  have eN : H.1 b 4 = R 1 := skA_i hR.1 (j := 4) (i := 1) (by decide)
  refine xC_of (L := [(2, 1), (0, p), (0, a), (0, q), (0, w)]) (cd := cd_146) rfl rfl rfl ?_
  refine q_al (pc := 0) (i := 0) (x := 1) rfl rfl ?_
  refine q_gf (pc := 1) (m := 11052) (t := 2) (c := 5) rfl (ttKc hT (a := 1) (κ := 11) (len := 0) ⟨rfl, rfl⟩ (by decide) (by decide)).1 rfl rfl ?_
  rw [show H.1 1 5 = b from e15]
  refine q_il (pc := 2) (i := 1) (x := p) rfl rfl ?_
  refine q_il (pc := 3) (i := 2) (x := a) rfl rfl ?_
  refine q_iv (pc := 4) (q := 928812) rfl rfl rfl (sk_kb hT hB).1 ?_
  refine ls_spot (by omega) hT hB hW hR hw (fun hv => ?_) (fun hv => ?_)
  · skip
    refine q_if (pc := 5) rfl (fun h5 => ?_) (fun h5 => ?_)
    · replace h5 : (1 : Int) = 0 := h5
      omega
    · replace h5 : (1 : Int) ≠ 0 := h5
      refine q_al (pc := 6) (i := 0) (x := 1) rfl rfl ?_
      refine q_gf (pc := 7) (m := 11052) (t := 2) (c := 5) rfl (ttKc hT (a := 1) (κ := 11) (len := 0) ⟨rfl, rfl⟩ (by decide) (by decide)).1 rfl rfl ?_
      rw [show H.1 1 5 = b from e15]
      refine q_il (pc := 8) (i := 3) (x := q) rfl rfl ?_
      refine q_iv (pc := 9) (q := 904808) rfl rfl rfl (sk_kb hT hB).1 ?_
      refine ls_has (by omega) hT hB eN (fun hp => ?_) (fun hp => ?_)
      · skip
        refine q_if (pc := 10) rfl (fun h10 => ?_) (fun h10 => ?_)
        · replace h10 : (1 : Int) ≠ 0 := h10
          refine q_al (pc := 13) (i := 0) (x := 1) rfl rfl ?_
          refine q_gf (pc := 14) (m := 11092) (t := 2) (c := 9) rfl (ttKc hT (a := 1) (κ := 11) (len := 0) ⟨rfl, rfl⟩ (by decide) (by decide)).1 rfl rfl ?_
          rw [show H.1 1 9 = 63 from ttFx hT (by decide) (by decide) rfl rfl rfl]
          refine q_al (pc := 15) (i := 0) (x := 1) rfl rfl ?_
          refine q_gf (pc := 16) (m := 11052) (t := 2) (c := 5) rfl (ttKc hT (a := 1) (κ := 11) (len := 0) ⟨rfl, rfl⟩ (by decide) (by decide)).1 rfl rfl ?_
          rw [show H.1 1 5 = b from e15]
          refine q_il (pc := 17) (i := 1) (x := p) rfl rfl ?_
          refine q_il (pc := 18) (i := 2) (x := a) rfl rfl ?_
          refine q_il (pc := 19) (i := 4) (x := w) rfl rfl ?_
          refine q_iv (pc := 20) (q := 200103) rfl rfl rfl ⟨by omega, (ttKc hT (a := 63) (κ := 1) (len := 0) ⟨rfl, rfl⟩ (by decide) (by decide)).1⟩ ?_
          refine hs_glide (by omega) hT hB hW hR hw y hv ww (fun K kT kF kG => ?_)
          have kW : skW K.1 b := skW_fr kF hn hB (by decide) hW
          have kR : skR K.1 b (S, R, h) := skR_D hR w3.2 (fun a j a0 a1 => sk_fr kF hn hB (by decide) a0 a1)
          have k5 : K.1 1 5 = b := (fr_no kF 1 (by omega) rfl (by decide)).trans e15
          refine q_al (pc := 21) (i := 0) (x := 1) rfl rfl ?_
          refine q_gf (pc := 22) (m := 11092) (t := 2) (c := 9) rfl (ttKc kT (a := 1) (κ := 11) (len := 0) ⟨rfl, rfl⟩ (by decide) (by decide)).1 rfl rfl ?_
          rw [show K.1 1 9 = 63 from ttFx kT (by decide) (by decide) rfl rfl rfl]
          refine q_il (pc := 23) (i := 3) (x := q) rfl rfl ?_
          refine q_iv (pc := 24) (q := 168088) rfl rfl rfl (ttKc kT (a := 63) (κ := 1) (len := 0) ⟨rfl, rfl⟩ (by decide) (by decide)).1 ?_
          refine hp_at (by omega) kT hp.1 (by omega) ?_
          refine q_ri (pc := 25) rfl ?_
          exact hq _ _ ⟨fun _ => ⟨K.1 71, kG, rfl⟩, fun z => absurd ⟨hv, hp⟩ z⟩
        · replace h10 : (1 : Int) = 0 := h10
          omega
      · skip
        refine q_if (pc := 10) rfl (fun h10 => ?_) (fun h10 => ?_)
        · replace h10 : (0 : Int) ≠ 0 := h10
          omega
        · replace h10 : (0 : Int) = 0 := h10
          refine q_ic (pc := 11) (v := (-2)) rfl ?_
          refine q_ri (pc := 12) rfl ?_
          exact hq _ _ ⟨fun z => absurd z.2 hp, fun _ => rfl⟩
  · skip
    refine q_if (pc := 5) rfl (fun h5 => ?_) (fun h5 => ?_)
    · replace h5 : (0 : Int) = 0 := h5
      refine q_ic (pc := 11) (v := (-2)) rfl ?_
      refine q_ri (pc := 12) rfl ?_
      exact hq _ _ ⟨fun z => absurd z.1 hv, fun _ => rfl⟩
    · replace h5 : (0 : Int) ≠ 0 := h5
      omega
theorem lx_fld1 {dd : Nat} (hd : 5 ≤ dd) {H : xH} (hT : ttTI H) {b : Int} (hB : skB b) (hW : skW H.1 b) {S : tSa} {R : Int → Int} {h : Int} (hR : skR H.1 b (S, R, h)) (hw : wsR R) (e15 : H.1 1 5 = b) (y : hpA H.1 R) {p a w : Int} (ww : w = 0 ∨ w = 1) {Q : Int → xH → Prop} (hq : ∀ r K, rsFld R p a w r → Q r K) : xCall dd 147 [(2, 1), (0, p), (0, a), (0, w)] H Q := by
  obtain ⟨e, rfl, he⟩ := ttRun0 (n := 4) hd
  have he : 4 ≤ e := he
  have hi := skB_in hB
  have hn : 210 ≤ (H.2.2.2.1 : Int) := by have := hT.1; omega
  have w1 := hw.1
  have w3 := hw.2.2.1
  have eN : H.1 b 4 = R 1 := skA_i hR.1 (j := 4) (i := 1) (by decide)
  have hl : ∀ K : xH, gsVd R p a → ttTI K → ttFr (true, [(71, 0, 7)]) H K → gsG (gsT R w) p a (K.1 71) → ∀ n : Nat, ∀ (m : Nat) (s q : Int), q = (m : Int) → q ≤ R 1 → R 1 - q ≤ (n : Int) → 0 ≤ s → s ≤ 255 → s = gsS R (K.1 71) m → xW e cd_147 Q (20, [(2, 1), (0, p), (0, a), (0, w), (0, s), (0, q)], [], K) := by
    intro K hv kT kF kG n
    have kW : skW K.1 b := skW_fr kF hn hB (by decide) hW
    have kR : skR K.1 b (S, R, h) := skR_D hR w3.2 (fun a j a0 a1 => sk_fr kF hn hB (by decide) a0 a1)
    have k5 : K.1 1 5 = b := (fr_no kF 1 (by omega) rfl (by decide)).trans e15
    induction n with
    | zero =>
      intro m s q hm q1 hz s0 s1 hs
      refine q_il (pc := 20) (i := 5) (x := q) rfl rfl ?_
      refine q_al (pc := 21) (i := 0) (x := 1) rfl rfl ?_
      refine q_gf (pc := 22) (m := 11052) (t := 2) (c := 5) rfl (ttKc kT (a := 1) (κ := 11) (len := 0) ⟨rfl, rfl⟩ (by decide) (by decide)).1 rfl rfl ?_
      rw [show K.1 1 5 = b from k5]
      refine q_gf (pc := 23) (m := 10040) (t := 0) (c := 4) rfl (sk_kb kT hB).1 rfl rfl ?_
      rw [show K.1 b 4 = (R 1) from skA_i kR.1 (j := 4) (i := 1) (by decide)]
      refine q_i2 (pc := 24) rfl (fun h24 => ?_) (fun h24 => ?_)
      · replace h24 : (R 1) ≤ q := h24
        refine q_il (pc := 44) (i := 4) (x := s) rfl rfl ?_
        refine q_ri (pc := 45) rfl ?_
        have em : (R 1).toNat = m := by omega
        exact hq _ _ ⟨fun _ => ⟨K.1 71, kG, by rw [em]; exact hs⟩, fun z => absurd hv z⟩
      · replace h24 : q < (R 1) := h24
        omega
    | succ n ih =>
      intro m s q hm q1 hz s0 s1 hs
      refine q_il (pc := 20) (i := 5) (x := q) rfl rfl ?_
      refine q_al (pc := 21) (i := 0) (x := 1) rfl rfl ?_
      refine q_gf (pc := 22) (m := 11052) (t := 2) (c := 5) rfl (ttKc kT (a := 1) (κ := 11) (len := 0) ⟨rfl, rfl⟩ (by decide) (by decide)).1 rfl rfl ?_
      rw [show K.1 1 5 = b from k5]
      refine q_gf (pc := 23) (m := 10040) (t := 0) (c := 4) rfl (sk_kb kT hB).1 rfl rfl ?_
      rw [show K.1 b 4 = (R 1) from skA_i kR.1 (j := 4) (i := 1) (by decide)]
      refine q_i2 (pc := 24) rfl (fun h24 => ?_) (fun h24 => ?_)
      · replace h24 : (R 1) ≤ q := h24
        refine q_il (pc := 44) (i := 4) (x := s) rfl rfl ?_
        refine q_ri (pc := 45) rfl ?_
        have em : (R 1).toNat = m := by omega
        exact hq _ _ ⟨fun _ => ⟨K.1 71, kG, by rw [em]; exact hs⟩, fun z => absurd hv z⟩
      · replace h24 : q < (R 1) := h24
        refine q_al (pc := 25) (i := 0) (x := 1) rfl rfl ?_
        refine q_gf (pc := 26) (m := 11092) (t := 2) (c := 9) rfl (ttKc kT (a := 1) (κ := 11) (len := 0) ⟨rfl, rfl⟩ (by decide) (by decide)).1 rfl rfl ?_
        rw [show K.1 1 9 = 63 from ttFx kT (by decide) (by decide) rfl rfl rfl]
        refine q_il (pc := 27) (i := 5) (x := q) rfl rfl ?_
        refine q_iv (pc := 28) (q := 168088) rfl rfl rfl (ttKc kT (a := 63) (κ := 1) (len := 0) ⟨rfl, rfl⟩ (by decide) (by decide)).1 ?_
        refine hp_at (by omega) kT (by omega) (by omega) ?_
        refine q_ic (pc := 29) (v := (-1)) rfl ?_
        refine q_i2 (pc := 30) rfl (fun h30 => ?_) (fun h30 => ?_)
        · replace h30 : (K.1 71 q) = (-1) := h30
          refine q_ii (pc := 42) (i := 5) (c := 1) (x := q) (L' := [(2, 1), (0, p), (0, a), (0, w), (0, s), (0, (q + 1))]) rfl rfl rfl (by omega) (by omega) rfl ?_
          refine q_go (pc := 43) rfl ?_
          exact ih (m + 1) s (q + 1) (by omega) (by omega) (by omega) s0 s1 (by
            show _ = (if K.1 71 (m : Int) ≠ -1 ∧ R (20 + 8 * (m : Int) + 1) ≠ 0 then xOr (gsS R (K.1 71) m) (xShl 1 (m : Int)) else gsS R (K.1 71) m)
            rw [← hm, ← hs]
            exact (if_neg (fun z => z.1 h30)).symm)
        · replace h30 : (K.1 71 q) ≠ (-1) := h30
          refine q_al (pc := 31) (i := 0) (x := 1) rfl rfl ?_
          refine q_gf (pc := 32) (m := 11052) (t := 2) (c := 5) rfl (ttKc kT (a := 1) (κ := 11) (len := 0) ⟨rfl, rfl⟩ (by decide) (by decide)).1 rfl rfl ?_
          rw [show K.1 1 5 = b from k5]
          refine q_il (pc := 33) (i := 5) (x := q) rfl rfl ?_
          refine q_iv (pc := 34) (q := 960808) rfl rfl rfl (sk_kb kT hB).1 ?_
          refine hp_land (by omega) kT hB kW kR hw (by omega) (by omega) (fun hld1 => ?_) (fun hld0 => ?_)
          · skip
            refine q_if (pc := 35) rfl (fun h35 => ?_) (fun h35 => ?_)
            · replace h35 : (1 : Int) = 0 := h35
              omega
            · replace h35 : (1 : Int) ≠ 0 := h35
              refine q_il (pc := 36) (i := 4) (x := s) rfl rfl ?_
              refine q_ic (pc := 37) (v := 1) rfl ?_
              refine q_il (pc := 38) (i := 5) (x := q) rfl rfl ?_
              refine q_sl (pc := 39) rfl ?_
              refine q_or (pc := 40) rfl ?_
              refine q_is (pc := 41) (i := 4) (L' := [(2, 1), (0, p), (0, a), (0, w), (0, (xOr s (xShl 1 q))), (0, q)]) rfl rfl rfl ?_
              refine q_ii (pc := 42) (i := 5) (c := 1) (x := q) (L' := [(2, 1), (0, p), (0, a), (0, w), (0, (xOr s (xShl 1 q))), (0, (q + 1))]) rfl rfl rfl (by omega) (by omega) rfl ?_
              refine q_go (pc := 43) rfl ?_
              have b8 := or_08 s0 s1 (p := q) (by omega) (by omega)
              exact ih (m + 1) (xOr s (xShl 1 q)) (q + 1) (by omega) (by omega) (by omega) b8.1 b8.2 (by
                show _ = (if K.1 71 (m : Int) ≠ -1 ∧ R (20 + 8 * (m : Int) + 1) ≠ 0 then xOr (gsS R (K.1 71) m) (xShl 1 (m : Int)) else gsS R (K.1 71) m)
                rw [← hm, ← hs]
                exact (if_pos ⟨h30, hld1⟩).symm)
          · skip
            refine q_if (pc := 35) rfl (fun h35 => ?_) (fun h35 => ?_)
            · replace h35 : (0 : Int) = 0 := h35
              refine q_ii (pc := 42) (i := 5) (c := 1) (x := q) (L' := [(2, 1), (0, p), (0, a), (0, w), (0, s), (0, (q + 1))]) rfl rfl rfl (by omega) (by omega) rfl ?_
              refine q_go (pc := 43) rfl ?_
              exact ih (m + 1) s (q + 1) (by omega) (by omega) (by omega) s0 s1 (by
                show _ = (if K.1 71 (m : Int) ≠ -1 ∧ R (20 + 8 * (m : Int) + 1) ≠ 0 then xOr (gsS R (K.1 71) m) (xShl 1 (m : Int)) else gsS R (K.1 71) m)
                rw [← hm, ← hs]
                exact (if_neg (fun z => z.2 hld0)).symm)
            · replace h35 : (0 : Int) ≠ 0 := h35
              omega
  refine xC_of (L := [(2, 1), (0, p), (0, a), (0, w), (9, 0), (9, 0)]) (cd := cd_147) rfl rfl rfl ?_
  refine q_al (pc := 0) (i := 0) (x := 1) rfl rfl ?_
  refine q_gf (pc := 1) (m := 11052) (t := 2) (c := 5) rfl (ttKc hT (a := 1) (κ := 11) (len := 0) ⟨rfl, rfl⟩ (by decide) (by decide)).1 rfl rfl ?_
  rw [show H.1 1 5 = b from e15]
  refine q_il (pc := 2) (i := 1) (x := p) rfl rfl ?_
  refine q_il (pc := 3) (i := 2) (x := a) rfl rfl ?_
  refine q_iv (pc := 4) (q := 928812) rfl rfl rfl (sk_kb hT hB).1 ?_
  refine ls_spot (by omega) hT hB hW hR hw (fun hv => ?_) (fun hv => ?_)
  · skip
    refine q_if (pc := 5) rfl (fun h5 => ?_) (fun h5 => ?_)
    · replace h5 : (1 : Int) ≠ 0 := h5
      refine q_al (pc := 8) (i := 0) (x := 1) rfl rfl ?_
      refine q_gf (pc := 9) (m := 11092) (t := 2) (c := 9) rfl (ttKc hT (a := 1) (κ := 11) (len := 0) ⟨rfl, rfl⟩ (by decide) (by decide)).1 rfl rfl ?_
      rw [show H.1 1 9 = 63 from ttFx hT (by decide) (by decide) rfl rfl rfl]
      refine q_al (pc := 10) (i := 0) (x := 1) rfl rfl ?_
      refine q_gf (pc := 11) (m := 11052) (t := 2) (c := 5) rfl (ttKc hT (a := 1) (κ := 11) (len := 0) ⟨rfl, rfl⟩ (by decide) (by decide)).1 rfl rfl ?_
      rw [show H.1 1 5 = b from e15]
      refine q_il (pc := 12) (i := 1) (x := p) rfl rfl ?_
      refine q_il (pc := 13) (i := 2) (x := a) rfl rfl ?_
      refine q_il (pc := 14) (i := 3) (x := w) rfl rfl ?_
      refine q_iv (pc := 15) (q := 200103) rfl rfl rfl ⟨by omega, (ttKc hT (a := 63) (κ := 1) (len := 0) ⟨rfl, rfl⟩ (by decide) (by decide)).1⟩ ?_
      refine hs_glide (by omega) hT hB hW hR hw y hv ww (fun K kT kF kG => ?_)
      have kW : skW K.1 b := skW_fr kF hn hB (by decide) hW
      have kR : skR K.1 b (S, R, h) := skR_D hR w3.2 (fun a j a0 a1 => sk_fr kF hn hB (by decide) a0 a1)
      have k5 : K.1 1 5 = b := (fr_no kF 1 (by omega) rfl (by decide)).trans e15
      refine q_ic (pc := 16) (v := 0) rfl ?_
      refine q_is (pc := 17) (i := 4) (L' := [(2, 1), (0, p), (0, a), (0, w), (0, 0), (9, 0)]) rfl rfl rfl ?_
      refine q_ic (pc := 18) (v := 0) rfl ?_
      refine q_is (pc := 19) (i := 5) (L' := [(2, 1), (0, p), (0, a), (0, w), (0, 0), (0, 0)]) rfl rfl rfl ?_
      exact hl K hv kT kF kG 8 0 0 0 rfl (by omega) (by omega) (by decide) (by decide) rfl
    · replace h5 : (1 : Int) = 0 := h5
      omega
  · skip
    refine q_if (pc := 5) rfl (fun h5 => ?_) (fun h5 => ?_)
    · replace h5 : (0 : Int) ≠ 0 := h5
      omega
    · replace h5 : (0 : Int) = 0 := h5
      refine q_ic (pc := 6) (v := (-2)) rfl ?_
      refine q_ri (pc := 7) rfl ?_
      exact hq _ _ ⟨fun z => absurd z hv, fun _ => rfl⟩
theorem lx_tor1 {dd : Nat} (hd : 5 ≤ dd) {H : xH} (hT : ttTI H) {b : Int} (hB : skB b) (hW : skW H.1 b) {S : tSa} {R : Int → Int} {h : Int} (hR : skR H.1 b (S, R, h)) (hw : wsR R) (e15 : H.1 1 5 = b) (yb : hpB H.1 R) {p a w : Int} (ww : w = 0 ∨ w = 1) {Q : Int → xH → Prop} (hq : ∀ r K, rsTor R p a w r → Q r K) : xCall dd 149 [(2, 1), (0, p), (0, a), (0, w)] H Q := by
  obtain ⟨e, rfl, he⟩ := ttRun0 (n := 4) hd
  have he : 4 ≤ e := he
  have hi := skB_in hB
  have hn : 210 ≤ (H.2.2.2.1 : Int) := by have := hT.1; omega
  have w1 := hw.1
  have w3 := hw.2.2.1
  have eN : H.1 b 4 = R 1 := skA_i hR.1 (j := 4) (i := 1) (by decide)
  obtain ⟨y, yE⟩ := yb
  have yE := yE w ww
  have hl : ∀ K : xH, gsVd R p a → ttTI K → ttFr (true, [(71, 0, 7)]) H K → gsG (gsT R w) p a (K.1 71) → ∀ n : Nat, ∀ (m : Nat) (s q : Int) (x6 : xV), q = (m : Int) → q ≤ R 1 → R 1 - q ≤ (n : Int) → 0 ≤ s → s ≤ 255 → s = gsB (fun n => K.1 71 (n : Int) ≠ -1 ∧ hpEd H.1 w (n : Int) ≤ K.1 71 (n : Int)) m → xW e cd_149 Q (20, [(2, 1), (0, p), (0, a), (0, w), (0, s), (0, q), x6], [], K) := by
    intro K hv kT kF kG n
    have kW : skW K.1 b := skW_fr kF hn hB (by decide) hW
    have kR : skR K.1 b (S, R, h) := skR_D hR w3.2 (fun a j a0 a1 => sk_fr kF hn hB (by decide) a0 a1)
    have k5 : K.1 1 5 = b := (fr_no kF 1 (by omega) rfl (by decide)).trans e15
    have k70 : ∀ q : Int, K.1 70 (8 * w + q) = hpEd H.1 w q := fun q => fr_no kF 70 (by omega) rfl (by decide)
    induction n with
    | zero =>
      intro m s q x6 hm q1 hz s0 s1 hs
      refine q_il (pc := 20) (i := 5) (x := q) rfl rfl ?_
      refine q_al (pc := 21) (i := 0) (x := 1) rfl rfl ?_
      refine q_gf (pc := 22) (m := 11052) (t := 2) (c := 5) rfl (ttKc kT (a := 1) (κ := 11) (len := 0) ⟨rfl, rfl⟩ (by decide) (by decide)).1 rfl rfl ?_
      rw [show K.1 1 5 = b from k5]
      refine q_gf (pc := 23) (m := 10040) (t := 0) (c := 4) rfl (sk_kb kT hB).1 rfl rfl ?_
      rw [show K.1 b 4 = (R 1) from skA_i kR.1 (j := 4) (i := 1) (by decide)]
      refine q_i2 (pc := 24) rfl (fun h24 => ?_) (fun h24 => ?_)
      · replace h24 : (R 1) ≤ q := h24
        refine q_il (pc := 48) (i := 4) (x := s) rfl rfl ?_
        refine q_ri (pc := 49) rfl ?_
        have em : (R 1).toNat = m := by omega
        exact hq _ _ ⟨fun _ => ⟨K.1 71, hpEd H.1 w, kG, yE, by rw [em]; exact hs⟩, fun z => absurd hv z⟩
      · replace h24 : q < (R 1) := h24
        omega
    | succ n ih =>
      intro m s q x6 hm q1 hz s0 s1 hs
      refine q_il (pc := 20) (i := 5) (x := q) rfl rfl ?_
      refine q_al (pc := 21) (i := 0) (x := 1) rfl rfl ?_
      refine q_gf (pc := 22) (m := 11052) (t := 2) (c := 5) rfl (ttKc kT (a := 1) (κ := 11) (len := 0) ⟨rfl, rfl⟩ (by decide) (by decide)).1 rfl rfl ?_
      rw [show K.1 1 5 = b from k5]
      refine q_gf (pc := 23) (m := 10040) (t := 0) (c := 4) rfl (sk_kb kT hB).1 rfl rfl ?_
      rw [show K.1 b 4 = (R 1) from skA_i kR.1 (j := 4) (i := 1) (by decide)]
      refine q_i2 (pc := 24) rfl (fun h24 => ?_) (fun h24 => ?_)
      · replace h24 : (R 1) ≤ q := h24
        refine q_il (pc := 48) (i := 4) (x := s) rfl rfl ?_
        refine q_ri (pc := 49) rfl ?_
        have em : (R 1).toNat = m := by omega
        exact hq _ _ ⟨fun _ => ⟨K.1 71, hpEd H.1 w, kG, yE, by rw [em]; exact hs⟩, fun z => absurd hv z⟩
      · replace h24 : q < (R 1) := h24
        refine q_al (pc := 25) (i := 0) (x := 1) rfl rfl ?_
        refine q_gf (pc := 26) (m := 11092) (t := 2) (c := 9) rfl (ttKc kT (a := 1) (κ := 11) (len := 0) ⟨rfl, rfl⟩ (by decide) (by decide)).1 rfl rfl ?_
        rw [show K.1 1 9 = 63 from ttFx kT (by decide) (by decide) rfl rfl rfl]
        refine q_il (pc := 27) (i := 5) (x := q) rfl rfl ?_
        refine q_iv (pc := 28) (q := 168088) rfl rfl rfl (ttKc kT (a := 63) (κ := 1) (len := 0) ⟨rfl, rfl⟩ (by decide) (by decide)).1 ?_
        refine hp_at (by omega) kT (by omega) (by omega) ?_
        refine q_is (pc := 29) (i := 6) (L' := [(2, 1), (0, p), (0, a), (0, w), (0, s), (0, q), (0, (K.1 71 q))]) rfl rfl rfl ?_
        refine q_il (pc := 30) (i := 6) (x := (K.1 71 q)) rfl rfl ?_
        refine q_ic (pc := 31) (v := (-1)) rfl ?_
        refine q_i2 (pc := 32) rfl (fun h32 => ?_) (fun h32 => ?_)
        · replace h32 : (K.1 71 q) = (-1) := h32
          refine q_ii (pc := 46) (i := 5) (c := 1) (x := q) (L' := [(2, 1), (0, p), (0, a), (0, w), (0, s), (0, (q + 1)), (0, (K.1 71 q))]) rfl rfl rfl (by omega) (by omega) rfl ?_
          refine q_go (pc := 47) rfl ?_
          exact ih (m + 1) s (q + 1) _ (by omega) (by omega) (by omega) s0 s1 (by
            show _ = (if K.1 71 (m : Int) ≠ -1 ∧ hpEd H.1 w (m : Int) ≤ K.1 71 (m : Int) then xOr (gsB (fun n => K.1 71 (n : Int) ≠ -1 ∧ hpEd H.1 w (n : Int) ≤ K.1 71 (n : Int)) m) (xShl 1 (m : Int)) else gsB (fun n => K.1 71 (n : Int) ≠ -1 ∧ hpEd H.1 w (n : Int) ≤ K.1 71 (n : Int)) m)
            rw [← hm, ← hs]
            exact (if_neg (fun z => z.1 h32)).symm)
        · replace h32 : (K.1 71 q) ≠ (-1) := h32
          refine q_il (pc := 33) (i := 6) (x := (K.1 71 q)) rfl rfl ?_
          refine q_al (pc := 34) (i := 0) (x := 1) rfl rfl ?_
          refine q_gf (pc := 35) (m := 11092) (t := 2) (c := 9) rfl (ttKc kT (a := 1) (κ := 11) (len := 0) ⟨rfl, rfl⟩ (by decide) (by decide)).1 rfl rfl ?_
          rw [show K.1 1 9 = 63 from ttFx kT (by decide) (by decide) rfl rfl rfl]
          refine q_il (pc := 36) (i := 5) (x := q) rfl rfl ?_
          refine q_il (pc := 37) (i := 3) (x := w) rfl rfl ?_
          refine q_iv (pc := 38) (q := 160092) rfl rfl rfl (ttKc kT (a := 63) (κ := 1) (len := 0) ⟨rfl, rfl⟩ (by decide) (by decide)).1 ?_
          refine hp_edge (by omega) kT (by omega) (by omega) ww ?_
          rw [k70]
          refine q_i2 (pc := 39) rfl (fun h39 => ?_) (fun h39 => ?_)
          · replace h39 : (K.1 71 q) < (hpEd H.1 w q) := h39
            refine q_ii (pc := 46) (i := 5) (c := 1) (x := q) (L' := [(2, 1), (0, p), (0, a), (0, w), (0, s), (0, (q + 1)), (0, (K.1 71 q))]) rfl rfl rfl (by omega) (by omega) rfl ?_
            refine q_go (pc := 47) rfl ?_
            exact ih (m + 1) s (q + 1) _ (by omega) (by omega) (by omega) s0 s1 (by
              show _ = (if K.1 71 (m : Int) ≠ -1 ∧ hpEd H.1 w (m : Int) ≤ K.1 71 (m : Int) then xOr (gsB (fun n => K.1 71 (n : Int) ≠ -1 ∧ hpEd H.1 w (n : Int) ≤ K.1 71 (n : Int)) m) (xShl 1 (m : Int)) else gsB (fun n => K.1 71 (n : Int) ≠ -1 ∧ hpEd H.1 w (n : Int) ≤ K.1 71 (n : Int)) m)
              rw [← hm, ← hs]
              exact (if_neg (fun z => absurd z.2 (by omega))).symm)
          · replace h39 : (hpEd H.1 w q) ≤ (K.1 71 q) := h39
            refine q_il (pc := 40) (i := 4) (x := s) rfl rfl ?_
            refine q_ic (pc := 41) (v := 1) rfl ?_
            refine q_il (pc := 42) (i := 5) (x := q) rfl rfl ?_
            refine q_sl (pc := 43) rfl ?_
            refine q_or (pc := 44) rfl ?_
            refine q_is (pc := 45) (i := 4) (L' := [(2, 1), (0, p), (0, a), (0, w), (0, (xOr s (xShl 1 q))), (0, q), (0, (K.1 71 q))]) rfl rfl rfl ?_
            refine q_ii (pc := 46) (i := 5) (c := 1) (x := q) (L' := [(2, 1), (0, p), (0, a), (0, w), (0, (xOr s (xShl 1 q))), (0, (q + 1)), (0, (K.1 71 q))]) rfl rfl rfl (by omega) (by omega) rfl ?_
            refine q_go (pc := 47) rfl ?_
            have b8 := or_08 s0 s1 (p := q) (by omega) (by omega)
            exact ih (m + 1) (xOr s (xShl 1 q)) (q + 1) _ (by omega) (by omega) (by omega) b8.1 b8.2 (by
              show _ = (if K.1 71 (m : Int) ≠ -1 ∧ hpEd H.1 w (m : Int) ≤ K.1 71 (m : Int) then xOr (gsB (fun n => K.1 71 (n : Int) ≠ -1 ∧ hpEd H.1 w (n : Int) ≤ K.1 71 (n : Int)) m) (xShl 1 (m : Int)) else gsB (fun n => K.1 71 (n : Int) ≠ -1 ∧ hpEd H.1 w (n : Int) ≤ K.1 71 (n : Int)) m)
              rw [← hm, ← hs]
              exact (if_pos ⟨h32, h39⟩).symm)
  refine xC_of (L := [(2, 1), (0, p), (0, a), (0, w), (9, 0), (9, 0), (9, 0)]) (cd := cd_149) rfl rfl rfl ?_
  refine q_al (pc := 0) (i := 0) (x := 1) rfl rfl ?_
  refine q_gf (pc := 1) (m := 11052) (t := 2) (c := 5) rfl (ttKc hT (a := 1) (κ := 11) (len := 0) ⟨rfl, rfl⟩ (by decide) (by decide)).1 rfl rfl ?_
  rw [show H.1 1 5 = b from e15]
  refine q_il (pc := 2) (i := 1) (x := p) rfl rfl ?_
  refine q_il (pc := 3) (i := 2) (x := a) rfl rfl ?_
  refine q_iv (pc := 4) (q := 928812) rfl rfl rfl (sk_kb hT hB).1 ?_
  refine ls_spot (by omega) hT hB hW hR hw (fun hv => ?_) (fun hv => ?_)
  · skip
    refine q_if (pc := 5) rfl (fun h5 => ?_) (fun h5 => ?_)
    · replace h5 : (1 : Int) ≠ 0 := h5
      refine q_al (pc := 8) (i := 0) (x := 1) rfl rfl ?_
      refine q_gf (pc := 9) (m := 11092) (t := 2) (c := 9) rfl (ttKc hT (a := 1) (κ := 11) (len := 0) ⟨rfl, rfl⟩ (by decide) (by decide)).1 rfl rfl ?_
      rw [show H.1 1 9 = 63 from ttFx hT (by decide) (by decide) rfl rfl rfl]
      refine q_al (pc := 10) (i := 0) (x := 1) rfl rfl ?_
      refine q_gf (pc := 11) (m := 11052) (t := 2) (c := 5) rfl (ttKc hT (a := 1) (κ := 11) (len := 0) ⟨rfl, rfl⟩ (by decide) (by decide)).1 rfl rfl ?_
      rw [show H.1 1 5 = b from e15]
      refine q_il (pc := 12) (i := 1) (x := p) rfl rfl ?_
      refine q_il (pc := 13) (i := 2) (x := a) rfl rfl ?_
      refine q_il (pc := 14) (i := 3) (x := w) rfl rfl ?_
      refine q_iv (pc := 15) (q := 200103) rfl rfl rfl ⟨by omega, (ttKc hT (a := 63) (κ := 1) (len := 0) ⟨rfl, rfl⟩ (by decide) (by decide)).1⟩ ?_
      refine hs_glide (by omega) hT hB hW hR hw y hv ww (fun K kT kF kG => ?_)
      have kW : skW K.1 b := skW_fr kF hn hB (by decide) hW
      have kR : skR K.1 b (S, R, h) := skR_D hR w3.2 (fun a j a0 a1 => sk_fr kF hn hB (by decide) a0 a1)
      have k5 : K.1 1 5 = b := (fr_no kF 1 (by omega) rfl (by decide)).trans e15
      refine q_ic (pc := 16) (v := 0) rfl ?_
      refine q_is (pc := 17) (i := 4) (L' := [(2, 1), (0, p), (0, a), (0, w), (0, 0), (9, 0), (9, 0)]) rfl rfl rfl ?_
      refine q_ic (pc := 18) (v := 0) rfl ?_
      refine q_is (pc := 19) (i := 5) (L' := [(2, 1), (0, p), (0, a), (0, w), (0, 0), (0, 0), (9, 0)]) rfl rfl rfl ?_
      exact hl K hv kT kF kG 8 0 0 0 _ rfl (by omega) (by omega) (by decide) (by decide) rfl
    · replace h5 : (1 : Int) = 0 := h5
      omega
  · skip
    refine q_if (pc := 5) rfl (fun h5 => ?_) (fun h5 => ?_)
    · replace h5 : (0 : Int) ≠ 0 := h5
      omega
    · replace h5 : (0 : Int) = 0 := h5
      refine q_ic (pc := 6) (v := (-2)) rfl ?_
      refine q_ri (pc := 7) rfl ?_
      exact hq _ _ ⟨fun z => absurd z hv, fun _ => rfl⟩
theorem lx_edg1 {dd : Nat} (hd : 3 ≤ dd) {H : xH} (hT : ttTI H) {b : Int} (hB : skB b) (hW : skW H.1 b) {S : tSa} {R : Int → Int} {h : Int} (hR : skR H.1 b (S, R, h)) (hw : wsR R) (e15 : H.1 1 5 = b) (yb : hpB H.1 R) {p w : Int} (ww : w = 0 ∨ w = 1) {Q : Int → xH → Prop} (hq : ∀ r K, rsEdg R p w r → Q r K) : xCall dd 148 [(2, 1), (0, p), (0, w)] H Q := by
  obtain ⟨e, rfl, he⟩ := ttRun0 (n := 2) hd
  have he : 2 ≤ e := he
  have hi := skB_in hB
  have hn : 210 ≤ (H.2.2.2.1 : Int) := by have := hT.1; omega
  have w1 := hw.1
  have w3 := hw.2.2.1
  have eN : H.1 b 4 = R 1 := skA_i hR.1 (j := 4) (i := 1) (by decide)
  obtain ⟨y, yE⟩ := yb
  have yE := yE w ww
  refine xC_of (L := [(2, 1), (0, p), (0, w), (9, 0)]) (cd := cd_148) rfl rfl rfl ?_
  refine q_al (pc := 0) (i := 0) (x := 1) rfl rfl ?_
  refine q_gf (pc := 1) (m := 11052) (t := 2) (c := 5) rfl (ttKc hT (a := 1) (κ := 11) (len := 0) ⟨rfl, rfl⟩ (by decide) (by decide)).1 rfl rfl ?_
  rw [show H.1 1 5 = b from e15]
  refine q_il (pc := 2) (i := 1) (x := p) rfl rfl ?_
  refine q_iv (pc := 3) (q := 904808) rfl rfl rfl (sk_kb hT hB).1 ?_
  refine ls_has (by omega) hT hB eN (fun hp => ?_) (fun hp => ?_)
  · skip
    refine q_if (pc := 4) rfl (fun h4 => ?_) (fun h4 => ?_)
    · replace h4 : (1 : Int) ≠ 0 := h4
      refine q_al (pc := 7) (i := 0) (x := 1) rfl rfl ?_
      refine q_gf (pc := 8) (m := 11092) (t := 2) (c := 9) rfl (ttKc hT (a := 1) (κ := 11) (len := 0) ⟨rfl, rfl⟩ (by decide) (by decide)).1 rfl rfl ?_
      rw [show H.1 1 9 = 63 from ttFx hT (by decide) (by decide) rfl rfl rfl]
      refine q_il (pc := 9) (i := 1) (x := p) rfl rfl ?_
      refine q_il (pc := 10) (i := 2) (x := w) rfl rfl ?_
      refine q_iv (pc := 11) (q := 160092) rfl rfl rfl (ttKc hT (a := 63) (κ := 1) (len := 0) ⟨rfl, rfl⟩ (by decide) (by decide)).1 ?_
      refine hp_edge (by omega) hT hp.1 (by omega) ww ?_
      obtain ⟨v, jv⟩ : ∃ v, v = hpEd H.1 w p := ⟨_, rfl⟩
      rw [show H.1 70 (8 * w + p) = v from jv.symm]
      refine q_is (pc := 12) (i := 3) (L' := [(2, 1), (0, p), (0, w), (0, v)]) rfl rfl rfl ?_
      refine q_il (pc := 13) (i := 3) (x := v) rfl rfl ?_
      refine q_ic (pc := 14) (v := 1000000) rfl ?_
      refine q_i2 (pc := 15) rfl (fun h15 => ?_) (fun h15 => ?_)
      · replace h15 : v ≠ 1000000 := h15
        refine q_il (pc := 18) (i := 3) (x := v) rfl rfl ?_
        refine q_ri (pc := 19) rfl ?_
        exact hq _ _ ⟨fun _ => ⟨hpEd H.1 w, yE, by rw [← jv, if_neg h15]⟩, fun z => absurd hp z⟩
      · replace h15 : v = 1000000 := h15
        refine q_ic (pc := 16) (v := (-1)) rfl ?_
        refine q_go (pc := 17) rfl ?_
        refine q_ri (pc := 19) rfl ?_
        exact hq _ _ ⟨fun _ => ⟨hpEd H.1 w, yE, by rw [← jv, if_pos h15]⟩, fun z => absurd hp z⟩
    · replace h4 : (1 : Int) = 0 := h4
      omega
  · skip
    refine q_if (pc := 4) rfl (fun h4 => ?_) (fun h4 => ?_)
    · replace h4 : (0 : Int) ≠ 0 := h4
      omega
    · replace h4 : (0 : Int) = 0 := h4
      refine q_ic (pc := 5) (v := (-2)) rfl ?_
      refine q_ri (pc := 6) rfl ?_
      exact hq _ _ ⟨fun z => absurd z hp, fun _ => rfl⟩
