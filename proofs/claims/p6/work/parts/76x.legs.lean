/-! a leg's periods and loss, exactly -/
def rsThr (v q w : Int) : Int := if w = 0 then v else w32 (v + w32 (Int.tdiv (w32 (v * q)) 100))
def rsOv (t c k : Int) : Int := if k = 0 then w32 (t + c) else w32 (t - c)
def rsTk (m o : Int) : Int := if o < 1 then -1 else w32 (w32 (Int.tdiv (w32 (12 * m)) o) + 1)
def rsLs (z a t : Int) : Int := w32 (Int.tdiv (w32 (w32 (5 * t) * w32 (z - a))) 100)
def rsO (R : Int → Int) (l k s w : Int) : Int := rsOv (rsThr (R (144 + 2 * s)) (R 6) w) (R (84 + 6 * l + 4)) k
def rsT (R : Int → Int) (l k s w : Int) : Int := rsTk (R (84 + 6 * l + 2)) (rsO R l k s w)
def rsV (R : Int → Int) (l k s w : Int) : Int := if rsT R l k s w = -1 then -2000000000 else rsLs (R (144 + 2 * s + 1)) (R (84 + 6 * l + 3)) (rsT R l k s w)
def rsPer (R : Int → Int) (l k s w : Int) : Int := if (0 ≤ l ∧ l < R 2) ∧ (0 ≤ s ∧ s < R 3) then rsT R l k s w else -2
def rsLos (R : Int → Int) (l k s w : Int) : Int := if (0 ≤ l ∧ l < R 2) ∧ (0 ≤ s ∧ s < R 3) then rsV R l k s w else -2000000000
theorem w32_n {t c : Int} : w32 (t + w32 (-c)) = w32 (t - c) := by
  unfold w32
  rw [Int.add_bmod_bmod, Int.sub_eq_add_neg]
theorem w32_0 {t : Int} (h0 : -2147483648 ≤ t) (h1 : t ≤ 2147483647) : w32 (t + 0) = t := by
  rw [Int.add_zero]
  exact w32_eq ⟨h0, by omega⟩
theorem ty_sp {s : Int} (s0 : 0 ≤ s) (s1 : s ≤ 5) : ttTy (ttTb 184) (144 + 2 * s) = (0, 0, 150) := by
  have k : ∀ n : Nat, n < 6 → ttTy (ttTb 184) (144 + 2 * (n : Int)) = (0, 0, 150) := by decide
  obtain ⟨n, rfl⟩ := Int.eq_ofNat_of_zero_le s0
  exact k n (by omega)
theorem ls_leg {dd : Nat} (hd : 1 ≤ dd) {H : xH} (hT : ttTI H) {b l k s w : Int} (hB : skB b) (hW : skW H.1 b) {N : Int} (eN : H.1 b 5 = N) {Q : Int → xH → Prop} (hy : 0 ≤ l ∧ l < N → Q 1 H) (hn : ¬ (0 ≤ l ∧ l < N) → Q 0 H) : xCall dd 114 [(2, b), (0, l)] H Q := by
  obtain ⟨e, rfl, he⟩ := ttRun0 (n := 0) hd
  have he : 0 ≤ e := he
  have hi := skB_in hB
  refine xC_of (L := [(2, b), (0, l)]) (cd := cd_114) rfl rfl rfl ?_
  refine q_il (pc := 0) (i := 1) (x := l) rfl rfl ?_
  refine q_if (pc := 1) rfl (fun h1 => ?_) (fun h1 => ?_)
  · replace h1 : l < 0 := h1
    refine q_ic (pc := 8) (v := 0) rfl ?_
    refine q_rz (pc := 9) rfl (by omega) ?_
    exact hn (fun z => by omega)
  · replace h1 : 0 ≤ l := h1
    refine q_il (pc := 2) (i := 1) (x := l) rfl rfl ?_
    refine q_al (pc := 3) (i := 0) (x := b) rfl rfl ?_
    refine q_gf (pc := 4) (m := 10050) (t := 0) (c := 5) rfl (sk_kb hT hB).1 rfl rfl ?_
    rw [eN]
    refine q_i2 (pc := 5) rfl (fun h5 => ?_) (fun h5 => ?_)
    · replace h5 : N ≤ l := h5
      refine q_ic (pc := 8) (v := 0) rfl ?_
      refine q_rz (pc := 9) rfl (by omega) ?_
      exact hn (fun z => by omega)
    · replace h5 : l < N := h5
      refine q_ic (pc := 6) (v := 1) rfl ?_
      refine q_go (pc := 7) rfl ?_
      refine q_rz (pc := 9) rfl (by omega) ?_
      exact hy ⟨by omega, by omega⟩
theorem ls_spd {dd : Nat} (hd : 1 ≤ dd) {H : xH} (hT : ttTI H) {b l k s w : Int} (hB : skB b) (hW : skW H.1 b) {N : Int} (eN : H.1 (b + 3) 0 = N) {Q : Int → xH → Prop} (hy : 0 ≤ s ∧ s < N → Q 1 H) (hn : ¬ (0 ≤ s ∧ s < N) → Q 0 H) : xCall dd 115 [(2, b), (0, s)] H Q := by
  obtain ⟨e, rfl, he⟩ := ttRun0 (n := 0) hd
  have he : 0 ≤ e := he
  have hi := skB_in hB
  refine xC_of (L := [(2, b), (0, s)]) (cd := cd_115) rfl rfl rfl ?_
  refine q_il (pc := 0) (i := 1) (x := s) rfl rfl ?_
  refine q_if (pc := 1) rfl (fun h1 => ?_) (fun h1 => ?_)
  · replace h1 : s < 0 := h1
    refine q_ic (pc := 9) (v := 0) rfl ?_
    refine q_rz (pc := 10) rfl (by omega) ?_
    exact hn (fun z => by omega)
  · replace h1 : 0 ≤ s := h1
    refine q_il (pc := 2) (i := 1) (x := s) rfl rfl ?_
    refine q_al (pc := 3) (i := 0) (x := b) rfl rfl ?_
    refine q_gf (pc := 4) (m := 10022) (t := 2) (c := 2) rfl (sk_kb hT hB).1 rfl rfl ?_
    rw [show H.1 b 2 = (b + 3) from hW.1.2.2.1]
    refine q_gf (pc := 5) (m := 6000) (t := 0) (c := 0) rfl (sk_kx hT hB (o := 3) (by decide) (by decide) (κ := 6) (len := 0) ⟨rfl, rfl⟩).1 rfl rfl ?_
    rw [eN]
    refine q_i2 (pc := 6) rfl (fun h6 => ?_) (fun h6 => ?_)
    · replace h6 : N ≤ s := h6
      refine q_ic (pc := 9) (v := 0) rfl ?_
      refine q_rz (pc := 10) rfl (by omega) ?_
      exact hn (fun z => by omega)
    · replace h6 : s < N := h6
      refine q_ic (pc := 7) (v := 1) rfl ?_
      refine q_go (pc := 8) rfl ?_
      refine q_rz (pc := 10) rfl (by omega) ?_
      exact hy ⟨by omega, by omega⟩
theorem ls_over {dd : Nat} (hd : 1 ≤ dd) {H : xH} (hT : ttTI H) {b l k s w : Int} (hB : skB b) (hW : skW H.1 b) {v q c : Int} (ev : H.1 (b + 4) s = v) (ew : H.1 b 8 = q) (ec : H.1 (b + 17 + l) 4 = c) (l0 : 0 ≤ l) (l9 : l ≤ 9) (s0 : 0 ≤ s) (s5 : s ≤ 5) {Q : Int → xH → Prop} (hq : Q (rsOv (rsThr v q w) c k) H) : xCall dd 123 [(2, b), (0, l), (0, k), (0, s), (0, w)] H Q := by
  obtain ⟨e, rfl, he⟩ := ttRun0 (n := 0) hd
  have he : 0 ≤ e := he
  have hi := skB_in hB
  refine xC_of (L := [(2, b), (0, l), (0, k), (0, s), (0, w), (9, 0)]) (cd := cd_123) rfl rfl rfl ?_
  refine q_al (pc := 0) (i := 0) (x := b) rfl rfl ?_
  refine q_gf (pc := 1) (m := 10022) (t := 2) (c := 2) rfl (sk_kb hT hB).1 rfl rfl ?_
  rw [show H.1 b 2 = (b + 3) from hW.1.2.2.1]
  refine q_gf (pc := 2) (m := 6012) (t := 2) (c := 1) rfl (sk_kx hT hB (o := 3) (by decide) (by decide) (κ := 6) (len := 0) ⟨rfl, rfl⟩).1 rfl rfl ?_
  rw [show H.1 (b + 3) 1 = (b + 4) from hW.2.2.2.1.1]
  refine q_il (pc := 3) (i := 3) (x := s) rfl rfl ?_
  refine q_ai (pc := 4) rfl (sk_kx hT hB (o := 4) (by decide) (by decide) (κ := 20) (len := 6) ⟨rfl, rfl⟩).1 (by omega) (by rw [(sk_kx hT hB (o := 4) (by decide) (by decide) (κ := 20) (len := 6) ⟨rfl, rfl⟩).2]; omega) ?_
  rw [ev]
  refine q_is (pc := 5) (i := 5) (L' := [(2, b), (0, l), (0, k), (0, s), (0, w), (0, v)]) rfl rfl rfl ?_
  refine q_il (pc := 6) (i := 4) (x := w) rfl rfl ?_
  refine q_if (pc := 7) rfl (fun h7 => ?_) (fun h7 => ?_)
  · replace h7 : w = 0 := h7
    refine q_il (pc := 17) (i := 2) (x := k) rfl rfl ?_
    refine q_if (pc := 18) rfl (fun h18 => ?_) (fun h18 => ?_)
    · replace h18 : k = 0 := h18
      refine q_il (pc := 27) (i := 5) (x := v) rfl rfl ?_
      refine q_al (pc := 28) (i := 0) (x := b) rfl rfl ?_
      refine q_gf (pc := 29) (m := 10012) (t := 2) (c := 1) rfl (sk_kb hT hB).1 rfl rfl ?_
      rw [show H.1 b 1 = (b + 2) from hW.1.2.1]
      refine q_il (pc := 30) (i := 1) (x := l) rfl rfl ?_
      refine q_aa (pc := 31) rfl (by rw [(sk_kx hT hB (o := 2) (by decide) (by decide) (κ := 26) (len := 10) ⟨rfl, rfl⟩).1]; decide) (by omega) (by rw [(sk_kx hT hB (o := 2) (by decide) (by decide) (κ := 26) (len := 10) ⟨rfl, rfl⟩).2]; omega) ?_
      rw [show H.1 (b + 2) l = (b + 17 + l) from hW.2.2.1 l l0 l9]
      refine q_gf (pc := 32) (m := 2040) (t := 0) (c := 4) rfl (sk_kl hT hB l0 l9).1 rfl rfl ?_
      rw [ec]
      refine q_wa (pc := 33) rfl ?_
      refine q_ri (pc := 34) rfl ?_
      have e1 : rsThr v q w = v := if_pos h7
      rw [e1, show rsOv v c k = (w32 (v + c)) from if_pos h18] at hq
      exact hq
    · replace h18 : k ≠ 0 := h18
      refine q_il (pc := 19) (i := 5) (x := v) rfl rfl ?_
      refine q_al (pc := 20) (i := 0) (x := b) rfl rfl ?_
      refine q_gf (pc := 21) (m := 10012) (t := 2) (c := 1) rfl (sk_kb hT hB).1 rfl rfl ?_
      rw [show H.1 b 1 = (b + 2) from hW.1.2.1]
      refine q_il (pc := 22) (i := 1) (x := l) rfl rfl ?_
      refine q_aa (pc := 23) rfl (by rw [(sk_kx hT hB (o := 2) (by decide) (by decide) (κ := 26) (len := 10) ⟨rfl, rfl⟩).1]; decide) (by omega) (by rw [(sk_kx hT hB (o := 2) (by decide) (by decide) (κ := 26) (len := 10) ⟨rfl, rfl⟩).2]; omega) ?_
      rw [show H.1 (b + 2) l = (b + 17 + l) from hW.2.2.1 l l0 l9]
      refine q_gf (pc := 24) (m := 2040) (t := 0) (c := 4) rfl (sk_kl hT hB l0 l9).1 rfl rfl ?_
      rw [ec]
      refine q_wb (pc := 25) rfl ?_
      refine q_go (pc := 26) rfl ?_
      refine q_ri (pc := 34) rfl ?_
      have e1 : rsThr v q w = v := if_pos h7
      rw [e1, show rsOv v c k = (w32 (v - c)) from if_neg h18] at hq
      exact hq
  · replace h7 : w ≠ 0 := h7
    refine q_il (pc := 8) (i := 5) (x := v) rfl rfl ?_
    refine q_il (pc := 9) (i := 5) (x := v) rfl rfl ?_
    refine q_al (pc := 10) (i := 0) (x := b) rfl rfl ?_
    refine q_gf (pc := 11) (m := 10080) (t := 0) (c := 8) rfl (sk_kb hT hB).1 rfl rfl ?_
    rw [ew]
    refine q_wm (pc := 12) rfl ?_
    refine q_ic (pc := 13) (v := 100) rfl ?_
    refine q_wd (pc := 14) rfl (by decide) ?_
    refine q_wa (pc := 15) rfl ?_
    refine q_is (pc := 16) (i := 5) (L' := [(2, b), (0, l), (0, k), (0, s), (0, w), (0, (w32 (v + (w32 (Int.tdiv (w32 (v * q)) 100)))))]) rfl rfl rfl ?_
    refine q_il (pc := 17) (i := 2) (x := k) rfl rfl ?_
    refine q_if (pc := 18) rfl (fun h18 => ?_) (fun h18 => ?_)
    · replace h18 : k = 0 := h18
      refine q_il (pc := 27) (i := 5) (x := (w32 (v + (w32 (Int.tdiv (w32 (v * q)) 100))))) rfl rfl ?_
      refine q_al (pc := 28) (i := 0) (x := b) rfl rfl ?_
      refine q_gf (pc := 29) (m := 10012) (t := 2) (c := 1) rfl (sk_kb hT hB).1 rfl rfl ?_
      rw [show H.1 b 1 = (b + 2) from hW.1.2.1]
      refine q_il (pc := 30) (i := 1) (x := l) rfl rfl ?_
      refine q_aa (pc := 31) rfl (by rw [(sk_kx hT hB (o := 2) (by decide) (by decide) (κ := 26) (len := 10) ⟨rfl, rfl⟩).1]; decide) (by omega) (by rw [(sk_kx hT hB (o := 2) (by decide) (by decide) (κ := 26) (len := 10) ⟨rfl, rfl⟩).2]; omega) ?_
      rw [show H.1 (b + 2) l = (b + 17 + l) from hW.2.2.1 l l0 l9]
      refine q_gf (pc := 32) (m := 2040) (t := 0) (c := 4) rfl (sk_kl hT hB l0 l9).1 rfl rfl ?_
      rw [ec]
      refine q_wa (pc := 33) rfl ?_
      refine q_ri (pc := 34) rfl ?_
      have e1 : rsThr v q w = (w32 (v + (w32 (Int.tdiv (w32 (v * q)) 100)))) := if_neg h7
      rw [e1, show rsOv (w32 (v + (w32 (Int.tdiv (w32 (v * q)) 100)))) c k = (w32 ((w32 (v + (w32 (Int.tdiv (w32 (v * q)) 100)))) + c)) from if_pos h18] at hq
      exact hq
    · replace h18 : k ≠ 0 := h18
      refine q_il (pc := 19) (i := 5) (x := (w32 (v + (w32 (Int.tdiv (w32 (v * q)) 100))))) rfl rfl ?_
      refine q_al (pc := 20) (i := 0) (x := b) rfl rfl ?_
      refine q_gf (pc := 21) (m := 10012) (t := 2) (c := 1) rfl (sk_kb hT hB).1 rfl rfl ?_
      rw [show H.1 b 1 = (b + 2) from hW.1.2.1]
      refine q_il (pc := 22) (i := 1) (x := l) rfl rfl ?_
      refine q_aa (pc := 23) rfl (by rw [(sk_kx hT hB (o := 2) (by decide) (by decide) (κ := 26) (len := 10) ⟨rfl, rfl⟩).1]; decide) (by omega) (by rw [(sk_kx hT hB (o := 2) (by decide) (by decide) (κ := 26) (len := 10) ⟨rfl, rfl⟩).2]; omega) ?_
      rw [show H.1 (b + 2) l = (b + 17 + l) from hW.2.2.1 l l0 l9]
      refine q_gf (pc := 24) (m := 2040) (t := 0) (c := 4) rfl (sk_kl hT hB l0 l9).1 rfl rfl ?_
      rw [ec]
      refine q_wb (pc := 25) rfl ?_
      refine q_go (pc := 26) rfl ?_
      refine q_ri (pc := 34) rfl ?_
      have e1 : rsThr v q w = (w32 (v + (w32 (Int.tdiv (w32 (v * q)) 100)))) := if_neg h7
      rw [e1, show rsOv (w32 (v + (w32 (Int.tdiv (w32 (v * q)) 100)))) c k = (w32 ((w32 (v + (w32 (Int.tdiv (w32 (v * q)) 100)))) - c)) from if_neg h18] at hq
      exact hq
theorem ls_takes {dd : Nat} (hd : 2 ≤ dd) {H : xH} (hT : ttTI H) {b l k s w : Int} (hB : skB b) (hW : skW H.1 b) {v q c : Int} (ev : H.1 (b + 4) s = v) (ew : H.1 b 8 = q) (ec : H.1 (b + 17 + l) 4 = c) (l0 : 0 ≤ l) (l9 : l ≤ 9) (s0 : 0 ≤ s) (s5 : s ≤ 5) {m o : Int} (em : H.1 (b + 17 + l) 2 = m) (eo : rsOv (rsThr v q w) c k = o) {Q : Int → xH → Prop} (hq : Q (rsTk m o) H) : xCall dd 124 [(2, b), (0, l), (0, k), (0, s), (0, w)] H Q := by
  obtain ⟨e, rfl, he⟩ := ttRun0 (n := 1) hd
  have he : 1 ≤ e := he
  have hi := skB_in hB
  refine xC_of (L := [(2, b), (0, l), (0, k), (0, s), (0, w), (9, 0)]) (cd := cd_124) rfl rfl rfl ?_
  refine q_al (pc := 0) (i := 0) (x := b) rfl rfl ?_
  refine q_il (pc := 1) (i := 1) (x := l) rfl rfl ?_
  refine q_il (pc := 2) (i := 2) (x := k) rfl rfl ?_
  refine q_il (pc := 3) (i := 3) (x := s) rfl rfl ?_
  refine q_il (pc := 4) (i := 4) (x := w) rfl rfl ?_
  refine q_iv (pc := 5) (q := 984820) rfl rfl rfl (sk_kb hT hB).1 ?_
  refine ls_over (by omega) hT hB hW ev ew ec l0 l9 s0 s5 ?_
  rw [eo]
  refine q_is (pc := 6) (i := 5) (L' := [(2, b), (0, l), (0, k), (0, s), (0, w), (0, o)]) rfl rfl rfl ?_
  refine q_il (pc := 7) (i := 5) (x := o) rfl rfl ?_
  refine q_ic (pc := 8) (v := 1) rfl ?_
  refine q_i2 (pc := 9) rfl (fun h9 => ?_) (fun h9 => ?_)
  · replace h9 : 1 ≤ o := h9
    refine q_ic (pc := 12) (v := 12) rfl ?_
    refine q_al (pc := 13) (i := 0) (x := b) rfl rfl ?_
    refine q_gf (pc := 14) (m := 10012) (t := 2) (c := 1) rfl (sk_kb hT hB).1 rfl rfl ?_
    rw [show H.1 b 1 = (b + 2) from hW.1.2.1]
    refine q_il (pc := 15) (i := 1) (x := l) rfl rfl ?_
    refine q_aa (pc := 16) rfl (by rw [(sk_kx hT hB (o := 2) (by decide) (by decide) (κ := 26) (len := 10) ⟨rfl, rfl⟩).1]; decide) (by omega) (by rw [(sk_kx hT hB (o := 2) (by decide) (by decide) (κ := 26) (len := 10) ⟨rfl, rfl⟩).2]; omega) ?_
    rw [show H.1 (b + 2) l = (b + 17 + l) from hW.2.2.1 l l0 l9]
    refine q_gf (pc := 17) (m := 2020) (t := 0) (c := 2) rfl (sk_kl hT hB l0 l9).1 rfl rfl ?_
    rw [em]
    refine q_wm (pc := 18) rfl ?_
    refine q_il (pc := 19) (i := 5) (x := o) rfl rfl ?_
    refine q_wd (pc := 20) rfl (by omega) ?_
    refine q_ic (pc := 21) (v := 1) rfl ?_
    refine q_wa (pc := 22) rfl ?_
    refine q_ri (pc := 23) rfl ?_
    rw [show rsTk m o = (w32 ((w32 (Int.tdiv (w32 (12 * m)) o)) + 1)) from if_neg (by omega)] at hq
    exact hq
  · replace h9 : o < 1 := h9
    refine q_ic (pc := 10) (v := (-1)) rfl ?_
    refine q_go (pc := 11) rfl ?_
    refine q_ri (pc := 23) rfl ?_
    rw [show rsTk m o = (-1) from if_pos (by omega)] at hq
    exact hq
theorem ls_loses {dd : Nat} (hd : 3 ≤ dd) {H : xH} (hT : ttTI H) {b l k s w : Int} (hB : skB b) (hW : skW H.1 b) {v q c : Int} (ev : H.1 (b + 4) s = v) (ew : H.1 b 8 = q) (ec : H.1 (b + 17 + l) 4 = c) (l0 : 0 ≤ l) (l9 : l ≤ 9) (s0 : 0 ≤ s) (s5 : s ≤ 5) {m t z a : Int} (em : H.1 (b + 17 + l) 2 = m) (et : rsTk m (rsOv (rsThr v q w) c k) = t) (ez : H.1 (b + 5) s = z) (ea : H.1 (b + 17 + l) 3 = a) {Q : Int → xH → Prop} (hq : Q (if t = -1 then -2000000000 else rsLs z a t) H) : xCall dd 125 [(2, b), (0, l), (0, k), (0, s), (0, w)] H Q := by
  obtain ⟨e, rfl, he⟩ := ttRun0 (n := 2) hd
  have he : 2 ≤ e := he
  have hi := skB_in hB
  refine xC_of (L := [(2, b), (0, l), (0, k), (0, s), (0, w), (9, 0)]) (cd := cd_125) rfl rfl rfl ?_
  refine q_al (pc := 0) (i := 0) (x := b) rfl rfl ?_
  refine q_il (pc := 1) (i := 1) (x := l) rfl rfl ?_
  refine q_il (pc := 2) (i := 2) (x := k) rfl rfl ?_
  refine q_il (pc := 3) (i := 3) (x := s) rfl rfl ?_
  refine q_il (pc := 4) (i := 4) (x := w) rfl rfl ?_
  refine q_iv (pc := 5) (q := 992820) rfl rfl rfl (sk_kb hT hB).1 ?_
  refine ls_takes (by omega) hT hB hW ev ew ec l0 l9 s0 s5 em rfl ?_
  rw [et]
  refine q_is (pc := 6) (i := 5) (L' := [(2, b), (0, l), (0, k), (0, s), (0, w), (0, t)]) rfl rfl rfl ?_
  refine q_il (pc := 7) (i := 5) (x := t) rfl rfl ?_
  refine q_ic (pc := 8) (v := (-1)) rfl ?_
  refine q_i2 (pc := 9) rfl (fun h9 => ?_) (fun h9 => ?_)
  · replace h9 : t ≠ (-1) := h9
    refine q_ic (pc := 12) (v := 5) rfl ?_
    refine q_il (pc := 13) (i := 5) (x := t) rfl rfl ?_
    refine q_wm (pc := 14) rfl ?_
    refine q_al (pc := 15) (i := 0) (x := b) rfl rfl ?_
    refine q_gf (pc := 16) (m := 10022) (t := 2) (c := 2) rfl (sk_kb hT hB).1 rfl rfl ?_
    rw [show H.1 b 2 = (b + 3) from hW.1.2.2.1]
    refine q_gf (pc := 17) (m := 6022) (t := 2) (c := 2) rfl (sk_kx hT hB (o := 3) (by decide) (by decide) (κ := 6) (len := 0) ⟨rfl, rfl⟩).1 rfl rfl ?_
    rw [show H.1 (b + 3) 2 = (b + 5) from hW.2.2.2.1.2]
    refine q_il (pc := 18) (i := 3) (x := s) rfl rfl ?_
    refine q_ai (pc := 19) rfl (sk_kx hT hB (o := 5) (by decide) (by decide) (κ := 20) (len := 6) ⟨rfl, rfl⟩).1 (by omega) (by rw [(sk_kx hT hB (o := 5) (by decide) (by decide) (κ := 20) (len := 6) ⟨rfl, rfl⟩).2]; omega) ?_
    rw [ez]
    refine q_al (pc := 20) (i := 0) (x := b) rfl rfl ?_
    refine q_gf (pc := 21) (m := 10012) (t := 2) (c := 1) rfl (sk_kb hT hB).1 rfl rfl ?_
    rw [show H.1 b 1 = (b + 2) from hW.1.2.1]
    refine q_il (pc := 22) (i := 1) (x := l) rfl rfl ?_
    refine q_aa (pc := 23) rfl (by rw [(sk_kx hT hB (o := 2) (by decide) (by decide) (κ := 26) (len := 10) ⟨rfl, rfl⟩).1]; decide) (by omega) (by rw [(sk_kx hT hB (o := 2) (by decide) (by decide) (κ := 26) (len := 10) ⟨rfl, rfl⟩).2]; omega) ?_
    rw [show H.1 (b + 2) l = (b + 17 + l) from hW.2.2.1 l l0 l9]
    refine q_gf (pc := 24) (m := 2030) (t := 0) (c := 3) rfl (sk_kl hT hB l0 l9).1 rfl rfl ?_
    rw [ea]
    refine q_wb (pc := 25) rfl ?_
    refine q_wm (pc := 26) rfl ?_
    refine q_ic (pc := 27) (v := 100) rfl ?_
    refine q_wd (pc := 28) rfl (by decide) ?_
    refine q_ri (pc := 29) rfl ?_
    rw [if_neg h9] at hq
    exact hq
  · replace h9 : t = (-1) := h9
    refine q_ic (pc := 10) (v := (-2000000000)) rfl ?_
    refine q_go (pc := 11) rfl ?_
    refine q_ri (pc := 29) rfl ?_
    rw [if_pos h9] at hq
    exact hq
theorem lx_per1 {dd : Nat} (hd : 4 ≤ dd) {H : xH} (hT : ttTI H) {b l k s w : Int} (hB : skB b) (hW : skW H.1 b) (h5 : H.1 1 5 = b) {S : tSa} {R : Int → Int} {h : Int} (hR : skR H.1 b (S, R, h)) {Q : Int → xH → Prop} (hq : Q (rsPer R l k s w) H) : xCall dd 139 [(2, 1), (0, l), (0, k), (0, s), (0, w)] H Q := by
  obtain ⟨e, rfl, he⟩ := ttRun0 (n := 3) hd
  have he : 3 ≤ e := he
  have hi := skB_in hB
  refine xC_of (L := [(2, 1), (0, l), (0, k), (0, s), (0, w)]) (cd := cd_139) rfl rfl rfl ?_
  have t3 := skR_t (T := (fun _ => 0, fun _ => 0, fun _ => 0, fun _ => 0, 0)) hT hB hR
  have t2 : R 2 ≤ 10 := t3.2.1.2
  have t6 : R 3 ≤ 6 := t3.2.2.2
  have e2 : H.1 b 5 = R 2 := skA_i hR.1 (j := 5) (i := 2) (by decide)
  have e3 : H.1 (b + 3) 0 = R 3 := hR.2.2.2.1.1
  have e6 : H.1 b 8 = R 6 := skA_i hR.1 (j := 8) (i := 6) (by decide)
  have hl : ∀ c : Int, 0 ≤ l → l < R 2 → 0 ≤ c → c ≤ 5 → H.1 (b + 17 + l) c = R (84 + 6 * l + c) := fun c l0 l1 c0 c1 => hR.2.2.1.1 l c l0 l1 (by omega) c0 c1
  have hs : 0 ≤ s → s < R 3 → H.1 (b + 4) s = R (144 + 2 * s) ∧ H.1 (b + 5) s = R (144 + 2 * s + 1) := fun s0 s1 => hR.2.2.2.1.2 s s0 s1
  refine q_al (pc := 0) (i := 0) (x := 1) rfl rfl ?_
  refine q_gf (pc := 1) (m := 11052) (t := 2) (c := 5) rfl (ttKc hT (a := 1) (κ := 11) (len := 0) ⟨rfl, rfl⟩ (by decide) (by decide)).1 rfl rfl ?_
  rw [show H.1 1 5 = b from h5]
  refine q_il (pc := 2) (i := 1) (x := l) rfl rfl ?_
  refine q_iv (pc := 3) (q := 912808) rfl rfl rfl (sk_kb hT hB).1 ?_
  refine ls_leg (k := k) (s := s) (w := w) (by omega) hT hB hW e2 (fun hp3 => ?_) (fun hp3 => ?_)
  · skip
    refine q_if (pc := 4) rfl (fun h4 => ?_) (fun h4 => ?_)
    · replace h4 : (1 : Int) = 0 := h4
      omega
    · replace h4 : (1 : Int) ≠ 0 := h4
      refine q_al (pc := 5) (i := 0) (x := 1) rfl rfl ?_
      refine q_gf (pc := 6) (m := 11052) (t := 2) (c := 5) rfl (ttKc hT (a := 1) (κ := 11) (len := 0) ⟨rfl, rfl⟩ (by decide) (by decide)).1 rfl rfl ?_
      rw [show H.1 1 5 = b from h5]
      refine q_il (pc := 7) (i := 3) (x := s) rfl rfl ?_
      refine q_iv (pc := 8) (q := 920808) rfl rfl rfl (sk_kb hT hB).1 ?_
      refine ls_spd (l := l) (k := k) (w := w) (by omega) hT hB hW e3 (fun hp8 => ?_) (fun hp8 => ?_)
      · skip
        refine q_if (pc := 9) rfl (fun h9 => ?_) (fun h9 => ?_)
        · replace h9 : (1 : Int) ≠ 0 := h9
          refine q_al (pc := 12) (i := 0) (x := 1) rfl rfl ?_
          refine q_gf (pc := 13) (m := 11052) (t := 2) (c := 5) rfl (ttKc hT (a := 1) (κ := 11) (len := 0) ⟨rfl, rfl⟩ (by decide) (by decide)).1 rfl rfl ?_
          rw [show H.1 1 5 = b from h5]
          refine q_il (pc := 14) (i := 1) (x := l) rfl rfl ?_
          refine q_il (pc := 15) (i := 2) (x := k) rfl rfl ?_
          refine q_il (pc := 16) (i := 3) (x := s) rfl rfl ?_
          refine q_il (pc := 17) (i := 4) (x := w) rfl rfl ?_
          refine q_iv (pc := 18) (q := 992820) rfl rfl rfl (sk_kb hT hB).1 ?_
          refine ls_takes (by omega) hT hB hW (hs hp8.1 hp8.2).1 e6 (hl 4 hp3.1 hp3.2 (by decide) (by decide)) hp3.1 (by omega) hp8.1 (by omega) (hl 2 hp3.1 hp3.2 (by decide) (by decide)) rfl ?_
          refine q_ri (pc := 19) rfl ?_
          rw [show rsPer R l k s w = _ from if_pos ⟨hp3, hp8⟩] at hq
          exact hq
        · replace h9 : (1 : Int) = 0 := h9
          omega
      · skip
        refine q_if (pc := 9) rfl (fun h9 => ?_) (fun h9 => ?_)
        · replace h9 : (0 : Int) ≠ 0 := h9
          omega
        · replace h9 : (0 : Int) = 0 := h9
          refine q_ic (pc := 10) (v := (-2)) rfl ?_
          refine q_ri (pc := 11) rfl ?_
          rw [show rsPer R l k s w = (-2) from if_neg (fun z => hp8 z.2)] at hq
          exact hq
  · skip
    refine q_if (pc := 4) rfl (fun h4 => ?_) (fun h4 => ?_)
    · replace h4 : (0 : Int) = 0 := h4
      refine q_ic (pc := 10) (v := (-2)) rfl ?_
      refine q_ri (pc := 11) rfl ?_
      rw [show rsPer R l k s w = (-2) from if_neg (fun z => hp3 z.1)] at hq
      exact hq
    · replace h4 : (0 : Int) ≠ 0 := h4
      omega
theorem lx_los1 {dd : Nat} (hd : 5 ≤ dd) {H : xH} (hT : ttTI H) {b l k s w : Int} (hB : skB b) (hW : skW H.1 b) (h5 : H.1 1 5 = b) {S : tSa} {R : Int → Int} {h : Int} (hR : skR H.1 b (S, R, h)) {Q : Int → xH → Prop} (hq : Q (rsLos R l k s w) H) : xCall dd 140 [(2, 1), (0, l), (0, k), (0, s), (0, w)] H Q := by
  obtain ⟨e, rfl, he⟩ := ttRun0 (n := 4) hd
  have he : 4 ≤ e := he
  have hi := skB_in hB
  refine xC_of (L := [(2, 1), (0, l), (0, k), (0, s), (0, w)]) (cd := cd_140) rfl rfl rfl ?_
  have t3 := skR_t (T := (fun _ => 0, fun _ => 0, fun _ => 0, fun _ => 0, 0)) hT hB hR
  have t2 : R 2 ≤ 10 := t3.2.1.2
  have t6 : R 3 ≤ 6 := t3.2.2.2
  have e2 : H.1 b 5 = R 2 := skA_i hR.1 (j := 5) (i := 2) (by decide)
  have e3 : H.1 (b + 3) 0 = R 3 := hR.2.2.2.1.1
  have e6 : H.1 b 8 = R 6 := skA_i hR.1 (j := 8) (i := 6) (by decide)
  have hl : ∀ c : Int, 0 ≤ l → l < R 2 → 0 ≤ c → c ≤ 5 → H.1 (b + 17 + l) c = R (84 + 6 * l + c) := fun c l0 l1 c0 c1 => hR.2.2.1.1 l c l0 l1 (by omega) c0 c1
  have hs : 0 ≤ s → s < R 3 → H.1 (b + 4) s = R (144 + 2 * s) ∧ H.1 (b + 5) s = R (144 + 2 * s + 1) := fun s0 s1 => hR.2.2.2.1.2 s s0 s1
  refine q_al (pc := 0) (i := 0) (x := 1) rfl rfl ?_
  refine q_gf (pc := 1) (m := 11052) (t := 2) (c := 5) rfl (ttKc hT (a := 1) (κ := 11) (len := 0) ⟨rfl, rfl⟩ (by decide) (by decide)).1 rfl rfl ?_
  rw [show H.1 1 5 = b from h5]
  refine q_il (pc := 2) (i := 1) (x := l) rfl rfl ?_
  refine q_iv (pc := 3) (q := 912808) rfl rfl rfl (sk_kb hT hB).1 ?_
  refine ls_leg (k := k) (s := s) (w := w) (by omega) hT hB hW e2 (fun hp3 => ?_) (fun hp3 => ?_)
  · skip
    refine q_if (pc := 4) rfl (fun h4 => ?_) (fun h4 => ?_)
    · replace h4 : (1 : Int) = 0 := h4
      omega
    · replace h4 : (1 : Int) ≠ 0 := h4
      refine q_al (pc := 5) (i := 0) (x := 1) rfl rfl ?_
      refine q_gf (pc := 6) (m := 11052) (t := 2) (c := 5) rfl (ttKc hT (a := 1) (κ := 11) (len := 0) ⟨rfl, rfl⟩ (by decide) (by decide)).1 rfl rfl ?_
      rw [show H.1 1 5 = b from h5]
      refine q_il (pc := 7) (i := 3) (x := s) rfl rfl ?_
      refine q_iv (pc := 8) (q := 920808) rfl rfl rfl (sk_kb hT hB).1 ?_
      refine ls_spd (l := l) (k := k) (w := w) (by omega) hT hB hW e3 (fun hp8 => ?_) (fun hp8 => ?_)
      · skip
        refine q_if (pc := 9) rfl (fun h9 => ?_) (fun h9 => ?_)
        · replace h9 : (1 : Int) ≠ 0 := h9
          refine q_al (pc := 12) (i := 0) (x := 1) rfl rfl ?_
          refine q_gf (pc := 13) (m := 11052) (t := 2) (c := 5) rfl (ttKc hT (a := 1) (κ := 11) (len := 0) ⟨rfl, rfl⟩ (by decide) (by decide)).1 rfl rfl ?_
          rw [show H.1 1 5 = b from h5]
          refine q_il (pc := 14) (i := 1) (x := l) rfl rfl ?_
          refine q_il (pc := 15) (i := 2) (x := k) rfl rfl ?_
          refine q_il (pc := 16) (i := 3) (x := s) rfl rfl ?_
          refine q_il (pc := 17) (i := 4) (x := w) rfl rfl ?_
          refine q_iv (pc := 18) (q := 1000820) rfl rfl rfl (sk_kb hT hB).1 ?_
          refine ls_loses (by omega) hT hB hW (hs hp8.1 hp8.2).1 e6 (hl 4 hp3.1 hp3.2 (by decide) (by decide)) hp3.1 (by omega) hp8.1 (by omega) (hl 2 hp3.1 hp3.2 (by decide) (by decide)) rfl (hs hp8.1 hp8.2).2 (hl 3 hp3.1 hp3.2 (by decide) (by decide)) ?_
          refine q_ri (pc := 19) rfl ?_
          rw [show rsLos R l k s w = _ from if_pos ⟨hp3, hp8⟩] at hq
          exact hq
        · replace h9 : (1 : Int) = 0 := h9
          omega
      · skip
        refine q_if (pc := 9) rfl (fun h9 => ?_) (fun h9 => ?_)
        · replace h9 : (0 : Int) ≠ 0 := h9
          omega
        · replace h9 : (0 : Int) = 0 := h9
          refine q_ic (pc := 10) (v := (-2000000000)) rfl ?_
          refine q_ri (pc := 11) rfl ?_
          rw [show rsLos R l k s w = (-2000000000) from if_neg (fun z => hp8 z.2)] at hq
          exact hq
  · skip
    refine q_if (pc := 4) rfl (fun h4 => ?_) (fun h4 => ?_)
    · replace h4 : (0 : Int) = 0 := h4
      refine q_ic (pc := 10) (v := (-2000000000)) rfl ?_
      refine q_ri (pc := 11) rfl ?_
      rw [show rsLos R l k s w = (-2000000000) from if_neg (fun z => hp3 z.1)] at hq
      exact hq
    · replace h4 : (0 : Int) ≠ 0 := h4
      omega
theorem l2_leg {dd : Nat} (hd : 2 ≤ dd) {H : xH} (hT : ttTI H) {l k s w : Int} {Q : Int → xH → Prop} (hy : 0 ≤ l ∧ l < H.1 184 2 → Q 1 H) (hn : ¬ (0 ≤ l ∧ l < H.1 184 2) → Q 0 H) : xCall dd 234 [(2, 183), (0, l)] H Q := by
  obtain ⟨e, rfl, he⟩ := ttRun0 (n := 1) hd
  have he : 1 ≤ e := he
  have w2 : 0 ≤ H.1 184 2 ∧ H.1 184 2 ≤ 10 := ttMc hT (a := 184) (j := 2) (by decide) (by decide) (by decide) (by decide)
  have w3 : 0 ≤ H.1 184 3 ∧ H.1 184 3 ≤ 6 := ttMc hT (a := 184) (j := 3) (by decide) (by decide) (by decide) (by decide)
  refine xC_of (L := [(2, 183), (0, l)]) (cd := cd_234) rfl rfl rfl ?_
  refine q_il (pc := 0) (i := 1) (x := l) rfl rfl ?_
  refine q_2l (pc := 1) rfl ?_
  refine q_lc (pc := 2) (v := 0) rfl ?_
  refine q_al (pc := 3) (i := 0) (x := 183) rfl rfl ?_
  refine q_gf (pc := 4) (m := 12012) (t := 2) (c := 1) rfl (ttKc hT (a := 183) (κ := 12) (len := 0) ⟨rfl, rfl⟩ (by decide) (by decide)).1 rfl rfl ?_
  rw [show H.1 183 1 = 184 from ttFx hT (by decide) (by decide) rfl rfl rfl]
  refine q_ic (pc := 5) (v := 2) rfl ?_
  refine q_ai (pc := 6) rfl (ttKc hT (a := 184) (κ := 20) (len := 196) ⟨rfl, rfl⟩ (by decide) (by decide)).1 (by omega) (by rw [(ttKc hT (a := 184) (κ := 20) (len := 196) ⟨rfl, rfl⟩ (by decide) (by decide)).2]; omega) ?_
  refine q_ic (pc := 7) (v := 1) rfl ?_
  refine q_ib (pc := 8) rfl (by omega) (by omega) ?_
  refine q_2l (pc := 9) rfl ?_
  refine q_ij (pc := 10) (q := 1615932) rfl rfl rfl trivial ?_
  refine lf_in (by omega) (fun jn10 => ?_) (fun jn10 => ?_)
  · skip
    refine q_rz (pc := 11) rfl (by omega) ?_
    exact hy ⟨by omega, by omega⟩
  · skip
    refine q_rz (pc := 11) rfl (by omega) ?_
    exact hn (fun z => by omega)
theorem l2_spd {dd : Nat} (hd : 2 ≤ dd) {H : xH} (hT : ttTI H) {l k s w : Int} {Q : Int → xH → Prop} (hy : 0 ≤ s ∧ s < H.1 184 3 → Q 1 H) (hn : ¬ (0 ≤ s ∧ s < H.1 184 3) → Q 0 H) : xCall dd 235 [(2, 183), (0, s)] H Q := by
  obtain ⟨e, rfl, he⟩ := ttRun0 (n := 1) hd
  have he : 1 ≤ e := he
  have w2 : 0 ≤ H.1 184 2 ∧ H.1 184 2 ≤ 10 := ttMc hT (a := 184) (j := 2) (by decide) (by decide) (by decide) (by decide)
  have w3 : 0 ≤ H.1 184 3 ∧ H.1 184 3 ≤ 6 := ttMc hT (a := 184) (j := 3) (by decide) (by decide) (by decide) (by decide)
  refine xC_of (L := [(2, 183), (0, s)]) (cd := cd_235) rfl rfl rfl ?_
  refine q_il (pc := 0) (i := 1) (x := s) rfl rfl ?_
  refine q_2l (pc := 1) rfl ?_
  refine q_lc (pc := 2) (v := 0) rfl ?_
  refine q_al (pc := 3) (i := 0) (x := 183) rfl rfl ?_
  refine q_gf (pc := 4) (m := 12012) (t := 2) (c := 1) rfl (ttKc hT (a := 183) (κ := 12) (len := 0) ⟨rfl, rfl⟩ (by decide) (by decide)).1 rfl rfl ?_
  rw [show H.1 183 1 = 184 from ttFx hT (by decide) (by decide) rfl rfl rfl]
  refine q_ic (pc := 5) (v := 3) rfl ?_
  refine q_ai (pc := 6) rfl (ttKc hT (a := 184) (κ := 20) (len := 196) ⟨rfl, rfl⟩ (by decide) (by decide)).1 (by omega) (by rw [(ttKc hT (a := 184) (κ := 20) (len := 196) ⟨rfl, rfl⟩ (by decide) (by decide)).2]; omega) ?_
  refine q_ic (pc := 7) (v := 1) rfl ?_
  refine q_ib (pc := 8) rfl (by omega) (by omega) ?_
  refine q_2l (pc := 9) rfl ?_
  refine q_ij (pc := 10) (q := 1615932) rfl rfl rfl trivial ?_
  refine lf_in (by omega) (fun jn10 => ?_) (fun jn10 => ?_)
  · skip
    refine q_rz (pc := 11) rfl (by omega) ?_
    exact hy ⟨by omega, by omega⟩
  · skip
    refine q_rz (pc := 11) rfl (by omega) ?_
    exact hn (fun z => by omega)
theorem l2_of {dd : Nat} (hd : 1 ≤ dd) {H : xH} (hT : ttTI H) {l k s w : Int} {j : Int} (l0 : 0 ≤ l) (l9 : l ≤ 9) (ujj0 : 0 ≤ j) (ujj5 : j ≤ 5) {Q : Int → xH → Prop} (hq : Q (H.1 184 (84 + 6 * l + j)) H) : xCall dd 209 [(2, 183), (0, l), (0, j)] H Q := by
  obtain ⟨e, rfl, he⟩ := ttRun0 (n := 0) hd
  have he : 0 ≤ e := he
  have w2 : 0 ≤ H.1 184 2 ∧ H.1 184 2 ≤ 10 := ttMc hT (a := 184) (j := 2) (by decide) (by decide) (by decide) (by decide)
  have w3 : 0 ≤ H.1 184 3 ∧ H.1 184 3 ≤ 6 := ttMc hT (a := 184) (j := 3) (by decide) (by decide) (by decide) (by decide)
  refine xC_of (L := [(2, 183), (0, l), (0, j)]) (cd := cd_209) rfl rfl rfl ?_
  refine q_al (pc := 0) (i := 0) (x := 183) rfl rfl ?_
  refine q_gf (pc := 1) (m := 12012) (t := 2) (c := 1) rfl (ttKc hT (a := 183) (κ := 12) (len := 0) ⟨rfl, rfl⟩ (by decide) (by decide)).1 rfl rfl ?_
  rw [show H.1 183 1 = 184 from ttFx hT (by decide) (by decide) rfl rfl rfl]
  refine q_ic (pc := 2) (v := 84) rfl ?_
  refine q_ic (pc := 3) (v := 6) rfl ?_
  refine q_il (pc := 4) (i := 1) (x := l) rfl rfl ?_
  refine q_im (pc := 5) rfl (by omega) (by omega) ?_
  refine q_ia (pc := 6) rfl (by omega) (by omega) ?_
  refine q_il (pc := 7) (i := 2) (x := j) rfl rfl ?_
  refine q_ia (pc := 8) rfl (by omega) (by omega) ?_
  refine q_ai (pc := 9) rfl (ttKc hT (a := 184) (κ := 20) (len := 196) ⟨rfl, rfl⟩ (by decide) (by decide)).1 (by omega) (by rw [(ttKc hT (a := 184) (κ := 20) (len := 196) ⟨rfl, rfl⟩ (by decide) (by decide)).2]; omega) ?_
  refine q_ri (pc := 10) rfl ?_
  exact hq
theorem l2_per {dd : Nat} (hd : 2 ≤ dd) {H : xH} (hT : ttTI H) {l k s w : Int} (l0 : 0 ≤ l) (l9 : l ≤ 9) (s0 : 0 ≤ s) (s5 : s ≤ 5) {Q : Int → xH → Prop} (hq : Q (rsT (H.1 184) l k s w) H) : xCall dd 236 [(2, 183), (0, l), (0, k), (0, s), (0, w)] H Q := by
  obtain ⟨e, rfl, he⟩ := ttRun0 (n := 1) hd
  have he : 1 ≤ e := he
  have w2 : 0 ≤ H.1 184 2 ∧ H.1 184 2 ≤ 10 := ttMc hT (a := 184) (j := 2) (by decide) (by decide) (by decide) (by decide)
  have w3 : 0 ≤ H.1 184 3 ∧ H.1 184 3 ≤ 6 := ttMc hT (a := 184) (j := 3) (by decide) (by decide) (by decide) (by decide)
  refine xC_of (L := [(2, 183), (0, l), (0, k), (0, s), (0, w), (9, 0), (9, 0)]) (cd := cd_236) rfl rfl rfl ?_
  have ev : ∀ x : Int, x = H.1 184 (144 + 2 * s) → -2147483648 ≤ x ∧ x ≤ 2147483647 := fun x hx => by
    have z := ttMc hT (a := 184) (j := 144 + 2 * s) (by decide) (by decide) (by omega) (by show 144 + 2 * s < 196; omega)
    rw [show ttRo 184 = 184 from rfl, ty_sp s0 s5] at z
    have z : 0 ≤ H.1 184 (144 + 2 * s) ∧ H.1 184 (144 + 2 * s) ≤ 150 := z
    omega
  obtain ⟨v, jv⟩ : ∃ v, v = H.1 184 (144 + 2 * s) := ⟨_, rfl⟩
  obtain ⟨q, jq⟩ : ∃ q, q = H.1 184 6 := ⟨_, rfl⟩
  have vb := ev v jv
  refine q_al (pc := 0) (i := 0) (x := 183) rfl rfl ?_
  refine q_gf (pc := 1) (m := 12012) (t := 2) (c := 1) rfl (ttKc hT (a := 183) (κ := 12) (len := 0) ⟨rfl, rfl⟩ (by decide) (by decide)).1 rfl rfl ?_
  rw [show H.1 183 1 = 184 from ttFx hT (by decide) (by decide) rfl rfl rfl]
  refine q_ic (pc := 2) (v := 144) rfl ?_
  refine q_ic (pc := 3) (v := 2) rfl ?_
  refine q_il (pc := 4) (i := 3) (x := s) rfl rfl ?_
  refine q_im (pc := 5) rfl (by omega) (by omega) ?_
  refine q_ia (pc := 6) rfl (by omega) (by omega) ?_
  refine q_ai (pc := 7) rfl (ttKc hT (a := 184) (κ := 20) (len := 196) ⟨rfl, rfl⟩ (by decide) (by decide)).1 (by omega) (by rw [(ttKc hT (a := 184) (κ := 20) (len := 196) ⟨rfl, rfl⟩ (by decide) (by decide)).2]; omega) ?_
  rw [show H.1 184 (144 + (2 * s)) = v from jv.symm]
  refine q_is (pc := 8) (i := 5) (L' := [(2, 183), (0, l), (0, k), (0, s), (0, w), (0, v), (9, 0)]) rfl rfl rfl ?_
  refine q_il (pc := 9) (i := 5) (x := v) rfl rfl ?_
  refine q_il (pc := 10) (i := 4) (x := w) rfl rfl ?_
  refine q_if (pc := 11) rfl (fun h11 => ?_) (fun h11 => ?_)
  · replace h11 : w = 0 := h11
    refine q_ic (pc := 21) (v := 0) rfl ?_
    refine q_wa (pc := 22) rfl ?_
    rw [w32_0 vb.1 vb.2]
    have et : rsThr v q w = v := if_pos h11
    refine q_il (pc := 23) (i := 2) (x := k) rfl rfl ?_
    refine q_if (pc := 24) rfl (fun h24 => ?_) (fun h24 => ?_)
    · replace h24 : k = 0 := h24
      refine q_al (pc := 31) (i := 0) (x := 183) rfl rfl ?_
      refine q_il (pc := 32) (i := 1) (x := l) rfl rfl ?_
      refine q_ic (pc := 33) (v := 4) rfl ?_
      refine q_iv (pc := 34) (q := 1672972) rfl rfl rfl (ttKc hT (a := 183) (κ := 12) (len := 0) ⟨rfl, rfl⟩ (by decide) (by decide)).1 ?_
      refine l2_of (k := k) (s := s) (w := w) (by omega) hT l0 l9 (by decide) (by decide) ?_
      obtain ⟨c, jc⟩ : ∃ x, x = H.1 184 (84 + 6 * l + 4) := ⟨_, rfl⟩
      rw [show H.1 184 (84 + 6 * l + 4) = c from jc.symm]
      refine q_wa (pc := 35) rfl ?_
      obtain ⟨o, jo⟩ : ∃ o, o = (w32 (v + c)) := ⟨_, rfl⟩
      have eo : rsO (H.1 184) l k s w = o := by
        show rsOv (rsThr (H.1 184 (144 + 2 * s)) (H.1 184 6) w) (H.1 184 (84 + 6 * l + 4)) k = o
        rw [← jv, ← jq, ← jc, et, jo]
        exact if_pos h24
      rw [← jo]
      refine q_is (pc := 36) (i := 6) (L' := [(2, 183), (0, l), (0, k), (0, s), (0, w), (0, v), (0, o)]) rfl rfl rfl ?_
      refine q_il (pc := 37) (i := 6) (x := o) rfl rfl ?_
      refine q_ic (pc := 38) (v := 1) rfl ?_
      refine q_i2 (pc := 39) rfl (fun h39 => ?_) (fun h39 => ?_)
      · replace h39 : 1 ≤ o := h39
        refine q_ic (pc := 42) (v := 12) rfl ?_
        refine q_al (pc := 43) (i := 0) (x := 183) rfl rfl ?_
        refine q_il (pc := 44) (i := 1) (x := l) rfl rfl ?_
        refine q_ic (pc := 45) (v := 2) rfl ?_
        refine q_iv (pc := 46) (q := 1672972) rfl rfl rfl (ttKc hT (a := 183) (κ := 12) (len := 0) ⟨rfl, rfl⟩ (by decide) (by decide)).1 ?_
        refine l2_of (k := k) (s := s) (w := w) (by omega) hT l0 l9 (by decide) (by decide) ?_
        obtain ⟨m, jm⟩ : ∃ x, x = H.1 184 (84 + 6 * l + 2) := ⟨_, rfl⟩
        rw [show H.1 184 (84 + 6 * l + 2) = m from jm.symm]
        refine q_wm (pc := 47) rfl ?_
        refine q_il (pc := 48) (i := 6) (x := o) rfl rfl ?_
        refine q_wd (pc := 49) rfl (by omega) ?_
        refine q_ic (pc := 50) (v := 1) rfl ?_
        refine q_wa (pc := 51) rfl ?_
        refine q_ri (pc := 52) rfl ?_
        rw [show rsT (H.1 184) l k s w = (w32 ((w32 (Int.tdiv (w32 (12 * m)) o)) + 1)) from by
          unfold rsT rsTk
          rw [eo, if_neg (show ¬ o < 1 by omega), ← jm]] at hq
        exact hq
      · replace h39 : o < 1 := h39
        refine q_ic (pc := 40) (v := (-1)) rfl ?_
        refine q_go (pc := 41) rfl ?_
        refine q_ri (pc := 52) rfl ?_
        rw [show rsT (H.1 184) l k s w = -1 from if_pos (by rw [eo]; omega)] at hq
        exact hq
    · replace h24 : k ≠ 0 := h24
      refine q_al (pc := 25) (i := 0) (x := 183) rfl rfl ?_
      refine q_il (pc := 26) (i := 1) (x := l) rfl rfl ?_
      refine q_ic (pc := 27) (v := 4) rfl ?_
      refine q_iv (pc := 28) (q := 1672972) rfl rfl rfl (ttKc hT (a := 183) (κ := 12) (len := 0) ⟨rfl, rfl⟩ (by decide) (by decide)).1 ?_
      refine l2_of (k := k) (s := s) (w := w) (by omega) hT l0 l9 (by decide) (by decide) ?_
      obtain ⟨c, jc⟩ : ∃ x, x = H.1 184 (84 + 6 * l + 4) := ⟨_, rfl⟩
      rw [show H.1 184 (84 + 6 * l + 4) = c from jc.symm]
      refine q_in (pc := 29) rfl ?_
      refine q_go (pc := 30) rfl ?_
      refine q_wa (pc := 35) rfl ?_
      rw [w32_n]
      obtain ⟨o, jo⟩ : ∃ o, o = (w32 (v - c)) := ⟨_, rfl⟩
      have eo : rsO (H.1 184) l k s w = o := by
        show rsOv (rsThr (H.1 184 (144 + 2 * s)) (H.1 184 6) w) (H.1 184 (84 + 6 * l + 4)) k = o
        rw [← jv, ← jq, ← jc, et, jo]
        exact if_neg h24
      rw [← jo]
      refine q_is (pc := 36) (i := 6) (L' := [(2, 183), (0, l), (0, k), (0, s), (0, w), (0, v), (0, o)]) rfl rfl rfl ?_
      refine q_il (pc := 37) (i := 6) (x := o) rfl rfl ?_
      refine q_ic (pc := 38) (v := 1) rfl ?_
      refine q_i2 (pc := 39) rfl (fun h39 => ?_) (fun h39 => ?_)
      · replace h39 : 1 ≤ o := h39
        refine q_ic (pc := 42) (v := 12) rfl ?_
        refine q_al (pc := 43) (i := 0) (x := 183) rfl rfl ?_
        refine q_il (pc := 44) (i := 1) (x := l) rfl rfl ?_
        refine q_ic (pc := 45) (v := 2) rfl ?_
        refine q_iv (pc := 46) (q := 1672972) rfl rfl rfl (ttKc hT (a := 183) (κ := 12) (len := 0) ⟨rfl, rfl⟩ (by decide) (by decide)).1 ?_
        refine l2_of (k := k) (s := s) (w := w) (by omega) hT l0 l9 (by decide) (by decide) ?_
        obtain ⟨m, jm⟩ : ∃ x, x = H.1 184 (84 + 6 * l + 2) := ⟨_, rfl⟩
        rw [show H.1 184 (84 + 6 * l + 2) = m from jm.symm]
        refine q_wm (pc := 47) rfl ?_
        refine q_il (pc := 48) (i := 6) (x := o) rfl rfl ?_
        refine q_wd (pc := 49) rfl (by omega) ?_
        refine q_ic (pc := 50) (v := 1) rfl ?_
        refine q_wa (pc := 51) rfl ?_
        refine q_ri (pc := 52) rfl ?_
        rw [show rsT (H.1 184) l k s w = (w32 ((w32 (Int.tdiv (w32 (12 * m)) o)) + 1)) from by
          unfold rsT rsTk
          rw [eo, if_neg (show ¬ o < 1 by omega), ← jm]] at hq
        exact hq
      · replace h39 : o < 1 := h39
        refine q_ic (pc := 40) (v := (-1)) rfl ?_
        refine q_go (pc := 41) rfl ?_
        refine q_ri (pc := 52) rfl ?_
        rw [show rsT (H.1 184) l k s w = -1 from if_pos (by rw [eo]; omega)] at hq
        exact hq
  · replace h11 : w ≠ 0 := h11
    refine q_il (pc := 12) (i := 5) (x := v) rfl rfl ?_
    refine q_al (pc := 13) (i := 0) (x := 183) rfl rfl ?_
    refine q_gf (pc := 14) (m := 12012) (t := 2) (c := 1) rfl (ttKc hT (a := 183) (κ := 12) (len := 0) ⟨rfl, rfl⟩ (by decide) (by decide)).1 rfl rfl ?_
    rw [show H.1 183 1 = 184 from ttFx hT (by decide) (by decide) rfl rfl rfl]
    refine q_ic (pc := 15) (v := 6) rfl ?_
    refine q_ai (pc := 16) rfl (ttKc hT (a := 184) (κ := 20) (len := 196) ⟨rfl, rfl⟩ (by decide) (by decide)).1 (by omega) (by rw [(ttKc hT (a := 184) (κ := 20) (len := 196) ⟨rfl, rfl⟩ (by decide) (by decide)).2]; omega) ?_
    rw [show H.1 184 6 = q from jq.symm]
    refine q_wm (pc := 17) rfl ?_
    refine q_ic (pc := 18) (v := 100) rfl ?_
    refine q_wd (pc := 19) rfl (by decide) ?_
    refine q_go (pc := 20) rfl ?_
    refine q_wa (pc := 22) rfl ?_
    have et : rsThr v q w = (w32 (v + (w32 (Int.tdiv (w32 (v * q)) 100)))) := if_neg h11
    refine q_il (pc := 23) (i := 2) (x := k) rfl rfl ?_
    refine q_if (pc := 24) rfl (fun h24 => ?_) (fun h24 => ?_)
    · replace h24 : k = 0 := h24
      refine q_al (pc := 31) (i := 0) (x := 183) rfl rfl ?_
      refine q_il (pc := 32) (i := 1) (x := l) rfl rfl ?_
      refine q_ic (pc := 33) (v := 4) rfl ?_
      refine q_iv (pc := 34) (q := 1672972) rfl rfl rfl (ttKc hT (a := 183) (κ := 12) (len := 0) ⟨rfl, rfl⟩ (by decide) (by decide)).1 ?_
      refine l2_of (k := k) (s := s) (w := w) (by omega) hT l0 l9 (by decide) (by decide) ?_
      obtain ⟨c, jc⟩ : ∃ x, x = H.1 184 (84 + 6 * l + 4) := ⟨_, rfl⟩
      rw [show H.1 184 (84 + 6 * l + 4) = c from jc.symm]
      refine q_wa (pc := 35) rfl ?_
      obtain ⟨o, jo⟩ : ∃ o, o = (w32 ((w32 (v + (w32 (Int.tdiv (w32 (v * q)) 100)))) + c)) := ⟨_, rfl⟩
      have eo : rsO (H.1 184) l k s w = o := by
        show rsOv (rsThr (H.1 184 (144 + 2 * s)) (H.1 184 6) w) (H.1 184 (84 + 6 * l + 4)) k = o
        rw [← jv, ← jq, ← jc, et, jo]
        exact if_pos h24
      rw [← jo]
      refine q_is (pc := 36) (i := 6) (L' := [(2, 183), (0, l), (0, k), (0, s), (0, w), (0, v), (0, o)]) rfl rfl rfl ?_
      refine q_il (pc := 37) (i := 6) (x := o) rfl rfl ?_
      refine q_ic (pc := 38) (v := 1) rfl ?_
      refine q_i2 (pc := 39) rfl (fun h39 => ?_) (fun h39 => ?_)
      · replace h39 : 1 ≤ o := h39
        refine q_ic (pc := 42) (v := 12) rfl ?_
        refine q_al (pc := 43) (i := 0) (x := 183) rfl rfl ?_
        refine q_il (pc := 44) (i := 1) (x := l) rfl rfl ?_
        refine q_ic (pc := 45) (v := 2) rfl ?_
        refine q_iv (pc := 46) (q := 1672972) rfl rfl rfl (ttKc hT (a := 183) (κ := 12) (len := 0) ⟨rfl, rfl⟩ (by decide) (by decide)).1 ?_
        refine l2_of (k := k) (s := s) (w := w) (by omega) hT l0 l9 (by decide) (by decide) ?_
        obtain ⟨m, jm⟩ : ∃ x, x = H.1 184 (84 + 6 * l + 2) := ⟨_, rfl⟩
        rw [show H.1 184 (84 + 6 * l + 2) = m from jm.symm]
        refine q_wm (pc := 47) rfl ?_
        refine q_il (pc := 48) (i := 6) (x := o) rfl rfl ?_
        refine q_wd (pc := 49) rfl (by omega) ?_
        refine q_ic (pc := 50) (v := 1) rfl ?_
        refine q_wa (pc := 51) rfl ?_
        refine q_ri (pc := 52) rfl ?_
        rw [show rsT (H.1 184) l k s w = (w32 ((w32 (Int.tdiv (w32 (12 * m)) o)) + 1)) from by
          unfold rsT rsTk
          rw [eo, if_neg (show ¬ o < 1 by omega), ← jm]] at hq
        exact hq
      · replace h39 : o < 1 := h39
        refine q_ic (pc := 40) (v := (-1)) rfl ?_
        refine q_go (pc := 41) rfl ?_
        refine q_ri (pc := 52) rfl ?_
        rw [show rsT (H.1 184) l k s w = -1 from if_pos (by rw [eo]; omega)] at hq
        exact hq
    · replace h24 : k ≠ 0 := h24
      refine q_al (pc := 25) (i := 0) (x := 183) rfl rfl ?_
      refine q_il (pc := 26) (i := 1) (x := l) rfl rfl ?_
      refine q_ic (pc := 27) (v := 4) rfl ?_
      refine q_iv (pc := 28) (q := 1672972) rfl rfl rfl (ttKc hT (a := 183) (κ := 12) (len := 0) ⟨rfl, rfl⟩ (by decide) (by decide)).1 ?_
      refine l2_of (k := k) (s := s) (w := w) (by omega) hT l0 l9 (by decide) (by decide) ?_
      obtain ⟨c, jc⟩ : ∃ x, x = H.1 184 (84 + 6 * l + 4) := ⟨_, rfl⟩
      rw [show H.1 184 (84 + 6 * l + 4) = c from jc.symm]
      refine q_in (pc := 29) rfl ?_
      refine q_go (pc := 30) rfl ?_
      refine q_wa (pc := 35) rfl ?_
      rw [w32_n]
      obtain ⟨o, jo⟩ : ∃ o, o = (w32 ((w32 (v + (w32 (Int.tdiv (w32 (v * q)) 100)))) - c)) := ⟨_, rfl⟩
      have eo : rsO (H.1 184) l k s w = o := by
        show rsOv (rsThr (H.1 184 (144 + 2 * s)) (H.1 184 6) w) (H.1 184 (84 + 6 * l + 4)) k = o
        rw [← jv, ← jq, ← jc, et, jo]
        exact if_neg h24
      rw [← jo]
      refine q_is (pc := 36) (i := 6) (L' := [(2, 183), (0, l), (0, k), (0, s), (0, w), (0, v), (0, o)]) rfl rfl rfl ?_
      refine q_il (pc := 37) (i := 6) (x := o) rfl rfl ?_
      refine q_ic (pc := 38) (v := 1) rfl ?_
      refine q_i2 (pc := 39) rfl (fun h39 => ?_) (fun h39 => ?_)
      · replace h39 : 1 ≤ o := h39
        refine q_ic (pc := 42) (v := 12) rfl ?_
        refine q_al (pc := 43) (i := 0) (x := 183) rfl rfl ?_
        refine q_il (pc := 44) (i := 1) (x := l) rfl rfl ?_
        refine q_ic (pc := 45) (v := 2) rfl ?_
        refine q_iv (pc := 46) (q := 1672972) rfl rfl rfl (ttKc hT (a := 183) (κ := 12) (len := 0) ⟨rfl, rfl⟩ (by decide) (by decide)).1 ?_
        refine l2_of (k := k) (s := s) (w := w) (by omega) hT l0 l9 (by decide) (by decide) ?_
        obtain ⟨m, jm⟩ : ∃ x, x = H.1 184 (84 + 6 * l + 2) := ⟨_, rfl⟩
        rw [show H.1 184 (84 + 6 * l + 2) = m from jm.symm]
        refine q_wm (pc := 47) rfl ?_
        refine q_il (pc := 48) (i := 6) (x := o) rfl rfl ?_
        refine q_wd (pc := 49) rfl (by omega) ?_
        refine q_ic (pc := 50) (v := 1) rfl ?_
        refine q_wa (pc := 51) rfl ?_
        refine q_ri (pc := 52) rfl ?_
        rw [show rsT (H.1 184) l k s w = (w32 ((w32 (Int.tdiv (w32 (12 * m)) o)) + 1)) from by
          unfold rsT rsTk
          rw [eo, if_neg (show ¬ o < 1 by omega), ← jm]] at hq
        exact hq
      · replace h39 : o < 1 := h39
        refine q_ic (pc := 40) (v := (-1)) rfl ?_
        refine q_go (pc := 41) rfl ?_
        refine q_ri (pc := 52) rfl ?_
        rw [show rsT (H.1 184) l k s w = -1 from if_pos (by rw [eo]; omega)] at hq
        exact hq
theorem l2_los {dd : Nat} (hd : 2 ≤ dd) {H : xH} (hT : ttTI H) {l k s w : Int} {t : Int} (l0 : 0 ≤ l) (l9 : l ≤ 9) (s0 : 0 ≤ s) (s5 : s ≤ 5) {Q : Int → xH → Prop} (hq : Q (rsLs (H.1 184 (144 + 2 * s + 1)) (H.1 184 (84 + 6 * l + 3)) t) H) : xCall dd 237 [(2, 183), (0, l), (0, s), (0, t)] H Q := by
  obtain ⟨e, rfl, he⟩ := ttRun0 (n := 1) hd
  have he : 1 ≤ e := he
  have w2 : 0 ≤ H.1 184 2 ∧ H.1 184 2 ≤ 10 := ttMc hT (a := 184) (j := 2) (by decide) (by decide) (by decide) (by decide)
  have w3 : 0 ≤ H.1 184 3 ∧ H.1 184 3 ≤ 6 := ttMc hT (a := 184) (j := 3) (by decide) (by decide) (by decide) (by decide)
  refine xC_of (L := [(2, 183), (0, l), (0, s), (0, t)]) (cd := cd_237) rfl rfl rfl ?_
  refine q_ic (pc := 0) (v := 5) rfl ?_
  refine q_il (pc := 1) (i := 3) (x := t) rfl rfl ?_
  refine q_wm (pc := 2) rfl ?_
  refine q_al (pc := 3) (i := 0) (x := 183) rfl rfl ?_
  refine q_gf (pc := 4) (m := 12012) (t := 2) (c := 1) rfl (ttKc hT (a := 183) (κ := 12) (len := 0) ⟨rfl, rfl⟩ (by decide) (by decide)).1 rfl rfl ?_
  rw [show H.1 183 1 = 184 from ttFx hT (by decide) (by decide) rfl rfl rfl]
  refine q_ic (pc := 5) (v := 144) rfl ?_
  refine q_ic (pc := 6) (v := 2) rfl ?_
  refine q_il (pc := 7) (i := 2) (x := s) rfl rfl ?_
  refine q_im (pc := 8) rfl (by omega) (by omega) ?_
  refine q_ia (pc := 9) rfl (by omega) (by omega) ?_
  refine q_ic (pc := 10) (v := 1) rfl ?_
  refine q_ia (pc := 11) rfl (by omega) (by omega) ?_
  refine q_ai (pc := 12) rfl (ttKc hT (a := 184) (κ := 20) (len := 196) ⟨rfl, rfl⟩ (by decide) (by decide)).1 (by omega) (by rw [(ttKc hT (a := 184) (κ := 20) (len := 196) ⟨rfl, rfl⟩ (by decide) (by decide)).2]; omega) ?_
  refine q_al (pc := 13) (i := 0) (x := 183) rfl rfl ?_
  refine q_il (pc := 14) (i := 1) (x := l) rfl rfl ?_
  refine q_ic (pc := 15) (v := 3) rfl ?_
  refine q_iv (pc := 16) (q := 1672972) rfl rfl rfl (ttKc hT (a := 183) (κ := 12) (len := 0) ⟨rfl, rfl⟩ (by decide) (by decide)).1 ?_
  refine l2_of (k := k) (s := s) (w := w) (by omega) hT l0 l9 (by decide) (by decide) ?_
  refine q_wb (pc := 17) rfl ?_
  refine q_wm (pc := 18) rfl ?_
  refine q_ic (pc := 19) (v := 100) rfl ?_
  refine q_wd (pc := 20) rfl (by decide) ?_
  refine q_ri (pc := 21) rfl ?_
  exact hq
theorem lx_per2 {dd : Nat} (hd : 3 ≤ dd) {H : xH} (hT : ttTI H) {l k s w : Int} {Q : Int → xH → Prop} (hq : Q (rsPer (H.1 184) l k s w) H) : xCall dd 238 [(2, 183), (0, l), (0, k), (0, s), (0, w)] H Q := by
  obtain ⟨e, rfl, he⟩ := ttRun0 (n := 2) hd
  have he : 2 ≤ e := he
  have w2 : 0 ≤ H.1 184 2 ∧ H.1 184 2 ≤ 10 := ttMc hT (a := 184) (j := 2) (by decide) (by decide) (by decide) (by decide)
  have w3 : 0 ≤ H.1 184 3 ∧ H.1 184 3 ≤ 6 := ttMc hT (a := 184) (j := 3) (by decide) (by decide) (by decide) (by decide)
  refine xC_of (L := [(2, 183), (0, l), (0, k), (0, s), (0, w)]) (cd := cd_238) rfl rfl rfl ?_
  refine q_al (pc := 0) (i := 0) (x := 183) rfl rfl ?_
  refine q_il (pc := 1) (i := 1) (x := l) rfl rfl ?_
  refine q_iv (pc := 2) (q := 1872968) rfl rfl rfl (ttKc hT (a := 183) (κ := 12) (len := 0) ⟨rfl, rfl⟩ (by decide) (by decide)).1 ?_
  refine l2_leg (k := k) (s := s) (w := w) (by omega) hT (fun hp2 => ?_) (fun hp2 => ?_)
  · skip
    refine q_if (pc := 3) rfl (fun h3 => ?_) (fun h3 => ?_)
    · replace h3 : (1 : Int) = 0 := h3
      omega
    · replace h3 : (1 : Int) ≠ 0 := h3
      refine q_al (pc := 4) (i := 0) (x := 183) rfl rfl ?_
      refine q_il (pc := 5) (i := 3) (x := s) rfl rfl ?_
      refine q_iv (pc := 6) (q := 1880968) rfl rfl rfl (ttKc hT (a := 183) (κ := 12) (len := 0) ⟨rfl, rfl⟩ (by decide) (by decide)).1 ?_
      refine l2_spd (l := l) (k := k) (w := w) (by omega) hT (fun hp6 => ?_) (fun hp6 => ?_)
      · skip
        refine q_if (pc := 7) rfl (fun h7 => ?_) (fun h7 => ?_)
        · replace h7 : (1 : Int) = 0 := h7
          omega
        · replace h7 : (1 : Int) ≠ 0 := h7
          refine q_al (pc := 8) (i := 0) (x := 183) rfl rfl ?_
          refine q_il (pc := 9) (i := 1) (x := l) rfl rfl ?_
          refine q_il (pc := 10) (i := 2) (x := k) rfl rfl ?_
          refine q_il (pc := 11) (i := 3) (x := s) rfl rfl ?_
          refine q_il (pc := 12) (i := 4) (x := w) rfl rfl ?_
          refine q_iv (pc := 13) (q := 1888980) rfl rfl rfl (ttKc hT (a := 183) (κ := 12) (len := 0) ⟨rfl, rfl⟩ (by decide) (by decide)).1 ?_
          refine l2_per (by omega) hT hp2.1 (by omega) hp6.1 (by omega) ?_
          refine q_go (pc := 14) rfl ?_
          refine q_ri (pc := 16) rfl ?_
          rw [show rsPer (H.1 184) l k s w = _ from if_pos ⟨hp2, hp6⟩] at hq
          exact hq
      · skip
        refine q_if (pc := 7) rfl (fun h7 => ?_) (fun h7 => ?_)
        · replace h7 : (0 : Int) = 0 := h7
          refine q_ic (pc := 15) (v := (-2)) rfl ?_
          refine q_ri (pc := 16) rfl ?_
          rw [show rsPer (H.1 184) l k s w = (-2) from if_neg (fun z => hp6 z.2)] at hq
          exact hq
        · replace h7 : (0 : Int) ≠ 0 := h7
          omega
  · skip
    refine q_if (pc := 3) rfl (fun h3 => ?_) (fun h3 => ?_)
    · replace h3 : (0 : Int) = 0 := h3
      refine q_ic (pc := 15) (v := (-2)) rfl ?_
      refine q_ri (pc := 16) rfl ?_
      rw [show rsPer (H.1 184) l k s w = (-2) from if_neg (fun z => hp2 z.1)] at hq
      exact hq
    · replace h3 : (0 : Int) ≠ 0 := h3
      omega
theorem lx_los2 {dd : Nat} (hd : 3 ≤ dd) {H : xH} (hT : ttTI H) {l k s w : Int} {Q : Int → xH → Prop} (hq : Q (rsLos (H.1 184) l k s w) H) : xCall dd 239 [(2, 183), (0, l), (0, k), (0, s), (0, w)] H Q := by
  obtain ⟨e, rfl, he⟩ := ttRun0 (n := 2) hd
  have he : 2 ≤ e := he
  have w2 : 0 ≤ H.1 184 2 ∧ H.1 184 2 ≤ 10 := ttMc hT (a := 184) (j := 2) (by decide) (by decide) (by decide) (by decide)
  have w3 : 0 ≤ H.1 184 3 ∧ H.1 184 3 ≤ 6 := ttMc hT (a := 184) (j := 3) (by decide) (by decide) (by decide) (by decide)
  refine xC_of (L := [(2, 183), (0, l), (0, k), (0, s), (0, w), (9, 0)]) (cd := cd_239) rfl rfl rfl ?_
  refine q_al (pc := 0) (i := 0) (x := 183) rfl rfl ?_
  refine q_il (pc := 1) (i := 1) (x := l) rfl rfl ?_
  refine q_iv (pc := 2) (q := 1872968) rfl rfl rfl (ttKc hT (a := 183) (κ := 12) (len := 0) ⟨rfl, rfl⟩ (by decide) (by decide)).1 ?_
  refine l2_leg (k := k) (s := s) (w := w) (by omega) hT (fun hp2 => ?_) (fun hp2 => ?_)
  · skip
    refine q_if (pc := 3) rfl (fun h3 => ?_) (fun h3 => ?_)
    · replace h3 : (1 : Int) = 0 := h3
      omega
    · replace h3 : (1 : Int) ≠ 0 := h3
      refine q_al (pc := 4) (i := 0) (x := 183) rfl rfl ?_
      refine q_il (pc := 5) (i := 3) (x := s) rfl rfl ?_
      refine q_iv (pc := 6) (q := 1880968) rfl rfl rfl (ttKc hT (a := 183) (κ := 12) (len := 0) ⟨rfl, rfl⟩ (by decide) (by decide)).1 ?_
      refine l2_spd (l := l) (k := k) (w := w) (by omega) hT (fun hp6 => ?_) (fun hp6 => ?_)
      · skip
        refine q_if (pc := 7) rfl (fun h7 => ?_) (fun h7 => ?_)
        · replace h7 : (1 : Int) ≠ 0 := h7
          refine q_al (pc := 10) (i := 0) (x := 183) rfl rfl ?_
          refine q_il (pc := 11) (i := 1) (x := l) rfl rfl ?_
          refine q_il (pc := 12) (i := 2) (x := k) rfl rfl ?_
          refine q_il (pc := 13) (i := 3) (x := s) rfl rfl ?_
          refine q_il (pc := 14) (i := 4) (x := w) rfl rfl ?_
          refine q_iv (pc := 15) (q := 1888980) rfl rfl rfl (ttKc hT (a := 183) (κ := 12) (len := 0) ⟨rfl, rfl⟩ (by decide) (by decide)).1 ?_
          refine l2_per (by omega) hT hp2.1 (by omega) hp6.1 (by omega) ?_
          obtain ⟨t, jt⟩ : ∃ t, t = rsT (H.1 184) l k s w := ⟨_, rfl⟩
          rw [← jt]
          refine q_is (pc := 16) (i := 5) (L' := [(2, 183), (0, l), (0, k), (0, s), (0, w), (0, t)]) rfl rfl rfl ?_
          refine q_il (pc := 17) (i := 5) (x := t) rfl rfl ?_
          refine q_ic (pc := 18) (v := (-1)) rfl ?_
          refine q_i2 (pc := 19) rfl (fun h19 => ?_) (fun h19 => ?_)
          · replace h19 : t ≠ (-1) := h19
            refine q_al (pc := 22) (i := 0) (x := 183) rfl rfl ?_
            refine q_il (pc := 23) (i := 1) (x := l) rfl rfl ?_
            refine q_il (pc := 24) (i := 3) (x := s) rfl rfl ?_
            refine q_il (pc := 25) (i := 5) (x := t) rfl rfl ?_
            refine q_iv (pc := 26) (q := 1896976) rfl rfl rfl (ttKc hT (a := 183) (κ := 12) (len := 0) ⟨rfl, rfl⟩ (by decide) (by decide)).1 ?_
            refine l2_los (k := k) (w := w) (by omega) hT hp2.1 (by omega) hp6.1 (by omega) ?_
            refine q_ri (pc := 27) rfl ?_
            rw [show rsLos (H.1 184) l k s w = _ from if_pos ⟨hp2, hp6⟩, show rsV (H.1 184) l k s w = _ from if_neg (by rw [← jt]; exact h19), ← jt] at hq
            exact hq
          · replace h19 : t = (-1) := h19
            refine q_ic (pc := 20) (v := (-2000000000)) rfl ?_
            refine q_go (pc := 21) rfl ?_
            refine q_ri (pc := 27) rfl ?_
            rw [show rsLos (H.1 184) l k s w = _ from if_pos ⟨hp2, hp6⟩, show rsV (H.1 184) l k s w = _ from if_pos (by rw [← jt]; exact h19)] at hq
            exact hq
        · replace h7 : (1 : Int) = 0 := h7
          omega
      · skip
        refine q_if (pc := 7) rfl (fun h7 => ?_) (fun h7 => ?_)
        · replace h7 : (0 : Int) ≠ 0 := h7
          omega
        · replace h7 : (0 : Int) = 0 := h7
          refine q_ic (pc := 8) (v := (-2000000000)) rfl ?_
          refine q_ri (pc := 9) rfl ?_
          rw [show rsLos (H.1 184) l k s w = (-2000000000) from if_neg (fun z => hp6 z.2)] at hq
          exact hq
  · skip
    refine q_if (pc := 3) rfl (fun h3 => ?_) (fun h3 => ?_)
    · replace h3 : (0 : Int) = 0 := h3
      refine q_ic (pc := 8) (v := (-2000000000)) rfl ?_
      refine q_ri (pc := 9) rfl ?_
      rw [show rsLos (H.1 184) l k s w = (-2000000000) from if_neg (fun z => hp2 z.1)] at hq
      exact hq
    · replace h3 : (0 : Int) ≠ 0 := h3
      omega
