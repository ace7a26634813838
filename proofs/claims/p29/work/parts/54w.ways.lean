/-! a row's ways, and what of a glide they make (before what stays true) -/
def rsThr (v q w : Int) : Int := if w = 0 then v else w32 (v + w32 (Int.tdiv (w32 (v * q)) 100))
def rsOv (t c k : Int) : Int := if k = 0 then w32 (t + c) else w32 (t - c)
def rsTk (m o : Int) : Int := if o < 1 then -1 else w32 (w32 (Int.tdiv (w32 (12 * m)) o) + 1)
def rsLs (z a t : Int) : Int := w32 (Int.tdiv (w32 (w32 (5 * t) * w32 (z - a))) 100)
def rsO (R : Int → Int) (l k s w : Int) : Int := rsOv (rsThr (R (144 + 2 * s)) (R 6) w) (R (84 + 6 * l + 4)) k
def rsT (R : Int → Int) (l k s w : Int) : Int := rsTk (R (84 + 6 * l + 2)) (rsO R l k s w)
def rsV (R : Int → Int) (l k s w : Int) : Int := if rsT R l k s w = -1 then -2000000000 else rsLs (R (144 + 2 * s + 1)) (R (84 + 6 * l + 3)) (rsT R l k s w)
theorem w32_n {t c : Int} : w32 (t + w32 (-c)) = w32 (t - c) := by
  unfold w32
  rw [Int.add_bmod_bmod, Int.sub_eq_add_neg]
theorem w32_0 {t : Int} (h0 : -2147483648 ≤ t) (h1 : t ≤ 2147483647) : w32 (t + 0) = t := by
  rw [Int.add_zero]
  exact w32_eq ⟨h0, by omega⟩
theorem ty_sp {s : Int} (s0 : 0 ≤ s) (s1 : s ≤ 5) : ttTy (ttTb 184) (144 + 2 * s) = (0, 0, 150) := by
  have k : ∀ n : Nat, n < 6 → ttTy (ttTb 184) (144 + 2 * (n : Int)) = (0, 0, 150) := by decide
  obtain ⟨n, rfl⟩ := Int.eq_ofNat_of_zero_le s0
  exact k n (by omega)
theorem ws_720 {a b : Int} (a0 : 0 ≤ a) (a1 : a ≤ 720) (b1 : 1 ≤ b) : 0 ≤ w32 (Int.tdiv a b) ∧ w32 (Int.tdiv a b) ≤ 720 := by
  have h1 : 0 ≤ Int.tdiv a b := Int.tdiv_nonneg a0 (by omega)
  have h2 : Int.tdiv a b ≤ a := Int.tdiv_le_self b a0
  rw [w32_eq (x := Int.tdiv a b) (show -2147483648 ≤ Int.tdiv a b ∧ Int.tdiv a b < 2147483648 from ⟨by omega, by omega⟩)]
  omega
theorem l2_of {dd : Nat} (hd : 1 ≤ dd) {H : xH} (hT : ttTI H) {l k s w : Int} {j : Int} (l0 : 0 ≤ l) (l9 : l ≤ 9) (ujj0 : 0 ≤ j) (ujj5 : j ≤ 5) {Q : Int → xH → Prop} (hq : Q (H.1 184 (84 + 6 * l + j)) H) : xCall dd 209 [(2, 183), (0, l), (0, j)] H Q := by
  obtain ⟨e, rfl, he⟩ := ttRun0 (n := 0) hd
  have he : 0 ≤ e := he
  have w2 : 0 ≤ H.1 184 2 ∧ H.1 184 2 ≤ 10 := ttMc hT (a := 184) (j := 2) (by decide) (by decide) (by decide) (by decide)
  have w3 : 0 ≤ H.1 184 3 ∧ H.1 184 3 ≤ 6 := ttMc hT (a := 184) (j := 3) (by decide) (by decide) (by decide) (by decide)
  refine xC_of (L := [(2, 183), (0, l), (0, j)]) (cd := cd_209) rfl rfl rfl ?_
  refine q_al (pc := 0) (i := 0) (x := 183) rfl rfl ?_
  refine q_gf (pc := 1) (m := 12012) (t := 2) (c := 1) rfl (ttKc hT (a := 183) (κ := 12) (len := 0) ⟨rfl, rfl⟩ (by decide) (by decide)).1 rfl rfl ?_
  rw [show H.1 183 1 = 184 from ttFx hT (by decide) (by decide) rfl rfl rfl]
  refine q_ic (pc := 2) (v := 84) rfl ?_
  refine q_ic (pc := 3) (v := 6) rfl ?_
  refine q_il (pc := 4) (i := 1) (x := l) rfl rfl ?_
  refine q_im (pc := 5) rfl (by omega) (by omega) ?_
  refine q_ia (pc := 6) rfl (by omega) (by omega) ?_
  refine q_il (pc := 7) (i := 2) (x := j) rfl rfl ?_
  refine q_ia (pc := 8) rfl (by omega) (by omega) ?_
  refine q_ai (pc := 9) rfl (ttKc hT (a := 184) (κ := 20) (len := 196) ⟨rfl, rfl⟩ (by decide) (by decide)).1 (by omega) (by rw [(ttKc hT (a := 184) (κ := 20) (len := 196) ⟨rfl, rfl⟩ (by decide) (by decide)).2]; omega) ?_
  refine q_ri (pc := 10) rfl ?_
  exact hq
theorem l2_per {dd : Nat} (hd : 2 ≤ dd) {H : xH} (hT : ttTI H) {l k s w : Int} (l0 : 0 ≤ l) (l9 : l ≤ 9) (s0 : 0 ≤ s) (s5 : s ≤ 5) {Q : Int → xH → Prop} (hq : Q (rsT (H.1 184) l k s w) H) : xCall dd 236 [(2, 183), (0, l), (0, k), (0, s), (0, w)] H Q := by
  obtain ⟨e, rfl, he⟩ := ttRun0 (n := 1) hd
  have he : 1 ≤ e := he
  have w2 : 0 ≤ H.1 184 2 ∧ H.1 184 2 ≤ 10 := ttMc hT (a := 184) (j := 2) (by decide) (by decide) (by decide) (by decide)
  have w3 : 0 ≤ H.1 184 3 ∧ H.1 184 3 ≤ 6 := ttMc hT (a := 184) (j := 3) (by decide) (by decide) (by decide) (by decide)
  refine xC_of (L := [(2, 183), (0, l), (0, k), (0, s), (0, w), (9, 0), (9, 0)]) (cd := cd_236) rfl rfl rfl ?_
  have ev : ∀ x : Int, x = H.1 184 (144 + 2 * s) → -2147483648 ≤ x ∧ x ≤ 2147483647 := fun x hx => by
    have z := ttMc hT (a := 184) (j := 144 + 2 * s) (by decide) (by decide) (by omega) (by show 144 + 2 * s < 196; omega)
    rw [show ttRo 184 = 184 from rfl, ty_sp s0 s5] at z
    have z : 0 ≤ H.1 184 (144 + 2 * s) ∧ H.1 184 (144 + 2 * s) ≤ 150 := z
    omega
  obtain ⟨v, jv⟩ : ∃ v, v = H.1 184 (144 + 2 * s) := ⟨_, rfl⟩
  obtain ⟨q, jq⟩ : ∃ q, q = H.1 184 6 := ⟨_, rfl⟩
  have vb := ev v jv
  refine q_al (pc := 0) (i := 0) (x := 183) rfl rfl ?_
  refine q_gf (pc := 1) (m := 12012) (t := 2) (c := 1) rfl (ttKc hT (a := 183) (κ := 12) (len := 0) ⟨rfl, rfl⟩ (by decide) (by decide)).1 rfl rfl ?_
  rw [show H.1 183 1 = 184 from ttFx hT (by decide) (by decide) rfl rfl rfl]
  refine q_ic (pc := 2) (v := 144) rfl ?_
  refine q_ic (pc := 3) (v := 2) rfl ?_
  refine q_il (pc := 4) (i := 3) (x := s) rfl rfl ?_
  refine q_im (pc := 5) rfl (by omega) (by omega) ?_
  refine q_ia (pc := 6) rfl (by omega) (by omega) ?_
  refine q_ai (pc := 7) rfl (ttKc hT (a := 184) (κ := 20) (len := 196) ⟨rfl, rfl⟩ (by decide) (by decide)).1 (by omega) (by rw [(ttKc hT (a := 184) (κ := 20) (len := 196) ⟨rfl, rfl⟩ (by decide) (by decide)).2]; omega) ?_
  rw [show H.1 184 (144 + (2 * s)) = v from jv.symm]
  refine q_is (pc := 8) (i := 5) (L' := [(2, 183), (0, l), (0, k), (0, s), (0, w), (0, v), (9, 0)]) rfl rfl rfl ?_
  refine q_il (pc := 9) (i := 5) (x := v) rfl rfl ?_
  refine q_il (pc := 10) (i := 4) (x := w) rfl rfl ?_
  refine q_if (pc := 11) rfl (fun h11 => ?_) (fun h11 => ?_)
  · replace h11 : w = 0 := h11
    refine q_ic (pc := 21) (v := 0) rfl ?_
    refine q_wa (pc := 22) rfl ?_
    rw [w32_0 vb.1 vb.2]
    have et : rsThr v q w = v := if_pos h11
    refine q_il (pc := 23) (i := 2) (x := k) rfl rfl ?_
    refine q_if (pc := 24) rfl (fun h24 => ?_) (fun h24 => ?_)
    · replace h24 : k = 0 := h24
      refine q_al (pc := 31) (i := 0) (x := 183) rfl rfl ?_
      refine q_il (pc := 32) (i := 1) (x := l) rfl rfl ?_
      refine q_ic (pc := 33) (v := 4) rfl ?_
      refine q_iv (pc := 34) (q := 1672972) rfl rfl rfl (ttKc hT (a := 183) (κ := 12) (len := 0) ⟨rfl, rfl⟩ (by decide) (by decide)).1 ?_
      refine l2_of (k := k) (s := s) (w := w) (by omega) hT l0 l9 (by decide) (by decide) ?_
      obtain ⟨c, jc⟩ : ∃ x, x = H.1 184 (84 + 6 * l + 4) := ⟨_, rfl⟩
      rw [show H.1 184 (84 + 6 * l + 4) = c from jc.symm]
      refine q_wa (pc := 35) rfl ?_
      obtain ⟨o, jo⟩ : ∃ o, o = (w32 (v + c)) := ⟨_, rfl⟩
      have eo : rsO (H.1 184) l k s w = o := by
        show rsOv (rsThr (H.1 184 (144 + 2 * s)) (H.1 184 6) w) (H.1 184 (84 + 6 * l + 4)) k = o
        rw [← jv, ← jq, ← jc, et, jo]
        exact if_pos h24
      rw [← jo]
      refine q_is (pc := 36) (i := 6) (L' := [(2, 183), (0, l), (0, k), (0, s), (0, w), (0, v), (0, o)]) rfl rfl rfl ?_
      refine q_il (pc := 37) (i := 6) (x := o) rfl rfl ?_
      refine q_ic (pc := 38) (v := 1) rfl ?_
      refine q_i2 (pc := 39) rfl (fun h39 => ?_) (fun h39 => ?_)
      · replace h39 : 1 ≤ o := h39
        refine q_ic (pc := 42) (v := 12) rfl ?_
        refine q_al (pc := 43) (i := 0) (x := 183) rfl rfl ?_
        refine q_il (pc := 44) (i := 1) (x := l) rfl rfl ?_
        refine q_ic (pc := 45) (v := 2) rfl ?_
        refine q_iv (pc := 46) (q := 1672972) rfl rfl rfl (ttKc hT (a := 183) (κ := 12) (len := 0) ⟨rfl, rfl⟩ (by decide) (by decide)).1 ?_
        refine l2_of (k := k) (s := s) (w := w) (by omega) hT l0 l9 (by decide) (by decide) ?_
        obtain ⟨m, jm⟩ : ∃ x, x = H.1 184 (84 + 6 * l + 2) := ⟨_, rfl⟩
        rw [show H.1 184 (84 + 6 * l + 2) = m from jm.symm]
        refine q_wm (pc := 47) rfl ?_
        refine q_il (pc := 48) (i := 6) (x := o) rfl rfl ?_
        refine q_wd (pc := 49) rfl (by omega) ?_
        refine q_ic (pc := 50) (v := 1) rfl ?_
        refine q_wa (pc := 51) rfl ?_
        refine q_ri (pc := 52) rfl ?_
        rw [show rsT (H.1 184) l k s w = (w32 ((w32 (Int.tdiv (w32 (12 * m)) o)) + 1)) from by
          unfold rsT rsTk
          rw [eo, if_neg (show ¬ o < 1 by omega), ← jm]] at hq
        exact hq
      · replace h39 : o < 1 := h39
        refine q_ic (pc := 40) (v := (-1)) rfl ?_
        refine q_go (pc := 41) rfl ?_
        refine q_ri (pc := 52) rfl ?_
        rw [show rsT (H.1 184) l k s w = -1 from if_pos (by rw [eo]; omega)] at hq
        exact hq
    · replace h24 : k ≠ 0 := h24
      refine q_al (pc := 25) (i := 0) (x := 183) rfl rfl ?_
      refine q_il (pc := 26) (i := 1) (x := l) rfl rfl ?_
      refine q_ic (pc := 27) (v := 4) rfl ?_
      refine q_iv (pc := 28) (q := 1672972) rfl rfl rfl (ttKc hT (a := 183) (κ := 12) (len := 0) ⟨rfl, rfl⟩ (by decide) (by decide)).1 ?_
      refine l2_of (k := k) (s := s) (w := w) (by omega) hT l0 l9 (by decide) (by decide) ?_
      obtain ⟨c, jc⟩ : ∃ x, x = H.1 184 (84 + 6 * l + 4) := ⟨_, rfl⟩
      rw [show H.1 184 (84 + 6 * l + 4) = c from jc.symm]
      refine q_in (pc := 29) rfl ?_
      refine q_go (pc := 30) rfl ?_
      refine q_wa (pc := 35) rfl ?_
      rw [w32_n]
      obtain ⟨o, jo⟩ : ∃ o, o = (w32 (v - c)) := ⟨_, rfl⟩
      have eo : rsO (H.1 184) l k s w = o := by
        show rsOv (rsThr (H.1 184 (144 + 2 * s)) (H.1 184 6) w) (H.1 184 (84 + 6 * l + 4)) k = o
        rw [← jv, ← jq, ← jc, et, jo]
        exact if_neg h24
      rw [← jo]
      refine q_is (pc := 36) (i := 6) (L' := [(2, 183), (0, l), (0, k), (0, s), (0, w), (0, v), (0, o)]) rfl rfl rfl ?_
      refine q_il (pc := 37) (i := 6) (x := o) rfl rfl ?_
      refine q_ic (pc := 38) (v := 1) rfl ?_
      refine q_i2 (pc := 39) rfl (fun h39 => ?_) (fun h39 => ?_)
      · replace h39 : 1 ≤ o := h39
        refine q_ic (pc := 42) (v := 12) rfl ?_
        refine q_al (pc := 43) (i := 0) (x := 183) rfl rfl ?_
        refine q_il (pc := 44) (i := 1) (x := l) rfl rfl ?_
        refine q_ic (pc := 45) (v := 2) rfl ?_
        refine q_iv (pc := 46) (q := 1672972) rfl rfl rfl (ttKc hT (a := 183) (κ := 12) (len := 0) ⟨rfl, rfl⟩ (by decide) (by decide)).1 ?_
        refine l2_of (k := k) (s := s) (w := w) (by omega) hT l0 l9 (by decide) (by decide) ?_
        obtain ⟨m, jm⟩ : ∃ x, x = H.1 184 (84 + 6 * l + 2) := ⟨_, rfl⟩
        rw [show H.1 184 (84 + 6 * l + 2) = m from jm.symm]
        refine q_wm (pc := 47) rfl ?_
        refine q_il (pc := 48) (i := 6) (x := o) rfl rfl ?_
        refine q_wd (pc := 49) rfl (by omega) ?_
        refine q_ic (pc := 50) (v := 1) rfl ?_
        refine q_wa (pc := 51) rfl ?_
        refine q_ri (pc := 52) rfl ?_
        rw [show rsT (H.1 184) l k s w = (w32 ((w32 (Int.tdiv (w32 (12 * m)) o)) + 1)) from by
          unfold rsT rsTk
          rw [eo, if_neg (show ¬ o < 1 by omega), ← jm]] at hq
        exact hq
      · replace h39 : o < 1 := h39
        refine q_ic (pc := 40) (v := (-1)) rfl ?_
        refine q_go (pc := 41) rfl ?_
        refine q_ri (pc := 52) rfl ?_
        rw [show rsT (H.1 184) l k s w = -1 from if_pos (by rw [eo]; omega)] at hq
        exact hq
  · replace h11 : w ≠ 0 := h11
    refine q_il (pc := 12) (i := 5) (x := v) rfl rfl ?_
    refine q_al (pc := 13) (i := 0) (x := 183) rfl rfl ?_
    refine q_gf (pc := 14) (m := 12012) (t := 2) (c := 1) rfl (ttKc hT (a := 183) (κ := 12) (len := 0) ⟨rfl, rfl⟩ (by decide) (by decide)).1 rfl rfl ?_
    rw [show H.1 183 1 = 184 from ttFx hT (by decide) (by decide) rfl rfl rfl]
    refine q_ic (pc := 15) (v := 6) rfl ?_
    refine q_ai (pc := 16) rfl (ttKc hT (a := 184) (κ := 20) (len := 196) ⟨rfl, rfl⟩ (by decide) (by decide)).1 (by omega) (by rw [(ttKc hT (a := 184) (κ := 20) (len := 196) ⟨rfl, rfl⟩ (by decide) (by decide)).2]; omega) ?_
    rw [show H.1 184 6 = q from jq.symm]
    refine q_wm (pc := 17) rfl ?_
    refine q_ic (pc := 18) (v := 100) rfl ?_
    refine q_wd (pc := 19) rfl (by decide) ?_
    refine q_go (pc := 20) rfl ?_
    refine q_wa (pc := 22) rfl ?_
    have et : rsThr v q w = (w32 (v + (w32 (Int.tdiv (w32 (v * q)) 100)))) := if_neg h11
    refine q_il (pc := 23) (i := 2) (x := k) rfl rfl ?_
    refine q_if (pc := 24) rfl (fun h24 => ?_) (fun h24 => ?_)
    · replace h24 : k = 0 := h24
      refine q_al (pc := 31) (i := 0) (x := 183) rfl rfl ?_
      refine q_il (pc := 32) (i := 1) (x := l) rfl rfl ?_
      refine q_ic (pc := 33) (v := 4) rfl ?_
      refine q_iv (pc := 34) (q := 1672972) rfl rfl rfl (ttKc hT (a := 183) (κ := 12) (len := 0) ⟨rfl, rfl⟩ (by decide) (by decide)).1 ?_
      refine l2_of (k := k) (s := s) (w := w) (by omega) hT l0 l9 (by decide) (by decide) ?_
      obtain ⟨c, jc⟩ : ∃ x, x = H.1 184 (84 + 6 * l + 4) := ⟨_, rfl⟩
      rw [show H.1 184 (84 + 6 * l + 4) = c from jc.symm]
      refine q_wa (pc := 35) rfl ?_
      obtain ⟨o, jo⟩ : ∃ o, o = (w32 ((w32 (v + (w32 (Int.tdiv (w32 (v * q)) 100)))) + c)) := ⟨_, rfl⟩
      have eo : rsO (H.1 184) l k s w = o := by
        show rsOv (rsThr (H.1 184 (144 + 2 * s)) (H.1 184 6) w) (H.1 184 (84 + 6 * l + 4)) k = o
        rw [← jv, ← jq, ← jc, et, jo]
        exact if_pos h24
      rw [← jo]
      refine q_is (pc := 36) (i := 6) (L' := [(2, 183), (0, l), (0, k), (0, s), (0, w), (0, v), (0, o)]) rfl rfl rfl ?_
      refine q_il (pc := 37) (i := 6) (x := o) rfl rfl ?_
      refine q_ic (pc := 38) (v := 1) rfl ?_
      refine q_i2 (pc := 39) rfl (fun h39 => ?_) (fun h39 => ?_)
      · replace h39 : 1 ≤ o := h39
        refine q_ic (pc := 42) (v := 12) rfl ?_
        refine q_al (pc := 43) (i := 0) (x := 183) rfl rfl ?_
        refine q_il (pc := 44) (i := 1) (x := l) rfl rfl ?_
        refine q_ic (pc := 45) (v := 2) rfl ?_
        refine q_iv (pc := 46) (q := 1672972) rfl rfl rfl (ttKc hT (a := 183) (κ := 12) (len := 0) ⟨rfl, rfl⟩ (by decide) (by decide)).1 ?_
        refine l2_of (k := k) (s := s) (w := w) (by omega) hT l0 l9 (by decide) (by decide) ?_
        obtain ⟨m, jm⟩ : ∃ x, x = H.1 184 (84 + 6 * l + 2) := ⟨_, rfl⟩
        rw [show H.1 184 (84 + 6 * l + 2) = m from jm.symm]
        refine q_wm (pc := 47) rfl ?_
        refine q_il (pc := 48) (i := 6) (x := o) rfl rfl ?_
        refine q_wd (pc := 49) rfl (by omega) ?_
        refine q_ic (pc := 50) (v := 1) rfl ?_
        refine q_wa (pc := 51) rfl ?_
        refine q_ri (pc := 52) rfl ?_
        rw [show rsT (H.1 184) l k s w = (w32 ((w32 (Int.tdiv (w32 (12 * m)) o)) + 1)) from by
          unfold rsT rsTk
          rw [eo, if_neg (show ¬ o < 1 by omega), ← jm]] at hq
        exact hq
      · replace h39 : o < 1 := h39
        refine q_ic (pc := 40) (v := (-1)) rfl ?_
        refine q_go (pc := 41) rfl ?_
        refine q_ri (pc := 52) rfl ?_
        rw [show rsT (H.1 184) l k s w = -1 from if_pos (by rw [eo]; omega)] at hq
        exact hq
    · replace h24 : k ≠ 0 := h24
      refine q_al (pc := 25) (i := 0) (x := 183) rfl rfl ?_
      refine q_il (pc := 26) (i := 1) (x := l) rfl rfl ?_
      refine q_ic (pc := 27) (v := 4) rfl ?_
      refine q_iv (pc := 28) (q := 1672972) rfl rfl rfl (ttKc hT (a := 183) (κ := 12) (len := 0) ⟨rfl, rfl⟩ (by decide) (by decide)).1 ?_
      refine l2_of (k := k) (s := s) (w := w) (by omega) hT l0 l9 (by decide) (by decide) ?_
      obtain ⟨c, jc⟩ : ∃ x, x = H.1 184 (84 + 6 * l + 4) := ⟨_, rfl⟩
      rw [show H.1 184 (84 + 6 * l + 4) = c from jc.symm]
      refine q_in (pc := 29) rfl ?_
      refine q_go (pc := 30) rfl ?_
      refine q_wa (pc := 35) rfl ?_
      rw [w32_n]
      obtain ⟨o, jo⟩ : ∃ o, o = (w32 ((w32 (v + (w32 (Int.tdiv (w32 (v * q)) 100)))) - c)) := ⟨_, rfl⟩
      have eo : rsO (H.1 184) l k s w = o := by
        show rsOv (rsThr (H.1 184 (144 + 2 * s)) (H.1 184 6) w) (H.1 184 (84 + 6 * l + 4)) k = o
        rw [← jv, ← jq, ← jc, et, jo]
        exact if_neg h24
      rw [← jo]
      refine q_is (pc := 36) (i := 6) (L' := [(2, 183), (0, l), (0, k), (0, s), (0, w), (0, v), (0, o)]) rfl rfl rfl ?_
      refine q_il (pc := 37) (i := 6) (x := o) rfl rfl ?_
      refine q_ic (pc := 38) (v := 1) rfl ?_
      refine q_i2 (pc := 39) rfl (fun h39 => ?_) (fun h39 => ?_)
      · replace h39 : 1 ≤ o := h39
        refine q_ic (pc := 42) (v := 12) rfl ?_
        refine q_al (pc := 43) (i := 0) (x := 183) rfl rfl ?_
        refine q_il (pc := 44) (i := 1) (x := l) rfl rfl ?_
        refine q_ic (pc := 45) (v := 2) rfl ?_
        refine q_iv (pc := 46) (q := 1672972) rfl rfl rfl (ttKc hT (a := 183) (κ := 12) (len := 0) ⟨rfl, rfl⟩ (by decide) (by decide)).1 ?_
        refine l2_of (k := k) (s := s) (w := w) (by omega) hT l0 l9 (by decide) (by decide) ?_
        obtain ⟨m, jm⟩ : ∃ x, x = H.1 184 (84 + 6 * l + 2) := ⟨_, rfl⟩
        rw [show H.1 184 (84 + 6 * l + 2) = m from jm.symm]
        refine q_wm (pc := 47) rfl ?_
        refine q_il (pc := 48) (i := 6) (x := o) rfl rfl ?_
        refine q_wd (pc := 49) rfl (by omega) ?_
        refine q_ic (pc := 50) (v := 1) rfl ?_
        refine q_wa (pc := 51) rfl ?_
        refine q_ri (pc := 52) rfl ?_
        rw [show rsT (H.1 184) l k s w = (w32 ((w32 (Int.tdiv (w32 (12 * m)) o)) + 1)) from by
          unfold rsT rsTk
          rw [eo, if_neg (show ¬ o < 1 by omega), ← jm]] at hq
        exact hq
      · replace h39 : o < 1 := h39
        refine q_ic (pc := 40) (v := (-1)) rfl ?_
        refine q_go (pc := 41) rfl ?_
        refine q_ri (pc := 52) rfl ?_
        rw [show rsT (H.1 184) l k s w = -1 from if_pos (by rw [eo]; omega)] at hq
        exact hq
theorem l2_los {dd : Nat} (hd : 2 ≤ dd) {H : xH} (hT : ttTI H) {l k s w : Int} {t : Int} (l0 : 0 ≤ l) (l9 : l ≤ 9) (s0 : 0 ≤ s) (s5 : s ≤ 5) {Q : Int → xH → Prop} (hq : Q (rsLs (H.1 184 (144 + 2 * s + 1)) (H.1 184 (84 + 6 * l + 3)) t) H) : xCall dd 237 [(2, 183), (0, l), (0, s), (0, t)] H Q := by
  obtain ⟨e, rfl, he⟩ := ttRun0 (n := 1) hd
  have he : 1 ≤ e := he
  have w2 : 0 ≤ H.1 184 2 ∧ H.1 184 2 ≤ 10 := ttMc hT (a := 184) (j := 2) (by decide) (by decide) (by decide) (by decide)
  have w3 : 0 ≤ H.1 184 3 ∧ H.1 184 3 ≤ 6 := ttMc hT (a := 184) (j := 3) (by decide) (by decide) (by decide) (by decide)
  refine xC_of (L := [(2, 183), (0, l), (0, s), (0, t)]) (cd := cd_237) rfl rfl rfl ?_
  refine q_ic (pc := 0) (v := 5) rfl ?_
  refine q_il (pc := 1) (i := 3) (x := t) rfl rfl ?_
  refine q_wm (pc := 2) rfl ?_
  refine q_al (pc := 3) (i := 0) (x := 183) rfl rfl ?_
  refine q_gf (pc := 4) (m := 12012) (t := 2) (c := 1) rfl (ttKc hT (a := 183) (κ := 12) (len := 0) ⟨rfl, rfl⟩ (by decide) (by decide)).1 rfl rfl ?_
  rw [show H.1 183 1 = 184 from ttFx hT (by decide) (by decide) rfl rfl rfl]
  refine q_ic (pc := 5) (v := 144) rfl ?_
  refine q_ic (pc := 6) (v := 2) rfl ?_
  refine q_il (pc := 7) (i := 2) (x := s) rfl rfl ?_
  refine q_im (pc := 8) rfl (by omega) (by omega) ?_
  refine q_ia (pc := 9) rfl (by omega) (by omega) ?_
  refine q_ic (pc := 10) (v := 1) rfl ?_
  refine q_ia (pc := 11) rfl (by omega) (by omega) ?_
  refine q_ai (pc := 12) rfl (ttKc hT (a := 184) (κ := 20) (len := 196) ⟨rfl, rfl⟩ (by decide) (by decide)).1 (by omega) (by rw [(ttKc hT (a := 184) (κ := 20) (len := 196) ⟨rfl, rfl⟩ (by decide) (by decide)).2]; omega) ?_
  refine q_al (pc := 13) (i := 0) (x := 183) rfl rfl ?_
  refine q_il (pc := 14) (i := 1) (x := l) rfl rfl ?_
  refine q_ic (pc := 15) (v := 3) rfl ?_
  refine q_iv (pc := 16) (q := 1672972) rfl rfl rfl (ttKc hT (a := 183) (κ := 12) (len := 0) ⟨rfl, rfl⟩ (by decide) (by decide)).1 ?_
  refine l2_of (k := k) (s := s) (w := w) (by omega) hT l0 l9 (by decide) (by decide) ?_
  refine q_wb (pc := 17) rfl ?_
  refine q_wm (pc := 18) rfl ?_
  refine q_ic (pc := 19) (v := 100) rfl ?_
  refine q_wd (pc := 20) rfl (by decide) ?_
  refine q_ri (pc := 21) rfl ?_
  exact hq
def wsB (R : Int → Int) (p l : Int) : Int := if R (84 + 6 * l + 1) = p then 1 else 0
abbrev wsU (R : Int → Int) (p w l s : Int) : Prop := (l < R 2 ∧ (R (84 + 6 * l) = p ∨ R (84 + 6 * l + 1) = p)) ∧ (s < R 3 ∧ rsT R l (wsB R p l) s w ≠ -1)
def wsA (Z : Int × (Int → Int)) (x : Int) : Int × (Int → Int) := (Z.1 + 1, fun i => if i = Z.1 then x else Z.2 i)
def wsW (R : Int → Int) (p w : Int) : Nat → Int × (Int → Int)
  | 0 => (0, fun _ => 0)
  | n + 1 => if wsU R p w ((n / 6 : Nat) : Int) ((n % 6 : Nat) : Int) then wsA (wsW R p w n) (10 * ((n / 6 : Nat) : Int) + ((n % 6 : Nat) : Int)) else wsW R p w n
def wsD (R : Int → Int) (p l : Int) : Int := if R (84 + 6 * l + 1) = p then R (84 + 6 * l) else R (84 + 6 * l + 1)
def wsP (R : Int → Int) (p w l s : Int) : Int := rsT R l (wsB R p l) s w
def wsX (R : Int → Int) (p w l s : Int) : Int := rsLs (R (144 + 2 * s + 1)) (R (84 + 6 * l + 3)) (wsP R p w l s)
theorem wsW_y {R : Int → Int} {p w l s : Int} {n : Nat} (hn : (n : Int) = 6 * l + s) (s0 : 0 ≤ s) (s1 : s < 6) (h : wsU R p w l s) : wsW R p w (n + 1) = wsA (wsW R p w n) (10 * l + s) := by
  have e1 : ((n / 6 : Nat) : Int) = l := by omega
  have e2 : ((n % 6 : Nat) : Int) = s := by omega
  have h2 : wsU R p w ((n / 6 : Nat) : Int) ((n % 6 : Nat) : Int) := by rw [e1, e2]; exact h
  have z : wsW R p w (n + 1) = wsA (wsW R p w n) (10 * ((n / 6 : Nat) : Int) + ((n % 6 : Nat) : Int)) := if_pos h2
  rw [z, e1, e2]
theorem wsW_n {R : Int → Int} {p w l s : Int} {n : Nat} (hn : (n : Int) = 6 * l + s) (s0 : 0 ≤ s) (s1 : s < 6) (h : ¬ wsU R p w l s) : wsW R p w (n + 1) = wsW R p w n := by
  have e1 : ((n / 6 : Nat) : Int) = l := by omega
  have e2 : ((n % 6 : Nat) : Int) = s := by omega
  have h2 : ¬ wsU R p w ((n / 6 : Nat) : Int) ((n % 6 : Nat) : Int) := by rw [e1, e2]; exact h
  exact if_neg h2
theorem wsW_s {R : Int → Int} {p w : Int} : ∀ k n : Nat, (∀ l s : Int, 0 ≤ s → s < 6 → (n : Int) ≤ 6 * l + s → 6 * l + s < (n : Int) + (k : Int) → ¬ wsU R p w l s) → wsW R p w (n + k) = wsW R p w n := by
  intro k n
  induction k with
  | zero => intro _; rfl
  | succ k ih =>
    intro h
    have z : wsW R p w (n + k + 1) = wsW R p w (n + k) := wsW_n (l := ((n + k : Nat) : Int) / 6) (s := ((n + k : Nat) : Int) % 6) (by omega) (by omega) (by omega) (h _ _ (by omega) (by omega) (by omega) (by omega))
    exact z.trans (ih (fun l s s0 s1 a1 a2 => h l s s0 s1 a1 (by omega)))
theorem wsW_in {R : Int → Int} {p w : Int} : ∀ n : Nat, (0 ≤ (wsW R p w n).1 ∧ (wsW R p w n).1 ≤ (n : Int)) ∧ ∀ i : Int, 0 ≤ i → i < (wsW R p w n).1 → ∃ l s : Int, 0 ≤ l ∧ 0 ≤ s ∧ s < 6 ∧ 6 * l + s < (n : Int) ∧ (wsW R p w n).2 i = 10 * l + s ∧ wsU R p w l s := by
  intro n
  induction n with
  | zero => exact ⟨⟨Int.le_refl _, Int.le_refl _⟩, fun i i0 i1 => absurd i1 (by show ¬ i < 0; omega)⟩
  | succ n ih =>
    obtain ⟨⟨a0, a1⟩, a2⟩ := ih
    obtain ⟨l, hl⟩ : ∃ l : Int, l = (n : Int) / 6 := ⟨_, rfl⟩
    obtain ⟨s, hs⟩ : ∃ s : Int, s = (n : Int) % 6 := ⟨_, rfl⟩
    have hn : (n : Int) = 6 * l + s := by omega
    by_cases c : wsU R p w l s
    · rw [wsW_y hn (by omega) (by omega) c]
      refine ⟨⟨by show 0 ≤ (wsW R p w n).1 + 1; omega, by show (wsW R p w n).1 + 1 ≤ ((n + 1 : Nat) : Int); omega⟩, fun i i0 i1 => ?_⟩
      have i1 : i < (wsW R p w n).1 + 1 := i1
      by_cases z : i = (wsW R p w n).1
      · exact ⟨l, s, by omega, by omega, by omega, by omega, if_pos z, c⟩
      · obtain ⟨l2, s2, b0, b1, b2, b3, b4, b5⟩ := a2 i i0 (by omega)
        exact ⟨l2, s2, b0, b1, b2, by omega, (show (if i = (wsW R p w n).1 then 10 * l + s else (wsW R p w n).2 i) = _ from if_neg z).trans b4, b5⟩
    · rw [wsW_n hn (by omega) (by omega) c]
      refine ⟨⟨a0, by omega⟩, fun i i0 i1 => ?_⟩
      obtain ⟨l2, s2, b0, b1, b2, b3, b4, b5⟩ := a2 i i0 i1
      exact ⟨l2, s2, b0, b1, b2, by omega, b4, b5⟩
theorem wsW_has {R : Int → Int} {p w l s : Int} (l0 : 0 ≤ l) (s0 : 0 ≤ s) (s1 : s < 6) (h : wsU R p w l s) : ∀ n : Nat, 6 * l + s < (n : Int) → ∃ i : Int, 0 ≤ i ∧ i < (wsW R p w n).1 ∧ (wsW R p w n).2 i = 10 * l + s := by
  intro n
  induction n with
  | zero => intro z; omega
  | succ n ih =>
    intro z
    have i0 := (wsW_in (R := R) (p := p) (w := w) n).1.1
    by_cases e : (n : Int) = 6 * l + s
    · rw [wsW_y e s0 s1 h]
      exact ⟨(wsW R p w n).1, i0, by show _ < (wsW R p w n).1 + 1; omega, if_pos rfl⟩
    · obtain ⟨i, a0, a1, a2⟩ := ih (by omega)
      by_cases c : wsU R p w ((n : Int) / 6) ((n : Int) % 6)
      · rw [wsW_y (l := (n : Int) / 6) (s := (n : Int) % 6) (by omega) (by omega) (by omega) c]
        refine ⟨i, a0, by show i < (wsW R p w n).1 + 1; omega, ?_⟩
        exact (show (if i = (wsW R p w n).1 then _ else (wsW R p w n).2 i) = _ from if_neg (by omega)).trans a2
      · rw [wsW_n (l := (n : Int) / 6) (s := (n : Int) % 6) (by omega) (by omega) (by omega) c]
        exact ⟨i, a0, a1, a2⟩
theorem wsW_le {R : Int → Int} {p w : Int} {n : Nat} : ∀ k : Nat, (wsW R p w n).1 ≤ (wsW R p w (n + k)).1 := by
  intro k
  induction k with
  | zero => exact Int.le_refl _
  | succ k ih =>
    by_cases c : wsU R p w (((n + k : Nat) : Int) / 6) (((n + k : Nat) : Int) % 6)
    · have z : wsW R p w (n + k + 1) = _ := wsW_y (l := ((n + k : Nat) : Int) / 6) (s := ((n + k : Nat) : Int) % 6) (by omega) (by omega) (by omega) c
      show _ ≤ (wsW R p w (n + k + 1)).1
      rw [z]
      show _ ≤ (wsW R p w (n + k)).1 + 1
      omega
    · have z : wsW R p w (n + k + 1) = _ := wsW_n (l := ((n + k : Nat) : Int) / 6) (s := ((n + k : Nat) : Int) % 6) (by omega) (by omega) (by omega) c
      show _ ≤ (wsW R p w (n + k + 1)).1
      rw [z]
      exact ih
theorem wsB_1 {R : Int → Int} {p l : Int} (h : wsB R p l ≠ 0) : R (84 + 6 * l + 1) = p := by
  unfold wsB at h
  by_cases c : R (84 + 6 * l + 1) = p
  · exact c
  · rw [if_neg c] at h
    exact absurd rfl h
theorem wsB_0 {R : Int → Int} {p l : Int} (h : wsB R p l = 0) : R (84 + 6 * l + 1) ≠ p := fun c => by
  unfold wsB at h
  rw [if_pos c] at h
  exact absurd h (by decide)
theorem wsW_k {R : Int → Int} {p w : Int} {n m : Nat} (le : n ≤ m) (h : ∀ l s : Int, 0 ≤ s → s < 6 → (n : Int) ≤ 6 * l + s → 6 * l + s < (m : Int) → ¬ wsU R p w l s) : wsW R p w m = wsW R p w n := by
  have z := wsW_s (R := R) (p := p) (w := w) (m - n) n (fun l s s0 s1 a1 a2 => h l s s0 s1 a1 (by omega))
  rw [show n + (m - n) = m from by omega] at z
  exact z
/-- only what a row tells of legs and speeds matters -/
theorem rsT_c {R R' : Int → Int} (h : ∀ j : Int, 0 ≤ j → j ≤ 155 → j ≠ 4 → R' j = R j) {l k s w : Int} (l0 : 0 ≤ l) (l1 : l ≤ 9) (s0 : 0 ≤ s) (s1 : s ≤ 5) : rsT R' l k s w = rsT R l k s w := by
  unfold rsT rsO
  rw [h (84 + 6 * l + 2) (by omega) (by omega) (by omega), h (144 + 2 * s) (by omega) (by omega) (by omega), h 6 (by decide) (by decide) (by decide), h (84 + 6 * l + 4) (by omega) (by omega) (by omega)]
theorem wsU_c {R R' : Int → Int} (h : ∀ j : Int, 0 ≤ j → j ≤ 155 → j ≠ 4 → R' j = R j) {p w l s : Int} (l0 : 0 ≤ l) (l1 : l ≤ 9) (s0 : 0 ≤ s) (s1 : s ≤ 5) : wsU R' p w l s ↔ wsU R p w l s := by
  have e1 : wsB R' p l = wsB R p l := by
    unfold wsB
    rw [h (84 + 6 * l + 1) (by omega) (by omega) (by omega)]
  show ((l < R' 2 ∧ (R' (84 + 6 * l) = p ∨ R' (84 + 6 * l + 1) = p)) ∧ (s < R' 3 ∧ rsT R' l (wsB R' p l) s w ≠ -1)) ↔ _
  rw [e1, rsT_c h l0 l1 s0 s1, h 2 (by decide) (by decide) (by decide), h 3 (by decide) (by decide) (by decide), h (84 + 6 * l) (by omega) (by omega) (by omega), h (84 + 6 * l + 1) (by omega) (by omega) (by omega)]
theorem wsW_c {R R' : Int → Int} (h : ∀ j : Int, 0 ≤ j → j ≤ 155 → j ≠ 4 → R' j = R j) {p w : Int} : ∀ n : Nat, n ≤ 60 → wsW R' p w n = wsW R p w n := by
  intro n
  induction n with
  | zero => intro _; rfl
  | succ n ih =>
    intro n1
    have u := wsU_c (p := p) (w := w) h (l := (n : Int) / 6) (s := (n : Int) % 6) (by omega) (by omega) (by omega) (by omega)
    by_cases c : wsU R p w ((n : Int) / 6) ((n : Int) % 6)
    · rw [wsW_y (l := (n : Int) / 6) (s := (n : Int) % 6) (by omega) (by omega) (by omega) c, wsW_y (R := R') (l := (n : Int) / 6) (s := (n : Int) % 6) (by omega) (by omega) (by omega) (u.2 c), ih (by omega)]
    · rw [wsW_n (l := (n : Int) / 6) (s := (n : Int) % 6) (by omega) (by omega) (by omega) c, wsW_n (R := R') (l := (n : Int) / 6) (s := (n : Int) % 6) (by omega) (by omega) (by omega) (fun y => c (u.1 y)), ih (by omega)]
theorem wsD_c {R R' : Int → Int} (h : ∀ j : Int, 0 ≤ j → j ≤ 155 → j ≠ 4 → R' j = R j) {p l : Int} (l0 : 0 ≤ l) (l1 : l ≤ 9) : wsD R' p l = wsD R p l := by
  unfold wsD
  rw [h (84 + 6 * l + 1) (by omega) (by omega) (by omega), h (84 + 6 * l) (by omega) (by omega) (by omega)]
theorem wsP_c {R R' : Int → Int} (h : ∀ j : Int, 0 ≤ j → j ≤ 155 → j ≠ 4 → R' j = R j) {p w l s : Int} (l0 : 0 ≤ l) (l1 : l ≤ 9) (s0 : 0 ≤ s) (s1 : s ≤ 5) : wsP R' p w l s = wsP R p w l s := by
  unfold wsP wsB
  rw [h (84 + 6 * l + 1) (by omega) (by omega) (by omega)]
  exact rsT_c h l0 l1 s0 s1
theorem wsX_c {R R' : Int → Int} (h : ∀ j : Int, 0 ≤ j → j ≤ 155 → j ≠ 4 → R' j = R j) {p w l s : Int} (l0 : 0 ≤ l) (l1 : l ≤ 9) (s0 : 0 ≤ s) (s1 : s ≤ 5) : wsX R' p w l s = wsX R p w l s := by
  unfold wsX
  rw [wsP_c h l0 l1 s0 s1, h (144 + 2 * s + 1) (by omega) (by omega) (by omega), h (84 + 6 * l + 3) (by omega) (by omega) (by omega)]
/-- a row that a sky may have -/
def wsR (R : Int → Int) : Prop := (0 ≤ R 1 ∧ R 1 ≤ 8) ∧ (0 ≤ R 2 ∧ R 2 ≤ 10) ∧ (0 ≤ R 3 ∧ R 3 ≤ 6) ∧ (31 ≤ R 7 ∧ R 7 ≤ 60) ∧ (∀ p : Int, 0 ≤ p → p ≤ 7 → (0 ≤ R (20 + 8 * p) ∧ R (20 + 8 * p) ≤ 30) ∧ (0 ≤ R (20 + 8 * p + 1) ∧ R (20 + 8 * p + 1) ≤ 2) ∧ 0 ≤ R (20 + 8 * p + 2)) ∧ (∀ l : Int, 0 ≤ l → l ≤ 9 → (0 ≤ R (84 + 6 * l) ∧ R (84 + 6 * l) ≤ 7) ∧ (0 ≤ R (84 + 6 * l + 1) ∧ R (84 + 6 * l + 1) ≤ 7) ∧ (0 ≤ R (84 + 6 * l + 2) ∧ R (84 + 6 * l + 2) ≤ 60) ∧ (-999 ≤ R (84 + 6 * l + 3) ∧ R (84 + 6 * l + 3) ≤ 999) ∧ (0 ≤ R (84 + 6 * l + 5) ∧ R (84 + 6 * l + 5) ≤ 40)) ∧ (∀ s : Int, 0 ≤ s → s ≤ 5 → 0 ≤ R (144 + 2 * s + 1) ∧ R (144 + 2 * s + 1) ≤ 999) ∧ (∀ l : Int, 0 ≤ l → l < R 2 → R (84 + 6 * l) < R 1 ∧ R (84 + 6 * l + 1) < R 1)
theorem wsW_60 {R : Int → Int} (h : wsR R) {p w i : Int} (i0 : 0 ≤ i) (i1 : i < (wsW R p w 60).1) : ∃ l s : Int, (0 ≤ l ∧ l ≤ 9) ∧ (0 ≤ s ∧ s ≤ 5) ∧ (wsW R p w 60).2 i = 10 * l + s ∧ wsU R p w l s := by
  obtain ⟨l, s, b0, b1, b2, b3, b4, b5⟩ := (wsW_in (R := R) (p := p) (w := w) 60).2 i i0 i1
  exact ⟨l, s, ⟨b0, by omega⟩, ⟨b1, by omega⟩, b4, b5⟩
theorem ws_td {u b : Int} (u0 : -8000000 ≤ u) (u1 : u ≤ 8000000) (b0 : 1 ≤ b) : -8000000 ≤ Int.tdiv u b ∧ Int.tdiv u b ≤ 8000000 := by
  by_cases c : 0 ≤ u
  · have h1 : 0 ≤ Int.tdiv u b := Int.tdiv_nonneg c (by omega)
    have h2 : Int.tdiv u b ≤ u := Int.tdiv_le_self b c
    omega
  · have h1 : 0 ≤ Int.tdiv (-u) b := Int.tdiv_nonneg (by omega) (by omega)
    have h2 : Int.tdiv (-u) b ≤ -u := Int.tdiv_le_self b (by omega)
    have h3 : Int.tdiv (-u) b = -(Int.tdiv u b) := Int.neg_tdiv ..
    omega
theorem wsP_in {R : Int → Int} (h : wsR R) {p w l s : Int} (l0 : 0 ≤ l) (l1 : l ≤ 9) (c : wsP R p w l s ≠ -1) : 1 ≤ wsP R p w l s ∧ wsP R p w l s ≤ 721 := by
  have hm := (h.2.2.2.2.2.1 l l0 l1).2.2.1
  unfold wsP rsT rsTk at *
  obtain ⟨o, jo⟩ : ∃ o, o = rsO R l (wsB R p l) s w := ⟨_, rfl⟩
  rw [← jo] at c ⊢
  by_cases z : o < 1
  · rw [if_pos z] at c
    exact absurd rfl c
  · rw [if_neg z] at c ⊢
    have e : w32 (12 * R (84 + 6 * l + 2)) = 12 * R (84 + 6 * l + 2) := w32_eq ⟨by omega, by omega⟩
    rw [e] at c ⊢
    have t := ws_720 (a := 12 * R (84 + 6 * l + 2)) (b := o) (by omega) (by omega) (by omega)
    rw [w32_eq (x := w32 (Int.tdiv (12 * R (84 + 6 * l + 2)) o) + 1) ⟨by omega, by omega⟩]
    omega
theorem wsX_in {R : Int → Int} (h : wsR R) {p w l s : Int} (l0 : 0 ≤ l) (l1 : l ≤ 9) (s0 : 0 ≤ s) (s1 : s ≤ 5) (c : wsP R p w l s ≠ -1) : -8000000 ≤ wsX R p w l s ∧ wsX R p w l s ≤ 8000000 := by
  have ha := (h.2.2.2.2.2.1 l l0 l1).2.2.2.1
  have hz := h.2.2.2.2.2.2.1 s s0 s1
  have ht := wsP_in h l0 l1 c
  unfold wsX rsLs
  obtain ⟨t, jt⟩ : ∃ t, t = wsP R p w l s := ⟨_, rfl⟩
  obtain ⟨z, jz⟩ : ∃ z, z = R (144 + 2 * s + 1) := ⟨_, rfl⟩
  obtain ⟨a, ja⟩ : ∃ a, a = R (84 + 6 * l + 3) := ⟨_, rfl⟩
  rw [← jt] at ht ⊢
  rw [← jz] at hz ⊢
  rw [← ja] at ha ⊢
  rw [w32_eq (x := 5 * t) ⟨by omega, by omega⟩, w32_eq (x := z - a) ⟨by omega, by omega⟩]
  have m1 : 5 * t * (z - a) ≤ 5 * t * 1998 := Int.mul_le_mul_of_nonneg_left (by omega) (by omega)
  have m2 : 5 * t * (-999) ≤ 5 * t * (z - a) := Int.mul_le_mul_of_nonneg_left (by omega) (by omega)
  have m3 : -8000000 ≤ 5 * t * (z - a) ∧ 5 * t * (z - a) ≤ 8000000 := ⟨by omega, by omega⟩
  rw [w32_eq (x := 5 * t * (z - a)) ⟨by omega, by omega⟩]
  have d := ws_td (b := 100) m3.1 m3.2 (by decide)
  rw [w32_eq (x := Int.tdiv (5 * t * (z - a)) 100) ⟨by omega, by omega⟩]
  exact d
/-- from place p at height a a way leads to place q, where one comes at height b -/
def gsT (R : Int → Int) (w p a q b : Int) : Prop := ((0 ≤ p ∧ p < R 1) ∧ (R (20 + 8 * p) ≤ a ∧ a ≤ R 7)) ∧ ∃ l s : Int, (0 ≤ l ∧ l ≤ 9) ∧ (0 ≤ s ∧ s ≤ 5) ∧ wsU R p w l s ∧ q = wsD R p l ∧ b = min (R 7) (a - wsX R p w l s) ∧ R (84 + 6 * l + 5) ≤ a - Int.tdiv (wsX R p w l s) 2 ∧ R (20 + 8 * q) ≤ b
/-- a path of such ways -/
def gsP (T : Int → Int → Int → Int → Prop) (p h q b : Int) : Prop := ∀ P : Int → Int → Prop, P p h → (∀ r a s c : Int, P r a → T r a s c → P s c) → P q b
def gsG (T : Int → Int → Int → Int → Prop) (p h : Int) (f : Int → Int) : Prop := h ≤ f p ∧ (∀ q : Int, 0 ≤ q → q ≤ 7 → -1 ≤ f q ∧ (f q ≠ -1 → gsP T p h q (f q))) ∧ ∀ q r c : Int, 0 ≤ q → q ≤ 7 → f q ≠ -1 → T q (f q) r c → c ≤ f r
theorem gsP_0 {T : Int → Int → Int → Int → Prop} {p h : Int} : gsP T p h p h := fun _ a _ => a
theorem gsP_1 {T : Int → Int → Int → Int → Prop} {p h q b r c : Int} (y : gsP T p h q b) (t : T q b r c) : gsP T p h r c := fun P a s => s q b r c (y P a s) t
theorem gsP_t {T : Int → Int → Int → Int → Prop} {p h q b r c : Int} (t : T p h q b) (y : gsP T q b r c) : gsP T p h r c := fun P a s => y P (s p h q b a t) s
theorem wsD_in {R : Int → Int} (h : wsR R) {p w l s : Int} (l0 : 0 ≤ l) (l1 : l ≤ 9) (u : wsU R p w l s) : (0 ≤ wsD R p l ∧ wsD R p l ≤ 7) ∧ wsD R p l < R 1 := by
  obtain ⟨a1, a2, -⟩ := h.2.2.2.2.2.1 l l0 l1
  obtain ⟨b1, b2⟩ := h.2.2.2.2.2.2.2 l l0 u.1.1
  unfold wsD
  split
  · exact ⟨a1, b1⟩
  · exact ⟨a2, b2⟩
theorem gsT_in {R : Int → Int} (h : wsR R) {w p a q b : Int} (t : gsT R w p a q b) : (0 ≤ q ∧ q < R 1) ∧ (R (20 + 8 * q) ≤ b ∧ b ≤ R 7) := by
  obtain ⟨-, l, s, l0, s0, u, e, eb, -, g⟩ := t
  have z := wsD_in h l0.1 l0.2 u
  rw [← e] at z
  exact ⟨⟨z.1.1, z.2⟩, g, by omega⟩
theorem gsT_m {R : Int → Int} {w p a a2 q b : Int} (t : gsT R w p a q b) (le : a ≤ a2) (c : a2 ≤ R 7) : ∃ b2 : Int, b ≤ b2 ∧ gsT R w p a2 q b2 := by
  obtain ⟨⟨pp, g1, g2⟩, l, s, l0, s0, u, e, eb, hl, g⟩ := t
  exact ⟨min (R 7) (a2 - wsX R p w l s), by omega, ⟨pp, by omega, c⟩, l, s, l0, s0, u, e, rfl, by omega, by omega⟩
theorem gsP_in {R : Int → Int} (h : wsR R) {w p a q b : Int} (st : (0 ≤ p ∧ p < R 1) ∧ (R (20 + 8 * p) ≤ a ∧ a ≤ R 7)) (t : gsP (gsT R w) p a q b) : (0 ≤ q ∧ q < R 1) ∧ (R (20 + 8 * q) ≤ b ∧ b ≤ R 7) :=
  t (fun q b => (0 ≤ q ∧ q < R 1) ∧ (R (20 + 8 * q) ≤ b ∧ b ≤ R 7)) st (fun _ _ _ _ _ t => gsT_in h t)
theorem gsG_le {R : Int → Int} (h : wsR R) {w p a : Int} (st : (0 ≤ p ∧ p < R 1) ∧ (R (20 + 8 * p) ≤ a ∧ a ≤ R 7)) {f : Int → Int} (g : gsG (gsT R w) p a f) {q b : Int} (t : gsP (gsT R w) p a q b) : b ≤ f q ∧ f q ≠ -1 := by
  have n8 := h.1.2
  have g0 : ∀ p : Int, 0 ≤ p → p < R 1 → 0 ≤ R (20 + 8 * p) := fun p p0 p1 => (h.2.2.2.2.1 p p0 (by omega)).1.1
  have z := t (fun q b => ((0 ≤ q ∧ q < R 1) ∧ (R (20 + 8 * q) ≤ b ∧ b ≤ R 7)) ∧ b ≤ f q) ⟨st, g.1⟩ (fun r c s d y t => by
    obtain ⟨⟨y1, y2⟩, y3⟩ := y
    have k0 := g0 r y1.1 y1.2
    have yp := (g.2.1 r y1.1 (by omega)).2 (by omega)
    have yi := gsP_in h st yp
    obtain ⟨d2, l2, t2⟩ := gsT_m t y3 yi.2.2
    have k := g.2.2 r s d2 y1.1 (by omega) (by omega) t2
    exact ⟨gsT_in h t, by omega⟩)
  have k0 := g0 q z.1.1.1 z.1.1.2
  exact ⟨z.2, by omega⟩
/-- what a glide comes to is one thing only -/
theorem gsG_u {R : Int → Int} (h : wsR R) {w p a : Int} (st : (0 ≤ p ∧ p < R 1) ∧ (R (20 + 8 * p) ≤ a ∧ a ≤ R 7)) {f g : Int → Int} (hf : gsG (gsT R w) p a f) (hg : gsG (gsT R w) p a g) {q : Int} (q0 : 0 ≤ q) (q1 : q ≤ 7) : f q = g q := by
  have k : ∀ {f g : Int → Int}, gsG (gsT R w) p a f → gsG (gsT R w) p a g → f q ≤ g q := fun {f g} hf hg => by
    by_cases c : f q = -1
    · rw [c]
      exact (hg.2.1 q q0 q1).1
    · exact (gsG_le h st hg ((hf.2.1 q q0 q1).2 c)).1
  have k1 := k hf hg
  have k2 := k hg hf
  omega
/-- edges: from place p at height a one comes to a place to land at -/
def gsL (R : Int → Int) (w p a : Int) : Prop := ∃ q b : Int, gsP (gsT R w) p a q b ∧ R (20 + 8 * q + 1) ≠ 0
def gsE (R : Int → Int) (w : Int) (e : Int → Int) : Prop := (∀ p : Int, 0 ≤ p → p < R 1 → e p = 1000000 ∨ (R (20 + 8 * p) ≤ e p ∧ e p ≤ R 7)) ∧ (∀ p a : Int, 0 ≤ p → p < R 1 → e p ≤ a → R (20 + 8 * p) ≤ a → a ≤ R 7 → gsL R w p a) ∧ (∀ p : Int, 0 ≤ p → p < R 1 → R (20 + 8 * p + 1) ≠ 0 → e p ≤ R (20 + 8 * p)) ∧ ∀ p a q b : Int, gsT R w p a q b → e q ≤ b → e p ≤ a
theorem gsL_t {R : Int → Int} {w p a q b : Int} (t : gsT R w p a q b) (y : gsL R w q b) : gsL R w p a := by
  obtain ⟨r, c, y1, y2⟩ := y
  exact ⟨r, c, gsP_t t y1, y2⟩
theorem gsE_l {R : Int → Int} (h : wsR R) {w : Int} {e : Int → Int} (he : gsE R w e) {p a : Int} (st : (0 ≤ p ∧ p < R 1) ∧ (R (20 + 8 * p) ≤ a ∧ a ≤ R 7)) : gsL R w p a ↔ e p ≤ a := by
  constructor
  · rintro ⟨q, b, y, k⟩
    have z := y (fun r c => ((0 ≤ r ∧ r < R 1) ∧ (R (20 + 8 * r) ≤ c ∧ c ≤ R 7)) ∧ (e r ≤ c → e p ≤ a)) ⟨st, fun z => z⟩ (fun r c s d y t => ⟨gsT_in h t, fun z => y.2 (he.2.2.2 r c s d t z)⟩)
    have l := he.2.2.1 q z.1.1.1 z.1.1.2 k
    exact z.2 (by omega)
  · intro z
    exact he.2.1 p a st.1.1 st.1.2 z st.2.1 st.2.2
/-- the edges are one thing only -/
theorem gsE_u {R : Int → Int} (h : wsR R) {w : Int} {e d : Int → Int} (he : gsE R w e) (hd : gsE R w d) {p : Int} (p0 : 0 ≤ p) (p1 : p < R 1) : e p = d p := by
  have k : ∀ {e d : Int → Int}, gsE R w e → gsE R w d → d p ≤ e p := fun {e d} he hd => by
    rcases he.1 p p0 p1 with c | c
    · have c7 := h.2.2.2.1.2
      rcases hd.1 p p0 p1 with z | z <;> omega
    · have st : (0 ≤ p ∧ p < R 1) ∧ (R (20 + 8 * p) ≤ e p ∧ e p ≤ R 7) := ⟨⟨p0, p1⟩, c⟩
      exact (gsE_l h hd st).1 ((gsE_l h he st).2 (Int.le_refl _))
  have k1 := k he hd
  have k2 := k hd he
  omega
/-- the places to land at that a glide comes to, as bits -/
def gsS (R : Int → Int) (f : Int → Int) : Nat → Int
  | 0 => 0
  | n + 1 => if f (n : Int) ≠ -1 ∧ R (20 + 8 * (n : Int) + 1) ≠ 0 then xOr (gsS R f n) (xShl 1 (n : Int)) else gsS R f n
theorem gsS_c {R f g : Int → Int} : ∀ n : Nat, n ≤ 8 → (∀ q : Int, 0 ≤ q → q ≤ 7 → f q = g q) → gsS R f n = gsS R g n := by
  intro n
  induction n with
  | zero => intro _ _; rfl
  | succ n ih =>
    intro n8 h
    show (if f (n : Int) ≠ -1 ∧ R (20 + 8 * (n : Int) + 1) ≠ 0 then xOr (gsS R f n) (xShl 1 (n : Int)) else gsS R f n) = (if g (n : Int) ≠ -1 ∧ R (20 + 8 * (n : Int) + 1) ≠ 0 then xOr (gsS R g n) (xShl 1 (n : Int)) else gsS R g n)
    rw [h n (by omega) (by omega), ih (by omega) h]
/-- a place and a height where one may be -/
def gsVd (R : Int → Int) (p a : Int) : Prop := (0 ≤ p ∧ p < R 1) ∧ (R (20 + 8 * p) ≤ a ∧ a ≤ R 7)
theorem wsR_c {R R' : Int → Int} (h : ∀ j : Int, 0 ≤ j → j ≤ 155 → j ≠ 4 → R' j = R j) (y : wsR R') : wsR R := by
  obtain ⟨y1, y2, y3, y4, y5, y6, y7, y8⟩ := y
  have e1 := h 1 (by decide) (by decide) (by decide)
  have e2 := h 2 (by decide) (by decide) (by decide)
  refine ⟨by rw [← e1]; exact y1, by rw [← e2]; exact y2, by rw [← h 3 (by decide) (by decide) (by decide)]; exact y3, by rw [← h 7 (by decide) (by decide) (by decide)]; exact y4, fun p p0 p1 => ?_, fun l l0 l1 => ?_, fun s s0 s1 => ?_, fun l l0 l1 => ?_⟩
  · rw [← h (20 + 8 * p) (by omega) (by omega) (by omega), ← h (20 + 8 * p + 1) (by omega) (by omega) (by omega), ← h (20 + 8 * p + 2) (by omega) (by omega) (by omega)]
    exact y5 p p0 p1
  · rw [← h (84 + 6 * l) (by omega) (by omega) (by omega), ← h (84 + 6 * l + 1) (by omega) (by omega) (by omega), ← h (84 + 6 * l + 2) (by omega) (by omega) (by omega), ← h (84 + 6 * l + 3) (by omega) (by omega) (by omega), ← h (84 + 6 * l + 5) (by omega) (by omega) (by omega)]
    exact y6 l l0 l1
  · rw [← h (144 + 2 * s + 1) (by omega) (by omega) (by omega)]
    exact y7 s s0 s1
  · rw [← e2] at l1
    rw [← e1, ← h (84 + 6 * l) (by omega) (by omega) (by omega), ← h (84 + 6 * l + 1) (by omega) (by omega) (by omega)]
    exact y8 l l0 l1
theorem gsT_c {R R' : Int → Int} (h : ∀ j : Int, 0 ≤ j → j ≤ 155 → j ≠ 4 → R' j = R j) (hw : wsR R) {w : Int} : gsT R' w = gsT R w := by
  have k : ∀ {A B : Int → Int}, (∀ j : Int, 0 ≤ j → j ≤ 155 → j ≠ 4 → B j = A j) → wsR A → ∀ p a q b : Int, gsT A w p a q b → gsT B w p a q b := fun {A B} h hw p a q b t => by
    obtain ⟨z1, z2⟩ := gsT_in hw t
    obtain ⟨⟨⟨p0, p1⟩, g1, g2⟩, l, s, ⟨l0, l1⟩, ⟨s0, s1⟩, u, e, eb, hl, g⟩ := t
    have n8 := hw.1.2
    refine ⟨⟨⟨p0, by rw [h 1 (by decide) (by decide) (by decide)]; exact p1⟩, by rw [h (20 + 8 * p) (by omega) (by omega) (by omega)]; exact g1, by rw [h 7 (by decide) (by decide) (by decide)]; exact g2⟩, l, s, ⟨l0, l1⟩, ⟨s0, s1⟩, (wsU_c h l0 l1 s0 s1).2 u, by rw [wsD_c h l0 l1]; exact e, by rw [wsX_c h l0 l1 s0 s1, h 7 (by decide) (by decide) (by decide)]; exact eb, by rw [wsX_c h l0 l1 s0 s1, h (84 + 6 * l + 5) (by omega) (by omega) (by omega)]; exact hl, by rw [h (20 + 8 * q) (by omega) (by omega) (by omega)]; exact g⟩
  funext p a q b
  exact propext ⟨fun t => k (fun j j0 j1 j4 => (h j j0 j1 j4).symm) (wsR_c (fun j j0 j1 j4 => (h j j0 j1 j4).symm) hw) p a q b t, k h hw p a q b⟩
theorem gsS_r {R R' f : Int → Int} (h : ∀ j : Int, 0 ≤ j → j ≤ 155 → j ≠ 4 → R' j = R j) : ∀ n : Nat, n ≤ 8 → gsS R' f n = gsS R f n := by
  intro n
  induction n with
  | zero => intro _; rfl
  | succ n ih =>
    intro n8
    show (if f (n : Int) ≠ -1 ∧ R' (20 + 8 * (n : Int) + 1) ≠ 0 then xOr (gsS R' f n) (xShl 1 (n : Int)) else gsS R' f n) = (if f (n : Int) ≠ -1 ∧ R (20 + 8 * (n : Int) + 1) ≠ 0 then xOr (gsS R f n) (xShl 1 (n : Int)) else gsS R f n)
    rw [h (20 + 8 * (n : Int) + 1) (by omega) (by omega) (by omega), ih (by omega)]
/-- the second's table of ways -/
def wsEn (D : xD) (k : Int) (R : Int → Int) (p w l s : Int) : Prop := D 191 k = l ∧ D 191 (k + 1) = s ∧ D 191 (k + 2) = wsD R p l ∧ D 191 (k + 3) = wsP R p w l s ∧ D 191 (k + 4) = wsX R p w l s
def wsEt (D : xD) (R : Int → Int) (p w r : Int) (Z : Int × (Int → Int)) : Prop := ∀ i : Int, 0 ≤ i → i < Z.1 → ∃ l s : Int, (0 ≤ l ∧ l ≤ 9) ∧ (0 ≤ s ∧ s ≤ 5) ∧ Z.2 i = 10 * l + s ∧ wsU R p w l s ∧ wsEn D (300 * r + 5 * i) R p w l s
def wsE (D : xD) : Prop := ∀ p w : Int, 0 ≤ p → p ≤ 7 → 0 ≤ w → w ≤ 1 → D 190 (2 * p + w) = (wsW (D 184) p w 60).1 ∧ wsEt D (D 184) p w (2 * p + w) (wsW (D 184) p w 60)
theorem wsEn_c {D D' : xD} {k : Int} {R : Int → Int} {p w l s : Int} (y : wsEn D k R p w l s) (e : ∀ c : Int, 0 ≤ c → c ≤ 4 → D' 191 (k + c) = D 191 (k + c)) : wsEn D' k R p w l s := by
  obtain ⟨y0, y1, y2, y3, y4⟩ := y
  have e0 := e 0 (by decide) (by decide)
  rw [Int.add_zero] at e0
  exact ⟨e0.trans y0, (e 1 (by decide) (by decide)).trans y1, (e 2 (by decide) (by decide)).trans y2, (e 3 (by decide) (by decide)).trans y3, (e 4 (by decide) (by decide)).trans y4⟩
theorem wsE_eq {D D' : xD} (hw : ∀ j : Int, 0 ≤ j → j ≤ 155 → j ≠ 4 → D' 184 j = D 184 j) (hm : ∀ j : Int, 0 ≤ j → j ≤ 15 → D' 190 j = D 190 j) (hk : ∀ j : Int, 0 ≤ j → j ≤ 4799 → D' 191 j = D 191 j) (y : wsE D) : wsE D' := fun p w p0 p1 w0 w1 => by
  obtain ⟨y1, y2⟩ := y p w p0 p1 w0 w1
  have b := (wsW_in (R := D 184) (p := p) (w := w) 60).1.2
  rw [hm _ (by omega) (by omega), wsW_c hw 60 (by decide)]
  refine ⟨y1, fun i i0 i1 => ?_⟩
  obtain ⟨l, s, ⟨l0, l1⟩, ⟨s0, s1⟩, z1, z2, z3⟩ := y2 i i0 i1
  have z4 : wsEn D' (300 * (2 * p + w) + 5 * i) (D 184) p w l s := wsEn_c z3 (fun c c0 c1 => hk _ (by omega) (by omega))
  refine ⟨l, s, ⟨l0, l1⟩, ⟨s0, s1⟩, z1, (wsU_c hw l0 l1 s0 s1).2 z2, ?_⟩
  unfold wsEn at z4 ⊢
  rw [wsD_c hw l0 l1, wsP_c hw l0 l1 s0 s1, wsX_c hw l0 l1 s0 s1]
  exact z4
/-- places to land at that are kept: what is kept is right -/
def lmE (D : xD) : Prop := wsR (D 184) → ∀ p a w : Int, gsVd (D 184) p a → 0 ≤ w → w ≤ 1 → D 193 (2 * (61 * p + a) + w) ≠ -1 → ∃ f : Int → Int, gsG (gsT (D 184) w) p a f ∧ D 193 (2 * (61 * p + a) + w) = gsS (D 184) f (D 184 1).toNat
theorem gsVd_in {R : Int → Int} (hw : wsR R) {p a : Int} (v : gsVd R p a) : (0 ≤ p ∧ p ≤ 7) ∧ (0 ≤ a ∧ a ≤ 60) := by
  have n8 := hw.1.2
  have c := hw.2.2.2.1.2
  obtain ⟨⟨p0, p1⟩, a0, a1⟩ := v
  have g := (hw.2.2.2.2.1 p p0 (by omega)).1.1
  exact ⟨⟨p0, by omega⟩, by omega, by omega⟩
theorem gsVd_c {R R' : Int → Int} (h : ∀ j : Int, 0 ≤ j → j ≤ 155 → j ≠ 4 → R' j = R j) (hw : wsR R') {p a : Int} (v : gsVd R' p a) : gsVd R p a := by
  have z := gsVd_in hw v
  obtain ⟨⟨p0, p1⟩, a0, a1⟩ := v
  exact ⟨⟨p0, by rw [← h 1 (by decide) (by decide) (by decide)]; exact p1⟩, by rw [← h (20 + 8 * p) (by omega) (by omega) (by omega)]; exact a0, by rw [← h 7 (by decide) (by decide) (by decide)]; exact a1⟩
theorem lmE_eq {D D' : xD} (hw : ∀ j : Int, 0 ≤ j → j ≤ 155 → j ≠ 4 → D' 184 j = D 184 j) (hl : ∀ j : Int, 0 ≤ j → j ≤ 975 → D' 193 j = D 193 j) (y : lmE D) : lmE D' := fun r p a w v w0 w1 n => by
  have z := gsVd_in r v
  have r2 := wsR_c hw r
  rw [hl _ (by omega) (by omega)] at n ⊢
  obtain ⟨f, f1, f2⟩ := y r2 p a w (gsVd_c hw r v) w0 w1 n
  have n8 := r2.1.2
  exact ⟨f, by rw [gsT_c hw r2]; exact f1, by rw [hw 1 (by decide) (by decide) (by decide), gsS_r hw _ (by omega)]; exact f2⟩
theorem lmE_0 {D : xD} (hl : ∀ j : Int, 0 ≤ j → j ≤ 975 → D 193 j = -1) : lmE D := fun r p a w v w0 w1 n => by
  have z := gsVd_in r v
  exact absurd (hl _ (by omega) (by omega)) n
