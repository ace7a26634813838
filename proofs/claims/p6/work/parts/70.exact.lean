/-! leaves, exactly -/
def yyUp (D : xD) (p : Int) : Int := if p = D 183 18 then D 183 19 else D 184 (25 + 8 * p)
def yyTk (D : xD) (u w : Int) : Int := if w = 0 then 0 else w32 (Int.tdiv (w32 (u * D 184 6)) 100)
def yyCl (D : xD) (p w : Int) : Int := if D 184 (23 + 8 * p) = 0 then 0 else max 0 (w32 (Int.tdiv (5 * ((yyUp D p - yyTk D (yyUp D p) w) - D 184 5)) 100))
def yyHi (D : xD) (p h w : Int) : Int := min (D 184 7) (h + yyCl D p w)
def yySw (D : xD) : Int := if D 184 14 = 1 ∧ 0 < D 184 6 then 1 else 0
def yyHb (x p : Int) : Int := xAnd (xShr x p) 1
def yyLs (D : xD) : Nat → Int
  | 0 => 0
  | k + 1 => xOr (yyLs D k) (if D 184 (23 + 8 * (k : Int)) = 1 then xShl 1 (k : Int) else 0)
def yySq (s p h : Int) : Int := (8 * s + p) * 61 + h
def yyCw (D : xD) (ls s p h t : Int) : Prop := yyHb ls p = 1 ∧ h < yyHi D p h (yySw D) ∧ D 204 (yySq s p (yyHi D p h (yySw D))) = t - 1
def yyGw (D : xD) (s k h t : Int) : Prop := D 191 (k + 3) ≤ t ∧ yyC D k h ∧ D 204 (yySq (xOr s (D 205 (D 191 (k + 2)))) (D 191 (k + 2)) (yyA D k h)) = t - D 191 (k + 3)
theorem yyHb_in (x p : Int) : 0 ≤ yyHb x p ∧ yyHb x p ≤ 1 := tt_and_r (a := xShr x p) (b := 1) (by decide) (by decide)
theorem yySw_in (D : xD) : 0 ≤ yySw D ∧ yySw D ≤ 1 := by
  unfold yySw
  split <;> decide
theorem or7 {a b : Int} (a0 : 0 ≤ a) (a1 : a ≤ 7) (ujb0 : 0 ≤ b) (ujb1 : b ≤ 7) : 0 ≤ xOr a b ∧ xOr a b ≤ 7 := by
  have z := tt_or (k := 3) (by decide) a0 (show a < 2 ^ 3 from by omega) ujb0 (show b < 2 ^ 3 from by omega)
  have z2 : xOr a b < 8 := z.2
  omega
theorem lf_up2 {dd : Nat} {p : Int} (hd : 2 ≤ dd) {H : xH} (hT : ttTI H) (p0 : 0 ≤ p) (p1 : p ≤ 7) {Q : Int → xH → Prop} (hQ : 0 ≤ yyUp H.1 p ∧ yyUp H.1 p ≤ 2250 → Q (yyUp H.1 p) H) : xCall dd 240 [(2, 183), (0, p)] H Q := by
  obtain ⟨e, rfl, he⟩ := ttRun0 (n := 1) hd
  have he : 1 ≤ e := he
  have zu := pu_ty hT p0 p1
  have zt : 0 ≤ H.1 183 19 ∧ H.1 183 19 ≤ 2250 := ttMc hT (a := 183) (j := 19) (by decide) (by decide) (by decide) (by decide)
  refine xC_of (L := [(2, 183), (0, p)]) (cd := cd_240) rfl rfl rfl ?_
  refine q_il (pc := 0) (i := 1) (x := p) rfl rfl ?_
  refine q_al (pc := 1) (i := 0) (x := 183) rfl rfl ?_
  refine q_gf (pc := 2) (m := 12180) (t := 0) (c := 18) rfl (ttKc hT (a := 183) (κ := 12) (len := 0) ⟨rfl, rfl⟩ (by decide) (by decide)).1 rfl rfl ?_
  refine q_i2 (pc := 3) rfl (fun h3 => ?_) (fun h3 => ?_)
  · replace h3 : p ≠ (H.1 183 18) := h3
    refine q_al (pc := 7) (i := 0) (x := 183) rfl rfl ?_
    refine q_il (pc := 8) (i := 1) (x := p) rfl rfl ?_
    refine q_ic (pc := 9) (v := 5) rfl ?_
    refine q_iv (pc := 10) (q := 1664972) rfl rfl rfl (ttKc hT (a := 183) (κ := 12) (len := 0) ⟨rfl, rfl⟩ (by decide) (by decide)).1 ?_
    refine lf_ofPlace (j := (25 + 8 * p)) (by omega) (by omega) hT (by omega) (by omega) (by omega) (by omega) ?_
    refine q_ri (pc := 11) rfl ?_
    have z : yyUp H.1 p = (H.1 184 (25 + 8 * p)) := by
      unfold yyUp
      first | exact if_pos h3 | exact if_neg h3
    rw [z] at hQ
    exact hQ (by omega)
  · replace h3 : p = (H.1 183 18) := h3
    refine q_al (pc := 4) (i := 0) (x := 183) rfl rfl ?_
    refine q_gf (pc := 5) (m := 12190) (t := 0) (c := 19) rfl (ttKc hT (a := 183) (κ := 12) (len := 0) ⟨rfl, rfl⟩ (by decide) (by decide)).1 rfl rfl ?_
    refine q_go (pc := 6) rfl ?_
    refine q_ri (pc := 11) rfl ?_
    have z : yyUp H.1 p = (H.1 183 19) := by
      unfold yyUp
      first | exact if_pos h3 | exact if_neg h3
    rw [z] at hQ
    exact hQ (by omega)
theorem lf_climb2 {dd : Nat} {p w : Int} (hd : 3 ≤ dd) {H : xH} (hT : ttTI H) (p0 : 0 ≤ p) (p1 : p ≤ 7) {Q : Int → xH → Prop} (hQ : 0 ≤ yyCl H.1 p w ∧ yyCl H.1 p w ≤ 11250 → Q (yyCl H.1 p w) H) : xCall dd 241 [(2, 183), (0, p), (0, w)] H Q := by
  obtain ⟨e, rfl, he⟩ := ttRun0 (n := 2) hd
  have he : 2 ≤ e := he
  have zw : 0 ≤ H.1 184 6 ∧ H.1 184 6 ≤ 50 := ttMc hT (a := 184) (j := 6) (by decide) (by decide) (by decide) (by decide)
  have zn : 0 ≤ H.1 184 5 ∧ H.1 184 5 ≤ 999 := ttMc hT (a := 184) (j := 5) (by decide) (by decide) (by decide) (by decide)
  refine xC_of (L := [(2, 183), (0, p), (0, w), (9, 0)]) (cd := cd_241) rfl rfl rfl ?_
  refine q_al (pc := 0) (i := 0) (x := 183) rfl rfl ?_
  refine q_il (pc := 1) (i := 1) (x := p) rfl rfl ?_
  refine q_ic (pc := 2) (v := 3) rfl ?_
  refine q_iv (pc := 3) (q := 1664972) rfl rfl rfl (ttKc hT (a := 183) (κ := 12) (len := 0) ⟨rfl, rfl⟩ (by decide) (by decide)).1 ?_
  refine lf_ofPlace (j := (23 + 8 * p)) (by omega) (by omega) hT (by omega) (by omega) (by omega) (by omega) ?_
  refine q_if (pc := 4) rfl (fun h4 => ?_) (fun h4 => ?_)
  · replace h4 : (H.1 184 (23 + 8 * p)) ≠ 0 := h4
    refine q_al (pc := 7) (i := 0) (x := 183) rfl rfl ?_
    refine q_il (pc := 8) (i := 1) (x := p) rfl rfl ?_
    refine q_iv (pc := 9) (q := 1920968) rfl rfl rfl (ttKc hT (a := 183) (κ := 12) (len := 0) ⟨rfl, rfl⟩ (by decide) (by decide)).1 ?_
    refine lf_up2 (by omega) hT (by omega) (by omega) (fun hu => ?_)
    obtain ⟨u, ju⟩ : ∃ u, u = yyUp H.1 p := ⟨_, rfl⟩
    rw [← ju] at hu ⊢
    have zm := ml_b hu.1 hu.2 zw.1 zw.2
    have zd := td_b (b := 100) (by decide) (show -600000 ≤ w32 (u * H.1 184 6) from by omega) zm.2
    refine q_is (pc := 10) (i := 3) (L' := [(2, 183), (0, p), (0, w), (0, u)]) rfl rfl rfl ?_
    refine q_ic (pc := 11) (v := 0) rfl ?_
    refine q_ic (pc := 12) (v := 5) rfl ?_
    refine q_il (pc := 13) (i := 3) (x := u) rfl rfl ?_
    refine q_il (pc := 14) (i := 2) (x := w) rfl rfl ?_
    refine q_if (pc := 15) rfl (fun h15 => ?_) (fun h15 => ?_)
    · replace h15 : w = 0 := h15
      refine q_ic (pc := 25) (v := 0) rfl ?_
      refine q_ib (pc := 26) rfl (by omega) (by omega) ?_
      refine q_al (pc := 27) (i := 0) (x := 183) rfl rfl ?_
      refine q_gf (pc := 28) (m := 12012) (t := 2) (c := 1) rfl (ttKc hT (a := 183) (κ := 12) (len := 0) ⟨rfl, rfl⟩ (by decide) (by decide)).1 rfl rfl ?_
      rw [show H.1 183 1 = 184 from ttFx hT (by decide) (by decide) rfl rfl rfl]
      refine q_ic (pc := 29) (v := 5) rfl ?_
      refine q_ai (pc := 30) rfl (ttKc hT (a := 184) (κ := 20) (len := 196) ⟨rfl, rfl⟩ (by decide) (by decide)).1 (by omega) (by rw [(ttKc hT (a := 184) (κ := 20) (len := 196) ⟨rfl, rfl⟩ (by decide) (by decide)).2]; omega) ?_
      refine q_ib (pc := 31) rfl (by omega) (by omega) ?_
      refine q_im (pc := 32) rfl (by omega) (by omega) ?_
      have ze := td_b (b := 100) (y := (5 * ((u - 0) - (H.1 184 5)))) (by decide) (by omega) (by omega)
      refine q_ic (pc := 33) (v := 100) rfl ?_
      refine q_wd (pc := 34) rfl (by decide) ?_
      refine q_mx (pc := 35) rfl rfl (by omega) ?_
      refine q_ri (pc := 36) rfl ?_
      have z : yyCl H.1 p w = (max 0 (w32 (Int.tdiv (5 * ((u - 0) - (H.1 184 5))) 100))) := by
        unfold yyCl yyTk
        rw [if_neg h4, ← ju]
        first | rw [if_pos h15] | rw [if_neg h15]
      rw [z] at hQ
      exact hQ (by omega)
    · replace h15 : w ≠ 0 := h15
      refine q_il (pc := 16) (i := 3) (x := u) rfl rfl ?_
      refine q_al (pc := 17) (i := 0) (x := 183) rfl rfl ?_
      refine q_gf (pc := 18) (m := 12012) (t := 2) (c := 1) rfl (ttKc hT (a := 183) (κ := 12) (len := 0) ⟨rfl, rfl⟩ (by decide) (by decide)).1 rfl rfl ?_
      rw [show H.1 183 1 = 184 from ttFx hT (by decide) (by decide) rfl rfl rfl]
      refine q_ic (pc := 19) (v := 6) rfl ?_
      refine q_ai (pc := 20) rfl (ttKc hT (a := 184) (κ := 20) (len := 196) ⟨rfl, rfl⟩ (by decide) (by decide)).1 (by omega) (by rw [(ttKc hT (a := 184) (κ := 20) (len := 196) ⟨rfl, rfl⟩ (by decide) (by decide)).2]; omega) ?_
      refine q_wm (pc := 21) rfl ?_
      refine q_ic (pc := 22) (v := 100) rfl ?_
      refine q_wd (pc := 23) rfl (by decide) ?_
      refine q_go (pc := 24) rfl ?_
      refine q_ib (pc := 26) rfl (by omega) (by omega) ?_
      refine q_al (pc := 27) (i := 0) (x := 183) rfl rfl ?_
      refine q_gf (pc := 28) (m := 12012) (t := 2) (c := 1) rfl (ttKc hT (a := 183) (κ := 12) (len := 0) ⟨rfl, rfl⟩ (by decide) (by decide)).1 rfl rfl ?_
      rw [show H.1 183 1 = 184 from ttFx hT (by decide) (by decide) rfl rfl rfl]
      refine q_ic (pc := 29) (v := 5) rfl ?_
      refine q_ai (pc := 30) rfl (ttKc hT (a := 184) (κ := 20) (len := 196) ⟨rfl, rfl⟩ (by decide) (by decide)).1 (by omega) (by rw [(ttKc hT (a := 184) (κ := 20) (len := 196) ⟨rfl, rfl⟩ (by decide) (by decide)).2]; omega) ?_
      refine q_ib (pc := 31) rfl (by omega) (by omega) ?_
      refine q_im (pc := 32) rfl (by omega) (by omega) ?_
      have ze := td_b (b := 100) (y := (5 * ((u - (w32 (Int.tdiv (w32 (u * (H.1 184 6))) 100))) - (H.1 184 5)))) (by decide) (by omega) (by omega)
      refine q_ic (pc := 33) (v := 100) rfl ?_
      refine q_wd (pc := 34) rfl (by decide) ?_
      refine q_mx (pc := 35) rfl rfl (by omega) ?_
      refine q_ri (pc := 36) rfl ?_
      have z : yyCl H.1 p w = (max 0 (w32 (Int.tdiv (5 * ((u - (w32 (Int.tdiv (w32 (u * (H.1 184 6))) 100))) - (H.1 184 5))) 100))) := by
        unfold yyCl yyTk
        rw [if_neg h4, ← ju]
        first | rw [if_pos h15] | rw [if_neg h15]
      rw [z] at hQ
      exact hQ (by omega)
  · replace h4 : (H.1 184 (23 + 8 * p)) = 0 := h4
    refine q_ic (pc := 5) (v := 0) rfl ?_
    refine q_ri (pc := 6) rfl ?_
    have z : yyCl H.1 p w = 0 := by
      unfold yyCl
      exact if_pos h4
    rw [z] at hQ
    exact hQ (by omega)
theorem lf_higher2 {dd : Nat} {p h w : Int} (hd : 4 ≤ dd) {H : xH} (hT : ttTI H) (p0 : 0 ≤ p) (p1 : p ≤ 7) (h0 : 0 ≤ h) (h1 : h ≤ 60) (w0 : 0 ≤ w) (w1 : w ≤ 1) {Q : Int → xH → Prop} (hQ : yyHi H.1 p h w ≤ H.1 184 7 → Q (yyHi H.1 p h w) H) : xCall dd 269 [(2, 183), (0, p), (0, h), (0, w)] H Q := by
  obtain ⟨e, rfl, he⟩ := ttRun0 (n := 3) hd
  have he : 3 ≤ e := he
  refine xC_of (L := [(2, 183), (0, p), (0, h), (0, w)]) (cd := cd_269) rfl rfl rfl ?_
  refine q_al (pc := 0) (i := 0) (x := 183) rfl rfl ?_
  refine q_gf (pc := 1) (m := 12012) (t := 2) (c := 1) rfl (ttKc hT (a := 183) (κ := 12) (len := 0) ⟨rfl, rfl⟩ (by decide) (by decide)).1 rfl rfl ?_
  rw [show H.1 183 1 = 184 from ttFx hT (by decide) (by decide) rfl rfl rfl]
  refine q_ic (pc := 2) (v := 7) rfl ?_
  refine q_ai (pc := 3) rfl (ttKc hT (a := 184) (κ := 20) (len := 196) ⟨rfl, rfl⟩ (by decide) (by decide)).1 (by omega) (by rw [(ttKc hT (a := 184) (κ := 20) (len := 196) ⟨rfl, rfl⟩ (by decide) (by decide)).2]; omega) ?_
  refine q_il (pc := 4) (i := 2) (x := h) rfl rfl ?_
  refine q_al (pc := 5) (i := 0) (x := 183) rfl rfl ?_
  refine q_il (pc := 6) (i := 1) (x := p) rfl rfl ?_
  refine q_il (pc := 7) (i := 3) (x := w) rfl rfl ?_
  refine q_ic (pc := 8) (v := 1) rfl ?_
  refine q_i2 (pc := 9) rfl (fun h9 => ?_) (fun h9 => ?_)
  · replace h9 : w ≠ 1 := h9
    refine q_ic (pc := 12) (v := 0) rfl ?_
    refine q_iv (pc := 13) (q := 1928972) rfl rfl rfl (ttKc hT (a := 183) (κ := 12) (len := 0) ⟨rfl, rfl⟩ (by decide) (by decide)).1 ?_
    refine lf_climb2 (by omega) hT (by omega) (by omega) (fun hu => ?_)
    have jw : w = 0 := by omega
    rw [← jw] at hu ⊢
    obtain ⟨u, ju⟩ : ∃ u, u = yyCl H.1 p w := ⟨_, rfl⟩
    rw [← ju] at hu ⊢
    refine q_ia (pc := 14) rfl (by omega) (by omega) ?_
    refine q_mn (pc := 15) rfl rfl (by omega) ?_
    refine q_ri (pc := 16) rfl ?_
    have z : yyHi H.1 p h w = (min (H.1 184 7) (h + u)) := by unfold yyHi; rw [← ju]
    rw [z] at hQ
    exact hQ (by omega)
  · replace h9 : w = 1 := h9
    refine q_ic (pc := 10) (v := 1) rfl ?_
    refine q_go (pc := 11) rfl ?_
    refine q_iv (pc := 13) (q := 1928972) rfl rfl rfl (ttKc hT (a := 183) (κ := 12) (len := 0) ⟨rfl, rfl⟩ (by decide) (by decide)).1 ?_
    refine lf_climb2 (by omega) hT (by omega) (by omega) (fun hu => ?_)
    have jw : w = 1 := by omega
    rw [← jw] at hu ⊢
    obtain ⟨u, ju⟩ : ∃ u, u = yyCl H.1 p w := ⟨_, rfl⟩
    rw [← ju] at hu ⊢
    refine q_ia (pc := 14) rfl (by omega) (by omega) ?_
    refine q_mn (pc := 15) rfl rfl (by omega) ?_
    refine q_ri (pc := 16) rfl ?_
    have z : yyHi H.1 p h w = (min (H.1 184 7) (h + u)) := by unfold yyHi; rw [← ju]
    rw [z] at hQ
    exact hQ (by omega)
theorem lf_startWet2 {dd : Nat} (hd : 1 ≤ dd) {H : xH} (hT : ttTI H) {Q : Int → xH → Prop} (hQ : Q (yySw H.1) H) : xCall dd 282 [(2, 183)] H Q := by
  obtain ⟨e, rfl, he⟩ := ttRun0 (n := 0) hd
  refine xC_of (L := [(2, 183)]) (cd := cd_282) rfl rfl rfl ?_
  refine q_al (pc := 0) (i := 0) (x := 183) rfl rfl ?_
  refine q_gf (pc := 1) (m := 12012) (t := 2) (c := 1) rfl (ttKc hT (a := 183) (κ := 12) (len := 0) ⟨rfl, rfl⟩ (by decide) (by decide)).1 rfl rfl ?_
  rw [show H.1 183 1 = 184 from ttFx hT (by decide) (by decide) rfl rfl rfl]
  refine q_ic (pc := 2) (v := 14) rfl ?_
  refine q_ai (pc := 3) rfl (ttKc hT (a := 184) (κ := 20) (len := 196) ⟨rfl, rfl⟩ (by decide) (by decide)).1 (by omega) (by rw [(ttKc hT (a := 184) (κ := 20) (len := 196) ⟨rfl, rfl⟩ (by decide) (by decide)).2]; omega) ?_
  refine q_ic (pc := 4) (v := 1) rfl ?_
  refine q_i2 (pc := 5) rfl (fun h5 => ?_) (fun h5 => ?_)
  · replace h5 : (H.1 184 14) ≠ 1 := h5
    refine q_ic (pc := 13) (v := 0) rfl ?_
    refine q_ri (pc := 14) rfl ?_
    have z : yySw H.1 = 0 := by
      unfold yySw
      first | exact if_pos ⟨by assumption, by assumption⟩ | exact if_neg (by omega)
    rw [z] at hQ
    exact hQ
  · replace h5 : (H.1 184 14) = 1 := h5
    refine q_al (pc := 6) (i := 0) (x := 183) rfl rfl ?_
    refine q_gf (pc := 7) (m := 12012) (t := 2) (c := 1) rfl (ttKc hT (a := 183) (κ := 12) (len := 0) ⟨rfl, rfl⟩ (by decide) (by decide)).1 rfl rfl ?_
    rw [show H.1 183 1 = 184 from ttFx hT (by decide) (by decide) rfl rfl rfl]
    refine q_ic (pc := 8) (v := 6) rfl ?_
    refine q_ai (pc := 9) rfl (ttKc hT (a := 184) (κ := 20) (len := 196) ⟨rfl, rfl⟩ (by decide) (by decide)).1 (by omega) (by rw [(ttKc hT (a := 184) (κ := 20) (len := 196) ⟨rfl, rfl⟩ (by decide) (by decide)).2]; omega) ?_
    refine q_if (pc := 10) rfl (fun h10 => ?_) (fun h10 => ?_)
    · replace h10 : (H.1 184 6) ≤ 0 := h10
      refine q_ic (pc := 13) (v := 0) rfl ?_
      refine q_ri (pc := 14) rfl ?_
      have z : yySw H.1 = 0 := by
        unfold yySw
        first | exact if_pos ⟨by assumption, by assumption⟩ | exact if_neg (by omega)
      rw [z] at hQ
      exact hQ
    · replace h10 : 0 < (H.1 184 6) := h10
      refine q_ic (pc := 11) (v := 1) rfl ?_
      refine q_go (pc := 12) rfl ?_
      refine q_ri (pc := 14) rfl ?_
      have z : yySw H.1 = 1 := by
        unfold yySw
        first | exact if_pos ⟨by assumption, by assumption⟩ | exact if_neg (by omega)
      rw [z] at hQ
      exact hQ
theorem lf_holds {dd : Nat} {x p : Int} (hd : 1 ≤ dd) {H : xH} {Q : Int → xH → Prop} (hy : yyHb x p = 1 → Q 1 H) (hn : yyHb x p = 0 → Q 0 H) : xCall dd 202 [(0, x), (0, p)] H Q := by
  obtain ⟨e, rfl, he⟩ := ttRun0 (n := 0) hd
  have zb := yyHb_in x p
  refine xC_of (L := [(0, x), (0, p)]) (cd := cd_202) rfl rfl rfl ?_
  refine q_il (pc := 0) (i := 0) (x := x) rfl rfl ?_
  refine q_il (pc := 1) (i := 1) (x := p) rfl rfl ?_
  refine q_sr (pc := 2) rfl ?_
  refine q_ic (pc := 3) (v := 1) rfl ?_
  refine q_an (pc := 4) rfl ?_
  rw [show xAnd (xShr x p) 1 = yyHb x p from rfl]
  refine q_ic (pc := 5) (v := 1) rfl ?_
  refine q_i2 (pc := 6) rfl (fun h6 => ?_) (fun h6 => ?_)
  · replace h6 : (yyHb x p) ≠ 1 := h6
    refine q_ic (pc := 9) (v := 0) rfl ?_
    refine q_rz (pc := 10) rfl (by omega) ?_
    first | exact hy h6 | exact hn (by omega)
  · replace h6 : (yyHb x p) = 1 := h6
    refine q_ic (pc := 7) (v := 1) rfl ?_
    refine q_go (pc := 8) rfl ?_
    refine q_rz (pc := 10) rfl (by omega) ?_
    first | exact hy h6 | exact hn (by omega)
theorem lf_spot {dd : Nat} {s p h : Int} (hd : 1 ≤ dd) {H : xH} (s0 : 0 ≤ s) (s1 : s ≤ 7) (p0 : 0 ≤ p) (p1 : p ≤ 7) (h0 : 0 ≤ h) (h1 : h ≤ 60) {Q : Int → xH → Prop} (hQ : 0 ≤ yySq s p h ∧ yySq s p h ≤ 3903 → Q (yySq s p h) H) : xCall dd 315 [(0, s), (0, p), (0, h)] H Q := by
  obtain ⟨e, rfl, he⟩ := ttRun0 (n := 0) hd
  refine xC_of (L := [(0, s), (0, p), (0, h)]) (cd := cd_315) rfl rfl rfl ?_
  refine q_ic (pc := 0) (v := 8) rfl ?_
  refine q_il (pc := 1) (i := 0) (x := s) rfl rfl ?_
  refine q_im (pc := 2) rfl (by omega) (by omega) ?_
  refine q_il (pc := 3) (i := 1) (x := p) rfl rfl ?_
  refine q_ia (pc := 4) rfl (by omega) (by omega) ?_
  refine q_ic (pc := 5) (v := 61) rfl ?_
  refine q_im (pc := 6) rfl (by omega) (by omega) ?_
  refine q_il (pc := 7) (i := 2) (x := h) rfl rfl ?_
  refine q_ia (pc := 8) rfl (by omega) (by omega) ?_
  refine q_ri (pc := 9) rfl ?_
  unfold yySq at hQ
  rw [show ((((8 * s) + p) * 61) + h) = (8 * s + p) * 61 + h from by omega]
  exact hQ (by omega)
theorem lf_liftSet {dd : Nat} (hd : 2 ≤ dd) {H : xH} (hT : ttTI H) {Q : Int → xH → Prop} (hQ : Q (yyLs H.1 (H.1 184 1).toNat) H) : xCall dd 320 [(2, 183)] H Q := by
  obtain ⟨e, rfl, he⟩ := ttRun0 (n := 1) hd
  have he : 1 ≤ e := he
  have z1 : 0 ≤ H.1 184 1 ∧ H.1 184 1 ≤ 8 := ttMc hT (a := 184) (j := 1) (by decide) (by decide) (by decide) (by decide)
  have hl : ∀ n : Nat, ∀ p : Nat, (p : Int) ≤ H.1 184 1 → H.1 184 1 - p ≤ (n : Int) → xW e cd_320 Q (4, [(2, 183), (0, yyLs H.1 p), (0, (p : Int))], [], H) := by
    intro n
    induction n with
    | zero =>
      intro m m1 hn2
      obtain ⟨p, hp⟩ : ∃ p : Int, p = (m : Int) := ⟨_, rfl⟩
      obtain ⟨l, hl⟩ : ∃ l, l = yyLs H.1 m := ⟨_, rfl⟩
      rw [← hp, ← hl]
      refine q_il (pc := 4) (i := 2) (x := p) rfl rfl ?_
      refine q_al (pc := 5) (i := 0) (x := 183) rfl rfl ?_
      refine q_gf (pc := 6) (m := 12012) (t := 2) (c := 1) rfl (ttKc hT (a := 183) (κ := 12) (len := 0) ⟨rfl, rfl⟩ (by decide) (by decide)).1 rfl rfl ?_
      rw [show H.1 183 1 = 184 from ttFx hT (by decide) (by decide) rfl rfl rfl]
      refine q_ic (pc := 7) (v := 1) rfl ?_
      refine q_ai (pc := 8) rfl (ttKc hT (a := 184) (κ := 20) (len := 196) ⟨rfl, rfl⟩ (by decide) (by decide)).1 (by omega) (by rw [(ttKc hT (a := 184) (κ := 20) (len := 196) ⟨rfl, rfl⟩ (by decide) (by decide)).2]; omega) ?_
      refine q_i2 (pc := 9) rfl (fun h9 => ?_) (fun h9 => ?_)
      · replace h9 : (H.1 184 1) ≤ p := h9
        refine q_il (pc := 26) (i := 1) (x := l) rfl rfl ?_
        refine q_ri (pc := 27) rfl ?_
        rw [show (H.1 184 1).toNat = m from by omega, ← hl] at hQ
        exact hQ
      · replace h9 : p < (H.1 184 1) := h9
        omega
    | succ n ih =>
      intro m m1 hn2
      obtain ⟨p, hp⟩ : ∃ p : Int, p = (m : Int) := ⟨_, rfl⟩
      obtain ⟨l, hl⟩ : ∃ l, l = yyLs H.1 m := ⟨_, rfl⟩
      rw [← hp, ← hl]
      refine q_il (pc := 4) (i := 2) (x := p) rfl rfl ?_
      refine q_al (pc := 5) (i := 0) (x := 183) rfl rfl ?_
      refine q_gf (pc := 6) (m := 12012) (t := 2) (c := 1) rfl (ttKc hT (a := 183) (κ := 12) (len := 0) ⟨rfl, rfl⟩ (by decide) (by decide)).1 rfl rfl ?_
      rw [show H.1 183 1 = 184 from ttFx hT (by decide) (by decide) rfl rfl rfl]
      refine q_ic (pc := 7) (v := 1) rfl ?_
      refine q_ai (pc := 8) rfl (ttKc hT (a := 184) (κ := 20) (len := 196) ⟨rfl, rfl⟩ (by decide) (by decide)).1 (by omega) (by rw [(ttKc hT (a := 184) (κ := 20) (len := 196) ⟨rfl, rfl⟩ (by decide) (by decide)).2]; omega) ?_
      refine q_i2 (pc := 9) rfl (fun h9 => ?_) (fun h9 => ?_)
      · replace h9 : (H.1 184 1) ≤ p := h9
        refine q_il (pc := 26) (i := 1) (x := l) rfl rfl ?_
        refine q_ri (pc := 27) rfl ?_
        rw [show (H.1 184 1).toNat = m from by omega, ← hl] at hQ
        exact hQ
      · replace h9 : p < (H.1 184 1) := h9
        refine q_il (pc := 10) (i := 1) (x := l) rfl rfl ?_
        refine q_al (pc := 11) (i := 0) (x := 183) rfl rfl ?_
        refine q_il (pc := 12) (i := 2) (x := p) rfl rfl ?_
        refine q_ic (pc := 13) (v := 3) rfl ?_
        refine q_iv (pc := 14) (q := 1664972) rfl rfl rfl (ttKc hT (a := 183) (κ := 12) (len := 0) ⟨rfl, rfl⟩ (by decide) (by decide)).1 ?_
        refine lf_ofPlace (j := (23 + 8 * p)) (by omega) (by omega) hT (by omega) (by omega) (by omega) (by omega) ?_
        refine q_ic (pc := 15) (v := 1) rfl ?_
        refine q_i2 (pc := 16) rfl (fun h16 => ?_) (fun h16 => ?_)
        · replace h16 : (H.1 184 (23 + 8 * p)) ≠ 1 := h16
          refine q_ic (pc := 21) (v := 0) rfl ?_
          refine q_or (pc := 22) rfl ?_
          refine q_is (pc := 23) (i := 1) (L' := [(2, 183), (0, (xOr l 0)), (0, p)]) rfl rfl rfl ?_
          refine q_ii (pc := 24) (i := 2) (c := 1) (x := p) (L' := [(2, 183), (0, (xOr l 0)), (0, (p + 1))]) rfl rfl rfl (by omega) (by omega) rfl ?_
          refine q_go (pc := 25) rfl ?_
          have z : yyLs H.1 (m + 1) = (xOr l 0) := by
            show xOr (yyLs H.1 m) (if H.1 184 (23 + 8 * (m : Int)) = 1 then xShl 1 (m : Int) else 0) = _
            rw [← hp, ← hl, if_neg h16]
          have z2 := ih (m + 1) (by omega) (by omega)
          rw [z, show ((m + 1 : Nat) : Int) = p + 1 from by omega] at z2
          exact z2
        · replace h16 : (H.1 184 (23 + 8 * p)) = 1 := h16
          refine q_ic (pc := 17) (v := 1) rfl ?_
          refine q_il (pc := 18) (i := 2) (x := p) rfl rfl ?_
          refine q_sl (pc := 19) rfl ?_
          refine q_go (pc := 20) rfl ?_
          refine q_or (pc := 22) rfl ?_
          refine q_is (pc := 23) (i := 1) (L' := [(2, 183), (0, (xOr l (xShl 1 p))), (0, p)]) rfl rfl rfl ?_
          refine q_ii (pc := 24) (i := 2) (c := 1) (x := p) (L' := [(2, 183), (0, (xOr l (xShl 1 p))), (0, (p + 1))]) rfl rfl rfl (by omega) (by omega) rfl ?_
          refine q_go (pc := 25) rfl ?_
          have z : yyLs H.1 (m + 1) = (xOr l (xShl 1 p)) := by
            show xOr (yyLs H.1 m) (if H.1 184 (23 + 8 * (m : Int)) = 1 then xShl 1 (m : Int) else 0) = _
            rw [← hp, ← hl, if_pos h16]
          have z2 := ih (m + 1) (by omega) (by omega)
          rw [z, show ((m + 1 : Nat) : Int) = p + 1 from by omega] at z2
          exact z2
  refine xC_of (L := [(2, 183), (9, 0), (9, 0)]) (cd := cd_320) rfl rfl rfl ?_
  refine q_ic (pc := 0) (v := 0) rfl ?_
  refine q_is (pc := 1) (i := 1) (L' := [(2, 183), (0, 0), (9, 0)]) rfl rfl rfl ?_
  refine q_ic (pc := 2) (v := 0) rfl ?_
  refine q_is (pc := 3) (i := 2) (L' := [(2, 183), (0, 0), (0, 0)]) rfl rfl rfl ?_
  exact hl 8 0 (by omega) (by omega)
theorem lf_climbsIn {dd : Nat} {s p h t ls : Int} (hd : 5 ≤ dd) {H : xH} (hT : ttTI H) (s0 : 0 ≤ s) (s1 : s ≤ 7) (p0 : 0 ≤ p) (p1 : p ≤ 7) (h0 : 0 ≤ h) (h1 : h ≤ 60) (t0 : 1 ≤ t) (t1 : t ≤ 1000) {Q : Int → xH → Prop} (hy : yyCw H.1 ls s p h t → Q 1 H) (hn : ¬ yyCw H.1 ls s p h t → Q 0 H) : xCall dd 318 [(2, 183), (0, s), (0, p), (0, h), (0, t), (0, ls)] H Q := by
  obtain ⟨e, rfl, he⟩ := ttRun0 (n := 4) hd
  have he : 4 ≤ e := he
  have z7 : 0 ≤ H.1 184 7 ∧ H.1 184 7 ≤ 60 := ttMc hT (a := 184) (j := 7) (by decide) (by decide) (by decide) (by decide)
  refine xC_of (L := [(2, 183), (0, s), (0, p), (0, h), (0, t), (0, ls), (9, 0)]) (cd := cd_318) rfl rfl rfl ?_
  refine q_al (pc := 0) (i := 0) (x := 183) rfl rfl ?_
  refine q_il (pc := 1) (i := 2) (x := p) rfl rfl ?_
  refine q_il (pc := 2) (i := 3) (x := h) rfl rfl ?_
  refine q_al (pc := 3) (i := 0) (x := 183) rfl rfl ?_
  refine q_iv (pc := 4) (q := 2256964) rfl rfl rfl (ttKc hT (a := 183) (κ := 12) (len := 0) ⟨rfl, rfl⟩ (by decide) (by decide)).1 ?_
  refine lf_startWet2 (by omega) hT ?_
  refine q_iv (pc := 5) (q := 2152976) rfl rfl rfl (ttKc hT (a := 183) (κ := 12) (len := 0) ⟨rfl, rfl⟩ (by decide) (by decide)).1 ?_
  refine lf_higher2 (by omega) hT (by omega) (by omega) (by omega) (by omega) (yySw_in _).1 (yySw_in _).2 (fun hu => ?_)
  obtain ⟨u, ju⟩ : ∃ u, u = yyHi H.1 p h (yySw H.1) := ⟨_, rfl⟩
  rw [← ju] at hu ⊢
  refine q_is (pc := 6) (i := 6) (L' := [(2, 183), (0, s), (0, p), (0, h), (0, t), (0, ls), (0, u)]) rfl rfl rfl ?_
  refine q_il (pc := 7) (i := 5) (x := ls) rfl rfl ?_
  refine q_il (pc := 8) (i := 2) (x := p) rfl rfl ?_
  refine q_ij (pc := 9) (q := 1623928) rfl rfl rfl trivial ?_
  refine lf_holds (by omega) (fun hb => ?_) (fun hb => ?_)
  · skip
    refine q_if (pc := 10) rfl (fun h10 => ?_) (fun h10 => ?_)
    · replace h10 : (1 : Int) = 0 := h10
      omega
    · replace h10 : (1 : Int) ≠ 0 := h10
      refine q_il (pc := 11) (i := 6) (x := u) rfl rfl ?_
      refine q_il (pc := 12) (i := 3) (x := h) rfl rfl ?_
      refine q_i2 (pc := 13) rfl (fun h13 => ?_) (fun h13 => ?_)
      · replace h13 : u ≤ h := h13
        refine q_ic (pc := 27) (v := 0) rfl ?_
        refine q_rz (pc := 28) rfl (by omega) ?_
        refine hn (fun z => ?_)
        obtain ⟨z1, z2, z3⟩ := z
        rw [← ju] at z2 z3
        omega
      · replace h13 : h < u := h13
        refine q_al (pc := 14) (i := 0) (x := 183) rfl rfl ?_
        refine q_gf (pc := 15) (m := 12462) (t := 2) (c := 46) rfl (ttKc hT (a := 183) (κ := 12) (len := 0) ⟨rfl, rfl⟩ (by decide) (by decide)).1 rfl rfl ?_
        rw [show H.1 183 46 = 204 from ttFx hT (by decide) (by decide) rfl rfl rfl]
        refine q_il (pc := 16) (i := 1) (x := s) rfl rfl ?_
        refine q_il (pc := 17) (i := 2) (x := p) rfl rfl ?_
        refine q_il (pc := 18) (i := 6) (x := u) rfl rfl ?_
        refine q_ij (pc := 19) (q := 2527932) rfl rfl rfl trivial ?_
        refine lf_spot (by omega) (by omega) (by omega) (by omega) (by omega) (by omega) (by omega) (fun hk1 => ?_)
        refine q_ai (pc := 20) rfl (ttKc hT (a := 204) (κ := 20) (len := 3904) ⟨rfl, rfl⟩ (by decide) (by decide)).1 (by omega) (by rw [(ttKc hT (a := 204) (κ := 20) (len := 3904) ⟨rfl, rfl⟩ (by decide) (by decide)).2]; omega) ?_
        refine q_il (pc := 21) (i := 4) (x := t) rfl rfl ?_
        refine q_ic (pc := 22) (v := 1) rfl ?_
        refine q_ib (pc := 23) rfl (by omega) (by omega) ?_
        refine q_i2 (pc := 24) rfl (fun h24 => ?_) (fun h24 => ?_)
        · replace h24 : (H.1 204 (yySq s p u)) ≠ (t - 1) := h24
          refine q_ic (pc := 27) (v := 0) rfl ?_
          refine q_rz (pc := 28) rfl (by omega) ?_
          refine hn (fun z => ?_)
          obtain ⟨z1, z2, z3⟩ := z
          rw [← ju] at z2 z3
          omega
        · replace h24 : (H.1 204 (yySq s p u)) = (t - 1) := h24
          refine q_ic (pc := 25) (v := 1) rfl ?_
          refine q_go (pc := 26) rfl ?_
          refine q_rz (pc := 28) rfl (by omega) ?_
          exact hy ⟨hb, by rw [← ju]; exact h13, by rw [← ju]; exact h24⟩
  · skip
    refine q_if (pc := 10) rfl (fun h10 => ?_) (fun h10 => ?_)
    · replace h10 : (0 : Int) = 0 := h10
      refine q_ic (pc := 27) (v := 0) rfl ?_
      refine q_rz (pc := 28) rfl (by omega) ?_
      refine hn (fun z => ?_)
      obtain ⟨z1, z2, z3⟩ := z
      rw [← ju] at z2 z3
      omega
    · replace h10 : (0 : Int) ≠ 0 := h10
      omega
theorem lf_goesIn {dd : Nat} {s k h t : Int} (hd : 3 ≤ dd) {H : xH} (hT : ttTI H) (s0 : 0 ≤ s) (s1 : s ≤ 7) (k0 : 0 ≤ k) (k1 : k ≤ 4795) (km : k % 5 = 0) (t0 : 0 ≤ t) (t1 : t ≤ 1000) {Q : Int → xH → Prop} (hy : yyGw H.1 s k h t → Q 1 H) (hn : ¬ yyGw H.1 s k h t → Q 0 H) : xCall dd 319 [(2, 183), (0, s), (0, k), (0, h), (0, t)] H Q := by
  obtain ⟨e, rfl, he⟩ := ttRun0 (n := 2) hd
  have he : 2 ≤ e := he
  have z7 : 0 ≤ H.1 184 7 ∧ H.1 184 7 ≤ 60 := ttMc hT (a := 184) (j := 7) (by decide) (by decide) (by decide) (by decide)
  obtain ⟨wa, wb, wc, wt, -⟩ := wy_ty hT k0 k1 km
  have zq : 0 ≤ H.1 205 (H.1 191 (k + 2)) ∧ H.1 205 (H.1 191 (k + 2)) ≤ 4 := ttRw hT (a := 205) (κ := 20) (len := 8) (sz := 8) (lo := 0) (hi := 4) (by decide) (by decide) rfl _ (by omega) (by omega)
  have zo := or7 s0 s1 zq.1 (by omega)
  refine xC_of (L := [(2, 183), (0, s), (0, k), (0, h), (0, t), (9, 0)]) (cd := cd_319) rfl rfl rfl ?_
  refine q_al (pc := 0) (i := 0) (x := 183) rfl rfl ?_
  refine q_gf (pc := 1) (m := 12212) (t := 2) (c := 21) rfl (ttKc hT (a := 183) (κ := 12) (len := 0) ⟨rfl, rfl⟩ (by decide) (by decide)).1 rfl rfl ?_
  rw [show H.1 183 21 = 191 from ttFx hT (by decide) (by decide) rfl rfl rfl]
  refine q_il (pc := 2) (i := 2) (x := k) rfl rfl ?_
  refine q_ic (pc := 3) (v := 3) rfl ?_
  refine q_ia (pc := 4) rfl (by omega) (by omega) ?_
  refine q_ai (pc := 5) rfl (ttKc hT (a := 191) (κ := 20) (len := 4800) ⟨rfl, rfl⟩ (by decide) (by decide)).1 (by omega) (by rw [(ttKc hT (a := 191) (κ := 20) (len := 4800) ⟨rfl, rfl⟩ (by decide) (by decide)).2]; omega) ?_
  refine q_il (pc := 6) (i := 4) (x := t) rfl rfl ?_
  refine q_i2 (pc := 7) rfl (fun h7 => ?_) (fun h7 => ?_)
  · replace h7 : (H.1 191 (k + 3)) ≤ t := h7
    refine q_al (pc := 10) (i := 0) (x := 183) rfl rfl ?_
    refine q_il (pc := 11) (i := 2) (x := k) rfl rfl ?_
    refine q_il (pc := 12) (i := 3) (x := h) rfl rfl ?_
    refine q_iv (pc := 13) (q := 2016972) rfl rfl rfl (ttKc hT (a := 183) (κ := 12) (len := 0) ⟨rfl, rfl⟩ (by decide) (by decide)).1 ?_
    refine lf_comesAt (by omega) hT k0 k1 km (fun yc => ?_) (fun yc => ?_)
    · obtain ⟨v, hv⟩ : ∃ v, v = yyA H.1 k h := ⟨_, rfl⟩
      have v0 : 0 ≤ v ∧ v ≤ 60 := by
        have z1 := pl_ty hT yc.2.1.1 yc.2.1.2
        have z2 := yc.2.2.2
        unfold yyA at hv
        omega
      rw [← hv]
      refine q_is (pc := 14) (i := 5) (L' := [(2, 183), (0, s), (0, k), (0, h), (0, t), (0, v)]) rfl rfl rfl ?_
      refine q_il (pc := 15) (i := 5) (x := v) rfl rfl ?_
      refine q_ic (pc := 16) (v := (-1)) rfl ?_
      refine q_i2 (pc := 17) rfl (fun h17 => ?_) (fun h17 => ?_)
      · replace h17 : v = (-1) := h17
        refine q_ic (pc := 51) (v := 0) rfl ?_
        refine q_rz (pc := 52) rfl (by omega) ?_
        refine hn (fun z => ?_)
        have z3 := z.2.2
        rw [← hv] at z3
        omega
      · replace h17 : v ≠ (-1) := h17
        refine q_al (pc := 18) (i := 0) (x := 183) rfl rfl ?_
        refine q_gf (pc := 19) (m := 12462) (t := 2) (c := 46) rfl (ttKc hT (a := 183) (κ := 12) (len := 0) ⟨rfl, rfl⟩ (by decide) (by decide)).1 rfl rfl ?_
        rw [show H.1 183 46 = 204 from ttFx hT (by decide) (by decide) rfl rfl rfl]
        refine q_il (pc := 20) (i := 1) (x := s) rfl rfl ?_
        refine q_al (pc := 21) (i := 0) (x := 183) rfl rfl ?_
        refine q_gf (pc := 22) (m := 12472) (t := 2) (c := 47) rfl (ttKc hT (a := 183) (κ := 12) (len := 0) ⟨rfl, rfl⟩ (by decide) (by decide)).1 rfl rfl ?_
        rw [show H.1 183 47 = 205 from ttFx hT (by decide) (by decide) rfl rfl rfl]
        refine q_al (pc := 23) (i := 0) (x := 183) rfl rfl ?_
        refine q_gf (pc := 24) (m := 12212) (t := 2) (c := 21) rfl (ttKc hT (a := 183) (κ := 12) (len := 0) ⟨rfl, rfl⟩ (by decide) (by decide)).1 rfl rfl ?_
        rw [show H.1 183 21 = 191 from ttFx hT (by decide) (by decide) rfl rfl rfl]
        refine q_il (pc := 25) (i := 2) (x := k) rfl rfl ?_
        refine q_ic (pc := 26) (v := 2) rfl ?_
        refine q_ia (pc := 27) rfl (by omega) (by omega) ?_
        refine q_ai (pc := 28) rfl (ttKc hT (a := 191) (κ := 20) (len := 4800) ⟨rfl, rfl⟩ (by decide) (by decide)).1 (by omega) (by rw [(ttKc hT (a := 191) (κ := 20) (len := 4800) ⟨rfl, rfl⟩ (by decide) (by decide)).2]; omega) ?_
        refine q_ai (pc := 29) rfl (ttKc hT (a := 205) (κ := 20) (len := 8) ⟨rfl, rfl⟩ (by decide) (by decide)).1 (by omega) (by rw [(ttKc hT (a := 205) (κ := 20) (len := 8) ⟨rfl, rfl⟩ (by decide) (by decide)).2]; omega) ?_
        refine q_or (pc := 30) rfl ?_
        refine q_al (pc := 31) (i := 0) (x := 183) rfl rfl ?_
        refine q_gf (pc := 32) (m := 12212) (t := 2) (c := 21) rfl (ttKc hT (a := 183) (κ := 12) (len := 0) ⟨rfl, rfl⟩ (by decide) (by decide)).1 rfl rfl ?_
        rw [show H.1 183 21 = 191 from ttFx hT (by decide) (by decide) rfl rfl rfl]
        refine q_il (pc := 33) (i := 2) (x := k) rfl rfl ?_
        refine q_ic (pc := 34) (v := 2) rfl ?_
        refine q_ia (pc := 35) rfl (by omega) (by omega) ?_
        refine q_ai (pc := 36) rfl (ttKc hT (a := 191) (κ := 20) (len := 4800) ⟨rfl, rfl⟩ (by decide) (by decide)).1 (by omega) (by rw [(ttKc hT (a := 191) (κ := 20) (len := 4800) ⟨rfl, rfl⟩ (by decide) (by decide)).2]; omega) ?_
        refine q_il (pc := 37) (i := 5) (x := v) rfl rfl ?_
        refine q_ij (pc := 38) (q := 2527932) rfl rfl rfl trivial ?_
        refine lf_spot (by omega) (by omega) (by omega) (by omega) (by omega) (by omega) (by omega) (fun hk1 => ?_)
        refine q_ai (pc := 39) rfl (ttKc hT (a := 204) (κ := 20) (len := 3904) ⟨rfl, rfl⟩ (by decide) (by decide)).1 (by omega) (by rw [(ttKc hT (a := 204) (κ := 20) (len := 3904) ⟨rfl, rfl⟩ (by decide) (by decide)).2]; omega) ?_
        refine q_il (pc := 40) (i := 4) (x := t) rfl rfl ?_
        refine q_al (pc := 41) (i := 0) (x := 183) rfl rfl ?_
        refine q_gf (pc := 42) (m := 12212) (t := 2) (c := 21) rfl (ttKc hT (a := 183) (κ := 12) (len := 0) ⟨rfl, rfl⟩ (by decide) (by decide)).1 rfl rfl ?_
        rw [show H.1 183 21 = 191 from ttFx hT (by decide) (by decide) rfl rfl rfl]
        refine q_il (pc := 43) (i := 2) (x := k) rfl rfl ?_
        refine q_ic (pc := 44) (v := 3) rfl ?_
        refine q_ia (pc := 45) rfl (by omega) (by omega) ?_
        refine q_ai (pc := 46) rfl (ttKc hT (a := 191) (κ := 20) (len := 4800) ⟨rfl, rfl⟩ (by decide) (by decide)).1 (by omega) (by rw [(ttKc hT (a := 191) (κ := 20) (len := 4800) ⟨rfl, rfl⟩ (by decide) (by decide)).2]; omega) ?_
        refine q_ib (pc := 47) rfl (by omega) (by omega) ?_
        refine q_i2 (pc := 48) rfl (fun h48 => ?_) (fun h48 => ?_)
        · replace h48 : (H.1 204 (yySq (xOr s (H.1 205 (H.1 191 (k + 2)))) (H.1 191 (k + 2)) v)) ≠ (t - (H.1 191 (k + 3))) := h48
          refine q_ic (pc := 51) (v := 0) rfl ?_
          refine q_rz (pc := 52) rfl (by omega) ?_
          refine hn (fun z => ?_)
          have z3 := z.2.2
          rw [← hv] at z3
          omega
        · replace h48 : (H.1 204 (yySq (xOr s (H.1 205 (H.1 191 (k + 2)))) (H.1 191 (k + 2)) v)) = (t - (H.1 191 (k + 3))) := h48
          refine q_ic (pc := 49) (v := 1) rfl ?_
          refine q_go (pc := 50) rfl ?_
          refine q_rz (pc := 52) rfl (by omega) ?_
          exact hy ⟨h7, yc, by rw [← hv]; exact h48⟩
    · skip
      refine q_is (pc := 14) (i := 5) (L' := [(2, 183), (0, s), (0, k), (0, h), (0, t), (0, (-1))]) rfl rfl rfl ?_
      refine q_il (pc := 15) (i := 5) (x := (-1)) rfl rfl ?_
      refine q_ic (pc := 16) (v := (-1)) rfl ?_
      refine q_i2 (pc := 17) rfl (fun h17 => ?_) (fun h17 => ?_)
      · replace h17 : (-1 : Int) = (-1) := h17
        refine q_ic (pc := 51) (v := 0) rfl ?_
        refine q_rz (pc := 52) rfl (by omega) ?_
        exact hn (fun z => yc z.2.1)
      · replace h17 : (-1 : Int) ≠ (-1) := h17
        omega
  · replace h7 : t < (H.1 191 (k + 3)) := h7
    refine q_ic (pc := 8) (v := 0) rfl ?_
    refine q_rz (pc := 9) rfl (by omega) ?_
    exact hn (fun z => by have := z.1; omega)
