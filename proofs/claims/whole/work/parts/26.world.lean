/-! a sky as the reference holds it: W = its world; what its looks answer -/
def xWI (W : Int → Int) : Prop := (0 ≤ W 0 ∧ W 0 ≤ 60) ∧ (0 ≤ W 1 ∧ W 1 ≤ 8) ∧ (0 ≤ W 2 ∧ W 2 ≤ 10) ∧ (0 ≤ W 3 ∧ W 3 ≤ 6) ∧ (0 ≤ W 4 ∧ W 4 ≤ 20) ∧ (0 ≤ W 5 ∧ W 5 ≤ 999) ∧ (0 ≤ W 6 ∧ W 6 ≤ 50) ∧ (31 ≤ W 7 ∧ W 7 ≤ 60) ∧ (1 ≤ W 8 ∧ W 8 ≤ 47) ∧ (0 ≤ W 9 ∧ W 9 ≤ 9999) ∧ (0 ≤ W 10 ∧ W 10 ≤ 99) ∧ (0 ≤ W 11 ∧ W 11 ≤ 9999) ∧ (-1 ≤ W 12 ∧ W 12 < W 1) ∧ (0 ≤ W 13 ∧ W 13 ≤ 60) ∧ (0 ≤ W 14 ∧ W 14 ≤ 1) ∧ (0 ≤ W 15 ∧ W 15 < 256) ∧ (∀ p : Int, 0 ≤ p → p ≤ 7 → 0 ≤ W (20 + 8 * p) ∧ W (20 + 8 * p) ≤ 30 ∧ 0 ≤ W (20 + 8 * p + 1) ∧ W (20 + 8 * p + 1) ≤ 2 ∧ 0 ≤ W (20 + 8 * p + 2) ∧ W (20 + 8 * p + 2) ≤ 999 ∧ 0 ≤ W (20 + 8 * p + 3) ∧ W (20 + 8 * p + 3) ≤ 1 ∧ 0 ≤ W (20 + 8 * p + 4) ∧ W (20 + 8 * p + 4) ≤ 100 ∧ 0 ≤ W (20 + 8 * p + 5) ∧ W (20 + 8 * p + 5) ≤ 2000 ∧ 0 ≤ W (20 + 8 * p + 6) ∧ W (20 + 8 * p + 6) ≤ 100 ∧ 0 ≤ W (20 + 8 * p + 7) ∧ W (20 + 8 * p + 7) ≤ 100) ∧ (∀ l : Int, 0 ≤ l → l < W 2 → 0 ≤ W (84 + 6 * l) ∧ W (84 + 6 * l) < W 1 ∧ 0 ≤ W (84 + 6 * l + 1) ∧ W (84 + 6 * l + 1) < W 1 ∧ W (84 + 6 * l) ≠ W (84 + 6 * l + 1) ∧ 1 ≤ W (84 + 6 * l + 2) ∧ W (84 + 6 * l + 2) ≤ 60 ∧ -999 ≤ W (84 + 6 * l + 3) ∧ W (84 + 6 * l + 3) ≤ 999 ∧ -60 ≤ W (84 + 6 * l + 4) ∧ W (84 + 6 * l + 4) ≤ 60 ∧ 0 ≤ W (84 + 6 * l + 5) ∧ W (84 + 6 * l + 5) ≤ 40) ∧ (∀ s : Int, 0 ≤ s → s < W 3 → 20 ≤ W (144 + 2 * s) ∧ W (144 + 2 * s) ≤ 150 ∧ 1 ≤ W (144 + 2 * s + 1) ∧ W (144 + 2 * s + 1) ≤ 999) ∧ (∀ i : Int, 0 ≤ i → i < W 4 → 0 ≤ W (156 + 2 * i) ∧ W (156 + 2 * i) < W 1 ∧ 0 ≤ W (156 + 2 * i + 1) ∧ W (156 + 2 * i + 1) ≤ 3) ∧ (0 ≤ W 12 → W (20 + 8 * W 12) ≤ W 13 ∧ W 13 ≤ W 7)
theorem wi_lines {W : Int → Int} (h : xWI W) : (0 ≤ W 0 ∧ W 0 ≤ 60) := h.1
theorem wi_np {W : Int → Int} (h : xWI W) : (0 ≤ W 1 ∧ W 1 ≤ 8) := h.2.1
theorem wi_nl {W : Int → Int} (h : xWI W) : (0 ≤ W 2 ∧ W 2 ≤ 10) := h.2.2.1
theorem wi_ns {W : Int → Int} (h : xWI W) : (0 ≤ W 3 ∧ W 3 ≤ 6) := h.2.2.2.1
theorem wi_ni {W : Int → Int} (h : xWI W) : (0 ≤ W 4 ∧ W 4 ≤ 20) := h.2.2.2.2.1
theorem wi_turn {W : Int → Int} (h : xWI W) : (0 ≤ W 5 ∧ W 5 ≤ 999) := h.2.2.2.2.2.1
theorem wi_water {W : Int → Int} (h : xWI W) : (0 ≤ W 6 ∧ W 6 ≤ 50) := h.2.2.2.2.2.2.1
theorem wi_ceil {W : Int → Int} (h : xWI W) : (31 ≤ W 7 ∧ W 7 ≤ 60) := h.2.2.2.2.2.2.2.1
theorem wi_last {W : Int → Int} (h : xWI W) : (1 ≤ W 8 ∧ W 8 ≤ 47) := h.2.2.2.2.2.2.2.2.1
theorem wi_wh {W : Int → Int} (h : xWI W) : (0 ≤ W 9 ∧ W 9 ≤ 9999) := h.2.2.2.2.2.2.2.2.2.1
theorem wi_wp {W : Int → Int} (h : xWI W) : (0 ≤ W 10 ∧ W 10 ≤ 99) := h.2.2.2.2.2.2.2.2.2.2.1
theorem wi_wo {W : Int → Int} (h : xWI W) : (0 ≤ W 11 ∧ W 11 ≤ 9999) := h.2.2.2.2.2.2.2.2.2.2.2.1
theorem wi_start {W : Int → Int} (h : xWI W) : (-1 ≤ W 12 ∧ W 12 < W 1) := h.2.2.2.2.2.2.2.2.2.2.2.2.1
theorem wi_at {W : Int → Int} (h : xWI W) : (0 ≤ W 13 ∧ W 13 ≤ 60) := h.2.2.2.2.2.2.2.2.2.2.2.2.2.1
theorem wi_wet {W : Int → Int} (h : xWI W) : (0 ≤ W 14 ∧ W 14 ≤ 1) := h.2.2.2.2.2.2.2.2.2.2.2.2.2.2.1
theorem wi_round {W : Int → Int} (h : xWI W) : (0 ≤ W 15 ∧ W 15 < 256) := h.2.2.2.2.2.2.2.2.2.2.2.2.2.2.2.1
theorem wi_p {W : Int → Int} (h : xWI W) : (∀ p : Int, 0 ≤ p → p ≤ 7 → 0 ≤ W (20 + 8 * p) ∧ W (20 + 8 * p) ≤ 30 ∧ 0 ≤ W (20 + 8 * p + 1) ∧ W (20 + 8 * p + 1) ≤ 2 ∧ 0 ≤ W (20 + 8 * p + 2) ∧ W (20 + 8 * p + 2) ≤ 999 ∧ 0 ≤ W (20 + 8 * p + 3) ∧ W (20 + 8 * p + 3) ≤ 1 ∧ 0 ≤ W (20 + 8 * p + 4) ∧ W (20 + 8 * p + 4) ≤ 100 ∧ 0 ≤ W (20 + 8 * p + 5) ∧ W (20 + 8 * p + 5) ≤ 2000 ∧ 0 ≤ W (20 + 8 * p + 6) ∧ W (20 + 8 * p + 6) ≤ 100 ∧ 0 ≤ W (20 + 8 * p + 7) ∧ W (20 + 8 * p + 7) ≤ 100) := h.2.2.2.2.2.2.2.2.2.2.2.2.2.2.2.2.1
theorem wi_l {W : Int → Int} (h : xWI W) : (∀ l : Int, 0 ≤ l → l < W 2 → 0 ≤ W (84 + 6 * l) ∧ W (84 + 6 * l) < W 1 ∧ 0 ≤ W (84 + 6 * l + 1) ∧ W (84 + 6 * l + 1) < W 1 ∧ W (84 + 6 * l) ≠ W (84 + 6 * l + 1) ∧ 1 ≤ W (84 + 6 * l + 2) ∧ W (84 + 6 * l + 2) ≤ 60 ∧ -999 ≤ W (84 + 6 * l + 3) ∧ W (84 + 6 * l + 3) ≤ 999 ∧ -60 ≤ W (84 + 6 * l + 4) ∧ W (84 + 6 * l + 4) ≤ 60 ∧ 0 ≤ W (84 + 6 * l + 5) ∧ W (84 + 6 * l + 5) ≤ 40) := h.2.2.2.2.2.2.2.2.2.2.2.2.2.2.2.2.2.1
theorem wi_s {W : Int → Int} (h : xWI W) : (∀ s : Int, 0 ≤ s → s < W 3 → 20 ≤ W (144 + 2 * s) ∧ W (144 + 2 * s) ≤ 150 ∧ 1 ≤ W (144 + 2 * s + 1) ∧ W (144 + 2 * s + 1) ≤ 999) := h.2.2.2.2.2.2.2.2.2.2.2.2.2.2.2.2.2.2.1
theorem wi_i {W : Int → Int} (h : xWI W) : (∀ i : Int, 0 ≤ i → i < W 4 → 0 ≤ W (156 + 2 * i) ∧ W (156 + 2 * i) < W 1 ∧ 0 ≤ W (156 + 2 * i + 1) ∧ W (156 + 2 * i + 1) ≤ 3) := h.2.2.2.2.2.2.2.2.2.2.2.2.2.2.2.2.2.2.2.1
theorem wi_st {W : Int → Int} (h : xWI W) : (0 ≤ W 12 → W (20 + 8 * W 12) ≤ W 13 ∧ W 13 ≤ W 7) := h.2.2.2.2.2.2.2.2.2.2.2.2.2.2.2.2.2.2.2.2

theorem mulB {a b A B : Int} (h : 0 ≤ a ∧ a ≤ A ∧ 0 ≤ b ∧ b ≤ B) : 0 ≤ a * b ∧ a * b ≤ A * B := ⟨Int.mul_nonneg h.1 h.2.2.1, Int.mul_le_mul h.2.1 h.2.2.2 h.2.2.1 (Int.le_trans h.1 h.2.1)⟩
theorem mulS {a b A B : Int} (h : 0 ≤ a ∧ a ≤ A ∧ -B ≤ b ∧ b ≤ B) : -(A * B) ≤ a * b ∧ a * b ≤ A * B := by
  rcases Int.le_total 0 b with hb | hb
  · have := mulB (a := a) (b := b) (A := A) (B := B) ⟨h.1, h.2.1, hb, h.2.2.2⟩
    have h2 : 0 ≤ A * B := Int.mul_nonneg (Int.le_trans h.1 h.2.1) (Int.le_trans hb h.2.2.2)
    omega
  · have := mulB (a := a) (b := -b) (A := A) (B := B) ⟨h.1, h.2.1, by omega, by omega⟩
    have e : a * -b = -(a * b) := Int.mul_neg a b
    have h2 : 0 ≤ A * B := Int.mul_nonneg (Int.le_trans h.1 h.2.1) (by omega)
    omega
theorem tdB {x : Int} (k : Int) (hk : 0 < k) (h : 0 ≤ x) : 0 ≤ x.tdiv k ∧ x.tdiv k ≤ x := ⟨Int.tdiv_nonneg h (Int.le_of_lt hk), by
  rw [Int.tdiv_eq_ediv_of_nonneg h]; exact Int.ediv_le_self k h⟩
theorem tdS {x A : Int} (k : Int) (hk : 0 < k) (h : -A ≤ x ∧ x ≤ A) : -A ≤ x.tdiv k ∧ x.tdiv k ≤ A := by
  rcases Int.le_total 0 x with hx | hx
  · have := tdB k hk hx; omega
  · have h1 := tdB k hk (x := -x) (by omega)
    have e : (-x).tdiv k = -(x.tdiv k) := Int.neg_tdiv x k
    omega
def sOver (W : Int → Int) (l b s w : Int) : Int := W (144 + 2 * s) + (if w = 0 then 0 else (W (144 + 2 * s) * W 6).tdiv 100) + (if b = 0 then W (84 + 6 * l + 4) else -W (84 + 6 * l + 4))
def sPer (W : Int → Int) (l b s w : Int) : Int := if sOver W l b s w < 1 then -1 else (12 * W (84 + 6 * l + 2)).tdiv (sOver W l b s w) + 1
def sLos (W : Int → Int) (l s t : Int) : Int := (5 * t * (W (144 + 2 * s + 1) - W (84 + 6 * l + 3))).tdiv 100
/-- what is won: the up that is tried at a place instead of its own -/
def sUp (W : Int → Int) (up : Int × Int) (p : Int) : Int := if p = up.1 then up.2 else W (20 + 8 * p + 5)
def sWin (W : Int → Int) (up : Int × Int) (p w : Int) : Int := if W (20 + 8 * p + 3) = 0 then 0 else max 0 ((5 * (sUp W up p - (if w = 0 then 0 else (sUp W up p * W 6).tdiv 100) - W 5)).tdiv 100)
def sHi (W : Int → Int) (up : Int × Int) (p h w : Int) : Int := min (W 7) (h + sWin W up p w)
def sSgA (W : Int → Int) (p b : Int) : Int := if b = 0 then 100 - W (20 + 8 * p + 6) else W (20 + 8 * p + 6)
def sSgB (W : Int → Int) (p b : Int) : Int := if b = 0 then 100 - W (20 + 8 * p + 7) else W (20 + 8 * p + 7)
def sAll (W : Int → Int) (p c b : Int) : Int := c * sSgA W p b + (100 - c) * sSgB W p b
def sSign (W : Int → Int) (p c b n : Int) : Int := if sAll W p c b = 0 then -1 else (n * c * sSgA W p b).tdiv (sAll W p c b)
def sSee (W : Int → Int) (p c k : Int) : Int := if k < 2 then 100 - 100 * k else if sSign W p c (if k = 2 then 1 else 0) 100 = -1 then c else sSign W p c (if k = 2 then 1 else 0) 100
def sChN (W : Int → Int) (p : Int) : Nat → Int
  | 0 => W (20 + 8 * p + 4)
  | i + 1 => if W (156 + 2 * (i : Int)) = p then sSee W p (sChN W p i) (W (156 + 2 * (i : Int) + 1)) else sChN W p i
def sCh (W : Int → Int) (p : Int) : Int := sChN W p (W 4).toNat
def sLand (W : Int → Int) (p t : Int) : Int := if W (20 + 8 * p + 1) = 0 then -W 11 else (if W (20 + 8 * p + 1) = 2 then W 9 else W (20 + 8 * p + 2)) - W 10 * t
theorem sOver_b {W : Int → Int} {l b s w : Int} (hW : xWI W) (hl : 0 ≤ l ∧ l < W 2) (hs : 0 ≤ s ∧ s < W 3) : 0 ≤ W (144 + 2 * s) * W 6 ∧ W (144 + 2 * s) * W 6 ≤ 7500 ∧ 0 ≤ (W (144 + 2 * s) * W 6).tdiv 100 ∧ (W (144 + 2 * s) * W 6).tdiv 100 ≤ 7500 ∧ -7800 ≤ sOver W l b s w ∧ sOver W l b s w ≤ 7800 := by
  have h1 := wi_s hW s hs.1 hs.2
  have h2 := wi_l hW l hl.1 hl.2
  have h6 := wi_water hW
  have h3 := mulB (a := W (144 + 2 * s)) (b := W 6) (A := 150) (B := 50) (by omega)
  have h4 := tdB 100 (by omega) h3.1
  unfold sOver
  refine ⟨h3.1, by omega, h4.1, by omega, ?_⟩
  split <;> split <;> omega
theorem sPer_b {W : Int → Int} {l b s w : Int} (hW : xWI W) (hl : 0 ≤ l ∧ l < W 2) (hs : 0 ≤ s ∧ s < W 3) : sPer W l b s w = -1 ∨ 1 ≤ sPer W l b s w ∧ sPer W l b s w ≤ 721 := by
  have h2 := wi_l hW l hl.1 hl.2
  unfold sPer
  by_cases h : sOver W l b s w < 1
  · rw [if_pos h]; exact Or.inl rfl
  · rw [if_neg h]
    have := tdB (x := 12 * W (84 + 6 * l + 2)) (sOver W l b s w) (by omega) (by omega)
    omega
theorem sLos_b {W : Int → Int} {l s t : Int} (hW : xWI W) (hl : 0 ≤ l ∧ l < W 2) (hs : 0 ≤ s ∧ s < W 3) (ht : 0 ≤ t ∧ t ≤ 721) : -7202790 ≤ 5 * t * (W (144 + 2 * s + 1) - W (84 + 6 * l + 3)) ∧ 5 * t * (W (144 + 2 * s + 1) - W (84 + 6 * l + 3)) ≤ 7202790 ∧ -7202790 ≤ sLos W l s t ∧ sLos W l s t ≤ 7202790 := by
  have h1 := wi_s hW s hs.1 hs.2
  have h2 := wi_l hW l hl.1 hl.2
  have h3 := mulS (a := 5 * t) (b := W (144 + 2 * s + 1) - W (84 + 6 * l + 3)) (A := 3605) (B := 1998) (by omega)
  have h4 := tdS (x := 5 * t * (W (144 + 2 * s + 1) - W (84 + 6 * l + 3))) (A := 7202790) 100 (by omega) (by omega)
  unfold sLos
  omega


theorem c_periodsOf {e : Nat} {l b s w : Int} {D : xD} {T : xT2} {Q : Int → xH → Prop} (hT : xTm T) (hD : xPm D) (hW : xWI (D 184))(hl : 0 ≤ l ∧ l < D 184 2)(hs : 0 ≤ s ∧ s < D 184 3) (h : Q (sPer (D 184) l b s w) (D, T)) : xCall (e + 2) 223 [(2, 183), (0, l), (0, b), (0, s), (0, w)] (D, T) Q := by
  refine xC_of rfl rfl rfl (sg_223_0 ?_)
  have h1 := wi_s hW s hs.1 hs.2
  have h2 := wi_l hW l hl.1 hl.2
  have h3 := sOver_b (l := l) (b := b) (s := s) (w := w) hW hl hs
  have h4 := wi_ns hW
  have h5 := wi_nl hW
  unfold sOver at h3
  repeat' first
    | exact h
    | exact trivial
    | exact xB_in
    | exact Or.inl rfl
    | exact Or.inr rfl
    | (refine xQe h ?_; simp (disch := omega) only [sPer, sOver, if_pos, if_neg, w32_td, w32_td1, Int.add_zero, Int.zero_add, Int.sub_zero]; done)
    | with_reducible refine And.intro ?_ ?_
    | simp (disch := omega) only [w32_id, w64_id, w32_td, w32_td1, Int.add_zero, Int.zero_add, Int.sub_zero, xLcmp_lt, xLcmp_ge, xLcmp_gt, xLcmp_le, xLcmp_eq, xLcmp_ne, xB_ne, xB_eq, yU_s, yU_i, yU_a, ne_eq, not_true, not_false_iff, true_and, and_true, true_or, or_true, false_or, or_false, true_implies, implies_true, k_self hT, p_world hD, k_world hT, n_world hT]
    | intro _
    | refine c_ofLeg hT hD (by omega) (by omega) ?_
    | omega
theorem c_lossOf {e : Nat} {l s t : Int} {D : xD} {T : xT2} {Q : Int → xH → Prop} (hT : xTm T) (hD : xPm D) (hW : xWI (D 184))(hl : 0 ≤ l ∧ l < D 184 2)(hs : 0 ≤ s ∧ s < D 184 3) (ht : 0 ≤ t ∧ t ≤ 721) (h : Q (sLos (D 184) l s t) (D, T)) : xCall (e + 2) 224 [(2, 183), (0, l), (0, s), (0, t)] (D, T) Q := by
  refine xC_of rfl rfl rfl (sg_224_0 ?_)
  have h1 := wi_s hW s hs.1 hs.2
  have h2 := wi_l hW l hl.1 hl.2
  have h3 := sLos_b (l := l) (s := s) (t := t) hW hl hs ht
  have h4 := wi_ns hW
  have h5 := wi_nl hW
  repeat' first
    | exact h
    | exact trivial
    | exact xB_in
    | exact Or.inl rfl
    | exact Or.inr rfl
    | (refine xQe h ?_; simp (disch := omega) only [sLos, if_pos, if_neg, w32_td, w32_td1, Int.add_zero, Int.zero_add, Int.sub_zero]; done)
    | with_reducible refine And.intro ?_ ?_
    | simp (disch := omega) only [w32_id, w64_id, w32_td, w32_td1, Int.add_zero, Int.zero_add, Int.sub_zero, xLcmp_lt, xLcmp_ge, xLcmp_gt, xLcmp_le, xLcmp_eq, xLcmp_ne, xB_ne, xB_eq, yU_s, yU_i, yU_a, ne_eq, not_true, not_false_iff, true_and, and_true, true_or, or_true, false_or, or_false, true_implies, implies_true, k_self hT, p_world hD, k_world hT, n_world hT]
    | intro _
    | refine c_ofLeg hT hD (by omega) (by omega) ?_
    | omega

theorem sUp_b {W : Int → Int} {up : Int × Int} {p : Int} (hW : xWI W) (hp : 0 ≤ p ∧ p ≤ 7) (hu : 0 ≤ up.2 ∧ up.2 ≤ 2000) : 0 ≤ sUp W up p ∧ sUp W up p ≤ 2000 ∧ 0 ≤ sUp W up p * W 6 ∧ sUp W up p * W 6 ≤ 100000 ∧ 0 ≤ (sUp W up p * W 6).tdiv 100 ∧ (sUp W up p * W 6).tdiv 100 ≤ sUp W up p := by
  have h1 := wi_p hW p hp.1 hp.2
  have h6 := wi_water hW
  have h0 : 0 ≤ sUp W up p ∧ sUp W up p ≤ 2000 := by unfold sUp; split <;> omega
  have h3 := mulB (a := sUp W up p) (b := W 6) (A := 2000) (B := 50) (by omega)
  have h5 := mulB (a := sUp W up p) (b := 100 - W 6) (A := 2000) (B := 100) (by omega)
  have e5 : sUp W up p * (100 - W 6) = sUp W up p * 100 - sUp W up p * W 6 := Int.mul_sub _ _ _
  refine ⟨h0.1, h0.2, h3.1, by omega, Int.tdiv_nonneg h3.1 (by omega), ?_⟩
  rw [Int.tdiv_eq_ediv_of_nonneg h3.1]
  omega
theorem sWin_b {W : Int → Int} {up : Int × Int} {p w : Int} (hW : xWI W) (hp : 0 ≤ p ∧ p ≤ 7) (hu : 0 ≤ up.2 ∧ up.2 ≤ 2000) : 0 ≤ sWin W up p w ∧ sWin W up p w ≤ 10000 := by
  have h1 := sUp_b (p := p) hW hp hu
  have h5 := wi_turn hW
  unfold sWin
  split
  · omega
  · have h6 := tdS (x := 5 * (sUp W up p - (if w = 0 then 0 else (sUp W up p * W 6).tdiv 100) - W 5)) (A := 10000) 100 (by omega) (by split <;> omega)
    omega

theorem c_upOf {e : Nat} {p : Int} {D : xD} {T : xT2} {Q : Int → xH → Prop} (hT : xTm T) (hD : xPm D) (hp : 0 ≤ p ∧ p ≤ 7) (h : Q (sUp (D 184) (D 183 18, D 183 19) p) (D, T)) : xCall (e + 2) 227 [(2, 183), (0, p)] (D, T) Q := by
  refine xC_of rfl rfl rfl (sg_227_0 ?_)
  repeat' first
    | exact h
    | exact trivial
    | exact xB_in
    | exact Or.inl rfl
    | exact Or.inr rfl
    | (refine xQe h ?_; simp (disch := omega) only [sUp, if_pos, if_neg, w32_td, w32_td1, Int.add_zero, Int.zero_add, Int.sub_zero]; done)
    | with_reducible refine And.intro ?_ ?_
    | simp (disch := omega) only [w32_id, w64_id, w32_td, w32_td1, Int.add_zero, Int.zero_add, Int.sub_zero, xLcmp_lt, xLcmp_ge, xLcmp_gt, xLcmp_le, xLcmp_eq, xLcmp_ne, xB_ne, xB_eq, yU_s, yU_i, yU_a, ne_eq, not_true, not_false_iff, true_and, and_true, true_or, or_true, false_or, or_false, true_implies, implies_true, k_self hT, p_world hD, k_world hT, n_world hT]
    | intro _
    | refine c_ofPlace hT hD (by omega) (by omega) ?_
    | omega
theorem c_climbOf {e : Nat} {p w : Int} {D : xD} {T : xT2} {Q : Int → xH → Prop} (hT : xTm T) (hD : xPm D) (hW : xWI (D 184))(hu : 0 ≤ D 183 19 ∧ D 183 19 ≤ 2000)(hp : 0 ≤ p ∧ p ≤ 7) (h : Q (sWin (D 184) (D 183 18, D 183 19) p w) (D, T)) : xCall (e + 3) 228 [(2, 183), (0, p), (0, w)] (D, T) Q := by
  refine xC_of rfl rfl rfl (sg_228_0 ?_)
  have h1 := sUp_b (up := (D 183 18, D 183 19)) (p := p) hW hp hu
  have h5 := wi_turn hW
  have h6 := wi_water hW
  repeat' first
    | exact h
    | exact trivial
    | exact xB_in
    | exact Or.inl rfl
    | exact Or.inr rfl
    | (refine xQe h ?_; simp (disch := omega) only [sWin, if_pos, if_neg, w32_td, w32_td1, Int.add_zero, Int.zero_add, Int.sub_zero]; done)
    | with_reducible refine And.intro ?_ ?_
    | simp (disch := omega) only [w32_id, w64_id, w32_td, w32_td1, Int.add_zero, Int.zero_add, Int.sub_zero, xLcmp_lt, xLcmp_ge, xLcmp_gt, xLcmp_le, xLcmp_eq, xLcmp_ne, xB_ne, xB_eq, yU_s, yU_i, yU_a, ne_eq, not_true, not_false_iff, true_and, and_true, true_or, or_true, false_or, or_false, true_implies, implies_true, k_self hT, p_world hD, k_world hT, n_world hT]
    | intro _
    | refine c_ofPlace hT hD (by omega) (by omega) ?_
    | refine c_upOf hT hD (by omega) ?_
    | omega
theorem c_higher {e : Nat} {p y w : Int} {D : xD} {T : xT2} {Q : Int → xH → Prop} (hT : xTm T) (hD : xPm D) (hW : xWI (D 184))(hu : 0 ≤ D 183 19 ∧ D 183 19 ≤ 2000)(hp : 0 ≤ p ∧ p ≤ 7) (hy : 0 ≤ y ∧ y ≤ 60) (hw : 0 ≤ w ∧ w ≤ 1) (h : Q (sHi (D 184) (D 183 18, D 183 19) p y w) (D, T)) : xCall (e + 4) 256 [(2, 183), (0, p), (0, y), (0, w)] (D, T) Q := by
  refine xC_of rfl rfl rfl (sg_256_0 ?_)
  have h1 := sWin_b (up := (D 183 18, D 183 19)) (p := p) (w := 0) hW hp hu
  have h2 := sWin_b (up := (D 183 18, D 183 19)) (p := p) (w := 1) hW hp hu
  have h5 := wi_ceil hW
  rcases (by omega : w = 0 ∨ w = 1) with rfl | rfl
  all_goals simp only [Int.reduceEq, false_implies, true_implies, true_and, and_true, ne_eq, not_true, not_false_iff]
  repeat' first
    | exact h
    | exact trivial
    | exact xB_in
    | exact Or.inl rfl
    | exact Or.inr rfl
    | (refine xQe h ?_; simp (disch := omega) only [sHi, sWin, if_pos, if_neg, w32_td, w32_td1, Int.add_zero, Int.zero_add, Int.sub_zero]; done)
    | with_reducible refine And.intro ?_ ?_
    | simp (disch := omega) only [w32_id, w64_id, w32_td, w32_td1, Int.add_zero, Int.zero_add, Int.sub_zero, xLcmp_lt, xLcmp_ge, xLcmp_gt, xLcmp_le, xLcmp_eq, xLcmp_ne, xB_ne, xB_eq, yU_s, yU_i, yU_a, ne_eq, not_true, not_false_iff, true_and, and_true, true_or, or_true, false_or, or_false, true_implies, implies_true, k_self hT, p_world hD, k_world hT, n_world hT]
    | intro _
    | refine c_climbOf hT hD hW hu hp ?_
    | omega

theorem sAll_b {W : Int → Int} {p c b n : Int} (hW : xWI W) (hp : 0 ≤ p ∧ p ≤ 7) (hc : 0 ≤ c ∧ c ≤ 100) (hn : 0 ≤ n ∧ n ≤ 10000) : (0 ≤ sSgA W p b ∧ sSgA W p b ≤ 100) ∧ (0 ≤ sSgB W p b ∧ sSgB W p b ≤ 100) ∧ (0 ≤ c * sSgA W p b ∧ c * sSgA W p b ≤ 10000) ∧ (0 ≤ (100 - c) * sSgB W p b ∧ (100 - c) * sSgB W p b ≤ 10000) ∧ (0 ≤ n * c ∧ n * c ≤ 1000000) ∧ 0 ≤ n * c * sSgA W p b ∧ n * c * sSgA W p b ≤ 100000000 := by
  have h1 := wi_p hW p hp.1 hp.2
  have hA : 0 ≤ sSgA W p b ∧ sSgA W p b ≤ 100 := by unfold sSgA; split <;> omega
  have hB : 0 ≤ sSgB W p b ∧ sSgB W p b ≤ 100 := by unfold sSgB; split <;> omega
  have h2 := mulB (a := c) (b := sSgA W p b) (A := 100) (B := 100) (by omega)
  have h3 := mulB (a := 100 - c) (b := sSgB W p b) (A := 100) (B := 100) (by omega)
  have h4 := mulB (a := n) (b := c) (A := 10000) (B := 100) (by omega)
  have h5 := mulB (a := n * c) (b := sSgA W p b) (A := 1000000) (B := 100) (by omega)
  exact ⟨hA, hB, by omega, by omega, by omega, by omega⟩
theorem sSign_b {W : Int → Int} {p c b n : Int} (hW : xWI W) (hp : 0 ≤ p ∧ p ≤ 7) (hc : 0 ≤ c ∧ c ≤ 100) (hn : 0 ≤ n ∧ n ≤ 10000) : sSign W p c b n = -1 ∨ 0 ≤ sSign W p c b n ∧ sSign W p c b n ≤ n := by
  have h := sAll_b (b := b) hW hp hc hn
  unfold sSign
  by_cases h0 : sAll W p c b = 0
  · rw [if_pos h0]; exact Or.inl rfl
  · rw [if_neg h0]
    have hpos : 0 < sAll W p c b := by unfold sAll at h0 ⊢; omega
    refine Or.inr ⟨Int.tdiv_nonneg h.2.2.2.2.2.1 (Int.le_of_lt hpos), ?_⟩
    rw [Int.tdiv_eq_ediv_of_nonneg h.2.2.2.2.2.1]
    refine Int.ediv_le_of_le_mul hpos ?_
    have e : n * c * sSgA W p b = n * (c * sSgA W p b) := Int.mul_assoc _ _ _
    rw [e]
    exact Int.mul_le_mul_of_nonneg_left (by unfold sAll; omega) hn.1

theorem c_bySign {e : Nat} {p c b n : Int} {D : xD} {T : xT2} {Q : Int → xH → Prop} (hT : xTm T) (hD : xPm D) (hW : xWI (D 184))(hp : 0 ≤ p ∧ p ≤ 7) (hc : 0 ≤ c ∧ c ≤ 100) (hn : 0 ≤ n ∧ n ≤ 10000) (h : Q (sSign (D 184) p c b n) (D, T)) : xCall (e + 2) 230 [(2, 183), (0, p), (0, c), (0, b), (0, n)] (D, T) Q := by
  refine xC_of rfl rfl rfl (sg_230_0 ?_)
  have h1 := wi_p hW p hp.1 hp.2
  have h2 := sAll_b (b := b) hW hp hc hn
  unfold sSgA sSgB at h2
  by_cases hb : b = 0
  all_goals simp only [hb, if_true, if_false] at h2
  repeat' first
    | exact h
    | exact trivial
    | exact xB_in
    | exact Or.inl rfl
    | exact Or.inr rfl
    | (refine xQe h ?_; simp (disch := omega) only [sSign, sAll, sSgA, sSgB, if_pos, if_neg, w32_td, w32_td1, Int.add_zero, Int.zero_add, Int.sub_zero]; done)
    | with_reducible refine And.intro ?_ ?_
    | simp (disch := omega) only [w32_id, w64_id, w32_td, w32_td1, Int.add_zero, Int.zero_add, Int.sub_zero, xLcmp_lt, xLcmp_ge, xLcmp_gt, xLcmp_le, xLcmp_eq, xLcmp_ne, xB_ne, xB_eq, yU_s, yU_i, yU_a, ne_eq, not_true, not_false_iff, true_and, and_true, true_or, or_true, false_or, or_false, true_implies, implies_true, k_self hT, p_world hD, k_world hT, n_world hT]
    | intro _
    | refine c_ofPlace hT hD (by omega) (by omega) ?_
    | omega

theorem sSee_b {W : Int → Int} {p c k : Int} (hW : xWI W) (hp : 0 ≤ p ∧ p ≤ 7) (hc : 0 ≤ c ∧ c ≤ 100) (hk : 0 ≤ k ∧ k ≤ 3) : 0 ≤ sSee W p c k ∧ sSee W p c k ≤ 100 := by
  unfold sSee
  generalize (if k = 2 then (1 : Int) else 0) = b
  have h := sSign_b (b := b) (n := 100) hW hp hc (by omega)
  split
  · omega
  · split <;> omega
theorem sChN_b {W : Int → Int} {p : Int} (hW : xWI W) (hp : 0 ≤ p ∧ p ≤ 7) : ∀ k : Nat, (k : Int) ≤ W 4 → 0 ≤ sChN W p k ∧ sChN W p k ≤ 100
  | 0, _ => by have := wi_p hW p hp.1 hp.2; unfold sChN; omega
  | k + 1, h => by
    have ih := sChN_b hW hp k (by omega)
    have h1 := wi_i hW (k : Int) (by omega) (by omega)
    unfold sChN
    split
    · exact sSee_b hW hp ih (by omega)
    · exact ih
theorem sCh_b {W : Int → Int} {p : Int} (hW : xWI W) (hp : 0 ≤ p ∧ p ≤ 7) : 0 ≤ sCh W p ∧ sCh W p ≤ 100 := sChN_b hW hp _ (by have := wi_ni hW; omega)
theorem l_chanceNow {e : Nat} {p : Int} {D : xD} {T : xT2} {Q : Int → xH → Prop} (hT : xTm T) (hD : xPm D) (hW : xWI (D 184)) (hp : 0 ≤ p ∧ p ≤ 7) (h : Q (sCh (D 184) p) (D, T)) : ∀ (n k : Nat) (c : Int), (k : Int) + n = D 184 4 → c = sChN (D 184) p k → ∀ u4 u5, xW (e + 2) cd_231 Q (7, [(2, 183), (0, p), (0, c), (0, (k : Int)), u4, u5], [], (D, T)) := by
  have hn := wi_ni hW
  intro n
  induction n with
  | zero =>
    intro k c hk hc u4 u5
    have e0 : (D 184 4).toNat = k := by omega
    rw [sCh, e0, ← hc] at h
    refine sg_231_7 ?_

    repeat' first
      | exact h
      | exact trivial
      | exact xB_in
      | exact Or.inl rfl
      | exact Or.inr rfl
      | with_reducible refine And.intro ?_ ?_
      | simp (disch := omega) only [w32_id, w64_id, w32_td, w32_td1, Int.add_zero, Int.zero_add, Int.sub_zero, xLcmp_lt, xLcmp_ge, xLcmp_gt, xLcmp_le, xLcmp_eq, xLcmp_ne, xB_ne, xB_eq, yU_s, yU_i, yU_a, ne_eq, not_true, not_false_iff, true_and, and_true, true_or, or_true, false_or, or_false, true_implies, implies_true, k_self hT, p_world hD, k_world hT, n_world hT]
      | intro _
      | omega
  | succ n ih =>
    intro k c hk hc u4 u5
    have h1 := wi_i hW (k : Int) (by omega) (by omega)
    have h2 := sChN_b hW hp k (by omega)
    rw [← hc] at h2
    refine sg_231_7 ?_

    repeat' first
      | exact h
      | exact trivial
      | exact xB_in
      | exact Or.inl rfl
      | exact Or.inr rfl
      | (refine ih (k + 1) _ (by omega) ?_ _ _; rw [sChN, ← hc]; simp (disch := omega) only [sSee, if_pos, if_neg]; done)
      | with_reducible refine And.intro ?_ ?_
      | simp (disch := omega) only [w32_id, w64_id, w32_td, w32_td1, Int.add_zero, Int.zero_add, Int.sub_zero, xLcmp_lt, xLcmp_ge, xLcmp_gt, xLcmp_le, xLcmp_eq, xLcmp_ne, xB_ne, xB_eq, yU_s, yU_i, yU_a, ne_eq, not_true, not_false_iff, true_and, and_true, true_or, or_true, false_or, or_false, true_implies, implies_true, k_self hT, p_world hD, k_world hT, n_world hT]
      | intro _
      | refine c_bySign hT hD hW hp (by omega) (by omega) ?_
      | omega
theorem c_chanceNow {e : Nat} {p : Int} {D : xD} {T : xT2} {Q : Int → xH → Prop} (hT : xTm T) (hD : xPm D) (hW : xWI (D 184))(hp : 0 ≤ p ∧ p ≤ 7) (h : Q (sCh (D 184) p) (D, T)) : xCall (e + 3) 231 [(2, 183), (0, p)] (D, T) Q := by
  refine xC_of rfl rfl rfl (sg_231_0 ?_)
  have hn := wi_ni hW
  repeat' first
    | exact h
    | exact trivial
    | exact xB_in
    | exact Or.inl rfl
    | exact Or.inr rfl
    | exact l_chanceNow hT hD hW hp h (D 184 4).toNat 0 _ (by omega) rfl _ _
    | with_reducible refine And.intro ?_ ?_
    | simp (disch := omega) only [w32_id, w64_id, w32_td, w32_td1, Int.add_zero, Int.zero_add, Int.sub_zero, xLcmp_lt, xLcmp_ge, xLcmp_gt, xLcmp_le, xLcmp_eq, xLcmp_ne, xB_ne, xB_eq, yU_s, yU_i, yU_a, ne_eq, not_true, not_false_iff, true_and, and_true, true_or, or_true, false_or, or_false, true_implies, implies_true, k_self hT, p_world hD, k_world hT, n_world hT]
    | intro _
    | refine c_ofPlace hT hD (by omega) (by omega) ?_
    | omega
