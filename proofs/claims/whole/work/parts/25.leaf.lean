/-! the reference: small things that only look -/


theorem c_in {e : Nat} {v lo hi : Int} {M : xH} {Q : Int → xH → Prop} (h : Q (xB (lo ≤ v ∧ v ≤ hi)) M) : xCall (e + 1) 188 [(1, v), (1, lo), (1, hi)] M Q := by
  refine xC_of rfl rfl rfl (sg_188_0 ?_)
  simp only [xLcmp_lt, xLcmp_ge, xLcmp_gt, xLcmp_le, true_or, or_true, true_and]
  refine ⟨fun a => ?_, fun a => ⟨fun b => ?_, fun b => ?_⟩⟩
  · rw [xB_0 (by omega)] at h; exact h
  · rw [xB_0 (by omega)] at h; exact h
  · rw [xB_1 (by omega)] at h; exact h
def gBit (b k : Int) : Prop := xAnd (xShr b k) 1 = 1
theorem c_holds {e : Nat} {b k : Int} {M : xH} {Q : Int → xH → Prop} (h : Q (xB (xAnd (xShr b k) 1 = 1)) M) : xCall (e + 1) 189 [(0, b), (0, k)] M Q := by
  refine xC_of rfl rfl rfl (sg_189_0 ?_)
  simp only [true_or, or_true, true_and]
  exact ⟨fun a => xB_0 a ▸ h, fun a => xB_1 a ▸ h⟩
theorem xQe {Q : Int → xH → Prop} {x y : Int} {M : xH} (h : Q x M) (e : x = y) : Q y M := e ▸ h

theorem c_ofPlace {e : Nat} {p k : Int} {D : xD} {T : xT2} {Q : Int → xH → Prop} (hT : xTm T) (hD : xPm D) (hp : 0 ≤ p ∧ p ≤ 7) (hk : 0 ≤ k ∧ k ≤ 7) (h : Q (D 184 (20 + 8 * p + k)) (D, T)) : xCall (e + 1) 195 [(2, 183), (0, p), (0, k)] (D, T) Q := by
  refine xC_of rfl rfl rfl (sg_195_0 ?_)
  repeat' first
    | exact h
    | exact trivial
    | exact xB_in
    | exact Or.inl rfl
    | exact Or.inr rfl
    | with_reducible refine And.intro ?_ ?_
    | simp (disch := omega) only [w32_id, w64_id, w32_td, w32_td1, Int.add_zero, Int.zero_add, Int.sub_zero, xLcmp_lt, xLcmp_ge, xLcmp_gt, xLcmp_le, xLcmp_eq, xLcmp_ne, xB_ne, xB_eq, yU_s, yU_i, yU_a, ne_eq, not_true, not_false_iff, true_and, and_true, true_or, or_true, false_or, or_false, true_implies, implies_true, k_self hT, p_world hD, k_world hT, n_world hT]
    | intro _
    | omega
theorem c_ofLeg {e : Nat} {p k : Int} {D : xD} {T : xT2} {Q : Int → xH → Prop} (hT : xTm T) (hD : xPm D) (hp : 0 ≤ p ∧ p ≤ 9) (hk : 0 ≤ k ∧ k ≤ 5) (h : Q (D 184 (84 + 6 * p + k)) (D, T)) : xCall (e + 1) 196 [(2, 183), (0, p), (0, k)] (D, T) Q := by
  refine xC_of rfl rfl rfl (sg_196_0 ?_)
  repeat' first
    | exact h
    | exact trivial
    | exact xB_in
    | exact Or.inl rfl
    | exact Or.inr rfl
    | with_reducible refine And.intro ?_ ?_
    | simp (disch := omega) only [w32_id, w64_id, w32_td, w32_td1, Int.add_zero, Int.zero_add, Int.sub_zero, xLcmp_lt, xLcmp_ge, xLcmp_gt, xLcmp_le, xLcmp_eq, xLcmp_ne, xB_ne, xB_eq, yU_s, yU_i, yU_a, ne_eq, not_true, not_false_iff, true_and, and_true, true_or, or_true, false_or, or_false, true_implies, implies_true, k_self hT, p_world hD, k_world hT, n_world hT]
    | intro _
    | omega
theorem c_isPlace {e : Nat} {p : Int} {D : xD} {T : xT2} {Q : Int → xH → Prop} (hT : xTm T) (hD : xPm D) (hw : 0 ≤ D 184 1 ∧ D 184 1 ≤ 8) (h : Q (xB (0 ≤ p ∧ p < D 184 1)) (D, T)) : xCall (e + 2) 194 [(2, 183), (0, p)] (D, T) Q := by
  refine xC_of rfl rfl rfl (sg_194_0 ?_)
  repeat' first
    | exact h
    | exact trivial
    | exact xB_in
    | exact Or.inl rfl
    | exact Or.inr rfl
    | exact xQe h (by unfold xB; congr 1; simp only [eq_iff_iff]; omega)
    | with_reducible refine And.intro ?_ ?_
    | simp (disch := omega) only [w32_id, w64_id, w32_td, w32_td1, Int.add_zero, Int.zero_add, Int.sub_zero, xLcmp_lt, xLcmp_ge, xLcmp_gt, xLcmp_le, xLcmp_eq, xLcmp_ne, xB_ne, xB_eq, yU_s, yU_i, yU_a, ne_eq, not_true, not_false_iff, true_and, and_true, true_or, or_true, false_or, or_false, true_implies, implies_true, k_self hT, p_world hD, k_world hT, n_world hT]
    | intro _
    | refine c_in ?_
    | omega
theorem c_isLeg {e : Nat} {p : Int} {D : xD} {T : xT2} {Q : Int → xH → Prop} (hT : xTm T) (hD : xPm D) (hw : 0 ≤ D 184 2 ∧ D 184 2 ≤ 10) (h : Q (xB (0 ≤ p ∧ p < D 184 2)) (D, T)) : xCall (e + 2) 221 [(2, 183), (0, p)] (D, T) Q := by
  refine xC_of rfl rfl rfl (sg_221_0 ?_)
  repeat' first
    | exact h
    | exact trivial
    | exact xB_in
    | exact Or.inl rfl
    | exact Or.inr rfl
    | exact xQe h (by unfold xB; congr 1; simp only [eq_iff_iff]; omega)
    | with_reducible refine And.intro ?_ ?_
    | simp (disch := omega) only [w32_id, w64_id, w32_td, w32_td1, Int.add_zero, Int.zero_add, Int.sub_zero, xLcmp_lt, xLcmp_ge, xLcmp_gt, xLcmp_le, xLcmp_eq, xLcmp_ne, xB_ne, xB_eq, yU_s, yU_i, yU_a, ne_eq, not_true, not_false_iff, true_and, and_true, true_or, or_true, false_or, or_false, true_implies, implies_true, k_self hT, p_world hD, k_world hT, n_world hT]
    | intro _
    | refine c_in ?_
    | omega
theorem c_isSpeed {e : Nat} {p : Int} {D : xD} {T : xT2} {Q : Int → xH → Prop} (hT : xTm T) (hD : xPm D) (hw : 0 ≤ D 184 3 ∧ D 184 3 ≤ 6) (h : Q (xB (0 ≤ p ∧ p < D 184 3)) (D, T)) : xCall (e + 2) 222 [(2, 183), (0, p)] (D, T) Q := by
  refine xC_of rfl rfl rfl (sg_222_0 ?_)
  repeat' first
    | exact h
    | exact trivial
    | exact xB_in
    | exact Or.inl rfl
    | exact Or.inr rfl
    | exact xQe h (by unfold xB; congr 1; simp only [eq_iff_iff]; omega)
    | with_reducible refine And.intro ?_ ?_
    | simp (disch := omega) only [w32_id, w64_id, w32_td, w32_td1, Int.add_zero, Int.zero_add, Int.sub_zero, xLcmp_lt, xLcmp_ge, xLcmp_gt, xLcmp_le, xLcmp_eq, xLcmp_ne, xB_ne, xB_eq, yU_s, yU_i, yU_a, ne_eq, not_true, not_false_iff, true_and, and_true, true_or, or_true, false_or, or_false, true_implies, implies_true, k_self hT, p_world hD, k_world hT, n_world hT]
    | intro _
    | refine c_in ?_
    | omega
theorem c_isRule {e : Nat} {p : Int} {D : xD} {T : xT2} {Q : Int → xH → Prop} (hT : xTm T) (hD : xPm D)  (h : Q (xB (0 ≤ p ∧ p < 4)) (D, T)) : xCall (e + 2) 262 [(0, p)] (D, T) Q := by
  refine xC_of rfl rfl rfl (sg_262_0 ?_)
  repeat' first
    | exact h
    | exact trivial
    | exact xB_in
    | exact Or.inl rfl
    | exact Or.inr rfl
    | exact xQe h (by unfold xB; congr 1; simp only [eq_iff_iff]; omega)
    | with_reducible refine And.intro ?_ ?_
    | simp (disch := omega) only [w32_id, w64_id, w32_td, w32_td1, Int.add_zero, Int.zero_add, Int.sub_zero, xLcmp_lt, xLcmp_ge, xLcmp_gt, xLcmp_le, xLcmp_eq, xLcmp_ne, xB_ne, xB_eq, yU_s, yU_i, yU_a, ne_eq, not_true, not_false_iff, true_and, and_true, true_or, or_true, false_or, or_false, true_implies, implies_true, k_self hT, p_world hD, k_world hT, n_world hT]
    | intro _
    | refine c_in ?_
    | omega
theorem c_isClimb {e : Nat} {p : Int} {D : xD} {T : xT2} {Q : Int → xH → Prop} (hT : xTm T) (hD : xPm D)  (h : Q (xB (1 ≤ p ∧ p < 2001)) (D, T)) : xCall (e + 2) 249 [(0, p)] (D, T) Q := by
  refine xC_of rfl rfl rfl (sg_249_0 ?_)
  repeat' first
    | exact h
    | exact trivial
    | exact xB_in
    | exact Or.inl rfl
    | exact Or.inr rfl
    | exact xQe h (by unfold xB; congr 1; simp only [eq_iff_iff]; omega)
    | with_reducible refine And.intro ?_ ?_
    | simp (disch := omega) only [w32_id, w64_id, w32_td, w32_td1, Int.add_zero, Int.zero_add, Int.sub_zero, xLcmp_lt, xLcmp_ge, xLcmp_gt, xLcmp_le, xLcmp_eq, xLcmp_ne, xB_ne, xB_eq, yU_s, yU_i, yU_a, ne_eq, not_true, not_false_iff, true_and, and_true, true_or, or_true, false_or, or_false, true_implies, implies_true, k_self hT, p_world hD, k_world hT, n_world hT]
    | intro _
    | refine c_in ?_
    | omega
theorem c_isSlot {e : Nat} {p : Int} {D : xD} {T : xT2} {Q : Int → xH → Prop} (hT : xTm T) (hD : xPm D)  (h : Q (xB (0 ≤ p ∧ p < 4)) (D, T)) : xCall (e + 2) 314 [(0, p)] (D, T) Q := by
  refine xC_of rfl rfl rfl (sg_314_0 ?_)
  repeat' first
    | exact h
    | exact trivial
    | exact xB_in
    | exact Or.inl rfl
    | exact Or.inr rfl
    | exact xQe h (by unfold xB; congr 1; simp only [eq_iff_iff]; omega)
    | with_reducible refine And.intro ?_ ?_
    | simp (disch := omega) only [w32_id, w64_id, w32_td, w32_td1, Int.add_zero, Int.zero_add, Int.sub_zero, xLcmp_lt, xLcmp_ge, xLcmp_gt, xLcmp_le, xLcmp_eq, xLcmp_ne, xB_ne, xB_eq, yU_s, yU_i, yU_a, ne_eq, not_true, not_false_iff, true_and, and_true, true_or, or_true, false_or, or_false, true_implies, implies_true, k_self hT, p_world hD, k_world hT, n_world hT]
    | intro _
    | refine c_in ?_
    | omega
theorem c_bit {e : Nat} {p : Int} {D : xD} {T : xT2} {Q : Int → xH → Prop} (hT : xTm T) (hD : xPm D)  (h : Q (xB (p ≠ 0)) (D, T)) : xCall (e + 1) 264 [(0, p)] (D, T) Q := by
  refine xC_of rfl rfl rfl (sg_264_0 ?_)
  repeat' first
    | exact h
    | exact trivial
    | exact xB_in
    | exact Or.inl rfl
    | exact Or.inr rfl
    | exact xQe h (xB_1 (by omega))
    | exact xQe h (xB_0 (by omega))
    | with_reducible refine And.intro ?_ ?_
    | simp (disch := omega) only [w32_id, w64_id, w32_td, w32_td1, Int.add_zero, Int.zero_add, Int.sub_zero, xLcmp_lt, xLcmp_ge, xLcmp_gt, xLcmp_le, xLcmp_eq, xLcmp_ne, xB_ne, xB_eq, yU_s, yU_i, yU_a, ne_eq, not_true, not_false_iff, true_and, and_true, true_or, or_true, false_or, or_false, true_implies, implies_true, k_self hT, p_world hD, k_world hT, n_world hT]
    | intro _
    | omega
theorem c_hasStart {e : Nat}  {D : xD} {T : xT2} {Q : Int → xH → Prop} (hT : xTm T) (hD : xPm D)  (h : Q (xB (D 184 12 ≠ -1)) (D, T)) : xCall (e + 1) 268 [(2, 183)] (D, T) Q := by
  refine xC_of rfl rfl rfl (sg_268_0 ?_)
  repeat' first
    | exact h
    | exact trivial
    | exact xB_in
    | exact Or.inl rfl
    | exact Or.inr rfl
    | exact xQe h (xB_1 (by omega))
    | exact xQe h (xB_0 (by omega))
    | with_reducible refine And.intro ?_ ?_
    | simp (disch := omega) only [w32_id, w64_id, w32_td, w32_td1, Int.add_zero, Int.zero_add, Int.sub_zero, xLcmp_lt, xLcmp_ge, xLcmp_gt, xLcmp_le, xLcmp_eq, xLcmp_ne, xB_ne, xB_eq, yU_s, yU_i, yU_a, ne_eq, not_true, not_false_iff, true_and, and_true, true_or, or_true, false_or, or_false, true_implies, implies_true, k_self hT, p_world hD, k_world hT, n_world hT]
    | intro _
    | omega
theorem c_startWet {e : Nat}  {D : xD} {T : xT2} {Q : Int → xH → Prop} (hT : xTm T) (hD : xPm D)  (h : Q (xB (D 184 14 = 1 ∧ 0 < D 184 6)) (D, T)) : xCall (e + 1) 269 [(2, 183)] (D, T) Q := by
  refine xC_of rfl rfl rfl (sg_269_0 ?_)
  repeat' first
    | exact h
    | exact trivial
    | exact xB_in
    | exact Or.inl rfl
    | exact Or.inr rfl
    | exact xQe h (xB_1 (by omega))
    | exact xQe h (xB_0 (by omega))
    | with_reducible refine And.intro ?_ ?_
    | simp (disch := omega) only [w32_id, w64_id, w32_td, w32_td1, Int.add_zero, Int.zero_add, Int.sub_zero, xLcmp_lt, xLcmp_ge, xLcmp_gt, xLcmp_le, xLcmp_eq, xLcmp_ne, xB_ne, xB_eq, yU_s, yU_i, yU_a, ne_eq, not_true, not_false_iff, true_and, and_true, true_or, or_true, false_or, or_false, true_implies, implies_true, k_self hT, p_world hD, k_world hT, n_world hT]
    | intro _
    | omega
theorem c_spot {e : Nat} {s p y : Int} {D : xD} {T : xT2} {Q : Int → xH → Prop} (hT : xTm T) (hD : xPm D) (hs : 0 ≤ s ∧ s ≤ 7) (hp : 0 ≤ p ∧ p ≤ 7) (hy : 0 ≤ y ∧ y ≤ 60) (h : Q ((8 * s + p) * 61 + y) (D, T)) : xCall (e + 1) 302 [(0, s), (0, p), (0, y)] (D, T) Q := by
  refine xC_of rfl rfl rfl (sg_302_0 ?_)
  repeat' first
    | exact h
    | exact trivial
    | exact xB_in
    | exact Or.inl rfl
    | exact Or.inr rfl
    | with_reducible refine And.intro ?_ ?_
    | simp (disch := omega) only [w32_id, w64_id, w32_td, w32_td1, Int.add_zero, Int.zero_add, Int.sub_zero, xLcmp_lt, xLcmp_ge, xLcmp_gt, xLcmp_le, xLcmp_eq, xLcmp_ne, xB_ne, xB_eq, yU_s, yU_i, yU_a, ne_eq, not_true, not_false_iff, true_and, and_true, true_or, or_true, false_or, or_false, true_implies, implies_true, k_self hT, p_world hD, k_world hT, n_world hT]
    | intro _
    | omega
theorem c_state {e : Nat} {p y t l w : Int} {D : xD} {T : xT2} {Q : Int → xH → Prop} (hT : xTm T) (hD : xPm D) (hp : 0 ≤ p ∧ p ≤ 7) (hy : 0 ≤ y ∧ y ≤ 60) (ht : 0 ≤ t ∧ t ≤ 48) (hl : 0 ≤ l ∧ l ≤ 1) (hw : 0 ≤ w ∧ w ≤ 1) (h : Q (((61 * p + y) * 48 + t) * 4 + 2 * l + w) (D, T)) : xCall (e + 1) 254 [(0, p), (0, y), (0, t), (0, l), (0, w)] (D, T) Q := by
  refine xC_of rfl rfl rfl (sg_254_0 ?_)
  repeat' first
    | exact h
    | exact trivial
    | exact xB_in
    | exact Or.inl rfl
    | exact Or.inr rfl
    | with_reducible refine And.intro ?_ ?_
    | simp (disch := omega) only [w32_id, w64_id, w32_td, w32_td1, Int.add_zero, Int.zero_add, Int.sub_zero, xLcmp_lt, xLcmp_ge, xLcmp_gt, xLcmp_le, xLcmp_eq, xLcmp_ne, xB_ne, xB_eq, yU_s, yU_i, yU_a, ne_eq, not_true, not_false_iff, true_and, and_true, true_or, or_true, false_or, or_false, true_implies, implies_true, k_self hT, p_world hD, k_world hT, n_world hT]
    | intro _
    | omega
theorem c_good {e : Nat}  {D : xD} {T : xT2} {Q : Int → xH → Prop} (hT : xTm T) (hD : xPm D)  (h : Q (xB (D 183 12 = 0)) (D, T)) : xCall (e + 1) 201 [(2, 183)] (D, T) Q := by
  refine xC_of rfl rfl rfl (sg_201_0 ?_)
  repeat' first
    | exact h
    | exact trivial
    | exact xB_in
    | exact Or.inl rfl
    | exact Or.inr rfl
    | exact xQe h (xB_1 (by omega))
    | exact xQe h (xB_0 (by omega))
    | with_reducible refine And.intro ?_ ?_
    | simp (disch := omega) only [w32_id, w64_id, w32_td, w32_td1, Int.add_zero, Int.zero_add, Int.sub_zero, xLcmp_lt, xLcmp_ge, xLcmp_gt, xLcmp_le, xLcmp_eq, xLcmp_ne, xB_ne, xB_eq, yU_s, yU_i, yU_a, ne_eq, not_true, not_false_iff, true_and, and_true, true_or, or_true, false_or, or_false, true_implies, implies_true, k_self hT, p_world hD, k_world hT, n_world hT]
    | intro _
    | omega
theorem c_see {e : Nat} {k : Int} {D : xD} {T : xT2} {Q : Int → xH → Prop} (hT : xTm T) (hD : xPm D) (hk : 0 ≤ k) (hs : D 183 7 ≤ 1600) (h : Q (if k < D 183 7 then xAnd (D 187 k) 255 else -1) (D, T)) : xCall (e + 1) 199 [(2, 183), (0, k)] (D, T) Q := by
  refine xC_of rfl rfl rfl (sg_199_0 ?_)
  repeat' first
    | exact h
    | exact trivial
    | exact xB_in
    | exact Or.inl rfl
    | exact Or.inr rfl
    | exact xQe h (if_pos (by omega))
    | exact xQe h (if_neg (by omega))
    | with_reducible refine And.intro ?_ ?_
    | simp (disch := omega) only [w32_id, w64_id, w32_td, w32_td1, Int.add_zero, Int.zero_add, Int.sub_zero, xLcmp_lt, xLcmp_ge, xLcmp_gt, xLcmp_le, xLcmp_eq, xLcmp_ne, xB_ne, xB_eq, yU_s, yU_i, yU_a, ne_eq, not_true, not_false_iff, true_and, and_true, true_or, or_true, false_or, or_false, true_implies, implies_true, k_self hT, p_tape hD, k_tape hT, n_tape hT]
    | intro _
    | omega
theorem c_isHeight {e : Nat} {p y : Int} {D : xD} {T : xT2} {Q : Int → xH → Prop} (hT : xTm T) (hD : xPm D) (hw : 0 ≤ D 184 1 ∧ D 184 1 ≤ 8) (h : Q (xB ((0 ≤ p ∧ p < D 184 1) ∧ D 184 (20 + 8 * p) ≤ y ∧ y ≤ D 184 7)) (D, T)) : xCall (e + 3) 241 [(2, 183), (0, p), (0, y)] (D, T) Q := by
  refine xC_of rfl rfl rfl (sg_241_0 ?_)
  repeat' first
    | exact h
    | exact trivial
    | exact xB_in
    | exact Or.inl rfl
    | exact Or.inr rfl
    | exact xQe h (xB_0 (by omega))
    | exact xQe h (xB_1 (by omega))
    | exact xQe h (by unfold xB; congr 1; simp only [eq_iff_iff]; omega)
    | with_reducible refine And.intro ?_ ?_
    | simp (disch := omega) only [w32_id, w64_id, w32_td, w32_td1, Int.add_zero, Int.zero_add, Int.sub_zero, xLcmp_lt, xLcmp_ge, xLcmp_gt, xLcmp_le, xLcmp_eq, xLcmp_ne, xB_ne, xB_eq, yU_s, yU_i, yU_a, ne_eq, not_true, not_false_iff, true_and, and_true, true_or, or_true, false_or, or_false, true_implies, implies_true, k_self hT, p_world hD, k_world hT, n_world hT, Int.add_zero]
    | intro _
    | refine c_isPlace hT hD hw ?_
    | refine c_ofPlace hT hD (by omega) (by omega) ?_
    | refine c_in ?_
    | omega
