/-! how the plain memory stands for the machine's heap -/
theorem x13 {P : Nat → Prop} (h0 : P 0) (h1 : P 1) (h2 : P 2) (h3 : P 3) (h4 : P 4) (h5 : P 5) (h6 : P 6) (h7 : P 7) (h8 : P 8) (h9 : P 9) (h10 : P 10) (h11 : P 11) (h12 : P 12) : ∀ c : Nat, c < 13 → P c
  | 0, _ => h0
  | 1, _ => h1
  | 2, _ => h2
  | 3, _ => h3
  | 4, _ => h4
  | 5, _ => h5
  | 6, _ => h6
  | 7, _ => h7
  | 8, _ => h8
  | 9, _ => h9
  | 10, _ => h10
  | 11, _ => h11
  | 12, _ => h12
  | n + 13, h => absurd h (by omega)
theorem xCl_get : ∀ c : Nat, c < 13 → vwCl[c]? = some (xCl c) := x13 rfl rfl rfl rfl rfl rfl rfl rfl rfl rfl rfl rfl rfl
theorem xCl_ns : ∀ c : Nat, c < 13 → xNs.getD c 0 = (xCl c).2.2 := x13 rfl rfl rfl rfl rfl rfl rfl rfl rfl rfl rfl rfl rfl
theorem xCl_in : ∀ c : Nat, c < 13 → ∀ w ∈ u_ws (xCl c).1 (xCl c).2.1 (xCl c).2.2, w ∈ lw_tbl :=
  x13 (fun w h => x_in (inX0 w h)) (fun w h => x_in (inX1 w h)) (fun w h => x_in (inX2 w h)) (fun w h => x_in (inX3 w h)) (fun w h => x_in (inX4 w h)) (fun w h => x_in (inX5 w h)) (fun w h => x_in (inX6 w h)) (fun w h => x_in (inX7 w h)) (fun w h => x_in (inX8 w h)) (fun w h => x_in (inX9 w h)) (fun w h => x_in (inX10 w h)) (fun w h => x_in (inX11 w h)) (fun w h => x_in (inX12 w h))
theorem xCl_nm : ∀ c : Nat, c < 13 → ∀ a, a < (xCl c).2.2 → ∀ b, b < (xCl c).2.2 → a ≠ b → ((xCl c).2.1 a).2.1 ≠ ((xCl c).2.1 b).2.1 :=
  x13 nmX0 nmX1 nmX2 nmX3 nmX4 nmX5 nmX6 nmX7 nmX8 nmX9 nmX10 nmX11 nmX12
def xTyF (c k : Nat) : FieldType := (parseFieldDescriptor (xF c k).2.2.1).getD .int
def xFtB (c k : Nat) : Bool := (parseFieldDescriptor (xF c k).2.2.1 == some (xTyF c k)) && (match xTyF c k, xFT c k with
  | .int, 0 => true
  | .boolean, 3 => true
  | .long, 1 => true
  | .object _, 2 => true
  | .array _, 2 => true
  | _, _ => false) && (xF c k).1 == (xCl c).1
theorem xFtB_all : (List.range 13).all (fun c => (List.range (xCl c).2.2).all (xFtB c)) = true := by decide +kernel
theorem xFtB_at {c k : Nat} (hc : c < 13) (hk : k < (xCl c).2.2) : xFtB c k = true := by
  have h := List.all_eq_true.mp xFtB_all c (List.mem_range.mpr hc)
  exact List.all_eq_true.mp h k (List.mem_range.mpr hk)
theorem xFt_parse {c k : Nat} (hc : c < 13) (hk : k < (xCl c).2.2) : parseFieldDescriptor ((xCl c).2.1 k).2.2.1 = some (xTyF c k) := by
  have h := xFtB_at hc hk
  simp only [xFtB, Bool.and_eq_true, beq_iff_eq] at h
  exact h.1.1
theorem xFt_own {c k : Nat} (hc : c < 13) (hk : k < (xCl c).2.2) : ((xCl c).2.1 k).1 = (xCl c).1 := by
  have h := xFtB_at hc hk
  simp only [xFtB, Bool.and_eq_true, beq_iff_eq] at h
  exact h.2
theorem xFt_code {c k : Nat} (hc : c < 13) (hk : k < (xCl c).2.2) : (xTyF c k = .int ∧ xFT c k = 0) ∨ (xTyF c k = .boolean ∧ xFT c k = 3) ∨ (xTyF c k = .long ∧ xFT c k = 1) ∨ (((∃ n, xTyF c k = .object n) ∨ ∃ t, xTyF c k = .array t) ∧ xFT c k = 2) := by
  have h := xFtB_at hc hk
  simp only [xFtB, Bool.and_eq_true] at h
  have h2 := h.1.2
  split at h2
  · exact Or.inl ⟨by assumption, by assumption⟩
  · exact Or.inr (Or.inl ⟨by assumption, by assumption⟩)
  · exact Or.inr (Or.inr (Or.inl ⟨by assumption, by assumption⟩))
  · exact Or.inr (Or.inr (Or.inr ⟨Or.inl ⟨_, by assumption⟩, by assumption⟩))
  · exact Or.inr (Or.inr (Or.inr ⟨Or.inr ⟨_, by assumption⟩, by assumption⟩))
  · cases h2
def xRv (ad : Int → Nat) (x : Int) : Option Nat := if x = 0 then none else some (ad x)
def xc (ad : Int → Nat) (v : xV) : Value := match v.1 with
  | 0 => .int (Int32.ofInt v.2)
  | 1 => .long (Int64.ofInt v.2)
  | _ => va_rf (xRv ad v.2)
theorem xc_ref {ad : Int → Nat} {x : Int} (h : x ≠ 0) : xc ad (2, x) = .ref (ad x) := by
  show va_rf (xRv ad x) = _
  rw [xRv, if_neg h]
  rfl
theorem xc_null {ad : Int → Nat} : xc ad (2, 0) = .null := rfl
def xTg (t : Nat) : Nat := match t with
  | 3 => 0
  | 4 => 0
  | t => t
def xTy (κ k : Int) : Nat := if κ = 20 then 0 else if κ = 21 then 4 else if κ = 22 then 3 else if κ = 23 then 1 else if 24 ≤ κ then 2 else if 0 ≤ κ ∧ κ < 13 then xFT κ.toNat k.toNat else 9
/-- a number of a type, where nx is the next object's number -/
def xInN (nx : Nat) (t : Nat) (x : Int) : Prop := match t with
  | 2 => x < (nx : Int)
  | t => xIn t x
theorem xInN_2 {n : Nat} {x : Int} : xInN n 2 x ↔ x < (n : Int) := Iff.rfl
theorem xInN_ne {n t : Nat} {x : Int} (h : t ≠ 2) : xInN n t x ↔ xIn t x := by
  unfold xInN
  split
  · exact absurd rfl h
  · exact Iff.rfl
theorem xInN_mono {n n' t : Nat} {x : Int} (h : xInN n t x) (hn : n ≤ n') : xInN n' t x := by
  by_cases e : t = 2
  · subst e
    have h := xInN_2.mp h
    exact xInN_2.mpr (by omega)
  · exact (xInN_ne e).mpr ((xInN_ne e).mp h)
theorem xInN_0 {n : Nat} {t : Nat} (hn : 1 ≤ n) : xInN n t 0 := by
  by_cases e : t = 2
  · subst e
    exact xInN_2.mpr (by omega)
  · refine (xInN_ne e).mpr ?_
    unfold xIn
    split <;> first | trivial | omega | exact Or.inl rfl
abbrev xG : Type := (Int → Nat) × (Int → ClassId)
def xCont (ad : Int → Nat) (κ : Int) (f : Int → Int) : (Nat → Int32) ⊕ (Nat → Int64) ⊕ (Nat → UInt32) ⊕ (Nat → UInt64) ⊕ (Nat → Option Nat) :=
  if κ ≤ 22 then .inl (fun i => Int32.ofInt (f (i : Int))) else if κ = 23 then .inr (.inl (fun i => Int64.ofInt (f (i : Int)))) else .inr (.inr (.inr (.inr (fun i => xRv ad (f (i : Int))))))
def xFs (ad : Int → Nat) (c : Nat) (f : Int → Int) : List Value := (List.range (xCl c).2.2).map (fun k => xc ad (xTg (xFT c k), f (k : Int)))
def xEnt (G : xG) (H : xH) (a : Int) : va_E := if 20 ≤ H.2.1 a then .inl (G.2 a, (H.2.2.1 a).toNat, xCont G.1 (H.2.1 a) (H.1 a)) else .inr ((H.2.1 a).toNat, xFs G.1 (H.2.1 a).toNat (H.1 a))
def xWs (G : xG) (H : xH) : va_W := (List.range (H.2.2.2.1 - 1)).map (fun k : Nat => (G.1 ((k : Int) + 1), xEnt G H ((k : Int) + 1)))
theorem xWs_get {G : xG} {H : xH} {a : Int} (h0 : 0 < a) (h1 : a < (H.2.2.2.1 : Int)) : (xWs G H)[(a - 1).toNat]? = some (G.1 a, xEnt G H a) := by
  have h2 : (a - 1).toNat < H.2.2.2.1 - 1 := by omega
  have h3 : (((a - 1).toNat : Nat) : Int) + 1 = a := by omega
  rw [xWs, List.getElem?_map, List.getElem?_range h2]
  show some (G.1 ((((a - 1).toNat : Nat) : Int) + 1), xEnt G H ((((a - 1).toNat : Nat) : Int) + 1)) = _
  rw [h3]
theorem xWs_len (G : xG) (H : xH) : (xWs G H).length = H.2.2.2.1 - 1 := by
  rw [xWs, List.length_map, List.length_range]
theorem xWs_mem {G : xG} {H : xH} {k : Nat} {q : Nat × va_E} (h : (xWs G H)[k]? = some q) : k + 1 < H.2.2.2.1 ∧ q = (G.1 ((k : Int) + 1), xEnt G H ((k : Int) + 1)) := by
  have hk : k < (xWs G H).length := (List.getElem?_eq_some_iff.mp h).1
  rw [xWs_len] at hk
  have e := xWs_get (G := G) (H := H) (a := (k : Int) + 1) (by omega) (by omega)
  have e2 : ((k : Int) + 1 - 1).toNat = k := by omega
  rw [e2] at e
  rw [e] at h
  exact ⟨by omega, (Option.some.inj h).symm⟩
theorem xWs_set {G : xG} {H H' : xH} {a : Int} {z : Nat × va_E} (h0 : 0 < a) (hn : H'.2.2.2.1 = H.2.2.2.1) (hz : z = (G.1 a, xEnt G H' a)) (hE : ∀ b : Int, b ≠ a → xEnt G H' b = xEnt G H b) : (xWs G H).set (a - 1).toNat z = xWs G H' := by
  subst hz
  apply List.ext_getElem?
  intro k
  rw [List.getElem?_set]
  by_cases hk : k < H.2.2.2.1 - 1
  · have e1 := xWs_get (G := G) (H := H) (a := (k : Int) + 1) (by omega) (by omega)
    have e2 := xWs_get (G := G) (H := H') (a := (k : Int) + 1) (by omega) (by omega)
    have e3 : ((k : Int) + 1 - 1).toNat = k := by omega
    rw [e3] at e1 e2
    rw [e1, e2]
    by_cases hka : (a - 1).toNat = k
    · have e4 : (k : Int) + 1 = a := by omega
      rw [if_pos hka, if_pos (by rw [xWs_len]; omega), e4]
    · rw [if_neg hka, hE _ (by omega)]
  · have e1 : (xWs G H)[k]? = none := by rw [List.getElem?_eq_none_iff, xWs_len]; omega
    have e2 : (xWs G H')[k]? = none := by rw [List.getElem?_eq_none_iff, xWs_len]; omega
    rw [e1, e2]
    split
    · rw [if_neg (by rw [xWs_len]; omega)]
    · rfl
/-- what is true of every memory that stands for a heap -/
def xOk (H : xH) : Prop := 1 ≤ H.2.2.2.1 ∧ (∀ a : Int, 0 ≤ H.2.1 a → a = -1 ∨ (0 < a ∧ a < (H.2.2.2.1 : Int))) ∧ (∀ a : Int, 0 < a → a < (H.2.2.2.1 : Int) → (0 ≤ H.2.1 a ∧ H.2.1 a < 13) ∨ (20 ≤ H.2.1 a ∧ H.2.1 a ≤ 28)) ∧ (0 ≤ H.2.1 (-1) → H.2.1 (-1) = 20) ∧ (∀ a : Int, 20 ≤ H.2.1 a → 0 ≤ H.2.2.1 a ∧ H.2.2.1 a < 2147483648) ∧ ∀ a k : Int, xInN H.2.2.2.1 (xTy (H.2.1 a) k) (H.1 a k)
theorem xRv_ext {ad ad' : Int → Nat} {n : Int} (h : ∀ b : Int, b < n → ad' b = ad b) {x : Int} (hx : x < n) : xRv ad' x = xRv ad x := by
  unfold xRv
  rw [h x hx]
theorem xTy_ge {κ k : Int} (h : 24 ≤ κ) : xTy κ k = 2 := by
  unfold xTy
  rw [if_neg (by omega), if_neg (by omega), if_neg (by omega), if_neg (by omega), if_pos h]
theorem xTy_cl {κ k : Int} (h : 0 ≤ κ) (h2 : κ < 13) : xTy κ k = xFT κ.toNat k.toNat := by
  unfold xTy
  rw [if_neg (by omega), if_neg (by omega), if_neg (by omega), if_neg (by omega), if_neg (by omega), if_pos ⟨h, h2⟩]
theorem xCont_ext {ad ad' : Int → Nat} {n κ : Int} {f : Int → Int} (h : ∀ b : Int, b < n → ad' b = ad b) (hf : 24 ≤ κ → ∀ i : Int, f i < n) : xCont ad' κ f = xCont ad κ f := by
  unfold xCont
  by_cases h1 : κ ≤ 22
  · rw [if_pos h1, if_pos h1]
  · rw [if_neg h1, if_neg h1]
    by_cases h2 : κ = 23
    · rw [if_pos h2, if_pos h2]
    · rw [if_neg h2, if_neg h2]
      have e : (fun i : Nat => xRv ad' (f (i : Int))) = fun i : Nat => xRv ad (f (i : Int)) := funext fun i => xRv_ext h (hf (by omega) _)
      rw [e]
theorem xFs_ext {ad ad' : Int → Nat} {n : Int} {c : Nat} {f : Int → Int} (hc : c < 13) (h : ∀ b : Int, b < n → ad' b = ad b) (hf : ∀ k : Nat, k < (xCl c).2.2 → xFT c k = 2 → f (k : Int) < n) : xFs ad' c f = xFs ad c f := by
  unfold xFs
  apply List.map_congr_left
  intro k hk
  have hk := List.mem_range.mp hk
  rcases xFt_code hc hk with ⟨-, e⟩ | ⟨-, e⟩ | ⟨-, e⟩ | ⟨-, e⟩
  · rw [e]; rfl
  · rw [e]; rfl
  · rw [e]; rfl
  · have q := hf k hk e
    rw [e]
    show va_rf (xRv ad' _) = va_rf (xRv ad _)
    rw [xRv_ext h q]
theorem xEnt_ext {G G' : xG} {H : xH} {a : Int} (hok : xOk H) (h0 : 0 < a) (h1 : a < (H.2.2.2.1 : Int)) (h : ∀ b : Int, b < (H.2.2.2.1 : Int) → G'.1 b = G.1 b) (h2 : G'.2 a = G.2 a) : xEnt G' H a = xEnt G H a := by
  obtain ⟨-, -, k3, -, -, k6⟩ := hok
  unfold xEnt
  by_cases hk : 20 ≤ H.2.1 a
  · rw [if_pos hk, if_pos hk, h2, xCont_ext h (fun h24 i => ?_)]
    have q := k6 a i
    rw [xTy_ge h24] at q
    exact q
  · rw [if_neg hk, if_neg hk]
    have q0 := k3 a h0 h1
    rw [xFs_ext (by omega) h (fun k hk2 h2 => ?_)]
    have q := k6 a (k : Int)
    rw [xTy_cl (by omega) (by omega)] at q
    have e : ((k : Int)).toNat = k := by omega
    rw [e, h2] at q
    exact q
theorem xFs_get {ad : Int → Nat} {c k : Nat} {f : Int → Int} (hk : k < (xCl c).2.2) : (xFs ad c f)[k]? = some (xc ad (xTg (xFT c k), f (k : Int))) := by
  rw [xFs, List.getElem?_map, List.getElem?_range hk]
  rfl
theorem xFs_len (ad : Int → Nat) (c : Nat) (f : Int → Int) : (xFs ad c f).length = (xCl c).2.2 := by
  rw [xFs, List.length_map, List.length_range]
theorem xFs_set {ad : Int → Nat} {c k : Nat} {f f' : Int → Int} {v : Value} (hk : k < (xCl c).2.2) (hv : v = xc ad (xTg (xFT c k), f' (k : Int))) (hf : ∀ i : Int, i ≠ (k : Int) → f' i = f i) : (xFs ad c f).set k v = xFs ad c f' := by
  apply List.ext_getElem?
  intro i
  rw [List.getElem?_set]
  by_cases hi : i < (xCl c).2.2
  · rw [xFs_get hi, xFs_get hi]
    by_cases e : k = i
    · rw [if_pos e, if_pos (by rw [xFs_len]; omega), hv, e]
    · rw [if_neg e, hf _ (by omega)]
  · rw [if_neg (by omega)]
    have e1 : (xFs ad c f)[i]? = none := by rw [List.getElem?_eq_none_iff, xFs_len]; omega
    have e2 : (xFs ad c f')[i]? = none := by rw [List.getElem?_eq_none_iff, xFs_len]; omega
    rw [e1, e2]
def xAt (κ : Int) : FieldType := if κ = 20 then .int else if κ = 21 then .byte else if κ = 22 then .boolean else if κ = 23 then .long else if κ = 24 then .array .long else if κ = 25 then .object RX4 else if κ = 26 then .object RX2 else if κ = 27 then .object RX10 else .object RX5
/-- what stays the same in a whole run: the classes' tables, the constants' addresses and their bytes' addresses, the script; and the addresses of the objects that were there at the method's start, how many these are -/
abbrev xJT : Type := va_G × (Nat → Nat) × (Nat → Nat) × Nat × Nat × (Nat → Int32) × (Int → Nat) × Int
abbrev xKT : Type := Program × Launch × Env × Room × State × MethodId × Array Value × List Frame × Method × Code
def xGw : List Cond := lw_tbl.filter goodWord
def xSlen : List Nat := xStr.map (fun t => t.toList.length)
def xSbyt : List (List Int32) := xStr.map (fun t => t.toList.map (fun c => Int32.ofNat c.toNat))
def xZs (A : Nat → Prop) (U : State) (H : Heap) : Prop := va_Z "java/lang/String" "COMPACT_STRINGS" "Z" (.int 1) A U H ∧ ∃ r : Option Nat, va_Z "jdk/internal/util/Preconditions" "SIOOBE_FORMATTER" "Ljava/util/function/BiFunction;" (va_rf r) A U H
def xSs (adK adV : Nat → Nat) (A : Nat → Prop) (U : State) (H : Heap) : Prop := (∀ i : Nat, i < 27 → va_O "java/lang/String" (adK i) A U H ∧ va_OF "java/lang/String" "coder" "B" (.int 0) (adK i) A U H ∧ va_OF "java/lang/String" "value" "[B" (.ref (adV i)) (adK i) A U H ∧ va_T .byte (adV i) (xSlen.getD i 0) (fun j => .int ((xSbyt.getD i []).getD j 0)) A U H) ∧ xZs A U H
theorem xSs_moved {adK adV : Nat → Nat} {A : Nat → Prop} {u U : State} {H : Heap} (hvm : u.vm.Alike U.vm) (h : xSs adK adV A u H) : xSs adK adV A U H :=
  ⟨fun i hi => ⟨va_O.moved hvm (h.1 i hi).1, va_OF.moved hvm (h.1 i hi).2.1, va_OF.moved hvm (h.1 i hi).2.2.1, va_T.moved hvm (h.1 i hi).2.2.2⟩, va_Z.moved hvm h.2.1, h.2.2.choose, va_Z.moved hvm h.2.2.choose_spec⟩
theorem xSs_kept {adK adV : Nat → Nat} {A : Nat → Prop} {U : State} {H H1 : Heap} (h : xSs adK adV A U H) (hq : ∀ a : Nat, a < H.size → ¬ A a → H1[a]? = H[a]?) : xSs adK adV A U H1 :=
  ⟨fun i hi => ⟨(h.1 i hi).1.kept hq, (h.1 i hi).2.1.kept hq, (h.1 i hi).2.2.1.kept hq, (h.1 i hi).2.2.2.kept hq⟩, h.2.1.kept hq, h.2.2.choose, h.2.2.choose_spec.kept hq⟩
theorem xSs_narrow {adK adV : Nat → Nat} {A B : Nat → Prop} {U : State} {H : Heap} (h : xSs adK adV A U H) (hAB : ∀ q, B q → A q) : xSs adK adV B U H :=
  ⟨fun i hi => ⟨(h.1 i hi).1.narrow hAB, (h.1 i hi).2.1.narrow hAB, (h.1 i hi).2.2.1.narrow hAB, (h.1 i hi).2.2.2.narrow hAB⟩, h.2.1.narrow hAB, h.2.2.choose, h.2.2.choose_spec.narrow hAB⟩
def xAOL (s : State) : Prop := (Cond.arrayOver (.array .long)).before #[] s = true
def xTab (J : xJT) (s : State) : Prop := va_K J.1 vwCl [] s ∧ (∀ e ∈ xFn, va_Nw (xFnC e) s) ∧ (∀ e ∈ xMn, va_Nw (xMnC e) s) ∧ (∀ e ∈ xKs, vk_R (xo e.1) e.2.1 (xStr.getD e.2.2 "") (J.2.1 e.2.2) s) ∧ (∀ c : Nat, (c = 2 ∨ c = 4 ∨ c = 5 ∨ c = 10) → va_AO (xCl c).1 s) ∧ xAOL s
def xOld (J : xJT) (A : Nat → Prop) (s : State) (H : Heap) : Prop := va_X J.2.2.2.1 J.2.2.2.2.1 J.2.2.2.2.2.1 s H ∧ J.2.2.2.1 < H.size ∧ ¬ A J.2.2.2.1 ∧ xSs J.2.1 J.2.2.1 A s H
def xGd (J : xJT) (G : xG) (M : xH) : Prop := G.1 (-1) = J.2.2.2.1 ∧ ((∀ j : Nat, j < 27 → G.1 (-2 - (j : Int)) = J.2.1 j) ∧ ∀ b : Int, b < J.2.2.2.2.2.2.2 → G.1 b = J.2.2.2.2.2.2.1 b) ∧ J.2.2.2.2.2.2.2 ≤ (M.2.2.2.1 : Int) ∧ (M.2.1 (-1) = 20 → M.2.2.1 (-1) = (J.2.2.2.2.1 : Int) ∧ ∀ i : Nat, i < J.2.2.2.2.1 → M.1 (-1) (i : Int) = (J.2.2.2.2.2.1 i).toInt)
def xKn (G : xG) (M : xH) (s : State) : Prop := ∀ a : Int, 0 < a → a < (M.2.2.2.1 : Int) → 20 ≤ M.2.1 a → ArrOfT s (G.2 a) (xAt (M.2.1 a)) ∧ va_RA s (G.2 a) (xAt (M.2.1 a))
def xRel (J : xJT) (s : State) (A : Nat → Prop) (H0 : Heap) (G : xG) (M : xH) (H : Heap) (locs : List Loc) : Prop := xOk M ∧ va_P J.1 vwCl (xWs G M) H ∧ va_D A (xWs G M) ∧ va_S A H0 H locs ∧ xKn G M s ∧ xGd J G M
def xVk (nx : Nat) (v : xV) : Prop := v.1 ≤ 2 ∧ xInN nx v.1 v.2
def xLk (nx : Nat) (v : xV) : Prop := v.1 = 9 ∨ (xVk nx v ∧ (v.1 = 2 → v.2 ≠ 0))
def xLv (ad : Int → Nat) (L : List xV) : List (Nat × Value) := L.zipIdx.filterMap (fun q => if q.1.1 = 9 then none else some (q.2, xc ad q.1))
def xFr (nL : Nat) (G : xG) (M : xH) (L st : List xV) (ls : Array Slot) : Prop := lv_has ls nL (xLv G.1 L) ∧ L.length = nL ∧ (∀ v ∈ L, xLk M.2.2.2.1 v) ∧ ∀ v ∈ st, xVk M.2.2.2.1 v
def xRd (K : xKT) (J : xJT) (A : Nat → Prop) (Z : State → Prop) (nL c0 s0 : Nat) (ps : List Nat) (S : xS) : Prop :=
  ∀ (G : xG) (H : Heap) (locs : List Loc) (ls : Array Slot), xRel J K.2.2.2.2.1 A K.2.2.2.2.1.heap G S.2.2.2 H locs → xFr nL G S.2.2.2 S.2.1 S.2.2.1 ls → c0 ≤ S.2.2.2.2.2.2.1 → s0 ≤ S.2.2.2.2.2.2.2 →
    W K.1 K.2.1 K.2.2.1 K.2.2.2.1 K.2.2.2.2.1 K.2.2.2.2.2.1 K.2.2.2.2.2.2.1 K.2.2.2.2.2.2.2.1 K.2.2.2.2.2.2.2.2.1 K.2.2.2.2.2.2.2.2.2 H locs (S.2.2.2.2.2.2.1 - c0) (S.2.2.2.2.2.2.2 - s0) Z (F0 K.2.2.2.2.2.1 (ps.getD S.1 0) ls (S.2.2.1.map (xc G.1)))
def xCtx (p : Program) (R : Room) (s : State) (m : MethodId) (args : Array Value) (c : Code) (own : Nat) (cc : ByteArray) (nL d : Nat) (J : xJT) (A : Nat → Prop) : Prop :=
  p.tables.exec = Jvm.exec ∧ c.code = cc ∧ c.maxLocals = nL ∧ s.vm.findClass (xo own) = some m.cls ∧ (∀ w ∈ xGw, w.before args s = true) ∧ xTab J s ∧ xOld J A s s.heap ∧ (∀ q : Nat, s.heap.size ≤ q → A q) ∧ d ≤ R.frames ∧ 41 * d ≤ R.locals
theorem xLv_mem {ad : Int → Nat} {L : List xV} {i : Nat} {v : xV} (h : L[i]? = some v) (h9 : v.1 ≠ 9) : (i, xc ad v) ∈ xLv ad L := by
  refine List.mem_filterMap.mpr ⟨(v, i), ?_, by rw [if_neg h9]⟩
  rw [List.mem_zipIdx_iff_getElem?]
  exact h
theorem xLv_of {ad : Int → Nat} {L : List xV} {q : Nat × Value} (h : q ∈ xLv ad L) : ∃ v : xV, L[q.1]? = some v ∧ v.1 ≠ 9 ∧ q.2 = xc ad v := by
  obtain ⟨z, hz, e⟩ := List.mem_filterMap.mp h
  rw [List.mem_zipIdx_iff_getElem?] at hz
  by_cases h9 : z.1.1 = 9
  · rw [if_pos h9] at e; cases e
  · rw [if_neg h9] at e
    cases e
    exact ⟨z.1, hz, h9, rfl⟩
theorem xL_at {nL : Nat} {ad : Int → Nat} {L : List xV} {ls : Array Slot} (h : lv_has ls nL (xLv ad L)) {i : Nat} {v : xV} (hv : L[i]? = some v) (h9 : v.1 ≠ 9) : ls[i]? = some (.val (xc ad v)) := h.2.2 _ (xLv_mem hv h9)
theorem xL_sub {nL : Nat} {ls : Array Slot} {l l' : List (Nat × Value)} (h : lv_has ls nL l) (hs : ∀ q ∈ l', q ∈ l) : lv_has ls nL l' := ⟨h.1, h.2.1, fun q hq => h.2.2 q (hs q hq)⟩
theorem xGetD {α : Type} {L : List α} {i : Nat} {v d : α} (h : L.getD i d = v) (hv : v ≠ d) : L[i]? = some v := by
  rw [List.getD_eq_getElem?_getD] at h
  cases e : L[i]? with
  | none => rw [e] at h; exact absurd h.symm hv
  | some w => rw [e] at h; exact congrArg some h
theorem xc_cat (ad : Int → Nat) (v : xV) (h : v.1 ≤ 2) : (xc ad v).category = if v.1 = 1 then 2 else 1 := by
  obtain ⟨t, x⟩ := v
  match t, h with
  | 0, _ => rfl
  | 1, _ => rfl
  | 2, _ =>
    by_cases e : x = 0
    · subst e; rfl
    · rw [xc_ref e]; rfl
theorem xSet_get {Z : List xV} {i j : Nat} {v w : xV} (h : (Z.set i v)[j]? = some w) : (j = i ∧ w = v) ∨ (j ≠ i ∧ Z[j]? = some w) := by
  rw [List.getElem?_set] at h
  by_cases e : i = j
  · rw [if_pos e] at h
    by_cases hl : i < Z.length
    · rw [if_pos hl] at h
      exact Or.inl ⟨e.symm, (Option.some.inj h).symm⟩
    · rw [if_neg hl] at h
      cases h
  · rw [if_neg e] at h
    exact Or.inr ⟨fun q => e q.symm, h⟩
theorem xSt1_get {L : List xV} {i j : Nat} {v w : xV} (h : (xSt1 L i v)[j]? = some w) (h9 : w.1 ≠ 9) : (j = i ∧ w = v) ∨ (j ≠ i ∧ L[j]? = some w ∧ ¬ (j + 1 = i ∧ w.1 = 1)) := by
  unfold xSt1 at h
  rcases xSet_get h with q | ⟨q1, q2⟩
  · exact Or.inl q
  · refine Or.inr ⟨q1, ?_⟩
    match i, q1, q2 with
    | 0, q1, q2 => exact ⟨q2, fun q => by omega⟩
    | k + 1, q1, q2 =>
      have q2 : (match L.getD k (9, 0) with | (1, _) => L.set k (9, 0) | _ => L)[j]? = some w := q2
      split at q2
      · rename_i x hx
        rcases xSet_get q2 with ⟨e1, e2⟩ | ⟨e1, e2⟩
        · rw [e2] at h9; exact absurd rfl h9
        · exact ⟨e2, fun q => e1 (by omega)⟩
      · rename_i hx
        have q5 : L[j]? = some w := by assumption
        refine ⟨q5, fun q => ?_⟩
        obtain ⟨z1, z2⟩ := q
        have e3 : j = k := by omega
        subst e3
        obtain ⟨t, x⟩ := w
        have z2 : t = 1 := z2
        subst z2
        exact hx x (by rw [List.getD_eq_getElem?_getD, q5]; rfl)
theorem xSt1_len (L : List xV) (i : Nat) (v : xV) : (xSt1 L i v).length = L.length := by
  unfold xSt1
  rw [List.length_set]
  split
  · rfl
  · split
    · rw [List.length_set]
    · rfl
theorem xSt2_get {L : List xV} {i j : Nat} {v w : xV} (h : (xSt2 L i v)[j]? = some w) (h9 : w.1 ≠ 9) : (j = i ∧ w = v) ∨ (j ≠ i ∧ j ≠ i + 1 ∧ L[j]? = some w ∧ ¬ (j + 1 = i ∧ w.1 = 1)) := by
  unfold xSt2 at h
  rcases xSet_get h with ⟨q1, q2⟩ | ⟨q1, q2⟩
  · rw [q2] at h9; exact absurd rfl h9
  · rcases xSt1_get q2 h9 with ⟨h1, h2⟩ | ⟨h1, h2, h3⟩
    · exact Or.inl ⟨h1, h2⟩
    · exact Or.inr ⟨h1, q1, h2, h3⟩
theorem xSt2_len (L : List xV) (i : Nat) (v : xV) : (xSt2 L i v).length = L.length := by
  unfold xSt2
  rw [List.length_set, xSt1_len]
