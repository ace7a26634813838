/-! the first reader's lines: what they leave of a sky -/
def skB (b : Int) : Prop := b = 7 ∨ b = 34 ∨ b = 102 ∨ b = 129 ∨ b = 156
theorem skB_2 {b : Int} (h : b = 7 ∨ b = 34) : skB b := by
  rcases h with h | h
  · exact Or.inl h
  · exact Or.inr (Or.inl h)
theorem skB_in {b : Int} (h : skB b) : 7 ≤ b ∧ b ≤ 156 := by unfold skB at h; omega
theorem sk_ro {b : Int} (h : skB b) {o : Int} (o0 : 0 ≤ o) (o1 : o ≤ 26) : ttRo (b + o) = ttSk o.toNat ∧ 1 ≤ b + o ∧ b + o < 210 := by
  have k : ∀ n : Nat, n < 27 → ttRn (7 + n) = ttSk n ∧ ttRn (34 + n) = ttSk n ∧ ttRn (102 + n) = ttSk n ∧ ttRn (129 + n) = ttSk n ∧ ttRn (156 + n) = ttSk n := by decide
  obtain ⟨n, rfl⟩ := Int.eq_ofNat_of_zero_le o0
  have w := k n (by omega)
  have hb := skB_in h
  refine ⟨?_, by omega, by omega⟩
  rcases h with rfl | rfl | rfl | rfl | rfl
  · rw [show (7 : Int) + (n : Int) = ((7 + n : Nat) : Int) from by omega]; exact w.1
  · rw [show (34 : Int) + (n : Int) = ((34 + n : Nat) : Int) from by omega]; exact w.2.1
  · rw [show (102 : Int) + (n : Int) = ((102 + n : Nat) : Int) from by omega]; exact w.2.2.1
  · rw [show (129 : Int) + (n : Int) = ((129 + n : Nat) : Int) from by omega]; exact w.2.2.2.1
  · rw [show (156 : Int) + (n : Int) = ((156 + n : Nat) : Int) from by omega]; exact w.2.2.2.2
theorem sk_rb {b : Int} (h : skB b) : ttRo b = 7 := by rcases h with rfl | rfl | rfl | rfl | rfl <;> rfl
theorem sk_rp {b p : Int} (h : skB b) (p0 : 0 ≤ p) (p1 : p ≤ 7) : ttRo (b + 9 + p) = 16 := by
  have w := sk_ro h (o := 9 + p) (by omega) (by omega)
  rw [show b + (9 + p) = b + 9 + p from by omega] at w
  refine w.1.trans ?_
  obtain ⟨n, rfl⟩ := Int.eq_ofNat_of_zero_le p0
  have k : ∀ n : Nat, n < 8 → ttSk (9 + n) = 16 := by decide
  rw [show ((9 : Int) + (n : Int)).toNat = 9 + n from by omega]; exact k n (by omega)
theorem sk_rl {b l : Int} (h : skB b) (l0 : 0 ≤ l) (l1 : l ≤ 9) : ttRo (b + 17 + l) = 24 := by
  have w := sk_ro h (o := 17 + l) (by omega) (by omega)
  rw [show b + (17 + l) = b + 17 + l from by omega] at w
  refine w.1.trans ?_
  obtain ⟨n, rfl⟩ := Int.eq_ofNat_of_zero_le l0
  have k : ∀ n : Nat, n < 10 → ttSk (17 + n) = 24 := by decide
  rw [show ((17 : Int) + (n : Int)).toNat = 17 + n from by omega]; exact k n (by omega)
theorem sk_kb {H : xH} (hT : ttTI H) {b : Int} (h : skB b) : H.2.1 b = 10 ∧ H.2.2.1 b = 0 := by
  have w := skB_in h
  exact ttKc hT (by rw [sk_rb h]; exact ⟨rfl, rfl⟩) (by omega) (by omega)
theorem sk_kx {H : xH} (hT : ttTI H) {b o : Int} (h : skB b) (o0 : 0 ≤ o) (o1 : o ≤ 26) {κ len : Int} (hk : (ttTb (ttSk o.toNat)).1 = κ ∧ (ttTb (ttSk o.toNat)).2.1 = len) : H.2.1 (b + o) = κ ∧ H.2.2.1 (b + o) = len := by
  have w := sk_ro h o0 o1
  exact ttKc hT (by rw [w.1]; exact hk) w.2.1 w.2.2
theorem sk_kp {H : xH} (hT : ttTI H) {b p : Int} (h : skB b) (p0 : 0 ≤ p) (p1 : p ≤ 7) : H.2.1 (b + 9 + p) = 4 ∧ H.2.2.1 (b + 9 + p) = 0 := by
  have w := skB_in h
  exact ttKc hT (by rw [sk_rp h p0 p1]; exact ⟨rfl, rfl⟩) (by omega) (by omega)
theorem sk_kl {H : xH} (hT : ttTI H) {b l : Int} (h : skB b) (l0 : 0 ≤ l) (l1 : l ≤ 9) : H.2.1 (b + 17 + l) = 2 ∧ H.2.2.1 (b + 17 + l) = 0 := by
  have w := skB_in h
  exact ttKc hT (by rw [sk_rl h l0 l1]; exact ⟨rfl, rfl⟩) (by omega) (by omega)
theorem fr_x {ef : ttEf} {H K : xH} (hF : ttFr ef H K) {a j : Int} {r : Nat} (ha : a < (H.2.2.2.1 : Int)) (hr : ttRo a = r) (h : ∀ q ∈ ef.2, q.1 = r → q.2.1 ≤ j → j ≤ q.2.2 → False) : K.1 a j = H.1 a j :=
  hF.2.2.2 a j ha (fun q hq hh => h q hq (hh.1.2.symm.trans hr) hh.2.1 hh.2.2)
/-- wires of a sky at b -/
def skW (D : xD) (b : Int) : Prop := (D b 0 = b + 1 ∧ D b 1 = b + 2 ∧ D b 2 = b + 3 ∧ D b 3 = b + 6) ∧ (∀ p : Int, 0 ≤ p → p ≤ 7 → D (b + 1) p = b + 9 + p) ∧ (∀ l : Int, 0 ≤ l → l ≤ 9 → D (b + 2) l = b + 17 + l) ∧ (D (b + 3) 1 = b + 4 ∧ D (b + 3) 2 = b + 5) ∧ (D (b + 6) 1 = b + 7 ∧ D (b + 6) 2 = b + 8)
def skWe (ef : ttEf) : Bool := ef.2.all (fun q => decide (q.1 ≠ 8) && (decide (q.1 ≠ 9) && ((decide (q.1 ≠ 7) || decide ((3 : Int) < q.2.1)) && ((decide (q.1 ≠ 10) || decide (q.2.2 < (1 : Int))) && (decide (q.1 ≠ 13) || decide (q.2.2 < (1 : Int)))))))
theorem skW_fr {ef : ttEf} {H K : xH} (hF : ttFr ef H K) (hn : 210 ≤ (H.2.2.2.1 : Int)) {b : Int} (hb : skB b) (he : skWe ef = true) (h : skW H.1 b) : skW K.1 b := by
  have bi := skB_in hb
  have e : ∀ q ∈ ef.2, q.1 ≠ 8 ∧ q.1 ≠ 9 ∧ (q.1 = 7 → (3 : Int) < q.2.1) ∧ (q.1 = 10 → q.2.2 < (1 : Int)) ∧ (q.1 = 13 → q.2.2 < (1 : Int)) := fun q hq => by
    have w := (List.all_eq_true.mp he) q hq
    simp only [Bool.and_eq_true, Bool.or_eq_true, decide_eq_true_eq] at w
    refine ⟨w.1, w.2.1, fun z => ?_, fun z => ?_, fun z => ?_⟩ <;> omega
  have c : ∀ {o j : Int} {r : Nat}, 0 ≤ o → o ≤ 26 → ttSk o.toNat = r → (∀ q ∈ ef.2, q.1 = r → q.2.1 ≤ j → j ≤ q.2.2 → False) → K.1 (b + o) j = H.1 (b + o) j := fun o0 o1 hr hh => by
    have w := sk_ro hb o0 o1
    exact fr_x hF (by omega) (w.1.trans hr) hh
  have c0 : ∀ j : Int, j ≤ 3 → K.1 b j = H.1 b j := fun j ujj3 => fr_x hF (by omega) (sk_rb hb) (fun q hq h1 h2 h3 => by have := (e q hq).2.2.1 h1; omega)
  obtain ⟨⟨h1, h2, h3, h4⟩, h5, h6, ⟨h7, h8⟩, h9, h10⟩ := h
  refine ⟨⟨(c0 0 (by decide)).trans h1, (c0 1 (by decide)).trans h2, (c0 2 (by decide)).trans h3, (c0 3 (by decide)).trans h4⟩, fun p p0 p1 => (c (r := 8) (by decide) (by decide) rfl (fun q hq y _ _ => (e q hq).1 y)).trans (h5 p p0 p1), fun l l0 l1 => (c (r := 9) (by decide) (by decide) rfl (fun q hq y _ _ => (e q hq).2.1 y)).trans (h6 l l0 l1), ⟨(c (r := 10) (by decide) (by decide) rfl (fun q hq y _ z => by have := (e q hq).2.2.2.1 y; omega)).trans h7, (c (r := 10) (by decide) (by decide) rfl (fun q hq y _ z => by have := (e q hq).2.2.2.1 y; omega)).trans h8⟩, (c (r := 13) (by decide) (by decide) rfl (fun q hq y _ z => by have := (e q hq).2.2.2.2 y; omega)).trans h9, (c (r := 13) (by decide) (by decide) rfl (fun q hq y _ z => by have := (e q hq).2.2.2.2 y; omega)).trans h10⟩
/-- a sky at b is what a row tells -/
abbrev skS : List (Int × Int) := [(4, 1), (5, 2), (6, 0), (7, 5), (8, 6), (9, 7), (10, 8), (11, 9), (12, 10), (13, 11), (15, 12), (16, 13), (17, 14), (18, 15)]
def skA (D : xD) (b : Int) (R : Int → Int) : Prop := ∀ q ∈ skS, D b q.1 = R q.2
def skP1 (D : xD) (a : Int) (R : Int → Int) (k : Int) : Prop := D a 0 = R k ∧ ((R (k + 1) = 1 ∧ D a 1 = R (k + 2)) ∨ (R (k + 1) ≠ 1 ∧ D a 1 = -1)) ∧ D a 2 = R (k + 3) ∧ (D a 3 = R (k + 4) ∧ D a 4 = R (k + 5) ∧ D a 5 = R (k + 6) ∧ D a 6 = R (k + 7)) ∧ (R (k + 3) ≠ 1 → R (k + 6) = 0 ∧ R (k + 7) = 0)
def skP (D : xD) (b : Int) (R : Int → Int) : Prop := ∀ p : Int, 0 ≤ p → p ≤ 7 → skP1 D (b + 9 + p) R (20 + 8 * p) ∧ (R 1 ≤ p → R (20 + 8 * p + 1) = 0)
def skL (D : xD) (b : Int) (R : Int → Int) : Prop := (∀ l c : Int, 0 ≤ l → l < R 2 → l ≤ 9 → 0 ≤ c → c ≤ 5 → D (b + 17 + l) c = R (84 + 6 * l + c)) ∧ (∀ l : Int, 0 ≤ l → R 2 ≤ l → l ≤ 9 → R (84 + 6 * l + 5) = 0)
def skV (D : xD) (b : Int) (R : Int → Int) : Prop := D (b + 3) 0 = R 3 ∧ ∀ s : Int, 0 ≤ s → s < R 3 → D (b + 4) s = R (144 + 2 * s) ∧ D (b + 5) s = R (144 + 2 * s + 1)
def skI (D : xD) (b : Int) (R : Int → Int) : Prop := D (b + 6) 0 = R 4 ∧ ∀ s : Int, 0 ≤ s → s < R 4 → D (b + 7) s = R (156 + 2 * s) ∧ D (b + 8) s = R (156 + 2 * s + 1)
def skH (D : xD) (b : Int) (R : Int → Int) (h : Int) : Prop := (D b 14 = -1 ∧ h = 0 ∧ ∀ p : Int, 0 ≤ p → p ≤ 7 → R (20 + 8 * p + 1) ≠ 2) ∨ ((0 ≤ D b 14 ∧ D b 14 < R 1) ∧ h = 1 ∧ ∀ p : Int, 0 ≤ p → p ≤ 7 → (R (20 + 8 * p + 1) = 2 ↔ p = D b 14))
def skR (D : xD) (b : Int) (Z : tZ) : Prop := skA D b Z.2.1 ∧ skP D b Z.2.1 ∧ skL D b Z.2.1 ∧ skV D b Z.2.1 ∧ skI D b Z.2.1 ∧ skH D b Z.2.1 Z.2.2
theorem skA_i {D : xD} {b : Int} {R : Int → Int} (h : skA D b R) {j i : Int} (hq : (j, i) ∈ skS) : D b j = R i := h _ hq
theorem skP1_c {D D' : xD} {a k : Int} {R R' : Int → Int} (h : skP1 D a R k) (e : ∀ j : Int, 0 ≤ j → j ≤ 6 → D' a j = D a j) (f : ∀ i : Int, k ≤ i → i ≤ k + 7 → R' i = R i) : skP1 D' a R' k := by
  obtain ⟨h1, h2, h3, ⟨h4, h5, h6, h7⟩, h8⟩ := h
  refine ⟨by rw [e 0 (by decide) (by decide), f k (by omega) (by omega)]; exact h1, ?_, by rw [e 2 (by decide) (by decide), f (k + 3) (by omega) (by omega)]; exact h3, ⟨by rw [e 3 (by decide) (by decide), f (k + 4) (by omega) (by omega)]; exact h4, by rw [e 4 (by decide) (by decide), f (k + 5) (by omega) (by omega)]; exact h5, by rw [e 5 (by decide) (by decide), f (k + 6) (by omega) (by omega)]; exact h6, by rw [e 6 (by decide) (by decide), f (k + 7) (by omega) (by omega)]; exact h7⟩, ?_⟩
  · rw [e 1 (by decide) (by decide), f (k + 1) (by omega) (by omega), f (k + 2) (by omega) (by omega)]; exact h2
  · rw [f (k + 3) (by omega) (by omega), f (k + 6) (by omega) (by omega), f (k + 7) (by omega) (by omega)]; exact h8
theorem skA_c {D D' : xD} {b : Int} {R R' : Int → Int} (h : skA D b R) (e : ∀ j : Int, j ≠ 14 → D' b j = D b j) (f : ∀ i : Int, 0 ≤ i → i ≤ 15 → i ≠ 3 → i ≠ 4 → R' i = R i) : skA D' b R' := fun q hq => by
  have w := (by decide : ∀ q ∈ skS, (q : Int × Int).1 ≠ 14 ∧ 0 ≤ q.2 ∧ q.2 ≤ 15 ∧ q.2 ≠ 3 ∧ q.2 ≠ 4) q hq
  rw [e _ w.1, f _ w.2.1 w.2.2.1 w.2.2.2.1 w.2.2.2.2]; exact h q hq
theorem skA_1 {D D' : xD} {b : Int} {R R' : Int → Int} (j i v : Int) (hij : ∀ q ∈ skS, ((q : Int × Int).1 = j ↔ q.2 = i)) (h : skA D b R) (dj : D' b j = v) (ri : R' i = v) (e : ∀ k : Int, k ≠ j → k ≠ 14 → D' b k = D b k) (f : ∀ k : Int, 0 ≤ k → k ≤ 15 → k ≠ 3 → k ≠ 4 → k ≠ i → R' k = R k) : skA D' b R' := fun q hq => by
  have w := (by decide : ∀ q ∈ skS, (q : Int × Int).1 ≠ 14 ∧ 0 ≤ q.2 ∧ q.2 ≤ 15 ∧ q.2 ≠ 3 ∧ q.2 ≠ 4) q hq
  by_cases z : q.1 = j
  · rw [z, (hij q hq).mp z]; exact dj.trans ri.symm
  · rw [e _ z w.1, f _ w.2.1 w.2.2.1 w.2.2.2.1 w.2.2.2.2 (fun y => z ((hij q hq).mpr y))]; exact h q hq
theorem skP_c {D D' : xD} {b : Int} {R R' : Int → Int} (h : skP D b R) (e : ∀ a j : Int, b + 9 ≤ a → a ≤ b + 16 → D' a j = D a j) (f1 : R' 1 = R 1) (f : ∀ i : Int, 20 ≤ i → i ≤ 83 → R' i = R i) : skP D' b R' := fun p p0 p1 => ⟨skP1_c (h p p0 p1).1 (fun j _ _ => e _ j (by omega) (by omega)) (fun i i0 i1 => f i (by omega) (by omega)), fun y => by
  rw [f _ (by omega) (by omega)]; exact (h p p0 p1).2 (by rw [← f1]; exact y)⟩
theorem skL_c {D D' : xD} {b : Int} {R R' : Int → Int} (h : skL D b R) (e : ∀ a j : Int, b + 17 ≤ a → a ≤ b + 26 → D' a j = D a j) (f2 : R' 2 = R 2) (f : ∀ i : Int, 84 ≤ i → i ≤ 143 → R' i = R i) : skL D' b R' := ⟨fun l c l0 l1 l9 c0 c1 => by
  rw [e _ c (by omega) (by omega), f _ (by omega) (by omega)]; exact h.1 l c l0 (by rw [← f2]; exact l1) l9 c0 c1, fun l l0 l1 l9 => by
  rw [f _ (by omega) (by omega)]; exact h.2 l l0 (by rw [← f2]; exact l1) l9⟩
theorem skV_c {D D' : xD} {b : Int} {R R' : Int → Int} (h : skV D b R) (ujr6 : R 3 ≤ 6) (e : ∀ a j : Int, b + 3 ≤ a → a ≤ b + 5 → D' a j = D a j) (f3 : R' 3 = R 3) (f : ∀ i : Int, 144 ≤ i → i ≤ 155 → R' i = R i) : skV D' b R' := ⟨by
  rw [e _ _ (by omega) (by omega), f3]; exact h.1, fun s s0 s1 => by
  rw [f3] at s1
  rw [e _ s (by omega) (by omega), e (b + 5) s (by omega) (by omega), f _ (by omega) (by omega), f (144 + 2 * s + 1) (by omega) (by omega)]; exact h.2 s s0 s1⟩
theorem skI_c {D D' : xD} {b : Int} {R R' : Int → Int} (h : skI D b R) (e : ∀ a j : Int, b + 6 ≤ a → a ≤ b + 8 → D' a j = D a j) (f4 : R' 4 = R 4) (f : ∀ i : Int, 156 ≤ i → R' i = R i) : skI D' b R' := ⟨by
  rw [e _ _ (by omega) (by omega), f4]; exact h.1, fun s s0 s1 => by
  rw [f4] at s1
  rw [e _ s (by omega) (by omega), e (b + 8) s (by omega) (by omega), f _ (by omega), f (156 + 2 * s + 1) (by omega)]; exact h.2 s s0 s1⟩
theorem skH_c {D D' : xD} {b : Int} {R R' : Int → Int} {h : Int} (y : skH D b R h) (e : D' b 14 = D b 14) (f1 : R' 1 = R 1) (f : ∀ p : Int, 0 ≤ p → p ≤ 7 → R' (20 + 8 * p + 1) = R (20 + 8 * p + 1)) : skH D' b R' h := by
  rcases y with ⟨a1, a2, a3⟩ | ⟨a1, a2, a3⟩
  · exact Or.inl ⟨e.trans a1, a2, fun p p0 p1 => by rw [f p p0 p1]; exact a3 p p0 p1⟩
  · refine Or.inr ⟨by rw [e, f1]; exact a1, a2, fun p p0 p1 => ?_⟩
    rw [f p p0 p1, e]; exact a3 p p0 p1
theorem skR_D {D D' : xD} {b : Int} {Z : tZ} (h : skR D b Z) (ujr6 : Z.2.1 3 ≤ 6) (e : ∀ a j : Int, b ≤ a → a ≤ b + 26 → D' a j = D a j) : skR D' b Z := by
  obtain ⟨h1, h2, h3, h4, h5, h6⟩ := h
  exact ⟨skA_c h1 (fun j _ => e b j (by omega) (by omega)) (fun _ _ _ _ _ => rfl), skP_c h2 (fun a j _ _ => e a j (by omega) (by omega)) rfl (fun _ _ _ => rfl), skL_c h3 (fun a j _ _ => e a j (by omega) (by omega)) rfl (fun _ _ _ => rfl), skV_c h4 ujr6 (fun a j _ _ => e a j (by omega) (by omega)) rfl (fun _ _ _ => rfl), skI_c h5 (fun a j _ _ => e a j (by omega) (by omega)) rfl (fun _ _ => rfl), skH_c h6 (e b 14 (by omega) (by omega)) rfl (fun _ _ _ => rfl)⟩
/-- memory K, reached from H by reading alone, stands at S -/
def rB (T : tSm) (H K : xH) (S : tSa) : Prop := ttTI K ∧ ttXX YY K ∧ ttFr (true, [(3, 5, 7)]) H K ∧ (cT K = T ∧ cS K = S) ∧ (0 ≤ S.1 ∧ S.1 < T.2.2.2.2)
theorem rB_n {T : tSm} {H K : xH} {S : tSa} (h : rB T H K S) : 210 ≤ (H.2.2.2.1 : Int) := by
  have k := h.1.1
  rw [h.2.2.1.1 rfl] at k
  omega
theorem rB_sk {T : tSm} {H K : xH} {S : tSa} (h : rB T H K S) {b : Int} (hb : skB b) {a j : Int} (a0 : b ≤ a) (a1 : a ≤ b + 26) : K.1 a j = H.1 a j := by
  have hn := rB_n h
  have hi := skB_in hb
  have w := sk_ro hb (o := a - b) (by omega) (by omega)
  rw [show b + (a - b) = a from by omega] at w
  have k : ∀ o : Nat, ttSk o ≠ 3 := fun o => by
    unfold ttSk
    split
    · show 7 + o ≠ 3
      omega
    · split <;> decide
  exact fr_no h.2.2.1 (a := a) (j := j) (ttSk (a - b).toNat) (by omega) w.1 (by
    have z := k (a - b).toNat
    exact congrArg (fun t => t && true) (decide_eq_true (Ne.symm z) : decide (3 ≠ ttSk (a - b).toNat) = true))
theorem rB_9 {T : tSm} {H K : xH} {S : tSa} (h : rB T H K S) : K.1 3 9 = H.1 3 9 := by
  have hn := rB_n h
  exact fr_cl h.2.2.1 (a := 3) (j := 9) (by omega) (by decide)
theorem rB_i {T : tSm} {H K : xH} {S : tSa} (h : rB T H K S) : K.1 3 5 < K.1 3 4 := by
  have w := h.2.2.2.2.2
  rw [← h.2.2.2.1.1, ← h.2.2.2.1.2] at w
  exact w
theorem rB_f {T : tSm} {H K : xH} {S : tSa} (h : rB T H K S) : K.1 3 6 = S.2.1 := by rw [← h.2.2.2.1.2]; rfl
theorem rB_a {T : tSm} {H K : xH} {S : tSa} (h : rB T H K S) : K.1 3 5 = S.1 := by rw [← h.2.2.2.1.2]; rfl
theorem rB_s {T : tSm} {H K J : xH} {S S' : tSa} (h : rB T H K S) (jT : ttTI J) (jX : ttXX YY J) (jF : ttFr (true, [(3, 5, 7)]) K J) (jS : cS J = S') (hin : 0 ≤ S'.1 ∧ S'.1 < T.2.2.2.2) : rB T H J S' := by
  have kn : 210 ≤ (K.2.2.2.1 : Int) := by have := h.1.1; omega
  exact ⟨jT, jX, ttFr_tr h.2.2.1 jF (fun _ => rfl) (by decide), ⟨(cT_fr jF kn (by decide) (by decide) (by decide) (by decide) (by decide)).trans h.2.2.2.1.1, jS⟩, hin⟩
theorem rB_o {T : tSm} {n : Int} {H K : xH} {S : tSa} (h : rB T H K S) (hO : sOk T n) : sOk (cT K) n := by rw [h.2.2.2.1.1]; exact hO
theorem lb_word {T : tSm} {n s : Int} (s0 : s ≤ -2) (s1 : -29 < s) {dd : Nat} (hd : 7 ≤ dd) {H K : xH} {S : tSa} (hO : sOk T n) (h : rB T H K S) {Q : Int → xH → Prop} (hq : ∀ J, rB T H J (sNd T S s) → Q 0 J) : xCall dd 79 [(2, 3), (2, s)] K Q :=
  lx_takeWord s0 s1 hd h.1 h.2.1 (rB_o h hO) (rB_i h) (fun J jT jX jF jS => hq J (rB_s h jT jX jF (by rw [jS, h.2.2.2.1.1, h.2.2.2.1.2]) (sNd_in h.2.2.2.2.1 h.2.2.2.2.2)))
theorem lb_if {T : tSm} {n s : Int} (s0 : s ≤ -2) (s1 : -29 < s) {dd : Nat} (hd : 7 ≤ dd) {H K : xH} {S : tSa} (hO : sOk T n) (h : rB T H K S) {Q : Int → xH → Prop} (hq : ∀ r J, rB T H J (sTk T S s).2 → (r = 1 ∧ (sTk T S s).1 = true ∨ r = 0 ∧ (sTk T S s).1 = false) → Q r J) : xCall dd 78 [(2, 3), (2, s)] K Q :=
  lx_takeIf s0 s1 hd h.1 h.2.1 (rB_o h hO) (rB_i h) (fun r J jT jX jF jS jr => by
    rw [h.2.2.2.1.1, h.2.2.2.1.2] at jS jr
    exact hq r J (rB_s h jT jX jF jS (sTk_in h.2.2.2.2.1 h.2.2.2.2.2)) jr)
theorem lb_num {T : tSm} {n l m : Int} (m9 : m ≤ 9999) {dd : Nat} (hd : 2 ≤ dd) {H K : xH} {S : tSa} (hO : sOk T n) (h : rB T H K S) {Q : Int → xH → Prop} (hq : ∀ r J, rB T H J (sNm T S l m).2 → r = (sNm T S l m).1 → Q r J) : xCall dd 80 [(2, 3), (0, l), (0, m)] K Q :=
  lx_takeNumber hd h.1 h.2.1 (rB_o h hO) (rB_i h) m9 (fun r J jT jX jF jS jr => by
    rw [h.2.2.2.1.1, h.2.2.2.1.2] at jS jr
    exact hq r J (rB_s h jT jX jF jS (sNm_in h.2.2.2.2.1 h.2.2.2.2.2)) jr)
theorem lb_sgn {T : tSm} {n m : Int} (m9 : m ≤ 9999) {dd : Nat} (hd : 7 ≤ dd) {H K : xH} {S : tSa} (hO : sOk T n) (h : rB T H K S) {Q : Int → xH → Prop} (hq : ∀ r J, rB T H J (sSg T S m).2 → r = (sSg T S m).1 → Q r J) : xCall dd 81 [(2, 3), (0, m)] K Q :=
  lx_takeSigned hd h.1 h.2.1 (rB_o h hO) (rB_i h) m9 (fun r J jT jX jF jS jr => by
    rw [h.2.2.2.1.1, h.2.2.2.1.2] at jS jr
    exact hq r J (rB_s h jT jX jF jS (sSg_in h.2.2.2.2.1 h.2.2.2.2.2)) jr)
theorem lb_pl {T : tSm} {n m b N : Int} (hb : b = 7 ∨ b = 34) {dd : Nat} (hd : 3 ≤ dd) {H K : xH} {S : tSa} (hO : sOk T n) (h : rB T H K S) (h9 : H.1 3 9 = b) (hN : H.1 b 4 = N) {Q : Int → xH → Prop} (hq : ∀ r J, rB T H J (sPl T S N m).2 → r = (sPl T S N m).1 → Q r J) : xCall dd 82 [(2, 3), (0, m)] K Q :=
  lx_takePlace hd h.1 h.2.1 (rB_o h hO) (rB_i h) hb ((rB_9 h).trans h9) (fun r J jT jX jF jS jr => by
    rw [h.2.2.2.1.1, h.2.2.2.1.2, (rB_sk h (skB_2 hb) (Int.le_refl b) (by omega) : K.1 b 4 = H.1 b 4), hN] at jS jr
    exact hq r J (rB_s h jT jX jF jS (sPl_in h.2.2.2.2.1 h.2.2.2.2.2)) jr)
theorem lb_is {T : tSm} {n s : Int} (s0 : s ≤ -2) (s1 : -29 < s) {dd : Nat} (hd : 6 ≤ dd) {H K : xH} {S : tSa} (hO : sOk T n) (h : rB T H K S) {Q : Int → xH → Prop} (hy : sW T S.1 s = true → Q 1 K) (hn : sW T S.1 s = false → Q 0 K) : xCall dd 77 [(2, 3), (2, s)] K Q :=
  lx_isWord s0 s1 hd h.1 (rB_o h hO) (rB_i h) (fun y => hy (sW_t (by rw [h.2.2.2.1.1, rB_a h] at y; exact y))) (fun y => hn (sW_f (by rw [h.2.2.2.1.1, rB_a h] at y; exact y)))
theorem lb_fail {T : tSm} {k : Int} (k1 : 1 ≤ k) (k3 : k ≤ 3) {dd : Nat} (hd : 1 ≤ dd) {H K : xH} {S : tSa} (h : rB T H K S) {Q : Int → xH → Prop} (hq : ∀ J, rB T H J (sEr T S k) → Q 0 J) : xCall dd 75 [(2, 3), (0, k)] K Q :=
  lx_fail hd h.1 h.2.1 k1 k3 (fun J jT jX jF jS => hq J (rB_s h jT jX jF (by rw [jS, h.2.2.2.1.1, h.2.2.2.1.2]) (by rw [sEr_at]; exact h.2.2.2.2)))
theorem lb_go {T : tSm} {dd : Nat} (hd : 1 ≤ dd) {H K : xH} {S : tSa} (h : rB T H K S) {Q : Int → xH → Prop} (hq : ∀ J, rB T H J (sNx T S.1, S.2) → Q 0 J) : xCall dd 76 [(2, 3)] K Q :=
  lx_goOn hd h.1 h.2.1 (fun J jT jX jF jS => hq J (rB_s h jT jX jF (by rw [jS, h.2.2.2.1.1, h.2.2.2.1.2]) (sNx_in h.2.2.2.2.1 h.2.2.2.2.2)))
def zRw (Z : tZ) : Prop := (0 ≤ Z.2.1 0 ∧ Z.2.1 0 ≤ 60) ∧ (0 ≤ Z.2.1 1 ∧ Z.2.1 1 ≤ 8) ∧ (0 ≤ Z.2.1 2 ∧ Z.2.1 2 ≤ 10) ∧ (0 ≤ Z.2.1 3 ∧ Z.2.1 3 ≤ 6) ∧ ((0 ≤ Z.2.1 15 ∧ Z.2.1 15 ≤ 255) ∧ yyP (Z.2.1 15) ≤ 3) ∧ (0 ≤ Z.2.1 16 ∧ Z.2.1 16 ≤ 63)
abbrev eL : ttEf := (true, [(3, 5, 7), (7, 4, 18), (10, 0, 0), (11, 0, 5), (12, 0, 5), (16, 0, 6), (24, 0, 5)])
/-- no other sky changes -/
def skO (b : Int) (H J : xH) : Prop := ∀ c : Int, skB c → c ≠ b → ∀ a j : Int, c ≤ a → a ≤ c + 26 → J.1 a j = H.1 a j
theorem skO_B {T : tSm} {b : Int} {H K : xH} {S : tSa} (h : rB T H K S) : skO b H K := fun _ hc _ _ _ a0 a1 => rB_sk h hc a0 a1
theorem skO_r {b : Int} {H : xH} : skO b H H := fun _ _ _ _ _ _ _ => rfl
theorem skO_t {b : Int} {H K J : xH} (h : skO b H K) (g : skO b K J) : skO b H J := fun c hc hn a j a0 a1 => (g c hc hn a j a0 a1).trans (h c hc hn a j a0 a1)
theorem skO_t2 {T : tSm} {b : Int} {H K J : xH} {S : tSa} (g : rB T K J S) (h : skO b H K) : skO b H J := skO_t h (skO_B g)
theorem skO_u {b : Int} {H K J : xH} {a j x : Int} (h : skO b H K) (hb : skB b) (ha : a < 7 ∨ (b ≤ a ∧ a ≤ b + 26)) (e : J = (xUp K.1 a j x, K.2)) : skO b H J := fun c hc hn a' j' a0 a1 => by
  have k : a' ≠ a := by
    unfold skB at hc hb
    omega
  rw [e]; exact (up_na k).trans (h c hc hn a' j' a0 a1)
/-- memory J, reached from H, tells Z where nothing is wrong -/
def rC (T : tSm) (b : Int) (H J : xH) (Z : tZ) : Prop := ttTI J ∧ ttXX YY J ∧ ttFr eL H J ∧ (cT J = T ∧ cS J = Z.1) ∧ (0 ≤ Z.1.1 ∧ Z.1.1 < T.2.2.2.2) ∧ skO b H J ∧ (Z.1.2.1 = 0 → skR J.1 b Z)
theorem rC_f {T : tSm} {b : Int} {H J : xH} {S : tSa} {Z : tZ} (h : rB T H J S) (e : S = Z.1) (f : S.2.1 ≠ 0) : rC T b H J Z := ⟨h.1, h.2.1, ttFr_tr (ttFr_rf eL H) h.2.2.1 (fun _ => rfl) (by decide), by rw [← e]; exact h.2.2.2.1, by rw [← e]; exact h.2.2.2.2, skO_B h, fun y => absurd y (by rw [← e]; exact f)⟩
theorem rB_L {T : tSm} {H K : xH} {S : tSa} (h : rB T H K S) : ttFr eL H K := ttFr_tr (ttFr_rf eL H) h.2.2.1 (fun _ => rfl) (by decide)
theorem rB_put {H K : xH} (kT : ttTI K) (kX : ttXX YY K) (kF : ttFr eL H K) {a j x : Int} (r : Nat) (hr : ttRo a = r) (a1 : 1 ≤ a) (hm : ttM (K.2.2.2.1 : Int) (ttTy (ttTb r) j) x) (hin : ∃ q ∈ eL.2, q.1 = r ∧ q.2.1 ≤ j ∧ j ≤ q.2.2) (hff : ∀ q ∈ ttFF, q.1.1 ≠ r) : ttTI (xUp K.1 a j x, K.2) ∧ ttXX YY (xUp K.1 a j x, K.2) ∧ ttFr eL H (xUp K.1 a j x, K.2) :=
  ttPut (ttXX_out yyStab (fun _ _ => trivial)) kT kX kF a1 (fun _ _ => by rw [hr]; exact hm) (by
    obtain ⟨q, q1, q2, q3, q4⟩ := hin
    exact ⟨q, q1, ⟨⟨a1, hr.trans q2.symm⟩, q3, q4⟩⟩) (ttMay_no hr hff)
/-- different words -/
def wNe (s s' : Int) : Bool := decide (xLg s ≠ xLg s') || (List.range (xLg s).toNat).any (fun (j : Nat) => decide (xCh s (j : Int) ≠ xCh s' (j : Int)))
theorem sW_x {T : tSm} {i s s' : Int} (hn : wNe s s' = true) (h : sW T i s = true) : sW T i s' = false := by
  have w : sWd T i s := Classical.byContradiction (fun z => by rw [sW_f z] at h; exact absurd h (by decide))
  refine sW_f (fun z => ?_)
  unfold wNe at hn
  rw [Bool.or_eq_true] at hn
  rcases hn with y | y
  · exact (of_decide_eq_true y) (w.2.1.symm.trans z.2.1)
  · obtain ⟨j, ujj1, ujj2⟩ := List.any_eq_true.mp y
    have ujj3 := List.mem_range.mp ujj1
    have u := w.2.2 (j : Int) (by omega) (by omega)
    have v := z.2.2 (j : Int) (by omega) (by rw [← z.2.1, w.2.1]; omega)
    exact (of_decide_eq_true ujj2) (u.symm.trans v)
theorem sTk_ff {T : tSm} {S : tSa} {s : Int} (h : ¬ (S.2.1 = 0 ∧ sW T S.1 s = true)) : sTk T S s = (false, S) := if_neg h
theorem sTk_tt {T : tSm} {S : tSa} {s : Int} (h : S.2.1 = 0 ∧ sW T S.1 s = true) : sTk T S s = (true, (sNx T S.1, S.2)) := if_pos h
theorem sEr_t {T : tSm} {S : tSa} {k : Int} (h : S.2.1 = 0) : sEr T S k = (S.1, k, T.2.2.1 S.1) := if_pos h
theorem sEr_f {T : tSm} {S : tSa} {k : Int} (h : S.2.1 ≠ 0) : sEr T S k = S := if_neg h
theorem sEr_k {T : tSm} {S : tSa} {k : Int} (h : k ≠ 0) : (sEr T S k).2.1 ≠ 0 := by
  by_cases z : S.2.1 = 0
  · rw [sEr_t z]; exact h
  · rw [sEr_f z]; exact z
theorem rB_W {T : tSm} {H K : xH} {S : tSa} (h : rB T H K S) {b : Int} (hB : skB b) (hW : skW H.1 b) : skW K.1 b := skW_fr h.2.2.1 (rB_n h) hB (by decide) hW
theorem rB_k {T : tSm} {H K : xH} {S : tSa} (h : rB T H K S) (i : Int) : K.1 4 i = T.2.1 i := by rw [← h.2.2.2.1.1]; rfl
theorem cT_up {K : xH} {a j x : Int} (h : 7 ≤ a) : cT (xUp K.1 a j x, K.2) = cT K := by
  have e : ∀ c : Int, c < 7 → xUp K.1 a j x c = K.1 c := fun c hc => by
    funext k
    exact up_na (by omega)
  unfold cT
  rw [show (xUp K.1 a j x, K.2).1 = xUp K.1 a j x from rfl, e 2 (by decide), e 3 (by decide), e 4 (by decide), e 5 (by decide), e 6 (by decide)]
theorem cS_up {K : xH} {a j x : Int} (h : 7 ≤ a) : cS (xUp K.1 a j x, K.2) = cS K := by
  have e : xUp K.1 a j x 3 = K.1 3 := by
    funext k
    exact up_na (by omega)
  unfold cS
  rw [show (xUp K.1 a j x, K.2).1 = xUp K.1 a j x from rfl, e]
theorem ty_6 (r : Nat) (hr : r = 11 ∨ r = 12) {N j x : Int} (h0 : -2147483648 ≤ x) (h1 : x ≤ 2147483647) : ttM N (ttTy (ttTb r) j) x := by
  have h : ttTb r = (20, 6, 6, 1, [(0, -2147483648, 2147483647)]) := by rcases hr with rfl | rfl <;> rfl
  rw [h]
  unfold ttTy
  rw [Int.emod_one]
  exact ⟨h0, h1⟩
theorem sr_place {D D' : xD} {b : Int} {S S' : tSa} {R R' : Int → Int} {h h' p g f : Int} (hR : skR D b (S, R, h)) (ujr6 : R 3 ≤ 6) (p0 : 0 ≤ p) (p7 : p ≤ 7) (hp : R 1 = p) (dA : ∀ j : Int, j ≠ 4 → j ≠ 14 → D' b j = D b j) (d4 : D' b 4 = p + 1) (dN : ∀ a j : Int, b < a → a ≤ b + 26 → a ≠ b + 9 + p → D' a j = D a j) (dq : D' (b + 9 + p) 0 = g ∧ D' (b + 9 + p) 1 = f ∧ ∀ j : Int, 2 ≤ j → D' (b + 9 + p) j = D (b + 9 + p) j) (rg : R' (20 + 8 * p) = g) (rf : (R' (20 + 8 * p + 1) = 1 ∧ f = R' (20 + 8 * p + 2)) ∨ (R' (20 + 8 * p + 1) ≠ 1 ∧ f = -1)) (ujr1 : R' 1 = p + 1) (rN : ∀ i : Int, i ≠ 1 → (i < 20 + 8 * p ∨ 20 + 8 * p + 2 < i) → R' i = R i) (hH : skH D' b R' h') : skR D' b (S', R', h') := by
  obtain ⟨h1, h2, h3, h4, h5, -⟩ := hR
  refine ⟨skA_1 4 1 (p + 1) (by decide) h1 d4 ujr1 dA (fun k k0 k1 _ _ k2 => rN k k2 (Or.inl (by omega))), fun q q0 q7 => ?_, skL_c h3 (fun a j a0 a1 => dN a j (by omega) (by omega) (by omega)) (rN 2 (by decide) (Or.inl (by omega))) (fun i i0 i1 => rN i (by omega) (Or.inr (by omega))), skV_c h4 ujr6 (fun a j a0 a1 => dN a j (by omega) (by omega) (by omega)) (rN 3 (by decide) (Or.inl (by omega))) (fun i i0 i1 => rN i (by omega) (Or.inr (by omega))), skI_c h5 (fun a j a0 a1 => dN a j (by omega) (by omega) (by omega)) (rN 4 (by decide) (Or.inl (by omega))) (fun i i0 => rN i (by omega) (Or.inr (by omega))), hH⟩
  have h2 : skP D b R := h2
  show skP1 D' (b + 9 + q) R' (20 + 8 * q) ∧ (R' 1 ≤ q → R' (20 + 8 * q + 1) = 0)
  by_cases z : q = p
  · subst z
    obtain ⟨⟨w1, w2, w3, ⟨w4, w5, w6, w7⟩, w8⟩, w9⟩ := h2 q q0 q7
    have e : ∀ i : Int, 2 < i → i ≤ 7 → R' (20 + 8 * q + i) = R (20 + 8 * q + i) := fun i i0 i1 => rN _ (by omega) (Or.inr (by omega))
    refine ⟨⟨dq.1.trans rg.symm, ?_, (dq.2.2 2 (by decide)).trans (w3.trans (e 3 (by decide) (by decide)).symm), ⟨(dq.2.2 3 (by decide)).trans (w4.trans (e 4 (by decide) (by decide)).symm), (dq.2.2 4 (by decide)).trans (w5.trans (e 5 (by decide) (by decide)).symm), (dq.2.2 5 (by decide)).trans (w6.trans (e 6 (by decide) (by decide)).symm), (dq.2.2 6 (by decide)).trans (w7.trans (e 7 (by decide) (by decide)).symm)⟩, ?_⟩, fun y => absurd y (by omega)⟩
    · rcases rf with ⟨u, v⟩ | ⟨u, v⟩
      · exact Or.inl ⟨u, dq.2.1.trans v⟩
      · exact Or.inr ⟨u, dq.2.1.trans v⟩
    · rw [e 3 (by decide) (by decide), e 6 (by decide) (by decide), e 7 (by decide) (by decide)]; exact w8
  · refine ⟨skP1_c (h2 q q0 q7).1 (fun j _ _ => dN _ j (by omega) (by omega) (by omega)) (fun i i0 i1 => rN i (by omega) (by omega)), fun y => ?_⟩
    rw [rN _ (by omega) (by omega)]; exact (h2 q q0 q7).2 (by omega)
theorem zPl_f {T : tSm} {Z : tZ} (h : (sTk T (zPl1 T Z).1 (-15)).1 = true) : zPl T Z = zPl2 T (20 + 8 * Z.2.1 1) (zTk T (-15) (zPl1 T Z)) := if_pos h
theorem zPl_h {T : tSm} {Z : tZ} (h : ¬ (sTk T (zPl1 T Z).1 (-15)).1 = true) (h2 : (zPl1 T Z).1.2.1 = 0 ∧ sW T (zPl1 T Z).1.1 (-14) = true) : zPl T Z = zPl3 (20 + 8 * Z.2.1 1) (zGo T (zHm T (zPl1 T Z))) := (if_neg h).trans (if_pos h2)
theorem zPl_n {T : tSm} {Z : tZ} (h : ¬ (sTk T (zPl1 T Z).1 (-15)).1 = true) (h2 : ¬ ((zPl1 T Z).1.2.1 = 0 ∧ sW T (zPl1 T Z).1.1 (-14) = true)) : zPl T Z = zIn 1 (zPl1 T Z) := (if_neg h).trans (if_neg h2)

theorem fp_41 {e : Nat} (he : 7 ≤ e) {H : xH} {T : tSm} {n b : Int} (hb : b = 7 ∨ b = 34) (hO : sOk T n) {Z : tZ} (zB0 : rB T H H Z.1) (h9 : H.1 3 9 = b) (hW : skW H.1 b) (hR : skR H.1 b Z) (hw : zRw Z) (m1 : Z.2.1 1 ≤ 7) {K : xH} {S : tSa} (zB1 : rB T H K S) {g f hm : Int} (g0 : 0 ≤ g) (g1 : g ≤ 30) (f0 : -2147483648 ≤ f) (f1 : f ≤ 2147483647) {R1 : Int → Int} {h1 : Int} (rg : R1 (20 + 8 * Z.2.1 1) = g) (rf : (R1 (20 + 8 * Z.2.1 1 + 1) = 1 ∧ f = R1 (20 + 8 * Z.2.1 1 + 2)) ∨ (R1 (20 + 8 * Z.2.1 1 + 1) ≠ 1 ∧ f = -1)) (ujr1 : R1 1 = Z.2.1 1 + 1) (rN : ∀ i : Int, i ≠ 1 → (i < (20 + 8 * Z.2.1 1) ∨ (20 + 8 * Z.2.1 1 + 2) < i) → R1 i = Z.2.1 i) (hh : (hm = 0 ∧ R1 (20 + 8 * Z.2.1 1 + 1) ≠ 2 ∧ h1 = Z.2.2) ∨ (hm ≠ 0 ∧ R1 (20 + 8 * Z.2.1 1 + 1) = 2 ∧ h1 = 1 ∧ H.1 b 14 = -1)) {Q : Int → xH → Prop} (hf : S.2.1 ≠ 0 → Q 0 K) (ho : S.2.1 = 0 → ∀ J, ttTI J → ttXX YY J → ttFr eL H J → skO b H J → cT J = T ∧ cS J = S → skR J.1 b (S, R1, h1) → Q 0 J) : xW e cd_87 Q (41, [(2, 3), (0, g), (0, f), (0, hm)], [], K) := by
  have hB := skB_2 hb
  have hi := skB_in hB
  have hn := rB_n zB0
  have m0 := hw.2.1.1
  obtain ⟨p, jp⟩ : ∃ p, p = Z.2.1 1 := ⟨_, rfl⟩
  have ep : H.1 b 4 = p := (skA_i hR.1 (j := 4) (i := 1) (by decide)).trans jp.symm
  rw [← jp] at m0 m1 rg rf ujr1 rN hh
  obtain ⟨t, jt⟩ : ∃ t, t = H.1 b 14 := ⟨_, rfl⟩
  rw [← jt] at hh
  have hRK : skR K.1 b Z := skR_D hR hw.2.2.2.1.2 (fun a j a0 a1 => rB_sk zB1 hB a0 a1)
  have et : K.1 b 14 = t := (rB_sk zB1 hB (by omega) (by omega)).trans jt.symm
  refine q_al (pc := 41) (i := 0) (x := 3) rfl rfl ?_
  refine q_gf (pc := 42) (m := 7060) (t := 0) (c := 6) rfl (ttKc zB1.1 (a := 3) (κ := 7) (len := 0) ⟨rfl, rfl⟩ (by decide) (by decide)).1 rfl rfl ?_
  rw [show K.1 3 6 = S.2.1 from rB_f zB1]
  refine q_if (pc := 43) rfl (fun h43 => ?_) (fun h43 => ?_)
  · replace h43 : S.2.1 ≠ 0 := h43
    refine q_rv (pc := 82) rfl ?_
    exact hf h43
  · replace h43 : S.2.1 = 0 := h43
    refine q_al (pc := 44) (i := 0) (x := 3) rfl rfl ?_
    refine q_gf (pc := 45) (m := 7092) (t := 2) (c := 9) rfl (ttKc zB1.1 (a := 3) (κ := 7) (len := 0) ⟨rfl, rfl⟩ (by decide) (by decide)).1 rfl rfl ?_
    rw [show K.1 3 9 = b from (rB_9 zB1).trans h9]
    refine q_gf (pc := 46) (m := 10040) (t := 0) (c := 4) rfl (sk_kb zB1.1 hB).1 rfl rfl ?_
    rw [show K.1 b 4 = p from (rB_sk zB1 hB (by omega) (by omega)).trans ep]
    refine q_ic (pc := 47) (v := 8) rfl ?_
    refine q_i2 (pc := 48) rfl (fun h48 => ?_) (fun h48 => ?_)
    · replace h48 : 8 ≤ p := h48
      refine q_rv (pc := 82) rfl ?_
      omega
    · replace h48 : p < 8 := h48
      refine q_al (pc := 49) (i := 0) (x := 3) rfl rfl ?_
      refine q_gf (pc := 50) (m := 7092) (t := 2) (c := 9) rfl (ttKc zB1.1 (a := 3) (κ := 7) (len := 0) ⟨rfl, rfl⟩ (by decide) (by decide)).1 rfl rfl ?_
      rw [show K.1 3 9 = b from (rB_9 zB1).trans h9]
      refine q_gf (pc := 51) (m := 10002) (t := 2) (c := 0) rfl (sk_kb zB1.1 hB).1 rfl rfl ?_
      rw [show K.1 b 0 = (b + 1) from (rB_W zB1 hB hW).1.1]
      refine q_al (pc := 52) (i := 0) (x := 3) rfl rfl ?_
      refine q_gf (pc := 53) (m := 7092) (t := 2) (c := 9) rfl (ttKc zB1.1 (a := 3) (κ := 7) (len := 0) ⟨rfl, rfl⟩ (by decide) (by decide)).1 rfl rfl ?_
      rw [show K.1 3 9 = b from (rB_9 zB1).trans h9]
      refine q_gf (pc := 54) (m := 10040) (t := 0) (c := 4) rfl (sk_kb zB1.1 hB).1 rfl rfl ?_
      rw [show K.1 b 4 = p from (rB_sk zB1 hB (by omega) (by omega)).trans ep]
      refine q_aa (pc := 55) rfl (by rw [(sk_kx zB1.1 hB (o := 1) (by decide) (by decide) (κ := 25) (len := 8) ⟨rfl, rfl⟩).1]; decide) (by omega) (by rw [(sk_kx zB1.1 hB (o := 1) (by decide) (by decide) (κ := 25) (len := 8) ⟨rfl, rfl⟩).2]; omega) ?_
      rw [show K.1 (b + 1) p = (b + 9 + p) from (rB_W zB1 hB hW).2.1 _ (by omega) (by omega)]
      refine q_il (pc := 56) (i := 1) (x := g) rfl rfl ?_
      refine q_pf (pc := 57) (m := 4000) (c := 0) rfl (show xPt 0 0 _ _ from (sk_kp zB1.1 hB (by omega) (by omega)).1) rfl ?_
      have y2 := rB_put zB1.1 zB1.2.1 (rB_L zB1) (a := (b + 9 + p)) (j := 0) (x := g) 16 (sk_rp hB (by omega) (by omega)) (by omega) (show (0 : Int) ≤ g ∧ g ≤ 30 from ⟨by omega, by omega⟩) ⟨(16, 0, 6), by decide, rfl, (show (0 : Int) ≤ 0 ∧ 0 ≤ 6 from ⟨by omega, by omega⟩)⟩ (by decide)
      obtain ⟨Y2, yk2⟩ : ∃ X : xH, X = (xUp K.1 (b + 9 + p) 0 g, K.2) := ⟨_, rfl⟩
      rw [← yk2] at y2 ⊢
      have o_Y2 : skO b H Y2 := skO_u (by first | assumption | exact skO_B (by assumption) | exact skO_t2 (by assumption) (by assumption)) (skB_2 hb) (by omega) yk2
      have cc2 : cT Y2 = T ∧ cS Y2 = S := by rw [yk2]; exact ⟨(cT_up (by omega)).trans zB1.2.2.2.1.1, (cS_up (by omega)).trans zB1.2.2.2.1.2⟩
      have tr_Y2_b_4 : Y2.1 b 4 = p := by rw [yk2]; exact (up_ne (by omega)).trans ((rB_sk zB1 hB (by omega) (by omega)).trans ep)
      have tr_Y2_b_14 : Y2.1 b 14 = t := by rw [yk2]; exact (up_ne (by omega)).trans ((rB_sk zB1 hB (by omega) (by omega)).trans jt.symm)
      refine q_al (pc := 58) (i := 0) (x := 3) rfl rfl ?_
      refine q_gf (pc := 59) (m := 7092) (t := 2) (c := 9) rfl (ttKc y2.1 (a := 3) (κ := 7) (len := 0) ⟨rfl, rfl⟩ (by decide) (by decide)).1 rfl rfl ?_
      rw [show Y2.1 3 9 = b from (fr_cl y2.2.2 (a := 3) (j := 9) (by omega) (by decide)).trans h9]
      refine q_gf (pc := 60) (m := 10002) (t := 2) (c := 0) rfl (sk_kb y2.1 hB).1 rfl rfl ?_
      rw [show Y2.1 b 0 = (b + 1) from (skW_fr y2.2.2 hn hB (by decide) hW).1.1]
      refine q_al (pc := 61) (i := 0) (x := 3) rfl rfl ?_
      refine q_gf (pc := 62) (m := 7092) (t := 2) (c := 9) rfl (ttKc y2.1 (a := 3) (κ := 7) (len := 0) ⟨rfl, rfl⟩ (by decide) (by decide)).1 rfl rfl ?_
      rw [show Y2.1 3 9 = b from (fr_cl y2.2.2 (a := 3) (j := 9) (by omega) (by decide)).trans h9]
      refine q_gf (pc := 63) (m := 10040) (t := 0) (c := 4) rfl (sk_kb y2.1 hB).1 rfl rfl ?_
      rw [show Y2.1 b 4 = p from tr_Y2_b_4]
      refine q_aa (pc := 64) rfl (by rw [(sk_kx y2.1 hB (o := 1) (by decide) (by decide) (κ := 25) (len := 8) ⟨rfl, rfl⟩).1]; decide) (by omega) (by rw [(sk_kx y2.1 hB (o := 1) (by decide) (by decide) (κ := 25) (len := 8) ⟨rfl, rfl⟩).2]; omega) ?_
      rw [show Y2.1 (b + 1) p = (b + 9 + p) from (skW_fr y2.2.2 hn hB (by decide) hW).2.1 _ (by omega) (by omega)]
      refine q_il (pc := 65) (i := 2) (x := f) rfl rfl ?_
      refine q_pf (pc := 66) (m := 4010) (c := 1) rfl (show xPt 0 0 _ _ from (sk_kp y2.1 hB (by omega) (by omega)).1) rfl ?_
      have y3 := rB_put y2.1 y2.2.1 y2.2.2 (a := (b + 9 + p)) (j := 1) (x := f) 16 (sk_rp hB (by omega) (by omega)) (by omega) (show ((-2147483648) : Int) ≤ f ∧ f ≤ 2147483647 from ⟨by omega, by omega⟩) ⟨(16, 0, 6), by decide, rfl, (show (0 : Int) ≤ 1 ∧ 1 ≤ 6 from ⟨by omega, by omega⟩)⟩ (by decide)
      obtain ⟨Y3, yk3⟩ : ∃ X : xH, X = (xUp Y2.1 (b + 9 + p) 1 f, Y2.2) := ⟨_, rfl⟩
      rw [← yk3] at y3 ⊢
      have o_Y3 : skO b H Y3 := skO_u (by first | assumption | exact skO_B (by assumption) | exact skO_t2 (by assumption) (by assumption)) (skB_2 hb) (by omega) yk3
      have cc3 : cT Y3 = T ∧ cS Y3 = S := by rw [yk3]; exact ⟨(cT_up (by omega)).trans cc2.1, (cS_up (by omega)).trans cc2.2⟩
      have tr_Y3_b_4 : Y3.1 b 4 = p := by rw [yk3]; exact (up_ne (by omega)).trans (tr_Y2_b_4)
      have tr_Y3_b_14 : Y3.1 b 14 = t := by rw [yk3]; exact (up_ne (by omega)).trans (tr_Y2_b_14)
      refine q_il (pc := 67) (i := 3) (x := hm) rfl rfl ?_
      refine q_if (pc := 68) rfl (fun h68 => ?_) (fun h68 => ?_)
      · replace h68 : hm = 0 := h68
        refine q_al (pc := 75) (i := 0) (x := 3) rfl rfl ?_
        refine q_gf (pc := 76) (m := 7092) (t := 2) (c := 9) rfl (ttKc y3.1 (a := 3) (κ := 7) (len := 0) ⟨rfl, rfl⟩ (by decide) (by decide)).1 rfl rfl ?_
        rw [show Y3.1 3 9 = b from (fr_cl y3.2.2 (a := 3) (j := 9) (by omega) (by decide)).trans h9]
        refine q_d2 (pc := 77) rfl ?_
        refine q_gf (pc := 78) (m := 10040) (t := 0) (c := 4) rfl (sk_kb y3.1 hB).1 rfl rfl ?_
        rw [show Y3.1 b 4 = p from tr_Y3_b_4]
        refine q_ic (pc := 79) (v := 1) rfl ?_
        refine q_ia (pc := 80) rfl (by omega) (by omega) ?_
        refine q_pf (pc := 81) (m := 10040) (c := 4) rfl (show xPt 0 0 _ _ from (sk_kb y3.1 hB).1) rfl ?_
        have y4 := rB_put y3.1 y3.2.1 y3.2.2 (a := b) (j := 4) (x := (p + 1)) 7 (sk_rb hB) (by omega) (show (0 : Int) ≤ (p + 1) ∧ (p + 1) ≤ 8 from ⟨by omega, by omega⟩) ⟨(7, 4, 18), by decide, rfl, (show (4 : Int) ≤ 4 ∧ 4 ≤ 18 from ⟨by omega, by omega⟩)⟩ (by decide)
        obtain ⟨Y4, yk4⟩ : ∃ X : xH, X = (xUp Y3.1 b 4 (p + 1), Y3.2) := ⟨_, rfl⟩
        rw [← yk4] at y4 ⊢
        have o_Y4 : skO b H Y4 := skO_u (by first | assumption | exact skO_B (by assumption) | exact skO_t2 (by assumption) (by assumption)) (skB_2 hb) (by omega) yk4
        have cc4 : cT Y4 = T ∧ cS Y4 = S := by rw [yk4]; exact ⟨(cT_up (by omega)).trans cc3.1, (cS_up (by omega)).trans cc3.2⟩
        have tr_Y4_b_4 : Y4.1 b 4 = (p + 1) := by rw [yk4]; exact up_eq
        have tr_Y4_b_14 : Y4.1 b 14 = t := by rw [yk4]; exact (up_ne (by omega)).trans (tr_Y3_b_14)
        refine q_rv (pc := 82) rfl ?_
        have eD : Y4.1 = xUp (xUp (xUp (K.1) (b + 9 + p) 0 g) (b + 9 + p) 1 f) b 4 (p + 1) := by rw [yk4, yk3, yk2]
        refine ho h43 _ y4.1 y4.2.1 y4.2.2 o_Y4 cc4 ?_
        rw [eD]
        refine sr_place (S := Z.1) (h := Z.2.2) (p := p) (g := g) (f := f) hRK hw.2.2.2.1.2 m0 m1 jp.symm (fun j ujj0 ujj1 => (up_ne (by omega)).trans ((up_ne (by omega)).trans (up_ne (by omega)))) (up_eq) (fun a j a0 a1 a2 => (up_ne (by omega)).trans ((up_ne (by omega)).trans (up_ne (by omega)))) ⟨(up_ne (by omega)).trans ((up_ne (by omega)).trans (up_eq)), (up_ne (by omega)).trans (up_eq), fun j ujj0 => (up_ne (by omega)).trans ((up_ne (by omega)).trans (up_ne (by omega)))⟩ rg rf ujr1 rN ?_
        obtain ⟨-, q1, q2⟩ : hm = 0 ∧ R1 (20 + 8 * p + 1) ≠ 2 ∧ h1 = Z.2.2 := by
          rcases hh with q | q
          · exact q
          · exact absurd h68 q.1
        have e14 : (xUp (xUp (xUp (K.1) (b + 9 + p) 0 g) (b + 9 + p) 1 f) b 4 (p + 1)) b 14 = K.1 b 14 := (up_ne (by omega)).trans ((up_ne (by omega)).trans ((up_ne (by omega))))
        have eq2 : ∀ q : Int, 0 ≤ q → q ≤ 7 → q ≠ p → R1 (20 + 8 * q + 1) = Z.2.1 (20 + 8 * q + 1) := fun q _ _ _ => rN _ (by omega) (by omega)
        rw [q2]
        rcases hRK.2.2.2.2.2 with ⟨u1, u2, u3⟩ | ⟨⟨u0, u1⟩, u2, u3⟩
        · refine Or.inl ⟨e14.trans u1, u2, fun q q0 q7 => ?_⟩
          by_cases z : q = p
          · rw [z]; exact q1
          · rw [eq2 q q0 q7 z]; exact u3 q q0 q7
        · refine Or.inr ⟨?_, u2, fun q q0 q7 => ?_⟩
          · rw [e14, ujr1]
            omega
          · rw [e14]
            by_cases z : q = p
            · exact ⟨fun y => absurd (by rw [← z]; exact y) q1, fun y => absurd y (by omega)⟩
            · rw [eq2 q q0 q7 z]; exact u3 q q0 q7
      · replace h68 : hm ≠ 0 := h68
        refine q_al (pc := 69) (i := 0) (x := 3) rfl rfl ?_
        refine q_gf (pc := 70) (m := 7092) (t := 2) (c := 9) rfl (ttKc y3.1 (a := 3) (κ := 7) (len := 0) ⟨rfl, rfl⟩ (by decide) (by decide)).1 rfl rfl ?_
        rw [show Y3.1 3 9 = b from (fr_cl y3.2.2 (a := 3) (j := 9) (by omega) (by decide)).trans h9]
        refine q_al (pc := 71) (i := 0) (x := 3) rfl rfl ?_
        refine q_gf (pc := 72) (m := 7092) (t := 2) (c := 9) rfl (ttKc y3.1 (a := 3) (κ := 7) (len := 0) ⟨rfl, rfl⟩ (by decide) (by decide)).1 rfl rfl ?_
        rw [show Y3.1 3 9 = b from (fr_cl y3.2.2 (a := 3) (j := 9) (by omega) (by decide)).trans h9]
        refine q_gf (pc := 73) (m := 10040) (t := 0) (c := 4) rfl (sk_kb y3.1 hB).1 rfl rfl ?_
        rw [show Y3.1 b 4 = p from tr_Y3_b_4]
        refine q_pf (pc := 74) (m := 10140) (c := 14) rfl (show xPt 0 0 _ _ from (sk_kb y3.1 hB).1) rfl ?_
        have y5 := rB_put y3.1 y3.2.1 y3.2.2 (a := b) (j := 14) (x := p) 7 (sk_rb hB) (by omega) (show ((-1) : Int) ≤ p ∧ p ≤ 7 from ⟨by omega, by omega⟩) ⟨(7, 4, 18), by decide, rfl, (show (4 : Int) ≤ 14 ∧ 14 ≤ 18 from ⟨by omega, by omega⟩)⟩ (by decide)
        obtain ⟨Y5, yk5⟩ : ∃ X : xH, X = (xUp Y3.1 b 14 p, Y3.2) := ⟨_, rfl⟩
        rw [← yk5] at y5 ⊢
        have o_Y5 : skO b H Y5 := skO_u (by first | assumption | exact skO_B (by assumption) | exact skO_t2 (by assumption) (by assumption)) (skB_2 hb) (by omega) yk5
        have cc5 : cT Y5 = T ∧ cS Y5 = S := by rw [yk5]; exact ⟨(cT_up (by omega)).trans cc3.1, (cS_up (by omega)).trans cc3.2⟩
        have tr_Y5_b_4 : Y5.1 b 4 = p := by rw [yk5]; exact (up_ne (by omega)).trans (tr_Y3_b_4)
        have tr_Y5_b_14 : Y5.1 b 14 = p := by rw [yk5]; exact up_eq
        refine q_al (pc := 75) (i := 0) (x := 3) rfl rfl ?_
        refine q_gf (pc := 76) (m := 7092) (t := 2) (c := 9) rfl (ttKc y5.1 (a := 3) (κ := 7) (len := 0) ⟨rfl, rfl⟩ (by decide) (by decide)).1 rfl rfl ?_
        rw [show Y5.1 3 9 = b from (fr_cl y5.2.2 (a := 3) (j := 9) (by omega) (by decide)).trans h9]
        refine q_d2 (pc := 77) rfl ?_
        refine q_gf (pc := 78) (m := 10040) (t := 0) (c := 4) rfl (sk_kb y5.1 hB).1 rfl rfl ?_
        rw [show Y5.1 b 4 = p from tr_Y5_b_4]
        refine q_ic (pc := 79) (v := 1) rfl ?_
        refine q_ia (pc := 80) rfl (by omega) (by omega) ?_
        refine q_pf (pc := 81) (m := 10040) (c := 4) rfl (show xPt 0 0 _ _ from (sk_kb y5.1 hB).1) rfl ?_
        have y6 := rB_put y5.1 y5.2.1 y5.2.2 (a := b) (j := 4) (x := (p + 1)) 7 (sk_rb hB) (by omega) (show (0 : Int) ≤ (p + 1) ∧ (p + 1) ≤ 8 from ⟨by omega, by omega⟩) ⟨(7, 4, 18), by decide, rfl, (show (4 : Int) ≤ 4 ∧ 4 ≤ 18 from ⟨by omega, by omega⟩)⟩ (by decide)
        obtain ⟨Y6, yk6⟩ : ∃ X : xH, X = (xUp Y5.1 b 4 (p + 1), Y5.2) := ⟨_, rfl⟩
        rw [← yk6] at y6 ⊢
        have o_Y6 : skO b H Y6 := skO_u (by first | assumption | exact skO_B (by assumption) | exact skO_t2 (by assumption) (by assumption)) (skB_2 hb) (by omega) yk6
        have cc6 : cT Y6 = T ∧ cS Y6 = S := by rw [yk6]; exact ⟨(cT_up (by omega)).trans cc5.1, (cS_up (by omega)).trans cc5.2⟩
        have tr_Y6_b_4 : Y6.1 b 4 = (p + 1) := by rw [yk6]; exact up_eq
        have tr_Y6_b_14 : Y6.1 b 14 = p := by rw [yk6]; exact (up_ne (by omega)).trans (tr_Y5_b_14)
        refine q_rv (pc := 82) rfl ?_
        have eD : Y6.1 = xUp (xUp (xUp (xUp (K.1) (b + 9 + p) 0 g) (b + 9 + p) 1 f) b 14 p) b 4 (p + 1) := by rw [yk6, yk5, yk3, yk2]
        refine ho h43 _ y6.1 y6.2.1 y6.2.2 o_Y6 cc6 ?_
        rw [eD]
        refine sr_place (S := Z.1) (h := Z.2.2) (p := p) (g := g) (f := f) hRK hw.2.2.2.1.2 m0 m1 jp.symm (fun j ujj0 ujj1 => (up_ne (by omega)).trans ((up_ne (by omega)).trans ((up_ne (by omega)).trans (up_ne (by omega))))) (up_eq) (fun a j a0 a1 a2 => (up_ne (by omega)).trans ((up_ne (by omega)).trans ((up_ne (by omega)).trans (up_ne (by omega))))) ⟨(up_ne (by omega)).trans ((up_ne (by omega)).trans ((up_ne (by omega)).trans (up_eq))), (up_ne (by omega)).trans ((up_ne (by omega)).trans (up_eq)), fun j ujj0 => (up_ne (by omega)).trans ((up_ne (by omega)).trans ((up_ne (by omega)).trans (up_ne (by omega))))⟩ rg rf ujr1 rN ?_
        obtain ⟨-, q1, q2, q3⟩ : hm ≠ 0 ∧ R1 (20 + 8 * p + 1) = 2 ∧ h1 = 1 ∧ t = -1 := by
          rcases hh with q | q
          · exact absurd q.1 h68
          · exact q
        have e14 : (xUp (xUp (xUp (xUp (K.1) (b + 9 + p) 0 g) (b + 9 + p) 1 f) b 14 p) b 4 (p + 1)) b 14 = p := (up_ne (by omega)).trans (up_eq)
        rw [q2]
        refine Or.inr ⟨?_, rfl, fun q q0 q7 => ?_⟩
        · rw [e14, ujr1]
          omega
        · rw [e14]
          by_cases z : q = p
          · exact ⟨fun _ => z, fun _ => by rw [z]; exact q1⟩
          · refine ⟨fun y => ?_, fun y => absurd y z⟩
            rw [rN _ (by omega) (by omega)] at y
            rcases hRK.2.2.2.2.2 with ⟨-, -, u⟩ | ⟨⟨u, -⟩, -, -⟩
            · exact absurd y (u q q0 q7)
            · rw [et, q3] at u; exact absurd u (by decide)
theorem lb_readPlace {dd : Nat} (hd : 8 ≤ dd) {H : xH} {T : tSm} {n b : Int} (hb : b = 7 ∨ b = 34) (hO : sOk T n) {Z : tZ} (zB0 : rB T H H Z.1) (h9 : H.1 3 9 = b) (hW : skW H.1 b) (hR : skR H.1 b Z) (hw : zRw Z) (m1 : Z.2.1 1 ≤ 7) {Q : Int → xH → Prop} (hq : ∀ J, rC T b H J (zPl T Z) → Q 0 J) : xCall dd 87 [(2, 3)] H Q := by
  obtain ⟨e, rfl, he⟩ := ttRun0 (n := 7) hd
  have he : 7 ≤ e := he
  have hB := skB_2 hb
  have hi := skB_in hB
  have hn := rB_n zB0
  have m0 := hw.2.1.1
  obtain ⟨t, jt⟩ : ∃ t, t = H.1 b 14 := ⟨_, rfl⟩
  refine xC_of (L := [(2, 3), (9, 0), (9, 0), (9, 0)]) (cd := cd_87) rfl rfl rfl ?_
  refine q_al (pc := 0) (i := 0) (x := 3) rfl rfl ?_
  refine q_sc (pc := 1) (j := 11) rfl ?_
  refine q_iv (pc := 2) (q := 632571) rfl rfl rfl ⟨by omega, (ttKc zB0.1 (a := 3) (κ := 7) (len := 0) ⟨rfl, rfl⟩ (by decide) (by decide)).1⟩ ?_
  refine lb_word (by decide) (by decide) (by omega) hO zB0 (fun J1 zB1 => ?_)
  obtain ⟨V1, jV1⟩ : ∃ Y : tSa, Y = sNd T Z.1 (-13) := ⟨_, rfl⟩
  replace zB1 : rB T H J1 V1 := by rw [jV1]; exact zB1
  refine q_al (pc := 3) (i := 0) (x := 3) rfl rfl ?_
  refine q_ic (pc := 4) (v := 0) rfl ?_
  refine q_ic (pc := 5) (v := 30) rfl ?_
  refine q_iv (pc := 6) (q := 640572) rfl rfl rfl (ttKc zB1.1 (a := 3) (κ := 7) (len := 0) ⟨rfl, rfl⟩ (by decide) (by decide)).1 ?_
  refine lb_num (by decide) (by omega) hO zB1 (fun ujr2 J2 zB2 jr2 => ?_)
  obtain ⟨V2, jV2⟩ : ∃ Y : tSa, Y = (sNm T V1 0 30).2 := ⟨_, rfl⟩
  replace zB2 : rB T H J2 V2 := by rw [jV2]; exact zB2
  have jb2 : ujr2 = 0 ∨ 0 ≤ ujr2 ∧ ujr2 ≤ 30 := by rw [jr2]; exact sNm_v
  refine q_is (pc := 7) (i := 1) (L' := [(2, 3), (0, ujr2), (9, 0), (9, 0)]) rfl rfl rfl ?_
  refine q_ic (pc := 8) (v := (-1)) rfl ?_
  refine q_is (pc := 9) (i := 2) (L' := [(2, 3), (0, ujr2), (0, (-1)), (9, 0)]) rfl rfl rfl ?_
  refine q_ic (pc := 10) (v := 0) rfl ?_
  refine q_is (pc := 11) (i := 3) (L' := [(2, 3), (0, ujr2), (0, (-1)), (0, 0)]) rfl rfl rfl ?_
  refine q_al (pc := 12) (i := 0) (x := 3) rfl rfl ?_
  refine q_sc (pc := 13) (j := 12) rfl ?_
  refine q_iv (pc := 14) (q := 616568) rfl rfl rfl ⟨by omega, (ttKc zB2.1 (a := 3) (κ := 7) (len := 0) ⟨rfl, rfl⟩ (by decide) (by decide)).1⟩ ?_
  refine lb_is (by decide) (by decide) (by omega) hO zB2 (fun jw14 => ?_) (fun jw14 => ?_)
  · replace jw14 : sW T V2.1 (-14) = true := jw14
    refine q_if (pc := 15) rfl (fun h15 => ?_) (fun h15 => ?_)
    · replace h15 : (1 : Int) = 0 := h15
      omega
    · replace h15 : (1 : Int) ≠ 0 := h15
      refine q_al (pc := 16) (i := 0) (x := 3) rfl rfl ?_
      refine q_gf (pc := 17) (m := 7092) (t := 2) (c := 9) rfl (ttKc zB2.1 (a := 3) (κ := 7) (len := 0) ⟨rfl, rfl⟩ (by decide) (by decide)).1 rfl rfl ?_
      rw [show J2.1 3 9 = b from (rB_9 zB2).trans h9]
      refine q_gf (pc := 18) (m := 10140) (t := 0) (c := 14) rfl (sk_kb zB2.1 hB).1 rfl rfl ?_
      rw [show J2.1 b 14 = t from (rB_sk zB2 hB (by omega) (by omega)).trans jt.symm]
      refine q_ic (pc := 19) (v := (-1)) rfl ?_
      refine q_i2 (pc := 20) rfl (fun h20 => ?_) (fun h20 => ?_)
      · replace h20 : t = (-1) := h20
        refine q_al (pc := 25) (i := 0) (x := 3) rfl rfl ?_
        refine q_sc (pc := 26) (j := 12) rfl ?_
        refine q_iv (pc := 27) (q := 624568) rfl rfl rfl ⟨by omega, (ttKc zB2.1 (a := 3) (κ := 7) (len := 0) ⟨rfl, rfl⟩ (by decide) (by decide)).1⟩ ?_
        refine lb_if (by decide) (by decide) (by omega) hO zB2 (fun r J3 zB3 jr3 => ?_)
        obtain ⟨V3, jV3⟩ : ∃ Y : tSa, Y = (sTk T V2 (-14)).2 := ⟨_, rfl⟩
        replace zB3 : rB T H J3 V3 := by rw [jV3]; exact zB3
        rcases jr3 with ⟨rfl, jk3⟩ | ⟨rfl, jk3⟩
        · replace jk3 : (sTk T V2 (-14)).1 = true := jk3
          refine q_if (pc := 28) rfl (fun h28 => ?_) (fun h28 => ?_)
          · replace h28 : (1 : Int) = 0 := h28
            omega
          · replace h28 : (1 : Int) ≠ 0 := h28
            refine q_ic (pc := 29) (v := 1) rfl ?_
            refine q_is (pc := 30) (i := 3) (L' := [(2, 3), (0, ujr2), (0, (-1)), (0, 1)]) rfl rfl rfl ?_
            refine q_go (pc := 31) rfl ?_
            have e1 : V2 = (zPl1 T Z).1 := by rw [jV2, jV1]; rfl
            have e2 : ujr2 = (sNm T (sNd T Z.1 (-13)) 0 30).1 := by rw [jr2, jV1]
            have ht : Z.2.2 = 0 := by
              rcases hR.2.2.2.2.2 with ⟨-, u, -⟩ | ⟨⟨u, -⟩, -, -⟩
              · exact u
              · rw [← jt, h20] at u; exact absurd u (by decide)
            have z0 := (sTk_t jk3).1
            have nf : ¬ (sTk T (zPl1 T Z).1 (-15)).1 = true := fun z => by rw [← e1] at z; have u := (sTk_t z).2; rw [sW_x (by decide) jw14] at u; exact absurd u (by decide)
            have e3 : zPl T Z = zPl3 (20 + 8 * Z.2.1 1) (zNx T (zPl1 T Z)) := by rw [zPl_h nf (by rw [← e1]; exact ⟨z0, jw14⟩), show zHm T (zPl1 T Z) = zPl1 T Z from if_pos ht, show zGo T (zPl1 T Z) = zNx T (zPl1 T Z) from if_pos (by rw [← e1]; exact z0)]
            have e4 : V3 = (sNx T V2.1, V2.2) := by rw [jV3, sTk_tt ⟨z0, jw14⟩]
            have eZ : zPl T Z = (V3, sUp (sUp (sUp Z.2.1 (20 + 8 * Z.2.1 1) ujr2) (20 + 8 * Z.2.1 1 + 1) 2) 1 (Z.2.1 1 + 1), 1) := by
              rw [e3, e4, e1, e2]
              show (_, sUp _ 1 (sUp (sUp Z.2.1 (20 + 8 * Z.2.1 1) _) _ _ 1 + 1), _) = _
              rw [show sUp (sUp Z.2.1 (20 + 8 * Z.2.1 1) (sNm T (sNd T Z.1 (-13)) 0 30).1) (20 + 8 * Z.2.1 1 + 1) 2 1 = Z.2.1 1 from (sUp_ne (by omega)).trans (sUp_ne (by omega))]
              rfl
            refine fp_41 he hb hO zB0 h9 hW hR hw m1 zB3 (g := ujr2) (f := (-1)) (hm := 1) (by omega) (by omega) (by omega) (by omega) (R1 := (sUp (sUp (sUp Z.2.1 (20 + 8 * Z.2.1 1) ujr2) (20 + 8 * Z.2.1 1 + 1) 2) 1 (Z.2.1 1 + 1))) (h1 := 1) ((sUp_ne (by omega)).trans ((sUp_ne (by omega)).trans (sUp_eq))) (Or.inr ⟨by rw [show (sUp (sUp (sUp Z.2.1 (20 + 8 * Z.2.1 1) ujr2) (20 + 8 * Z.2.1 1 + 1) 2) 1 (Z.2.1 1 + 1)) (20 + 8 * Z.2.1 1 + 1) = 2 from (sUp_ne (by omega)).trans (sUp_eq)]; decide, rfl⟩) sUp_eq (fun i i0 i1 => (sUp_ne (by omega)).trans ((sUp_ne (by omega)).trans (sUp_ne (by omega)))) (Or.inr ⟨by decide, (sUp_ne (by omega)).trans (sUp_eq), rfl, jt.symm.trans h20⟩) (fun y => hq _ (rC_f zB3 (by rw [eZ]) y)) (fun y J jT jX jF jO jc jR => hq J ⟨jT, jX, jF, by rw [eZ]; exact jc, by rw [eZ]; exact zB3.2.2.2.2, jO, fun _ => by rw [eZ]; exact jR⟩)
        · replace jk3 : (sTk T V2 (-14)).1 = false := jk3
          refine q_if (pc := 28) rfl (fun h28 => ?_) (fun h28 => ?_)
          · replace h28 : (0 : Int) = 0 := h28
            refine q_al (pc := 32) (i := 0) (x := 3) rfl rfl ?_
            refine q_sc (pc := 33) (j := 13) rfl ?_
            refine q_iv (pc := 34) (q := 624568) rfl rfl rfl ⟨by omega, (ttKc zB3.1 (a := 3) (κ := 7) (len := 0) ⟨rfl, rfl⟩ (by decide) (by decide)).1⟩ ?_
            refine lb_if (by decide) (by decide) (by omega) hO zB3 (fun r J4 zB4 jr4 => ?_)
            obtain ⟨V4, jV4⟩ : ∃ Y : tSa, Y = (sTk T V3 (-15)).2 := ⟨_, rfl⟩
            replace zB4 : rB T H J4 V4 := by rw [jV4]; exact zB4
            rcases jr4 with ⟨rfl, jk4⟩ | ⟨rfl, jk4⟩
            · replace jk4 : (sTk T V3 (-15)).1 = true := jk4
              exact absurd ((sW_x (by decide) jw14).symm.trans (show sW T V2.1 (-15) = true from by have u := (sTk_t jk4).2; rw [jV3, sTk_ff (sTk_n jk3)] at u; exact u)) (by decide)
            · replace jk4 : (sTk T V3 (-15)).1 = false := jk4
              refine q_if (pc := 35) rfl (fun h35 => ?_) (fun h35 => ?_)
              · replace h35 : (0 : Int) = 0 := h35
                have e1 : V2 = (zPl1 T Z).1 := by rw [jV2, jV1]; rfl
                have e2 : ujr2 = (sNm T (sNd T Z.1 (-13)) 0 30).1 := by rw [jr2, jV1]
                have e3 : V3 = V2 := by rw [jV3, sTk_ff (sTk_n jk3)]
                have e4 : V4 = V2 := by rw [jV4, sTk_ff (sTk_n jk4), e3]
                have z1 : V2.2.1 ≠ 0 := fun z => (sTk_n jk3) ⟨z, jw14⟩
                have nf : ¬ (sTk T (zPl1 T Z).1 (-15)).1 = true := fun z => by rw [← e1] at z; have u := (sTk_t z).2; rw [sW_x (by decide) jw14] at u; exact absurd u (by decide)
                have nh : ¬ ((zPl1 T Z).1.2.1 = 0 ∧ sW T (zPl1 T Z).1.1 (-14) = true) := by rw [← e1]; exact fun y => z1 y.1
                have e6 : zPl T Z = zIn 1 (zPl1 T Z) := zPl_n nf nh
                have eZ : zPl T Z = (V4, sUp (sUp Z.2.1 (20 + 8 * Z.2.1 1) ujr2) 1 (Z.2.1 1 + 1), Z.2.2) := by
                  rw [e6, e4, e1, e2]
                  show (_, sUp _ 1 (sUp Z.2.1 (20 + 8 * Z.2.1 1) _ 1 + 1), _) = _
                  rw [show sUp Z.2.1 (20 + 8 * Z.2.1 1) (sNm T (sNd T Z.1 (-13)) 0 30).1 1 = Z.2.1 1 from sUp_ne (by omega)]
                  rfl
                have er : (sUp (sUp Z.2.1 (20 + 8 * Z.2.1 1) ujr2) 1 (Z.2.1 1 + 1)) (20 + 8 * Z.2.1 1 + 1) = 0 := ((sUp_ne (by omega)).trans (sUp_ne (by omega))).trans ((hR.2.1 _ m0 m1).2 (Int.le_refl _))
                refine fp_41 he hb hO zB0 h9 hW hR hw m1 zB4 (g := ujr2) (f := (-1)) (hm := 0) (by omega) (by omega) (by omega) (by omega) (R1 := (sUp (sUp Z.2.1 (20 + 8 * Z.2.1 1) ujr2) 1 (Z.2.1 1 + 1))) (h1 := Z.2.2) ((sUp_ne (by omega)).trans (sUp_eq)) (Or.inr ⟨by rw [er]; decide, rfl⟩) sUp_eq (fun i i0 i1 => (sUp_ne (by omega)).trans (sUp_ne (by omega))) (Or.inl ⟨rfl, by rw [er]; decide, rfl⟩) (fun y => hq _ (rC_f zB4 (by rw [eZ]) y)) (fun y J jT jX jF jO jc jR => hq J ⟨jT, jX, jF, by rw [eZ]; exact jc, by rw [eZ]; exact zB4.2.2.2.2, jO, fun _ => by rw [eZ]; exact jR⟩)
              · replace h35 : (0 : Int) ≠ 0 := h35
                omega
          · replace h28 : (0 : Int) ≠ 0 := h28
            omega
      · replace h20 : t ≠ (-1) := h20
        refine q_al (pc := 21) (i := 0) (x := 3) rfl rfl ?_
        refine q_ic (pc := 22) (v := 2) rfl ?_
        refine q_iv (pc := 23) (q := 600571) rfl rfl rfl (ttKc zB2.1 (a := 3) (κ := 7) (len := 0) ⟨rfl, rfl⟩ (by decide) (by decide)).1 ?_
        refine lb_fail (by decide) (by decide) (by omega) zB2 (fun J5 zB5 => ?_)
        obtain ⟨V5, jV5⟩ : ∃ Y : tSa, Y = sEr T V2 2 := ⟨_, rfl⟩
        replace zB5 : rB T H J5 V5 := by rw [jV5]; exact zB5
        refine q_go (pc := 24) rfl ?_
        have e1 : V2 = (zPl1 T Z).1 := by rw [jV2, jV1]; rfl
        have e2 : ujr2 = (sNm T (sNd T Z.1 (-13)) 0 30).1 := by rw [jr2, jV1]
        have nf : ¬ (sTk T (zPl1 T Z).1 (-15)).1 = true := fun z => by rw [← e1] at z; have u := (sTk_t z).2; rw [sW_x (by decide) jw14] at u; exact absurd u (by decide)
        have ht : Z.2.2 ≠ 0 := fun z => by
          rcases hR.2.2.2.2.2 with ⟨u, -, -⟩ | ⟨-, u, -⟩
          · exact h20 (jt.trans u)
          · rw [z] at u; exact absurd u (by decide)
        have e9 : V5 = (zPl T Z).1 := by
          by_cases z : V2.2.1 = 0
          · rw [zPl_h nf (by rw [← e1]; exact ⟨z, jw14⟩), show zHm T (zPl1 T Z) = zEr T 2 (zPl1 T Z) from if_neg ht, show zGo T (zEr T 2 (zPl1 T Z)) = zEr T 2 (zPl1 T Z) from if_neg (sEr_k (by decide)), jV5, e1]
            rfl
          · rw [zPl_n nf (by rw [← e1]; exact fun y => z y.1), jV5, sEr_f z, e1]
            rfl
        have ek : V5.2.1 ≠ 0 := by rw [jV5]; exact sEr_k (by decide)
        refine fp_41 he hb hO zB0 h9 hW hR hw m1 zB5 (g := ujr2) (f := (-1)) (hm := 0) (by omega) (by omega) (by omega) (by omega) (R1 := (sUp (sUp Z.2.1 (20 + 8 * Z.2.1 1) ujr2) 1 (Z.2.1 1 + 1))) (h1 := Z.2.2) ((sUp_ne (by omega)).trans (sUp_eq)) (Or.inr ⟨?_, rfl⟩) sUp_eq (fun i i0 i1 => (sUp_ne (by omega)).trans (sUp_ne (by omega))) (Or.inl ⟨rfl, ?_, rfl⟩) (fun y => hq _ (rC_f zB5 e9 y)) (fun y => absurd y ek)
        · rw [show sUp (sUp Z.2.1 (20 + 8 * Z.2.1 1) ujr2) 1 (Z.2.1 1 + 1) (20 + 8 * Z.2.1 1 + 1) = Z.2.1 (20 + 8 * Z.2.1 1 + 1) from (sUp_ne (by omega)).trans (sUp_ne (by omega)), (hR.2.1 _ m0 m1).2 (Int.le_refl _)]
          decide
        · rw [show sUp (sUp Z.2.1 (20 + 8 * Z.2.1 1) ujr2) 1 (Z.2.1 1 + 1) (20 + 8 * Z.2.1 1 + 1) = Z.2.1 (20 + 8 * Z.2.1 1 + 1) from (sUp_ne (by omega)).trans (sUp_ne (by omega)), (hR.2.1 _ m0 m1).2 (Int.le_refl _)]
          decide
  · replace jw14 : sW T V2.1 (-14) = false := jw14
    refine q_if (pc := 15) rfl (fun h15 => ?_) (fun h15 => ?_)
    · replace h15 : (0 : Int) = 0 := h15
      refine q_al (pc := 25) (i := 0) (x := 3) rfl rfl ?_
      refine q_sc (pc := 26) (j := 12) rfl ?_
      refine q_iv (pc := 27) (q := 624568) rfl rfl rfl ⟨by omega, (ttKc zB2.1 (a := 3) (κ := 7) (len := 0) ⟨rfl, rfl⟩ (by decide) (by decide)).1⟩ ?_
      refine lb_if (by decide) (by decide) (by omega) hO zB2 (fun r J6 zB6 jr6 => ?_)
      obtain ⟨V6, jV6⟩ : ∃ Y : tSa, Y = (sTk T V2 (-14)).2 := ⟨_, rfl⟩
      replace zB6 : rB T H J6 V6 := by rw [jV6]; exact zB6
      rcases jr6 with ⟨rfl, jk6⟩ | ⟨rfl, jk6⟩
      · replace jk6 : (sTk T V2 (-14)).1 = true := jk6
        exact absurd (jw14.symm.trans (sTk_t jk6).2) (by decide)
      · replace jk6 : (sTk T V2 (-14)).1 = false := jk6
        refine q_if (pc := 28) rfl (fun h28 => ?_) (fun h28 => ?_)
        · replace h28 : (0 : Int) = 0 := h28
          refine q_al (pc := 32) (i := 0) (x := 3) rfl rfl ?_
          refine q_sc (pc := 33) (j := 13) rfl ?_
          refine q_iv (pc := 34) (q := 624568) rfl rfl rfl ⟨by omega, (ttKc zB6.1 (a := 3) (κ := 7) (len := 0) ⟨rfl, rfl⟩ (by decide) (by decide)).1⟩ ?_
          refine lb_if (by decide) (by decide) (by omega) hO zB6 (fun r J7 zB7 jr7 => ?_)
          obtain ⟨V7, jV7⟩ : ∃ Y : tSa, Y = (sTk T V6 (-15)).2 := ⟨_, rfl⟩
          replace zB7 : rB T H J7 V7 := by rw [jV7]; exact zB7
          rcases jr7 with ⟨rfl, jk7⟩ | ⟨rfl, jk7⟩
          · replace jk7 : (sTk T V6 (-15)).1 = true := jk7
            refine q_if (pc := 35) rfl (fun h35 => ?_) (fun h35 => ?_)
            · replace h35 : (1 : Int) = 0 := h35
              omega
            · replace h35 : (1 : Int) ≠ 0 := h35
              refine q_al (pc := 36) (i := 0) (x := 3) rfl rfl ?_
              refine q_ic (pc := 37) (v := 0) rfl ?_
              refine q_ic (pc := 38) (v := 999) rfl ?_
              refine q_iv (pc := 39) (q := 640572) rfl rfl rfl (ttKc zB7.1 (a := 3) (κ := 7) (len := 0) ⟨rfl, rfl⟩ (by decide) (by decide)).1 ?_
              refine lb_num (by decide) (by omega) hO zB7 (fun ujr8 J8 zB8 jr8 => ?_)
              obtain ⟨V8, jV8⟩ : ∃ Y : tSa, Y = (sNm T V7 0 999).2 := ⟨_, rfl⟩
              replace zB8 : rB T H J8 V8 := by rw [jV8]; exact zB8
              have jb8 : ujr8 = 0 ∨ 0 ≤ ujr8 ∧ ujr8 ≤ 999 := by rw [jr8]; exact sNm_v
              refine q_is (pc := 40) (i := 2) (L' := [(2, 3), (0, ujr2), (0, ujr8), (0, 0)]) rfl rfl rfl ?_
              have e1 : V2 = (zPl1 T Z).1 := by rw [jV2, jV1]; rfl
              have e2 : ujr2 = (sNm T (sNd T Z.1 (-13)) 0 30).1 := by rw [jr2, jV1]
              have e3 : V6 = V2 := by rw [jV6, sTk_ff (sTk_n jk6)]
              have e4 : zPl T Z = zPl2 T (20 + 8 * Z.2.1 1) (zTk T (-15) (zPl1 T Z)) := zPl_f (by rw [← e1, ← e3]; exact jk7)
              have e6 : ujr8 = (sNm T (sTk T (zPl1 T Z).1 (-15)).2 0 999).1 := by rw [jr8, jV7, e3, e1]
              have eZ : zPl T Z = (V8, sUp (sUp (sUp (sUp Z.2.1 (20 + 8 * Z.2.1 1) ujr2) (20 + 8 * Z.2.1 1 + 1) 1) (20 + 8 * Z.2.1 1 + 2) ujr8) 1 (Z.2.1 1 + 1), Z.2.2) := by
                rw [e4, jV8, jV7, e3, e1, e2, e6]
                show (_, sUp (sUp (sUp (sUp Z.2.1 (20 + 8 * Z.2.1 1) (sNm T (sNd T Z.1 (-13)) 0 30).1) (20 + 8 * Z.2.1 1 + 1) 1) (20 + 8 * Z.2.1 1 + 2) (sNm T (sTk T (zPl1 T Z).1 (-15)).2 0 999).1) 1 (sUp (sUp (sUp Z.2.1 (20 + 8 * Z.2.1 1) (sNm T (sNd T Z.1 (-13)) 0 30).1) (20 + 8 * Z.2.1 1 + 1) 1) (20 + 8 * Z.2.1 1 + 2) (sNm T (sTk T (zPl1 T Z).1 (-15)).2 0 999).1 1 + 1), _) = _
                rw [show sUp (sUp (sUp Z.2.1 (20 + 8 * Z.2.1 1) (sNm T (sNd T Z.1 (-13)) 0 30).1) (20 + 8 * Z.2.1 1 + 1) 1) (20 + 8 * Z.2.1 1 + 2) (sNm T (sTk T (zPl1 T Z).1 (-15)).2 0 999).1 1 = Z.2.1 1 from (sUp_ne (by omega)).trans ((sUp_ne (by omega)).trans (sUp_ne (by omega)))]
                rfl
              refine fp_41 he hb hO zB0 h9 hW hR hw m1 zB8 (g := ujr2) (f := ujr8) (hm := 0) (by omega) (by omega) (by omega) (by omega) (R1 := (sUp (sUp (sUp (sUp Z.2.1 (20 + 8 * Z.2.1 1) ujr2) (20 + 8 * Z.2.1 1 + 1) 1) (20 + 8 * Z.2.1 1 + 2) ujr8) 1 (Z.2.1 1 + 1))) (h1 := Z.2.2) ((sUp_ne (by omega)).trans ((sUp_ne (by omega)).trans ((sUp_ne (by omega)).trans (sUp_eq)))) (Or.inl ⟨(sUp_ne (by omega)).trans ((sUp_ne (by omega)).trans (sUp_eq)), ((sUp_ne (by omega)).trans (sUp_eq)).symm⟩) sUp_eq (fun i i0 i1 => (sUp_ne (by omega)).trans ((sUp_ne (by omega)).trans ((sUp_ne (by omega)).trans (sUp_ne (by omega))))) (Or.inl ⟨rfl, by rw [show (sUp (sUp (sUp (sUp Z.2.1 (20 + 8 * Z.2.1 1) ujr2) (20 + 8 * Z.2.1 1 + 1) 1) (20 + 8 * Z.2.1 1 + 2) ujr8) 1 (Z.2.1 1 + 1)) (20 + 8 * Z.2.1 1 + 1) = 1 from (sUp_ne (by omega)).trans ((sUp_ne (by omega)).trans (sUp_eq))]; decide, rfl⟩) (fun y => hq _ (rC_f zB8 (by rw [eZ]) y)) (fun y J jT jX jF jO jc jR => hq J ⟨jT, jX, jF, by rw [eZ]; exact jc, by rw [eZ]; exact zB8.2.2.2.2, jO, fun _ => by rw [eZ]; exact jR⟩)
          · replace jk7 : (sTk T V6 (-15)).1 = false := jk7
            refine q_if (pc := 35) rfl (fun h35 => ?_) (fun h35 => ?_)
            · replace h35 : (0 : Int) = 0 := h35
              have e1 : V2 = (zPl1 T Z).1 := by rw [jV2, jV1]; rfl
              have e2 : ujr2 = (sNm T (sNd T Z.1 (-13)) 0 30).1 := by rw [jr2, jV1]
              have e3 : V6 = V2 := by rw [jV6, sTk_ff (sTk_n jk6)]
              have e4 : V7 = V2 := by rw [jV7, sTk_ff (sTk_n jk7), e3]
              have nf : ¬ (sTk T (zPl1 T Z).1 (-15)).1 = true := by rw [← e1, ← e3, jk7]; decide
              have nh : ¬ ((zPl1 T Z).1.2.1 = 0 ∧ sW T (zPl1 T Z).1.1 (-14) = true) := by rw [← e1, jw14]; exact fun y => absurd y.2 (by decide)
              have e6 : zPl T Z = zIn 1 (zPl1 T Z) := zPl_n nf nh
              have eZ : zPl T Z = (V7, sUp (sUp Z.2.1 (20 + 8 * Z.2.1 1) ujr2) 1 (Z.2.1 1 + 1), Z.2.2) := by
                rw [e6, e4, e1, e2]
                show (_, sUp _ 1 (sUp Z.2.1 (20 + 8 * Z.2.1 1) _ 1 + 1), _) = _
                rw [show sUp Z.2.1 (20 + 8 * Z.2.1 1) (sNm T (sNd T Z.1 (-13)) 0 30).1 1 = Z.2.1 1 from sUp_ne (by omega)]
                rfl
              have er : (sUp (sUp Z.2.1 (20 + 8 * Z.2.1 1) ujr2) 1 (Z.2.1 1 + 1)) (20 + 8 * Z.2.1 1 + 1) = 0 := ((sUp_ne (by omega)).trans (sUp_ne (by omega))).trans ((hR.2.1 _ m0 m1).2 (Int.le_refl _))
              refine fp_41 he hb hO zB0 h9 hW hR hw m1 zB7 (g := ujr2) (f := (-1)) (hm := 0) (by omega) (by omega) (by omega) (by omega) (R1 := (sUp (sUp Z.2.1 (20 + 8 * Z.2.1 1) ujr2) 1 (Z.2.1 1 + 1))) (h1 := Z.2.2) ((sUp_ne (by omega)).trans (sUp_eq)) (Or.inr ⟨by rw [er]; decide, rfl⟩) sUp_eq (fun i i0 i1 => (sUp_ne (by omega)).trans (sUp_ne (by omega))) (Or.inl ⟨rfl, by rw [er]; decide, rfl⟩) (fun y => hq _ (rC_f zB7 (by rw [eZ]) y)) (fun y J jT jX jF jO jc jR => hq J ⟨jT, jX, jF, by rw [eZ]; exact jc, by rw [eZ]; exact zB7.2.2.2.2, jO, fun _ => by rw [eZ]; exact jR⟩)
            · replace h35 : (0 : Int) ≠ 0 := h35
              omega
        · replace h28 : (0 : Int) ≠ 0 := h28
          omega
    · replace h15 : (0 : Int) ≠ 0 := h15
      omega
