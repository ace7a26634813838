/-! helps for methods by hand -/
theorem ttKc {H : xH} (hT : ttTI H) {a κ len : Int} (h : (ttTb (ttRo a)).1 = κ ∧ (ttTb (ttRo a)).2.1 = len) (h1 : 1 ≤ a) (h2 : a < 210) : H.2.1 a = κ ∧ H.2.2.1 a = len := by
  have := hT.1
  obtain ⟨k1, k2, -⟩ := hT.2 a h1 (by omega)
  exact ⟨k1.trans h.1, k2.trans h.2⟩
theorem ttMc {H : xH} (hT : ttTI H) {a j : Int} (h1 : 1 ≤ a) (h2 : a < 210) (h3 : 0 ≤ j) (h4 : j < (ttTb (ttRo a)).2.2.1) : ttM (H.2.2.2.1 : Int) (ttTy (ttTb (ttRo a)) j) (H.1 a j) := by
  have := hT.1
  exact (hT.2 a h1 (by omega)).2.2 j h3 h4
/-- a row of one kind of numbers -/
theorem ttRw {H : xH} (hT : ttTI H) {a : Int} (h1 : 1 ≤ a) (h2 : a < 210) {κ len sz lo hi : Int} (h : ttTb (ttRo a) = (κ, len, sz, 1, [(0, lo, hi)])) : ∀ j : Int, 0 ≤ j → j < sz → lo ≤ H.1 a j ∧ H.1 a j ≤ hi := fun j j0 j1 => by
  have k := ttMc hT h1 h2 j0 (by rw [h]; exact j1)
  rw [h] at k
  unfold ttTy at k
  rw [Int.emod_one] at k
  exact k
theorem ttFx {H : xH} (hT : ttTI H) {a j v : Int} (h1 : 1 ≤ a) (h2 : a < 210) (h3 : decide (0 ≤ j ∧ j < (ttTb (ttRo a)).2.2.1) = true) (h4 : (ttTy (ttTb (ttRo a)) j).1 = 0) (h5 : (ttTy (ttTb (ttRo a)) j).2 = (v, v)) : H.1 a j = v := by
  obtain ⟨z1, z2⟩ := of_decide_eq_true h3
  have k := ttMc hT h1 h2 z1 z2
  revert h4 h5 k
  generalize ttTy (ttTb (ttRo a)) j = T
  obtain ⟨tk, ta, tb⟩ := T
  intro h4 h5 k
  have h4 : tk = 0 := h4
  subst h4
  cases h5
  have k : v ≤ H.1 a j ∧ H.1 a j ≤ v := k
  omega
theorem ttV1 {N : Int} {p : Nat × ttP} {ps : List (Nat × ttP)} {vs : List xV} (h : ttF (ttAm N) (p :: ps) vs) : ∃ x ws, vs = (p.1, x) :: ws ∧ ttPm N p.2 x ∧ ttF (ttAm N) ps ws := by
  match vs, h with
  | (t, x) :: ws, h =>
    obtain ⟨⟨h1, h2⟩, h3⟩ := h
    have h1 : p.1 = t := h1
    subst h1
    exact ⟨x, ws, rfl, h2, h3⟩
theorem ttV0 {N : Int} {vs : List xV} (h : ttF (ttAm N) [] vs) : vs = [] := by
  match vs, h with
  | [], _ => rfl
theorem ttPk {N : Int} {o x : Int} {i : ttI} (h : ttPm N (0, o, i) x) : x = o := by
  obtain ⟨w, e, -⟩ := h
  have e : x = 0 * w + o := e
  omega
theorem ttPi {N : Int} {a b x : Int} (h : ttPm N (1, 0, (0, a, b)) x) : a ≤ x ∧ x ≤ b := by
  obtain ⟨w, e, m⟩ := h
  have e : x = 1 * w + 0 := e
  have m : a ≤ w ∧ w ≤ b := m
  omega
theorem ttPr {N : Int} {r b x : Int} (h : ttPm N (1, 0, (1, r, b)) x) : (1 ≤ x ∧ x < N) ∧ ttRo x = r.toNat := by
  obtain ⟨w, e, m⟩ := h
  have e : x = 1 * w + 0 := e
  have m : (1 ≤ w ∧ w < N) ∧ ttRo w = r.toNat := m
  rw [show x = w by omega]
  exact m
theorem ttPi_of {N : Int} {a b x : Int} (h1 : a ≤ x) (h2 : x ≤ b) : ttPm N (1, 0, (0, a, b)) x := ⟨x, by show x = 1 * x + 0; omega, h1, h2⟩
theorem ttPk_of {N : Int} {o x : Int} {a b : Int} (h : x = o) : ttPm N (0, o, (9, a, b)) x := ⟨0, by show x = 0 * 0 + o; omega, trivial⟩
theorem ttRun0 {dd : Nat} {n : Nat} (h : n + 1 ≤ dd) : ∃ e, dd = e + 1 ∧ n ≤ e := ⟨dd - 1, by omega, by omega⟩
/-- runs from the cuts -/
def ttCutS (XX : xH → Prop) (c : ttCon) (cuts : List (Nat × ttCtA)) : Prop := ∀ (e : Nat) (vs : List xV) (H : xH) (Q : Int → xH → Prop), c.2.1 ≤ e + 1 → (∀ r H', ttTI H' → XX H' → ttFr c.2.2.2.2.2.2 H H' → (∃ p ∈ c.2.2.2.2.1, ttPm (H'.2.2.2.1 : Int) p r) → (∀ q ∈ c.2.2.2.2.2.1, ttCm H' vs r q) → Q r H') → ∀ q ∈ cuts, ∀ (L2 : List xV) (H' : xH), ttTI H' → XX H' → ttFr c.2.2.2.2.2.2 H H' → ttCtP H' q.2 L2 → (∀ i ∈ q.2.2.2.2.2, (L2.getD i (9, 0)).2 = (vs.getD i (9, 0)).2) → 0 ≤ ttCtM H' q.2 L2 → xW e (xCode c.1) Q (q.1, L2, [], H')
theorem ttCutS_ok {XX : xH → Prop} {ev : ttEv} {n : Nat} {c : ttCon} {cuts : List (Nat × ttCtA)} (hC : ∀ c ∈ ev.1, ttHas XX c) (hO : ttOut XX ev.2.2) (he : ev.2.1 = c.2.2.2.2.2.2) (h0 : 0 < c.2.1) (h1 : cuts.all (ttCk ev n cuts c) = true) : ttCutS XX c cuts := by
  intro e vs H Q hd hQ q hq L2 H' hT hX hF hP hk hm
  obtain ⟨j, dep, ps, cc, res, rc, ef⟩ := c
  match dep, h0, h1, hd with
  | d + 1, h0, h1, hd =>
    have hd : d + 1 ≤ e + 1 := hd
    have he : ev.2.1 = ef := he
    exact ttCut_ok (vs := vs) (H := H) hC hO he h1 (by omega) hQ ((ttCtM H' q.2 L2).toNat + 1) q hq L2 H' ⟨hT, hX, by rw [he]; exact hF⟩ hP hk hm (by omega)
/-- the roles of what is made late -/
theorem ttRn_big {n : Nat} (h : 210 ≤ n) : ttRn n = 210 + (n - 210) % 10 := by
  have e1 : Nat.ble n 6 = false := by rw [← Bool.not_eq_true, Nat.ble_eq]; omega
  have e2 : Nat.ble n 60 = false := by rw [← Bool.not_eq_true, Nat.ble_eq]; omega
  have e3 : Nat.ble n 101 = false := by rw [← Bool.not_eq_true, Nat.ble_eq]; omega
  have e4 : Nat.ble n 182 = false := by rw [← Bool.not_eq_true, Nat.ble_eq]; omega
  have e5 : Nat.ble n 209 = false := by rw [← Bool.not_eq_true, Nat.ble_eq]; omega
  unfold ttRn
  rw [e1, e2, e3, e4, e5]
  rfl
theorem ttRo_big {a : Int} (h : 210 ≤ a) : ttRo a = 210 + (a.toNat - 210) % 10 := by
  match a, h with
  | .ofNat n, h =>
    have h : (210 : Int) ≤ (n : Int) := h
    exact ttRn_big (by omega)
