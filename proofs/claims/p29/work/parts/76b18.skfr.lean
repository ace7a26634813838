/-! what a frame leaves of a sky -/
theorem sk_fr {ef : ttEf} {H K : xH} (hF : ttFr ef H K) (hn : 210 ≤ (H.2.2.2.1 : Int)) {b : Int} (hB : skB b) (he : ef.2.all (fun q => decide (q.1 < 7) || decide (24 < q.1)) = true) {a j : Int} (a0 : b ≤ a) (a1 : a ≤ b + 26) : K.1 a j = H.1 a j := by
  have bi := skB_in hB
  have w := sk_ro hB (o := a - b) (by omega) (by omega)
  rw [show b + (a - b) = a from by omega] at w
  have u : 7 ≤ ttSk (a - b).toNat ∧ ttSk (a - b).toNat ≤ 24 := by
    unfold ttSk
    split
    · rename_i h
      have := Nat.le_of_ble_eq_true h
      show 7 ≤ 7 + _ ∧ 7 + _ ≤ 24
      omega
    · split <;> decide
  refine fr_x hF (by omega) w.1 (fun q hq y _ _ => ?_)
  have v := List.all_eq_true.mp he q hq
  rw [Bool.or_eq_true, decide_eq_true_eq, decide_eq_true_eq] at v
  omega
theorem skW_D {D D' : xD} {b : Int} (h : skW D b) (e : ∀ a j : Int, b ≤ a → a ≤ b + 26 → D' a j = D a j) : skW D' b := by
  obtain ⟨⟨h1, h2, h3, h4⟩, h5, h6, ⟨h7, h8⟩, h9, ha⟩ := h
  exact ⟨⟨(e _ _ (by omega) (by omega)).trans h1, (e _ _ (by omega) (by omega)).trans h2, (e _ _ (by omega) (by omega)).trans h3, (e _ _ (by omega) (by omega)).trans h4⟩, fun p p0 p1 => (e _ _ (by omega) (by omega)).trans (h5 p p0 p1), fun l l0 l1 => (e _ _ (by omega) (by omega)).trans (h6 l l0 l1), ⟨(e _ _ (by omega) (by omega)).trans h7, (e _ _ (by omega) (by omega)).trans h8⟩, (e _ _ (by omega) (by omega)).trans h9, (e _ _ (by omega) (by omega)).trans ha⟩
