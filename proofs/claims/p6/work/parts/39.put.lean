/-! stores, by hand -/
/-- a place may be written with x -/
def ttMay (ff : ttE4) (a j x : Int) : Prop := ∀ q ∈ ff, ttHit q.1 a j → q.2.1 = true ∧ x = q.2.2
theorem ttPut {XX : xH → Prop} {ff : ttE4} {ef : ttEf} {H0 H : xH} (hO : ttOut XX ff) (hT : ttTI H) (hX : XX H) (hF : ttFr ef H0 H) {a j x : Int} (a1 : 1 ≤ a) (hty : 0 ≤ j → j < (ttTb (ttRo a)).2.2.1 → ttM (H.2.2.2.1 : Int) (ttTy (ttTb (ttRo a)) j) x) (hin : ∃ q ∈ ef.2, ttHit q a j) (hff : ttMay ff a j x) : ttTI (xUp H.1 a j x, H.2) ∧ XX (xUp H.1 a j x, H.2) ∧ ttFr ef H0 (xUp H.1 a j x, H.2) := by
  have hne : ∀ b k : Int, ¬ (b = a ∧ k = j) → xUp H.1 a j x b k = H.1 b k := fun b k hn => by
    show (if b = a ∧ k = j then x else H.1 b k) = H.1 b k
    rw [if_neg hn]
  have heq : xUp H.1 a j x a j = x := by
    show (if a = a ∧ j = j then x else H.1 a j) = x
    rw [if_pos ⟨rfl, rfl⟩]
  refine ⟨ttTI_st hT hty, hO H _ hX (fun b k hb => hne b k (by omega)) (fun q hq b k hh => ?_), hF.1, hF.2.1, hF.2.2.1, fun b k hb hq => ?_⟩
  · by_cases z : b = a ∧ k = j
    · obtain ⟨rfl, rfl⟩ := z
      have h := hff q hq hh
      exact Or.inr ⟨h.1, by rw [heq]; exact h.2⟩
    · exact Or.inl (hne b k z)
  · by_cases z : b = a ∧ k = j
    · obtain ⟨rfl, rfl⟩ := z
      obtain ⟨q, hm, hh⟩ := hin
      exact absurd hh (hq q hm)
    · exact (hne b k z).trans (hF.2.2.2 b k hb hq)
/-- a row of numbers of one kind: what a place may hold -/
theorem ttTyr {a : Int} {κ len sz lo hi : Int} (h : ttTb (ttRo a) = (κ, len, sz, 1, [(0, lo, hi)])) {j x N : Int} (h1 : lo ≤ x) (h2 : x ≤ hi) : ttM N (ttTy (ttTb (ttRo a)) j) x := by
  rw [h]
  unfold ttTy
  rw [Int.emod_one]
  exact ⟨h1, h2⟩
theorem ttMay_no {ff : ttE4} {a j x : Int} {r : Nat} (hr : ttRo a = r) (h : ∀ q ∈ ff, q.1.1 ≠ r) : ttMay ff a j x := fun q hq hh => by
  obtain ⟨⟨-, c⟩, -⟩ := hh
  exact absurd (c.symm.trans hr) (h q hq)
