/-! the class: plans are made -/
def ttNl (x : Int) : Nat := if x = 0 then 0 else 1
def ttNs5 (D : xD) : Nat := ttNl (D 73 0) + ttNl (D 73 1) + ttNl (D 73 2) + ttNl (D 73 3) + ttNl (D 73 4)
/-- what is made: ten objects a plan -/
def ttRM (H : xH) : Prop := H.2.2.2.1 = 210 + 10 * ttNs5 H.1 ∧ H.2.2.2.2 = 450828 + 234519 * ttNs5 H.1
/-- YY speaks of these places alone (and of the script), and bears these numbers there; more may be made -/
def ttStab (YY : xH → Prop) (ff : ttE4) : Prop := ∀ (H H' : xH), YY H → H.2.2.2.1 ≤ H'.2.2.2.1 → (∀ a : Int, a < (H.2.2.2.1 : Int) → H'.2.1 a = H.2.1 a ∧ H'.2.2.1 a = H.2.2.1 a) → (∀ a j : Int, a < 1 → H'.1 a j = H.1 a j) → (∀ q ∈ ff, ∀ a j : Int, a < (H.2.2.2.1 : Int) → ttHit q.1 a j → H'.1 a j = H.1 a j ∨ (q.2.1 = true ∧ H'.1 a j = q.2.2)) → YY H'
def ttXX (YY : xH → Prop) (H : xH) : Prop := ttRM H ∧ YY H
/-- of ttFF, without the row of plans -/
def ttFY : ttE4 := ttFF.tail
theorem ttXX_out {YY : xH → Prop} (h : ttStab YY ttFY) (hp : ∀ H, YY H → True) : ttOut (ttXX YY) ttFF := by
  intro H D hX h1 h2
  obtain ⟨⟨r1, r2⟩, y⟩ := hX
  have e : ∀ j : Int, 0 ≤ j → j ≤ 4 → D 73 j = H.1 73 j := fun j j0 j1 => by
    rcases h2 ((73, 0, 4), false, 0) (by decide) 73 j ⟨⟨by decide, rfl⟩, j0, j1⟩ with z | z
    · exact z
    · exact absurd z.1 (by decide)
  have eN : ttNs5 D = ttNs5 H.1 := by
    unfold ttNs5
    rw [e 0 (by decide) (by decide), e 1 (by decide) (by decide), e 2 (by decide) (by decide), e 3 (by decide) (by decide), e 4 (by decide) (by decide)]
  refine ⟨⟨by show H.2.2.2.1 = _; rw [eN]; exact r1, by show H.2.2.2.2 = _; rw [eN]; exact r2⟩, ?_⟩
  exact h H (D, H.2) y (Nat.le_refl _) (fun _ _ => ⟨rfl, rfl⟩) h1 (fun q hq a j _ hh => h2 q (List.mem_of_mem_tail hq) a j hh)
/-- the new plan, i of its rows made -/
def pnI (H H' : xH) (N : Int) (i : Nat) (sl : Nat) : Prop := (H'.2.2.2.1 : Int) = N + 1 + i ∧ H'.2.2.2.2 = H.2.2.2.2 + 15 + sl ∧ (∀ b : Int, b < N → H'.2.1 b = H.2.1 b ∧ H'.2.2.1 b = H.2.2.1 b ∧ ∀ j, H'.1 b j = H.1 b j) ∧ (H'.2.1 N = 5 ∧ H'.2.2.1 N = 0) ∧ (∀ j : Int, H'.1 N j = if 0 ≤ j ∧ j < (i : Int) then N + 1 + j else 0) ∧ ∀ k : Nat, 1 ≤ k → k ≤ i → H'.2.1 (N + k) = 20 ∧ H'.2.2.1 (N + k) = (ttTb (210 + k)).2.1 ∧ ∀ j, H'.1 (N + k) j = 0
theorem pn_0 (H : xH) : pnI H (xNw H 5 0 15) (H.2.2.2.1 : Int) 0 0 := by
  refine ⟨?_, rfl, fun b hb => ?_, ?_, fun j => ?_, fun k h1 h2 => by omega⟩
  · show ((H.2.2.2.1 + 1 : Nat) : Int) = _
    omega
  · have e : b ≠ (H.2.2.2.1 : Int) := by omega
    refine ⟨?_, ?_, fun j => ?_⟩
    · show (if b = (H.2.2.2.1 : Int) then (5 : Int) else H.2.1 b) = H.2.1 b
      rw [if_neg e]
    · show (if b = (H.2.2.2.1 : Int) then (0 : Int) else H.2.2.1 b) = H.2.2.1 b
      rw [if_neg e]
    · show (if b = (H.2.2.2.1 : Int) then (0 : Int) else H.1 b j) = H.1 b j
      rw [if_neg e]
  · constructor
    · show (if (H.2.2.2.1 : Int) = (H.2.2.2.1 : Int) then (5 : Int) else _) = 5
      rw [if_pos rfl]
    · show (if (H.2.2.2.1 : Int) = (H.2.2.2.1 : Int) then (0 : Int) else _) = 0
      rw [if_pos rfl]
  · show (if (H.2.2.2.1 : Int) = (H.2.2.2.1 : Int) then (0 : Int) else _) = _
    rw [if_pos rfl, if_neg (by omega)]
theorem pn_s {H H' : xH} {N : Int} {i sl n : Nat} (h : pnI H H' N i sl) (hn : (ttTb (210 + (i + 1))).2.1 = (n : Int)) {f : Int} (hf : f = (i : Int)) : pnI H (xUp (xNw H' 20 (n : Int) n).1 N f (H'.2.2.2.1 : Int), (xNw H' 20 (n : Int) n).2) N (i + 1) (sl + n) := by
  subst hf
  obtain ⟨h1, h2, h3, h4, h5, h6⟩ := h
  refine ⟨?_, ?_, fun b hb => ?_, ?_, fun j => ?_, fun k k1 k2 => ?_⟩
  · show ((H'.2.2.2.1 + 1 : Nat) : Int) = N + 1 + ((i + 1 : Nat) : Int)
    omega
  · show H'.2.2.2.2 + n = _
    omega
  · have e : b ≠ (H'.2.2.2.1 : Int) := by omega
    obtain ⟨g1, g2, g3⟩ := h3 b hb
    refine ⟨?_, ?_, fun j => ?_⟩
    · show (if b = (H'.2.2.2.1 : Int) then (20 : Int) else H'.2.1 b) = H.2.1 b
      rw [if_neg e]; exact g1
    · show (if b = (H'.2.2.2.1 : Int) then (n : Int) else H'.2.2.1 b) = H.2.2.1 b
      rw [if_neg e]; exact g2
    · show (if b = N ∧ j = (i : Int) then (H'.2.2.2.1 : Int) else if b = (H'.2.2.2.1 : Int) then (0 : Int) else H'.1 b j) = H.1 b j
      rw [if_neg (by omega), if_neg e]; exact g3 j
  · have e : N ≠ (H'.2.2.2.1 : Int) := by omega
    constructor
    · show (if N = (H'.2.2.2.1 : Int) then (20 : Int) else H'.2.1 N) = 5
      rw [if_neg e]; exact h4.1
    · show (if N = (H'.2.2.2.1 : Int) then (n : Int) else H'.2.2.1 N) = 0
      rw [if_neg e]; exact h4.2
  · have e : N ≠ (H'.2.2.2.1 : Int) := by omega
    show (if N = N ∧ j = (i : Int) then (H'.2.2.2.1 : Int) else if N = (H'.2.2.2.1 : Int) then (0 : Int) else H'.1 N j) = _
    by_cases z : j = (i : Int)
    · rw [if_pos ⟨rfl, z⟩, if_pos (by omega)]
      omega
    · rw [if_neg (by omega), if_neg e, h5 j]
      by_cases z2 : 0 ≤ j ∧ j < (i : Int)
      · rw [if_pos z2, if_pos (by omega)]
      · rw [if_neg z2, if_neg (by omega)]
  · by_cases z : k = i + 1
    · subst z
      have e : N + ((i + 1 : Nat) : Int) = (H'.2.2.2.1 : Int) := by omega
      refine ⟨?_, ?_, fun j => ?_⟩
      · show (if N + ((i + 1 : Nat) : Int) = (H'.2.2.2.1 : Int) then (20 : Int) else _) = 20
        rw [if_pos e]
      · show (if N + ((i + 1 : Nat) : Int) = (H'.2.2.2.1 : Int) then (n : Int) else _) = _
        rw [if_pos e]; exact hn.symm
      · show (if N + ((i + 1 : Nat) : Int) = N ∧ j = (i : Int) then (H'.2.2.2.1 : Int) else if N + ((i + 1 : Nat) : Int) = (H'.2.2.2.1 : Int) then (0 : Int) else _) = 0
        rw [if_neg (by omega), if_pos e]
    · obtain ⟨g1, g2, g3⟩ := h6 k k1 (by omega)
      have e : N + (k : Int) ≠ (H'.2.2.2.1 : Int) := by omega
      refine ⟨?_, ?_, fun j => ?_⟩
      · show (if N + (k : Int) = (H'.2.2.2.1 : Int) then (20 : Int) else _) = 20
        rw [if_neg e]; exact g1
      · show (if N + (k : Int) = (H'.2.2.2.1 : Int) then (n : Int) else _) = _
        rw [if_neg e]; exact g2
      · show (if N + (k : Int) = N ∧ j = (i : Int) then (H'.2.2.2.1 : Int) else if N + (k : Int) = (H'.2.2.2.1 : Int) then (0 : Int) else _) = 0
        rw [if_neg (by omega), if_neg e]; exact g3 j
