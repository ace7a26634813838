/-! plans are made -/
def ttNl (x : Int) : Nat := if x = 0 then 0 else 1
def ttNs5 (D : xD) : Nat := ttNl (D 73 0) + ttNl (D 73 1) + ttNl (D 73 2) + ttNl (D 73 3) + ttNl (D 73 4)
/-- what is made: ten objects a plan -/
def ttRM (H : xH) : Prop := H.2.2.2.1 = 210 + 10 * ttNs5 H.1 ∧ H.2.2.2.2 = 450828 + 234519 * ttNs5 H.1
/-- YY speaks of these places alone (and of the script), and bears these numbers there; more may be made -/
def ttStab (YY : xH → Prop) (ff : ttE4) : Prop := ∀ (H H' : xH), YY H → H.2.2.2.1 ≤ H'.2.2.2.1 → (∀ a : Int, a < (H.2.2.2.1 : Int) → H'.2.1 a = H.2.1 a ∧ H'.2.2.1 a = H.2.2.1 a) → (∀ a j : Int, a < 1 → H'.1 a j = H.1 a j) → (∀ q ∈ ff, ∀ a j : Int, a < (H.2.2.2.1 : Int) → ttHit q.1 a j → H'.1 a j = H.1 a j ∨ (q.2.1 = true ∧ H'.1 a j = q.2.2)) → YY H'
def ttXX (YY : xH → Prop) (H : xH) : Prop := ttRM H ∧ YY H
/-- of ttFF, without the row of plans -/
def ttFY : ttE4 := ttFF.tail
theorem ttXX_out {YY : xH → Prop} (h : ttStab YY ttFY) (hp : ∀ H, YY H → True) : ttOut (ttXX YY) ttFF := by
  intro H D hX h1 h2
  obtain ⟨⟨r1, r2⟩, y⟩ := hX
  have e : ∀ j : Int, 0 ≤ j → j ≤ 4 → D 73 j = H.1 73 j := fun j j0 j1 => by
    rcases h2 ((73, 0, 4), false, 0) (by decide) 73 j ⟨⟨by decide, rfl⟩, j0, j1⟩ with z | z
    · exact z
    · exact absurd z.1 (by decide)
  have eN : ttNs5 D = ttNs5 H.1 := by
    unfold ttNs5
    rw [e 0 (by decide) (by decide), e 1 (by decide) (by decide), e 2 (by decide) (by decide), e 3 (by decide) (by decide), e 4 (by decide) (by decide)]
  refine ⟨⟨by show H.2.2.2.1 = _; rw [eN]; exact r1, by show H.2.2.2.2 = _; rw [eN]; exact r2⟩, ?_⟩
  exact h H (D, H.2) y (Nat.le_refl _) (fun _ _ => ⟨rfl, rfl⟩) h1 (fun q hq a j _ hh => h2 q (List.mem_of_mem_tail hq) a j hh)
/-- the new plan, i of its rows made -/
def pnI (H H' : xH) (N : Int) (i : Nat) (sl : Nat) : Prop := (H'.2.2.2.1 : Int) = N + 1 + i ∧ H'.2.2.2.2 = H.2.2.2.2 + 15 + sl ∧ (∀ b : Int, b < N → H'.2.1 b = H.2.1 b ∧ H'.2.2.1 b = H.2.2.1 b ∧ ∀ j, H'.1 b j = H.1 b j) ∧ (H'.2.1 N = 5 ∧ H'.2.2.1 N = 0) ∧ (∀ j : Int, H'.1 N j = if 0 ≤ j ∧ j < (i : Int) then N + 1 + j else 0) ∧ ∀ k : Nat, 1 ≤ k → k ≤ i → H'.2.1 (N + k) = 20 ∧ H'.2.2.1 (N + k) = (ttTb (210 + k)).2.1 ∧ ∀ j, H'.1 (N + k) j = 0
theorem pn_0 (H : xH) : pnI H (xNw H 5 0 15) (H.2.2.2.1 : Int) 0 0 := by
  refine ⟨?_, rfl, fun b hb => ?_, ?_, fun j => ?_, fun k h1 h2 => by omega⟩
  · show ((H.2.2.2.1 + 1 : Nat) : Int) = _
    omega
  · have e : b ≠ (H.2.2.2.1 : Int) := by omega
    refine ⟨?_, ?_, fun j => ?_⟩
    · show (if b = (H.2.2.2.1 : Int) then (5 : Int) else H.2.1 b) = H.2.1 b
      rw [if_neg e]
    · show (if b = (H.2.2.2.1 : Int) then (0 : Int) else H.2.2.1 b) = H.2.2.1 b
      rw [if_neg e]
    · show (if b = (H.2.2.2.1 : Int) then (0 : Int) else H.1 b j) = H.1 b j
      rw [if_neg e]
  · constructor
    · show (if (H.2.2.2.1 : Int) = (H.2.2.2.1 : Int) then (5 : Int) else _) = 5
      rw [if_pos rfl]
    · show (if (H.2.2.2.1 : Int) = (H.2.2.2.1 : Int) then (0 : Int) else _) = 0
      rw [if_pos rfl]
  · show (if (H.2.2.2.1 : Int) = (H.2.2.2.1 : Int) then (0 : Int) else _) = _
    rw [if_pos rfl, if_neg (by omega)]
theorem pn_s {H H' : xH} {N : Int} {i sl n : Nat} (h : pnI H H' N i sl) (hn : (ttTb (210 + (i + 1))).2.1 = (n : Int)) {f : Int} (hf : f = (i : Int)) : pnI H (xUp (xNw H' 20 (n : Int) n).1 N f (H'.2.2.2.1 : Int), (xNw H' 20 (n : Int) n).2) N (i + 1) (sl + n) := by
  subst hf
  obtain ⟨h1, h2, h3, h4, h5, h6⟩ := h
  refine ⟨?_, ?_, fun b hb => ?_, ?_, fun j => ?_, fun k k1 k2 => ?_⟩
  · show ((H'.2.2.2.1 + 1 : Nat) : Int) = N + 1 + ((i + 1 : Nat) : Int)
    omega
  · show H'.2.2.2.2 + n = _
    omega
  · have e : b ≠ (H'.2.2.2.1 : Int) := by omega
    obtain ⟨g1, g2, g3⟩ := h3 b hb
    refine ⟨?_, ?_, fun j => ?_⟩
    · show (if b = (H'.2.2.2.1 : Int) then (20 : Int) else H'.2.1 b) = H.2.1 b
      rw [if_neg e]; exact g1
    · show (if b = (H'.2.2.2.1 : Int) then (n : Int) else H'.2.2.1 b) = H.2.2.1 b
      rw [if_neg e]; exact g2
    · show (if b = N ∧ j = (i : Int) then (H'.2.2.2.1 : Int) else if b = (H'.2.2.2.1 : Int) then (0 : Int) else H'.1 b j) = H.1 b j
      rw [if_neg (by omega), if_neg e]; exact g3 j
  · have e : N ≠ (H'.2.2.2.1 : Int) := by omega
    constructor
    · show (if N = (H'.2.2.2.1 : Int) then (20 : Int) else H'.2.1 N) = 5
      rw [if_neg e]; exact h4.1
    · show (if N = (H'.2.2.2.1 : Int) then (n : Int) else H'.2.2.1 N) = 0
      rw [if_neg e]; exact h4.2
  · have e : N ≠ (H'.2.2.2.1 : Int) := by omega
    show (if N = N ∧ j = (i : Int) then (H'.2.2.2.1 : Int) else if N = (H'.2.2.2.1 : Int) then (0 : Int) else H'.1 N j) = _
    by_cases z : j = (i : Int)
    · rw [if_pos ⟨rfl, z⟩, if_pos (by omega)]
      omega
    · rw [if_neg (by omega), if_neg e, h5 j]
      by_cases z2 : 0 ≤ j ∧ j < (i : Int)
      · rw [if_pos z2, if_pos (by omega)]
      · rw [if_neg z2, if_neg (by omega)]
  · by_cases z : k = i + 1
    · subst z
      have e : N + ((i + 1 : Nat) : Int) = (H'.2.2.2.1 : Int) := by omega
      refine ⟨?_, ?_, fun j => ?_⟩
      · show (if N + ((i + 1 : Nat) : Int) = (H'.2.2.2.1 : Int) then (20 : Int) else _) = 20
        rw [if_pos e]
      · show (if N + ((i + 1 : Nat) : Int) = (H'.2.2.2.1 : Int) then (n : Int) else _) = _
        rw [if_pos e]; exact hn.symm
      · show (if N + ((i + 1 : Nat) : Int) = N ∧ j = (i : Int) then (H'.2.2.2.1 : Int) else if N + ((i + 1 : Nat) : Int) = (H'.2.2.2.1 : Int) then (0 : Int) else _) = 0
        rw [if_neg (by omega), if_pos e]
    · obtain ⟨g1, g2, g3⟩ := h6 k k1 (by omega)
      have e : N + (k : Int) ≠ (H'.2.2.2.1 : Int) := by omega
      refine ⟨?_, ?_, fun j => ?_⟩
      · show (if N + (k : Int) = (H'.2.2.2.1 : Int) then (20 : Int) else _) = 20
        rw [if_neg e]; exact g1
      · show (if N + (k : Int) = (H'.2.2.2.1 : Int) then (n : Int) else _) = _
        rw [if_neg e]; exact g2
      · show (if N + (k : Int) = N ∧ j = (i : Int) then (H'.2.2.2.1 : Int) else if N + (k : Int) = (H'.2.2.2.1 : Int) then (0 : Int) else _) = 0
        rw [if_neg (by omega), if_neg e]; exact g3 j
theorem pn_ro {H : xH} (h : H.2.2.2.1 = 210 + 10 * ttNs5 H.1) (k : Nat) (hk : k ≤ 9) : ttRo ((H.2.2.2.1 : Int) + k) = 210 + k := by
  rw [ttRo_big (by omega)]
  omega
theorem pn_fin {YY : xH → Prop} (hY : ttStab YY ttFY) {H H' : xH} {rule s : Int} {N : Int} (hN : N = (H.2.2.2.1 : Int)) (hT : ttTI H) (hX : ttXX YY H) (r0 : 0 ≤ rule) (r1 : rule ≤ 4) (hz : H.1 73 rule = 0) (hs : (1 ≤ s ∧ s < (H.2.2.2.1 : Int)) ∧ ttRo s = 7) (h : pnI H H' N 9 234504) : ttTI (xUp (xUp (xUp H'.1 73 rule N) N 10 s) N 11 63, H'.2) ∧ ttXX YY (xUp (xUp (xUp H'.1 73 rule N) N 10 s) N 11 63, H'.2) ∧ ttFr (false, [(73, 0, 4)]) H (xUp (xUp (xUp H'.1 73 rule N) N 10 s) N 11 63, H'.2) := by
  obtain ⟨⟨x1, x2⟩, x3⟩ := hX
  obtain ⟨h1, h2, h3, h4, h5, h6⟩ := h
  have h210 := hT.1
  have hN2 : (H'.2.2.2.1 : Int) = N + 10 := by omega
  have hro : ∀ k : Nat, k ≤ 9 → ttRo (N + k) = 210 + k := fun k hk => by rw [hN]; exact pn_ro x1 k hk
  have hro0 : ttRo N = 210 := by have := hro 0 (by omega); rwa [show N + ((0 : Nat) : Int) = N by omega] at this
  have hlow : ∀ a j : Int, a < N → ¬ (a = 73 ∧ j = rule) → xUp (xUp (xUp H'.1 73 rule N) N 10 s) N 11 63 a j = H.1 a j := fun a j ha hn => by
    show (if a = N ∧ j = 11 then (63 : Int) else if a = N ∧ j = 10 then s else if a = 73 ∧ j = rule then N else H'.1 a j) = H.1 a j
    rw [if_neg (by omega), if_neg (by omega), if_neg hn]
    exact (h3 a ha).2.2 j
  have h73 : xUp (xUp (xUp H'.1 73 rule N) N 10 s) N 11 63 73 rule = N := by
    show (if (73 : Int) = N ∧ rule = 11 then (63 : Int) else if (73 : Int) = N ∧ rule = 10 then s else if (73 : Int) = 73 ∧ rule = rule then N else H'.1 73 rule) = N
    rw [if_neg (by omega), if_neg (by omega), if_pos ⟨rfl, rfl⟩]
  have hNj : ∀ j : Int, xUp (xUp (xUp H'.1 73 rule N) N 10 s) N 11 63 N j = if j = 11 then 63 else if j = 10 then s else if 0 ≤ j ∧ j < 9 then N + 1 + j else 0 := fun j => by
    show (if N = N ∧ j = 11 then (63 : Int) else if N = N ∧ j = 10 then s else if N = 73 ∧ j = rule then N else H'.1 N j) = _
    by_cases z : j = 11
    · rw [if_pos ⟨rfl, z⟩, if_pos z]
    · rw [if_neg (by omega), if_neg z]
      by_cases z2 : j = 10
      · rw [if_pos ⟨rfl, z2⟩, if_pos z2]
      · rw [if_neg (by omega), if_neg z2, if_neg (by omega)]
        exact h5 j
  have hTI : ttTI (xUp (xUp (xUp H'.1 73 rule N) N 10 s) N 11 63, H'.2) := by
    refine ⟨by show 210 ≤ H'.2.2.2.1; omega, fun a a1 a2 => ?_⟩
    have a2 : a < (H'.2.2.2.1 : Int) := a2
    show H'.2.1 a = (ttTb (ttRo a)).1 ∧ H'.2.2.1 a = (ttTb (ttRo a)).2.1 ∧ ∀ j : Int, 0 ≤ j → j < (ttTb (ttRo a)).2.2.1 → ttM (H'.2.2.2.1 : Int) (ttTy (ttTb (ttRo a)) j) (xUp (xUp (xUp H'.1 73 rule N) N 10 s) N 11 63 a j)
    by_cases ha : a < N
    · obtain ⟨t1, t2, t3⟩ := hT.2 a a1 (by omega)
      obtain ⟨g1, g2, -⟩ := h3 a ha
      refine ⟨g1.trans t1, g2.trans t2, fun j j0 j1 => ?_⟩
      by_cases z : a = 73 ∧ j = rule
      · obtain ⟨rfl, rfl⟩ := z
        rw [h73]
        have hty : ttTy (ttTb (ttRo 73)) j = (2, 210, 0) := by
          show ([(2, 210, 0)] : List ttI).getD (j % 1).toNat (9, 0, 0) = (2, 210, 0)
          rw [Int.emod_one]
          rfl
        rw [hty]
        exact Or.inr ⟨⟨by omega, by omega⟩, hro0⟩
      · rw [hlow a j ha z]
        exact ttM_up (by omega) (t3 j j0 j1)
    · by_cases ha2 : a = N
      · subst ha2
        rw [hro0]
        refine ⟨h4.1, h4.2, fun j j0 j1 => ?_⟩
        have j1 : j < 15 := j1
        rw [hNj j]
        have hk : ∀ k : Nat, k ≤ 8 → ttM (H'.2.2.2.1 : Int) (1, 211 + (k : Int), 0) (a + 1 + k) := fun k hk => by
          have := hro (k + 1) (by omega)
          refine ⟨⟨by omega, by omega⟩, ?_⟩
          rw [show a + 1 + (k : Int) = a + ((k + 1 : Nat) : Int) by omega, this]
          show 210 + (k + 1) = (211 + (k : Int)).toNat
          omega
        have hj : j = 0 ∨ j = 1 ∨ j = 2 ∨ j = 3 ∨ j = 4 ∨ j = 5 ∨ j = 6 ∨ j = 7 ∨ j = 8 ∨ j = 9 ∨ j = 10 ∨ j = 11 ∨ j = 12 ∨ j = 13 ∨ j = 14 := by omega
        rcases hj with rfl | rfl | rfl | rfl | rfl | rfl | rfl | rfl | rfl | rfl | rfl | rfl | rfl | rfl | rfl
        · exact hk 0 (by decide)
        · exact hk 1 (by decide)
        · exact hk 2 (by decide)
        · exact hk 3 (by decide)
        · exact hk 4 (by decide)
        · exact hk 5 (by decide)
        · exact hk 6 (by decide)
        · exact hk 7 (by decide)
        · exact hk 8 (by decide)
        · exact (show (0 : Int) ≤ 0 ∧ (0 : Int) ≤ 1 by decide)
        · exact (show (1 ≤ s ∧ s < (H'.2.2.2.1 : Int)) ∧ ttRo s = 7 from ⟨⟨hs.1.1, by omega⟩, hs.2⟩)
        · exact (show (63 : Int) ≤ 63 ∧ (63 : Int) ≤ 63 by decide)
        · exact (show (-2147483648 : Int) ≤ 0 ∧ (0 : Int) ≤ 2147483647 by decide)
        · exact (show (0 : Int) ≤ 0 ∧ (0 : Int) ≤ 48 by decide)
        · exact (show (0 : Int) ≤ 0 ∧ (0 : Int) ≤ 48 by decide)
      · obtain ⟨k, hk⟩ : ∃ k : Nat, a = N + (k : Int) ∧ 1 ≤ k ∧ k ≤ 9 := ⟨(a - N).toNat, by omega, by omega, by omega⟩
        obtain ⟨rfl, k1, k2⟩ := hk
        obtain ⟨g1, g2, g3⟩ := h6 k k1 k2
        rw [hro k k2]
        have hz : ∀ j : Int, xUp (xUp (xUp H'.1 73 rule N) N 10 s) N 11 63 (N + (k : Int)) j = 0 := fun j => by
          show (if N + (k : Int) = N ∧ j = 11 then (63 : Int) else if N + (k : Int) = N ∧ j = 10 then s else if N + (k : Int) = 73 ∧ j = rule then N else H'.1 (N + (k : Int)) j) = 0
          rw [if_neg (by omega), if_neg (by omega), if_neg (by omega)]
          exact g3 j
        have ht : ∃ n : Int, ttTb (210 + k) = (20, n, n, 1, [(0, -2147483648, 2147483647)]) := by
          have hc : k = 1 ∨ k = 2 ∨ k = 3 ∨ k = 4 ∨ k = 5 ∨ k = 6 ∨ k = 7 ∨ k = 8 ∨ k = 9 := by omega
          rcases hc with rfl | rfl | rfl | rfl | rfl | rfl | rfl | rfl | rfl
          · exact ⟨46848, rfl⟩
          · exact ⟨46848, rfl⟩
          · exact ⟨46848, rfl⟩
          · exact ⟨46848, rfl⟩
          · exact ⟨46848, rfl⟩
          · exact ⟨240, rfl⟩
          · exact ⟨8, rfl⟩
          · exact ⟨8, rfl⟩
          · exact ⟨8, rfl⟩
        obtain ⟨n, ht⟩ := ht
        rw [ht] at g2
        rw [ht]
        refine ⟨g1, g2, fun j _ _ => ?_⟩
        rw [hz j]
        have hty : ttTy (20, n, n, 1, [(0, -2147483648, 2147483647)]) j = (0, -2147483648, 2147483647) := by
          unfold ttTy
          rw [Int.emod_one]
          rfl
        rw [hty]
        exact (show (-2147483648 : Int) ≤ 0 ∧ (0 : Int) ≤ 2147483647 by decide)
  refine ⟨hTI, ⟨?_, ?_⟩, ⟨(fun z => by cases z), (by show H.2.2.2.1 ≤ H'.2.2.2.1; omega), fun a ha => ⟨(h3 a (by omega)).1, (h3 a (by omega)).2.1⟩, fun a j ha hq => ?_⟩⟩
  · have e : ttNs5 (xUp (xUp (xUp H'.1 73 rule N) N 10 s) N 11 63) = ttNs5 H.1 + 1 := by
      have hc : rule = 0 ∨ rule = 1 ∨ rule = 2 ∨ rule = 3 ∨ rule = 4 := by omega
      have hnl : ttNl N = 1 := by unfold ttNl; rw [if_neg (by omega)]
      have hz0 : ttNl (0 : Int) = 0 := rfl
      unfold ttNs5
      rcases hc with rfl | rfl | rfl | rfl | rfl
      · rw [h73, hlow 73 1 (by omega) (by decide), hlow 73 2 (by omega) (by decide), hlow 73 3 (by omega) (by decide), hlow 73 4 (by omega) (by decide), hnl, hz, hz0]
        all_goals omega
      · rw [h73, hlow 73 0 (by omega) (by decide), hlow 73 2 (by omega) (by decide), hlow 73 3 (by omega) (by decide), hlow 73 4 (by omega) (by decide), hnl, hz, hz0]
        all_goals omega
      · rw [h73, hlow 73 0 (by omega) (by decide), hlow 73 1 (by omega) (by decide), hlow 73 3 (by omega) (by decide), hlow 73 4 (by omega) (by decide), hnl, hz, hz0]
        all_goals omega
      · rw [h73, hlow 73 0 (by omega) (by decide), hlow 73 1 (by omega) (by decide), hlow 73 2 (by omega) (by decide), hlow 73 4 (by omega) (by decide), hnl, hz, hz0]
        all_goals omega
      · rw [h73, hlow 73 0 (by omega) (by decide), hlow 73 1 (by omega) (by decide), hlow 73 2 (by omega) (by decide), hlow 73 3 (by omega) (by decide), hnl, hz, hz0]
        all_goals omega
    have q1 : H'.2.2.2.1 = 210 + 10 * (ttNs5 H.1 + 1) := by omega
    have q2 : H'.2.2.2.2 = 450828 + 234519 * (ttNs5 H.1 + 1) := by rw [h2, x2]; omega
    refine ⟨?_, ?_⟩
    · show H'.2.2.2.1 = 210 + 10 * ttNs5 (xUp (xUp (xUp H'.1 73 rule N) N 10 s) N 11 63)
      rw [e]
      first | exact q1 | exact q2
    · show H'.2.2.2.2 = 450828 + 234519 * ttNs5 (xUp (xUp (xUp H'.1 73 rule N) N 10 s) N 11 63)
      rw [e]
      first | exact q1 | exact q2
  · refine hY H _ x3 (by show H.2.2.2.1 ≤ H'.2.2.2.1; omega) (fun a ha => ⟨(h3 a (by omega)).1, (h3 a (by omega)).2.1⟩) (fun a j ha => hlow a j (by omega) (by omega)) (fun q hq a j ha hh => Or.inl ?_)
    refine hlow a j (by omega) ?_
    rintro ⟨rfl, rfl⟩
    obtain ⟨⟨-, c2⟩, -⟩ := hh
    have hne : ∀ q ∈ ttFY, q.1.1 ≠ 73 := by decide
    exact hne q hq (c2.symm.trans rfl)
  · by_cases z : a = 73 ∧ j = rule
    · obtain ⟨rfl, rfl⟩ := z
      exact absurd ⟨⟨by decide, rfl⟩, r0, r1⟩ (hq _ (List.mem_singleton.mpr rfl))
    · exact hlow a j (by omega) z
theorem pn_row {d : Nat} {cd : List Instr} {Q : Int → xH → Prop} {pc : Nat} {H H' : xH} {N : Int} {i sl n m : Nat} (hp : pnI H H' N i sl) (hN : 0 < N) (c1 : cd.getD pc .nop = .aload 0) (c2 : cd.getD (pc + 1) .nop = .iconst (n : Int)) (c3 : cd.getD (pc + 1 + 1) .nop = .newarray .int) (c4 : cd.getD (pc + 1 + 1 + 1) .nop = .putfield m) (hm : (m / 1000 = 5 ∧ m % 10 = 2) ∧ m / 10 % 100 = i) (hn : (ttTb (210 + (i + 1))).2.1 = (n : Int)) (hn2 : n ≤ 1000000) (k : ∀ H2, pnI H H2 N (i + 1) (sl + n) → xW d cd Q (pc + 1 + 1 + 1 + 1, [(2, N)], [], H2)) : xW d cd Q (pc, [(2, N)], [], H') := by
  obtain ⟨⟨m1, m2⟩, m3⟩ := hm
  refine q_al (i := 0) (x := N) c1 rfl ?_
  refine q_ic (v := (n : Int)) c2 ?_
  refine q_na c3 (by omega) (by omega) ?_
  refine q_pf (c := (i : Int)) c4 ?_ (by rw [m3]) ?_
  · rw [m1, m2]
    show (if N = (H'.2.2.2.1 : Int) then (20 : Int) else H'.2.1 N) = 5
    have := hp.1
    rw [if_neg (by omega)]
    exact hp.2.2.2.1.1
  · exact k _ (pn_s hp hn rfl)
theorem pn_init {e : Nat} {H H1 : xH} {N : Int} {Q : Int → xH → Prop} (he : 1 ≤ e) (hN : 0 < N) (h0 : pnI H H1 N 0 0) (hQ : ∀ H2, pnI H H2 N 9 234504 → Q 0 H2) : xCall (e + 1) 45 [(2, N)] H1 Q := by
  refine xC_of (L := [(2, N)]) (cd := cd_45) rfl rfl rfl ?_
  refine q_al (pc := 0) (i := 0) (x := N) rfl rfl ?_
  refine q_ob (pc := 1) rfl rfl (by omega) hN ?_
  refine pn_row (pc := 2) (n := 46848) (m := 5002) h0 hN rfl rfl rfl rfl ⟨⟨rfl, rfl⟩, rfl⟩ rfl (by decide) (fun Ha h1 => ?_)
  refine pn_row (pc := 6) (n := 46848) (m := 5012) h1 hN rfl rfl rfl rfl ⟨⟨rfl, rfl⟩, rfl⟩ rfl (by decide) (fun Hb h2 => ?_)
  refine pn_row (pc := 10) (n := 46848) (m := 5022) h2 hN rfl rfl rfl rfl ⟨⟨rfl, rfl⟩, rfl⟩ rfl (by decide) (fun Hc h3 => ?_)
  refine pn_row (pc := 14) (n := 46848) (m := 5032) h3 hN rfl rfl rfl rfl ⟨⟨rfl, rfl⟩, rfl⟩ rfl (by decide) (fun Hd h4 => ?_)
  refine pn_row (pc := 18) (n := 46848) (m := 5042) h4 hN rfl rfl rfl rfl ⟨⟨rfl, rfl⟩, rfl⟩ rfl (by decide) (fun He h5 => ?_)
  refine pn_row (pc := 22) (n := 240) (m := 5052) h5 hN rfl rfl rfl rfl ⟨⟨rfl, rfl⟩, rfl⟩ rfl (by decide) (fun Hf h6 => ?_)
  refine pn_row (pc := 26) (n := 8) (m := 5062) h6 hN rfl rfl rfl rfl ⟨⟨rfl, rfl⟩, rfl⟩ rfl (by decide) (fun Hg h7 => ?_)
  refine pn_row (pc := 30) (n := 8) (m := 5072) h7 hN rfl rfl rfl rfl ⟨⟨rfl, rfl⟩, rfl⟩ rfl (by decide) (fun Hh h8 => ?_)
  refine pn_row (pc := 34) (n := 8) (m := 5082) h8 hN rfl rfl rfl rfl ⟨⟨rfl, rfl⟩, rfl⟩ rfl (by decide) (fun Hi h9 => ?_)
  exact q_rv (pc := 38) rfl (hQ _ h9)
/-- the rest of begin, from the new plan on -/
theorem pn_begin {XX : xH → Prop} (hm : ttM_0 XX) {e : Nat} (he : 4 ≤ e + 1) {Hm : xH} {N s rule : Int} {Q : Int → xH → Prop} (hk : Hm.2.1 N = 5) (hro : ttRo N = 210) (hN : 1 ≤ N ∧ N < (Hm.2.2.2.1 : Int)) (hs : (1 ≤ s ∧ s < (Hm.2.2.2.1 : Int)) ∧ ttRo s = 7) (hr : 0 ≤ rule ∧ rule ≤ 3) (hT : ttTI (xUp (xUp Hm.1 N 10 s) N 11 63, Hm.2)) (hX : XX (xUp (xUp Hm.1 N 10 s) N 11 63, Hm.2)) (hQ : ∀ r H', ttTI H' → XX H' → ttFr w_plbegin.2.2.2.2.2.2 (xUp (xUp Hm.1 N 10 s) N 11 63, Hm.2) H' → Q r H') : xCall (e + 1) 47 [(2, N), (2, s), (2, 63), (0, rule)] Hm Q := by
  refine xC_of (L := [(2, N), (2, s), (2, 63), (0, rule), (9, 0), (9, 0)]) (cd := cd_47) rfl rfl rfl ?_
  refine q_al (pc := 0) (i := 0) (x := N) rfl rfl ?_
  refine q_al (pc := 1) (i := 1) (x := s) rfl rfl ?_
  refine q_pf (pc := 2) (m := 5102) (c := 10) rfl (show xPt 2 2 _ _ from hk) rfl ?_
  refine q_al (pc := 3) (i := 0) (x := N) rfl rfl ?_
  refine q_al (pc := 4) (i := 2) (x := 63) rfl rfl ?_
  refine q_pf (pc := 5) (m := 5112) (c := 11) rfl (show xPt 2 2 _ _ from hk) rfl ?_
  refine kw_plbegin hm e [(2, N), (2, s), (2, 63), (0, rule)] (xUp (xUp Hm.1 N 10 s) N 11 63, Hm.2) Q he (fun r H' a b c _ _ => hQ r H' a b c) zc_plbegin_6 List.mem_cons_self _ _ hT hX (ttFr_rf _ _) ⟨?_, ?_⟩ ?_ ?_
  · exact ⟨Or.inr ⟨rfl, N, by show N = 1 * N + 0; omega, hN, hro⟩, Or.inr ⟨rfl, s, by show s = 1 * s + 0; omega, hs⟩, Or.inr ⟨rfl, 0, by show (63 : Int) = 0 * 0 + 63; omega, trivial⟩, Or.inr ⟨rfl, rule, by show rule = 1 * rule + 0; omega, hr⟩, Or.inl rfl, Or.inl rfl, trivial⟩
  · intro q hq
    rw [List.mem_singleton.mp hq]
    show (if N = N ∧ (10 : Int) = 11 then (63 : Int) else if N = N ∧ (10 : Int) = 10 then s else Hm.1 N 10) = s
    rw [if_neg (by omega), if_pos ⟨rfl, rfl⟩]
  · intro i hi
    have hi : i ∈ [0, 1, 2, 3] := hi
    have hc : i = 0 ∨ i = 1 ∨ i = 2 ∨ i = 3 := by simpa using hi
    rcases hc with rfl | rfl | rfl | rfl <;> rfl
  · show (0 : Int) ≤ zc_plbegin_6.2.2.2.1 + 0
    decide
/-- a place of a field: a plan there, or none -/
theorem pn_pl {H : xH} (hT : ttTI H) {r : Int} (h0 : 0 ≤ r) (h1 : r ≤ 4) : H.1 73 r = 0 ∨ ((1 ≤ H.1 73 r ∧ H.1 73 r < (H.2.2.2.1 : Int)) ∧ ttRo (H.1 73 r) = 210) := by
  have k := ttMc hT (a := 73) (j := r) (by decide) (by decide) h0 (by show r < 5; omega)
  have e : ttTy (ttTb (ttRo 73)) r = (2, 210, 0) := by
    show ([(2, 210, 0)] : List ttI).getD (r % 1).toNat (9, 0, 0) = (2, 210, 0)
    rw [Int.emod_one]
    rfl
  rw [e] at k
  exact k
theorem pn_now {H : xH} (hT : ttTI H) : (1 ≤ H.1 1 5 ∧ H.1 1 5 < (H.2.2.2.1 : Int)) ∧ ttRo (H.1 1 5) = 7 := ttMc hT (a := 1) (j := 5) (by decide) (by decide) (by decide) (by decide)
theorem pn_sub {H H' H2 : xH} {rule N s : Int} (h : ttFr (false, [(73, 0, 4)]) H H2) (h2 : ttFr w_plbegin.2.2.2.2.2.2 H2 H') : ttFr m_planOf.2.2.2.2.2.2 H H' := ttFr_tr (ef := m_planOf.2.2.2.2.2.2) (ttFr_tr (ef := m_planOf.2.2.2.2.2.2) (ttFr_rf _ H) h (fun z => by cases z) (by decide)) h2 (fun z => by cases z) (by decide)
theorem hm_planOf {YY : xH → Prop} (hY : ttStab YY ttFY) (hm : ttM_0 (ttXX YY)) : ttHas (ttXX YY) m_planOf := by
  intro dd hdd vs H hT hX hargs hcells Q hQ
  obtain ⟨v0, vs, rfl, p0, hargs⟩ := ttV1 hargs
  obtain ⟨r, vs, rfl, p1, hargs⟩ := ttV1 hargs
  cases ttV0 hargs
  cases ttPk p0
  have p1 := ttPi p1
  obtain ⟨e, rfl, he⟩ := ttRun0 (n := 6) hdd
  have hN0 := hT.1
  have hQ : ∀ x H', ttTI H' → ttXX YY H' → ttFr m_planOf.2.2.2.2.2.2 H H' → ((1 ≤ x ∧ x < (H'.2.2.2.1 : Int)) ∧ ttRo x = 210) → Q x H' := fun x H' a b c q => hQ x H' a b c ⟨_, List.mem_singleton.mpr rfl, x, by show x = 1 * x + 0; omega, q⟩ (fun q hq => absurd hq List.not_mem_nil)
  have k1 := ttKc hT (a := 1) (κ := 11) (len := 0) ⟨rfl, rfl⟩ (by decide) (by decide)
  have k73 := ttKc hT (a := 73) (κ := 28) (len := 5) ⟨rfl, rfl⟩ (by decide) (by decide)
  have f73 : H.1 1 10 = 73 := ttFx hT (by decide) (by decide) rfl rfl rfl
  have f63 : H.1 1 9 = 63 := ttFx hT (by decide) (by decide) rfl rfl rfl
  have hnow := pn_now hT
  refine xC_of (L := [(2, 1), (0, r), (9, 0)]) (cd := cd_159) rfl rfl rfl ?_
  refine q_al (pc := 0) (i := 0) (x := 1) rfl rfl ?_
  refine q_gf (pc := 1) (m := 11102) (t := 2) (c := 10) rfl k1.1 rfl rfl ?_
  rw [f73]
  refine q_il (pc := 2) (i := 1) (x := r) rfl rfl ?_
  refine q_aa (pc := 3) rfl (by rw [k73.1]; decide) (by omega) (by rw [k73.2]; omega) ?_
  refine q_nn (pc := 4) rfl (fun h4 => ?_) (fun h4 => ?_)
  · have hp : (1 ≤ H.1 73 r ∧ H.1 73 r < (H.2.2.2.1 : Int)) ∧ ttRo (H.1 73 r) = 210 := (pn_pl hT (r := r) (by omega) (by omega)).resolve_left h4
    have kp := hT.2 _ hp.1.1 hp.1.2
    rw [hp.2] at kp
    refine q_al (pc := 12) (i := 0) (x := 1) rfl rfl ?_
    refine q_gf (pc := 13) (m := 11102) (t := 2) (c := 10) rfl k1.1 rfl rfl ?_
    rw [f73]
    refine q_il (pc := 14) (i := 1) (x := r) rfl rfl ?_
    refine q_aa (pc := 15) rfl (by rw [k73.1]; decide) (by omega) (by rw [k73.2]; omega) ?_
    refine q_as (pc := 16) (i := 2) (L' := [(2, 1), (0, r), (2, H.1 73 r)]) rfl rfl rfl h4 ?_
    refine q_al (pc := 17) (i := 2) (x := H.1 73 r) rfl rfl ?_
    refine q_gf (pc := 18) (m := 5090) (t := 0) (c := 9) rfl kp.1 rfl rfl ?_
    refine q_if (pc := 19) rfl (fun h19 => ?_) (fun h19 => ?_)
    · refine q_al (pc := 27) (i := 2) (x := H.1 73 r) rfl rfl ?_
      exact q_ra (pc := 28) rfl (hQ _ H hT hX (ttFr_rf _ _) hp)
    · refine q_al (pc := 20) (i := 2) (x := H.1 73 r) rfl rfl ?_
      refine q_al (pc := 21) (i := 0) (x := 1) rfl rfl ?_
      refine q_gf (pc := 22) (m := 11052) (t := 2) (c := 5) rfl k1.1 rfl rfl ?_
      refine q_al (pc := 23) (i := 0) (x := 1) rfl rfl ?_
      refine q_gf (pc := 24) (m := 11092) (t := 2) (c := 9) rfl k1.1 rfl rfl ?_
      rw [f63]
      refine q_il (pc := 25) (i := 1) (x := r) rfl rfl ?_
      refine q_iv (pc := 26) (q := 376419) (a := H.1 73 r) (as := [(2, H.1 1 5), (2, 63), (0, r)]) rfl rfl rfl ⟨by have := hnow.1.1; omega, by decide, kp.1⟩ ?_
      refine hw_plbegin hm e (by show 4 ≤ e; omega) [(2, H.1 73 r), (2, H.1 1 5), (2, 63), (0, r)] H hT hX ⟨⟨rfl, H.1 73 r, by show H.1 73 r = 1 * H.1 73 r + 0; omega, hp⟩, ⟨rfl, H.1 1 5, by show H.1 1 5 = 1 * H.1 1 5 + 0; omega, hnow⟩, ⟨rfl, 0, by show (63 : Int) = 0 * 0 + 63; omega, trivial⟩, ⟨rfl, r, by show r = 1 * r + 0; omega, p1⟩, trivial⟩ (fun q hq => absurd hq List.not_mem_nil) _ (fun x H' hT' hX' hF' _ _ => ?_)
      refine q_al (pc := 27) (i := 2) (x := H.1 73 r) rfl rfl ?_
      refine q_ra (pc := 28) rfl (hQ _ H' hT' hX' (pn_sub (rule := r) (N := 0) (s := 0) (ttFr_rf _ _) hF') ⟨⟨hp.1.1, ?_⟩, hp.2⟩)
      have := hF'.2.1
      omega
  · refine q_al (pc := 5) (i := 0) (x := 1) rfl rfl ?_
    refine q_gf (pc := 6) (m := 11102) (t := 2) (c := 10) rfl k1.1 rfl rfl ?_
    rw [f73]
    refine q_il (pc := 7) (i := 1) (x := r) rfl rfl ?_
    refine q_nw (pc := 8) (c := 5) rfl ?_
    refine q_d2 (pc := 9) rfl ?_
    have hx1 := hX.1.1
    have hro : ttRo (H.2.2.2.1 : Int) = 210 := by
      have := pn_ro hx1 0 (by decide)
      rwa [show (H.2.2.2.1 : Int) + ((0 : Nat) : Int) = (H.2.2.2.1 : Int) by omega] at this
    have h0 := pn_0 H
    generalize hNg : (H.2.2.2.1 : Int) = N at hro h0
    refine q_ip (pc := 10) (q := 360407) (a := N) (as := []) rfl rfl rfl ?_ ?_
    · show (xNw H 5 0 15).2.1 N = 5
      exact h0.2.2.2.1.1
    obtain ⟨e2, rfl, he2⟩ := ttRun0 (n := 5) he
    refine pn_init (by omega) (by omega) (show pnI H (xNw H ((5 : Nat) : Int) 0 (xNs.getD 5 0)) N 0 0 from h0) (fun H2 h9 => ?_)
    have hfin := pn_fin hY (rule := r) (s := H.1 1 5) hNg.symm hT hX p1.1 (by omega) h4 hnow h9
    obtain ⟨g1, g2, g3, g4, g5, g6⟩ := h9
    have l1 := g3 1 (by omega)
    have l73 := g3 73 (by omega)
    refine q_sa (pc := 11) rfl (by decide) (by rw [l73.1, k73.1, g4.1]; rfl) (by rw [g4.1]; decide) (by omega) (by rw [l73.2.1, k73.2]; omega) ?_
    have f1 : ((xUp H2.1 73 r N, H2.2) : xH).1 1 10 = 73 := by
      show (if (1 : Int) = 73 ∧ (10 : Int) = r then N else H2.1 1 10) = 73
      rw [if_neg (by omega), l1.2.2 10, f73]
    have f2 : ((xUp H2.1 73 r N, H2.2) : xH).1 73 r = N := by
      show (if (73 : Int) = 73 ∧ r = r then N else H2.1 73 r) = N
      rw [if_pos ⟨rfl, rfl⟩]
    have f3 : ((xUp H2.1 73 r N, H2.2) : xH).1 N 9 = 0 := by
      show (if N = 73 ∧ (9 : Int) = r then N else H2.1 N 9) = 0
      rw [if_neg (by omega), g5 9, if_neg (by omega)]
    have f4 : ((xUp H2.1 73 r N, H2.2) : xH).1 1 5 = H.1 1 5 := by
      show (if (1 : Int) = 73 ∧ (5 : Int) = r then N else H2.1 1 5) = H.1 1 5
      rw [if_neg (by omega), l1.2.2 5]
    have f5 : ((xUp H2.1 73 r N, H2.2) : xH).1 1 9 = 63 := by
      show (if (1 : Int) = 73 ∧ (9 : Int) = r then N else H2.1 1 9) = 63
      rw [if_neg (by omega), l1.2.2 9, f63]
    refine q_al (pc := 12) (i := 0) (x := 1) rfl rfl ?_
    refine q_gf (pc := 13) (m := 11102) (t := 2) (c := 10) rfl (l1.1.trans k1.1) rfl rfl ?_
    rw [f1]
    refine q_il (pc := 14) (i := 1) (x := r) rfl rfl ?_
    refine q_aa (pc := 15) rfl (by show 24 ≤ H2.2.1 73; rw [l73.1, k73.1]; decide) (by omega) (by show r < H2.2.2.1 73; rw [l73.2.1, k73.2]; omega) ?_
    rw [f2]
    refine q_as (pc := 16) (i := 2) (L' := [(2, 1), (0, r), (2, N)]) rfl rfl rfl (by omega) ?_
    refine q_al (pc := 17) (i := 2) (x := N) rfl rfl ?_
    refine q_gf (pc := 18) (m := 5090) (t := 0) (c := 9) rfl g4.1 rfl rfl ?_
    rw [f3]
    refine q_if (pc := 19) rfl (fun h19 => absurd rfl h19) (fun h19 => ?_)
    refine q_al (pc := 20) (i := 2) (x := N) rfl rfl ?_
    refine q_al (pc := 21) (i := 0) (x := 1) rfl rfl ?_
    refine q_gf (pc := 22) (m := 11052) (t := 2) (c := 5) rfl (l1.1.trans k1.1) rfl rfl ?_
    rw [f4]
    refine q_al (pc := 23) (i := 0) (x := 1) rfl rfl ?_
    refine q_gf (pc := 24) (m := 11092) (t := 2) (c := 9) rfl (l1.1.trans k1.1) rfl rfl ?_
    rw [f5]
    refine q_il (pc := 25) (i := 1) (x := r) rfl rfl ?_
    refine q_iv (pc := 26) (q := 376419) (a := N) (as := [(2, H.1 1 5), (2, 63), (0, r)]) rfl rfl rfl ⟨by have := hnow.1.1; omega, by decide, g4.1⟩ ?_
    refine pn_begin hm (by omega) (Hm := (xUp H2.1 73 r N, H2.2)) g4.1 hro ⟨by omega, by show N < (H2.2.2.2.1 : Int); omega⟩ ⟨⟨hnow.1.1, by show H.1 1 5 < (H2.2.2.2.1 : Int); omega⟩, hnow.2⟩ p1 hfin.1 hfin.2.1 (fun x H' hT' hX' hF' => ?_)
    refine q_al (pc := 27) (i := 2) (x := N) rfl rfl ?_
    refine q_ra (pc := 28) rfl (hQ _ H' hT' hX' (pn_sub (rule := r) (N := 0) (s := 0) hfin.2.2 hF') ⟨⟨by omega, ?_⟩, hro⟩)
    have := hF'.2.1
    have : (H2.2.2.2.1 : Int) ≤ (H'.2.2.2.1 : Int) := by exact_mod_cast this
    omega
theorem hm_trialPlan {YY : xH → Prop} (hY : ttStab YY ttFY) (hm : ttM_0 (ttXX YY)) : ttHas (ttXX YY) m_trialPlan := by
  intro dd hdd vs H hT hX hargs hcells Q hQ
  obtain ⟨v0, vs, rfl, p0, hargs⟩ := ttV1 hargs
  cases ttV0 hargs
  cases ttPk p0
  obtain ⟨e, rfl, he⟩ := ttRun0 (n := 6) hdd
  have hN0 := hT.1
  have hQ : ∀ x H', ttTI H' → ttXX YY H' → ttFr m_planOf.2.2.2.2.2.2 H H' → ((1 ≤ x ∧ x < (H'.2.2.2.1 : Int)) ∧ ttRo x = 210) → Q x H' := fun x H' a b c q => hQ x H' a b c ⟨_, List.mem_singleton.mpr rfl, x, by show x = 1 * x + 0; omega, q⟩ (fun q hq => absurd hq List.not_mem_nil)
  have k1 := ttKc hT (a := 1) (κ := 11) (len := 0) ⟨rfl, rfl⟩ (by decide) (by decide)
  have k73 := ttKc hT (a := 73) (κ := 28) (len := 5) ⟨rfl, rfl⟩ (by decide) (by decide)
  have f73 : H.1 1 10 = 73 := ttFx hT (by decide) (by decide) rfl rfl rfl
  have f63 : H.1 1 9 = 63 := ttFx hT (by decide) (by decide) rfl rfl rfl
  have hnow := pn_now hT
  have hend : ∀ (H' : xH) (N : Int), ttTI H' → H'.1 73 4 = N → Q N H' → xW e cd_160 Q (22, [(2, 1)], [], H') := fun H' N hT' hz hq => by
    have k1' := ttKc hT' (a := 1) (κ := 11) (len := 0) ⟨rfl, rfl⟩ (by decide) (by decide)
    have k73' := ttKc hT' (a := 73) (κ := 28) (len := 5) ⟨rfl, rfl⟩ (by decide) (by decide)
    have f73' : H'.1 1 10 = 73 := ttFx hT' (by decide) (by decide) rfl rfl rfl
    refine q_al (pc := 22) (i := 0) (x := 1) rfl rfl ?_
    refine q_gf (pc := 23) (m := 11102) (t := 2) (c := 10) rfl k1'.1 rfl rfl ?_
    rw [f73']
    refine q_ic (pc := 24) (v := 4) rfl ?_
    refine q_aa (pc := 25) rfl (by rw [k73'.1]; decide) (by omega) (by rw [k73'.2]; omega) ?_
    rw [hz]
    exact q_ra (pc := 26) rfl hq
  have hkeep : ∀ (H2 H' : xH), (73 : Int) < (H2.2.2.2.1 : Int) → ttFr w_plbegin.2.2.2.2.2.2 H2 H' → H'.1 73 4 = H2.1 73 4 := fun H2 H' hl hF => hF.2.2.2 73 4 hl (fun q hq hh => by
    obtain ⟨⟨-, c2⟩, -⟩ := hh
    have hne : ∀ q ∈ w_plbegin.2.2.2.2.2.2.2, q.1 ≠ 73 := by decide
    exact hne q hq (c2.symm.trans rfl))
  refine xC_of (L := [(2, 1)]) (cd := cd_160) rfl rfl rfl ?_
  refine q_al (pc := 0) (i := 0) (x := 1) rfl rfl ?_
  refine q_gf (pc := 1) (m := 11102) (t := 2) (c := 10) rfl k1.1 rfl rfl ?_
  rw [f73]
  refine q_ic (pc := 2) (v := 4) rfl ?_
  refine q_aa (pc := 3) rfl (by rw [k73.1]; decide) (by omega) (by rw [k73.2]; omega) ?_
  refine q_nn (pc := 4) rfl (fun h4 => ?_) (fun h4 => ?_)
  · have hp : (1 ≤ H.1 73 4 ∧ H.1 73 4 < (H.2.2.2.1 : Int)) ∧ ttRo (H.1 73 4) = 210 := (pn_pl hT (r := 4) (by omega) (by omega)).resolve_left h4
    have kp := hT.2 _ hp.1.1 hp.1.2
    rw [hp.2] at kp
    refine q_al (pc := 12) (i := 0) (x := 1) rfl rfl ?_
    refine q_gf (pc := 13) (m := 11102) (t := 2) (c := 10) rfl k1.1 rfl rfl ?_
    rw [f73]
    refine q_ic (pc := 14) (v := 4) rfl ?_
    refine q_aa (pc := 15) rfl (by rw [k73.1]; decide) (by omega) (by rw [k73.2]; omega) ?_
    refine q_al (pc := 16) (i := 0) (x := 1) rfl rfl ?_
    refine q_gf (pc := 17) (m := 11052) (t := 2) (c := 5) rfl k1.1 rfl rfl ?_
    refine q_al (pc := 18) (i := 0) (x := 1) rfl rfl ?_
    refine q_gf (pc := 19) (m := 11092) (t := 2) (c := 9) rfl k1.1 rfl rfl ?_
    rw [f63]
    refine q_ic (pc := 20) (v := 0) rfl ?_
    refine q_iv (pc := 21) (q := 376419) (a := H.1 73 4) (as := [(2, H.1 1 5), (2, 63), (0, 0)]) rfl rfl rfl ⟨by have := hnow.1.1; omega, by decide, kp.1⟩ ?_
    refine hw_plbegin hm e (by show 4 ≤ e; omega) [(2, H.1 73 4), (2, H.1 1 5), (2, 63), (0, 0)] H hT hX ⟨⟨rfl, H.1 73 4, by show H.1 73 4 = 1 * H.1 73 4 + 0; omega, hp⟩, ⟨rfl, H.1 1 5, by show H.1 1 5 = 1 * H.1 1 5 + 0; omega, hnow⟩, ⟨rfl, 0, by show (63 : Int) = 0 * 0 + 63; omega, trivial⟩, ⟨rfl, 0, by show (0 : Int) = 1 * 0 + 0; omega, show (0 : Int) ≤ 0 ∧ (0 : Int) ≤ 3 by decide⟩, trivial⟩ (fun q hq => absurd hq List.not_mem_nil) _ (fun x H' hT' hX' hF' _ _ => ?_)
    have hn := hF'.2.1
    refine hend H' (H.1 73 4) hT' (hkeep H H' (by omega) hF') (hQ _ H' hT' hX' (pn_sub (rule := 4) (N := 0) (s := 0) (ttFr_rf _ _) hF') ⟨⟨hp.1.1, by omega⟩, hp.2⟩)
  · refine q_al (pc := 5) (i := 0) (x := 1) rfl rfl ?_
    refine q_gf (pc := 6) (m := 11102) (t := 2) (c := 10) rfl k1.1 rfl rfl ?_
    rw [f73]
    refine q_ic (pc := 7) (v := 4) rfl ?_
    refine q_nw (pc := 8) (c := 5) rfl ?_
    refine q_d2 (pc := 9) rfl ?_
    have hx1 := hX.1.1
    have hro : ttRo (H.2.2.2.1 : Int) = 210 := by
      have := pn_ro hx1 0 (by decide)
      rwa [show (H.2.2.2.1 : Int) + ((0 : Nat) : Int) = (H.2.2.2.1 : Int) by omega] at this
    have h0 := pn_0 H
    generalize hNg : (H.2.2.2.1 : Int) = N at hro h0
    refine q_ip (pc := 10) (q := 360407) (a := N) (as := []) rfl rfl rfl ?_ ?_
    · show (xNw H 5 0 15).2.1 N = 5
      exact h0.2.2.2.1.1
    obtain ⟨e2, rfl, he2⟩ := ttRun0 (n := 5) he
    refine pn_init (by omega) (by omega) (show pnI H (xNw H ((5 : Nat) : Int) 0 (xNs.getD 5 0)) N 0 0 from h0) (fun H2 h9 => ?_)
    have hfin := pn_fin hY (rule := 4) (s := H.1 1 5) hNg.symm hT hX (by decide) (by decide) h4 hnow h9
    obtain ⟨g1, g2, g3, g4, g5, g6⟩ := h9
    have l1 := g3 1 (by omega)
    have l73 := g3 73 (by omega)
    refine q_sa (pc := 11) rfl (by decide) (by rw [l73.1, k73.1, g4.1]; rfl) (by rw [g4.1]; decide) (by omega) (by rw [l73.2.1, k73.2]; omega) ?_
    have f1 : ((xUp H2.1 73 4 N, H2.2) : xH).1 1 10 = 73 := by
      show (if (1 : Int) = 73 ∧ (10 : Int) = 4 then N else H2.1 1 10) = 73
      rw [if_neg (by omega), l1.2.2 10, f73]
    have f2 : ((xUp H2.1 73 4 N, H2.2) : xH).1 73 4 = N := by
      show (if (73 : Int) = 73 ∧ (4 : Int) = 4 then N else H2.1 73 4) = N
      rw [if_pos ⟨rfl, rfl⟩]
    have f4 : ((xUp H2.1 73 4 N, H2.2) : xH).1 1 5 = H.1 1 5 := by
      show (if (1 : Int) = 73 ∧ (5 : Int) = 4 then N else H2.1 1 5) = H.1 1 5
      rw [if_neg (by omega), l1.2.2 5]
    have f5 : ((xUp H2.1 73 4 N, H2.2) : xH).1 1 9 = 63 := by
      show (if (1 : Int) = 73 ∧ (9 : Int) = 4 then N else H2.1 1 9) = 63
      rw [if_neg (by omega), l1.2.2 9, f63]
    refine q_al (pc := 12) (i := 0) (x := 1) rfl rfl ?_
    refine q_gf (pc := 13) (m := 11102) (t := 2) (c := 10) rfl (l1.1.trans k1.1) rfl rfl ?_
    rw [f1]
    refine q_ic (pc := 14) (v := 4) rfl ?_
    refine q_aa (pc := 15) rfl (by show 24 ≤ H2.2.1 73; rw [l73.1, k73.1]; decide) (by omega) (by show (4 : Int) < H2.2.2.1 73; rw [l73.2.1, k73.2]; omega) ?_
    rw [f2]
    refine q_al (pc := 16) (i := 0) (x := 1) rfl rfl ?_
    refine q_gf (pc := 17) (m := 11052) (t := 2) (c := 5) rfl (l1.1.trans k1.1) rfl rfl ?_
    rw [f4]
    refine q_al (pc := 18) (i := 0) (x := 1) rfl rfl ?_
    refine q_gf (pc := 19) (m := 11092) (t := 2) (c := 9) rfl (l1.1.trans k1.1) rfl rfl ?_
    rw [f5]
    refine q_ic (pc := 20) (v := 0) rfl ?_
    refine q_iv (pc := 21) (q := 376419) (a := N) (as := [(2, H.1 1 5), (2, 63), (0, 0)]) rfl rfl rfl ⟨by have := hnow.1.1; omega, by decide, g4.1⟩ ?_
    refine pn_begin hm (by omega) (Hm := (xUp H2.1 73 4 N, H2.2)) g4.1 hro ⟨by omega, by show N < (H2.2.2.2.1 : Int); omega⟩ ⟨⟨hnow.1.1, by show H.1 1 5 < (H2.2.2.2.1 : Int); omega⟩, hnow.2⟩ (show (0 : Int) ≤ 0 ∧ (0 : Int) ≤ 3 by decide) hfin.1 hfin.2.1 (fun x H' hT' hX' hF' => ?_)
    have hn := hF'.2.1
    have hn2 : (H2.2.2.2.1 : Int) ≤ (H'.2.2.2.1 : Int) := by exact_mod_cast hn
    refine hend H' N hT' ((hkeep _ H' (by show (73 : Int) < (H2.2.2.2.1 : Int); omega) hF').trans ?_) (hQ _ H' hT' hX' (pn_sub (rule := 4) (N := 0) (s := 0) hfin.2.2 hF') ⟨⟨by omega, by omega⟩, hro⟩)
    show (if (73 : Int) = N ∧ (4 : Int) = 11 then (63 : Int) else if (73 : Int) = N ∧ (4 : Int) = 10 then H.1 1 5 else if (73 : Int) = 73 ∧ (4 : Int) = 4 then N else H2.1 73 4) = N
    rw [if_neg (by omega), if_neg (by omega), if_pos ⟨rfl, rfl⟩]
