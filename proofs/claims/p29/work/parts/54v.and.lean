/-! two facts of one call -/
def xBo (call : xCallT) : Prop := ∀ j as H F G, call j as H F → call j as H G → ∃ r K, F r K ∧ G r K
theorem xWp_both {d : Nat} {call : xCallT} (hb : xBo call) {code : List Instr} {Q1 Q2 : Int → xH → Prop} : ∀ (n n2 pc : Nat) (L st : List xV) (H : xH), xWp d call code Q1 n pc L st H → xWp d call code Q2 n2 pc L st H → ∃ r K, Q1 r K ∧ Q2 r K := by
  intro n
  induction n with
  | zero => intro n2 pc L st H h _; exact absurd h id
  | succ n ih =>
    intro n2 pc L st H h g
    cases n2 with
    | zero => exact absurd g id
    | succ n2 =>
      have step : ∀ o : xO, xGo call (fun s => xWp d call code Q1 n s.1 s.2.1 s.2.2.1 s.2.2.2) Q1 o → xGo call (fun s => xWp d call code Q2 n2 s.1 s.2.1 s.2.2.1 s.2.2.2) Q2 o → ∃ r K, Q1 r K ∧ Q2 r K := by
        intro o h g
        match o, h, g with
        | .inl s, h, g => exact ih _ _ _ _ _ h g
        | .inr (.inl (p, s)), h, g => exact ih _ _ _ _ _ h.2 g.2
        | .inr (.inr (.inl (c, x, y, s, t))), h, g =>
          rcases xT_or c x y with q | q
          · exact ih _ _ _ _ _ (h.1 q) (g.1 q)
          · exact ih _ _ _ _ _ (h.2 q) (g.2 q)
        | .inr (.inr (.inr (.inl (p, j, as, H1, f)))), h, g =>
          have h4 : call j as H1 (fun x H2 => xWp d call code Q1 n (f x H2).1 (f x H2).2.1 (f x H2).2.2.1 (f x H2).2.2.2) := h.2
          have g4 : call j as H1 (fun x H2 => xWp d call code Q2 n2 (f x H2).1 (f x H2).2.1 (f x H2).2.2.1 (f x H2).2.2.2) := g.2
          obtain ⟨r, K, q1, q2⟩ := hb j as H1 _ _ h4 g4
          exact ih _ _ _ _ _ q1 q2
        | .inr (.inr (.inr (.inr (.inl (p, x, H1))))), h, g => exact ⟨x, H1, h.2, g.2⟩
        | .inr (.inr (.inr (.inr (.inr (x, lo, ts, t))))), h, g =>
          by_cases q : x < lo ∨ lo + (ts.length : Int) ≤ x
          · exact ih _ _ _ _ _ (h.2 q) (g.2 q)
          · have hl : (x - lo).toNat < ts.length := by omega
            have hu : ts[(x - lo).toNat]? = some (ts[(x - lo).toNat]) := List.getElem?_eq_getElem hl
            exact ih _ _ _ _ _ (xSw_get _ _ hu (by omega) h.1) (xSw_get _ _ hu (by omega) g.1)
      exact step _ h g
theorem xCall_both : ∀ d : Nat, xBo (xCall d)
  | 0 => fun _ _ _ _ _ h _ => absurd h id
  | d + 1 => fun j as H F G h g => by
    obtain ⟨_, n, h⟩ := h
    obtain ⟨_, m, g⟩ := g
    exact xWp_both (xCall_both d) n m _ _ _ _ h g
theorem xCall_and {d j : Nat} {as : List xV} {H : xH} {F G Q : Int → xH → Prop} (h : xCall d j as H F) (g : xCall d j as H G) (hq : ∀ r K, F r K → G r K → Q r K) : xCall d j as H Q := by
  obtain ⟨r, K, k1, -, k3⟩ := (xCall_md d).2 _ _ _ _ h
  obtain ⟨ujr2, ujK2, ⟨rfl, rfl⟩, k4⟩ := xCall_both d _ _ _ _ _ k3 g
  exact (xCall_md d).1 _ _ _ _ _ (fun x M z => by rw [z.1, z.2]; exact hq _ _ k1 k4) k3
