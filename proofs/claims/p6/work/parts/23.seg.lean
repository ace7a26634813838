/-! runs without a count: xW; a stretch between cuts at once -/
def xW (d : Nat) (cd : List Instr) (Q : Int → xH → Prop) (S : xS) : Prop := ∃ n, xWp d (xCall d) cd Q n S.1 S.2.1 S.2.2.1 S.2.2.2
theorem xW_up {d : Nat} {cd : List Instr} {Q : Int → xH → Prop} {S : xS} {n n' : Nat} (hn : n ≤ n') (h : xWp d (xCall d) cd Q n S.1 S.2.1 S.2.2.1 S.2.2.2) : xWp d (xCall d) cd Q n' S.1 S.2.1 S.2.2.1 S.2.2.2 := xWp_le (xCall_md d).1 hn h
theorem xGo_ex {d : Nat} {cd : List Instr} {Q : Int → xH → Prop} : ∀ o : xO, xGo (xCall d) (xW d cd Q) Q o → ∃ n, xGo (xCall d) (fun S => xWp d (xCall d) cd Q n S.1 S.2.1 S.2.2.1 S.2.2.2) Q o
  | .inl s, h => h
  | .inr (.inl (p, s)), h => by
    obtain ⟨n, hn⟩ := h.2
    exact ⟨n, h.1, hn⟩
  | .inr (.inr (.inl (c, x, y, s, t))), h => by
    rcases xT_or c x y with q | q
    · obtain ⟨n, hn⟩ := h.1 q
      exact ⟨n, fun _ => hn, fun z => absurd ⟨q, z⟩ (xT_not c x y)⟩
    · obtain ⟨n, hn⟩ := h.2 q
      exact ⟨n, fun z => absurd ⟨z, q⟩ (xT_not c x y), fun _ => hn⟩
  | .inr (.inr (.inr (.inl (p, j, as, H, f)))), h => by
    obtain ⟨h1, h2⟩ := h
    obtain ⟨r, H', ⟨n, hn⟩, -, q⟩ := (xCall_md d).2 _ _ _ _ h2
    refine ⟨n, h1, (xCall_md d).1 _ _ _ _ _ (fun r2 H2 e => ?_) q⟩
    rw [e.1, e.2]
    exact hn
  | .inr (.inr (.inr (.inr (.inl (p, x, H))))), h => ⟨0, h⟩
  | .inr (.inr (.inr (.inr (.inr (x, lo, ts, t))))), h => by
    by_cases q : x < lo ∨ lo + (ts.length : Int) ≤ x
    · obtain ⟨n, hn⟩ := h.2 q
      exact ⟨n, xSw_no q, fun _ => hn⟩
    · have hl : (x - lo).toNat < ts.length := by omega
      have hu : ts[(x - lo).toNat]? = some (ts[(x - lo).toNat]) := List.getElem?_eq_getElem hl
      obtain ⟨n, hn⟩ := xSw_get _ _ hu (by omega) h.1
      exact ⟨n, xSw_one _ _ hu (by omega) hn, fun z => absurd z q⟩
theorem xW_step {d : Nat} {cd : List Instr} {Q : Int → xH → Prop} {pc : Nat} {L st : List xV} {M : xH} (h : xGo (xCall d) (xW d cd Q) Q (xNext d (cd.getD pc .nop) pc L st M)) : xW d cd Q (pc, L, st, M) := by
  obtain ⟨n, hn⟩ := xGo_ex _ h
  exact ⟨n + 1, hn⟩
/-- k instructions at most, up to a cut -/
def xWc (d : Nat) (cd : List Instr) (Q : Int → xH → Prop) (cuts : List Nat) : Nat → Nat → List xV → List xV → xH → Prop
  | 0, pc, L, st, M => xW d cd Q (pc, L, st, M)
  | k + 1, pc, L, st, M => xGo (xCall d) (fun S => match cuts.contains S.1 with | true => xW d cd Q S | false => xWc d cd Q cuts k S.1 S.2.1 S.2.2.1 S.2.2.2) Q (xNext d (cd.getD pc .nop) pc L st M)
theorem xWc_ok {d : Nat} {cd : List Instr} {Q : Int → xH → Prop} (cuts : List Nat) : ∀ (k : Nat) {pc : Nat} {L st : List xV} {M : xH}, xWc d cd Q cuts k pc L st M → xW d cd Q (pc, L, st, M)
  | 0, _, _, _, _, h => h
  | k + 1, pc, L, st, M, h => xW_step (xGo_mono (xCall_md d).1 (fun S hS => by
      have hS : (match cuts.contains S.1 with | true => xW d cd Q S | false => xWc d cd Q cuts k S.1 S.2.1 S.2.2.1 S.2.2.2) := hS
      split at hS
      · exact hS
      · exact xWc_ok cuts k hS) (fun _ _ q => q) _ h)
theorem xC_of {d j : Nat} {as : List xV} {M : xH} {Q : Int → xH → Prop} {L : List xV} {cd : List Instr} (hb : Nat.ble (xFlat as).length (xM j).2.2.1 = true) (hc : xCode j = cd) (hL : xEntry (xM j).2.2.1 as = L) (h : xW d cd Q (0, L, [], M)) : xCall (d + 1) j as M Q := by
  subst hc
  subst hL
  exact ⟨hb, h⟩
theorem xC_mono {d j : Nat} {as : List xV} {M : xH} {Q Q' : Int → xH → Prop} (h : xCall d j as M Q) (hQ : ∀ r H, Q r H → Q' r H) : xCall d j as M Q' := (xCall_md d).1 _ _ _ _ _ hQ h
