/-! calls of the plain machine; a run has one end alone, and its room only grows -/
def xCall : Nat → Nat → List xV → xH → (Int → xH → Prop) → Prop
  | 0, _, _, _, _ => False
  | d + 1, j, as, H, Q => Nat.ble (xFlat as).length (xM j).2.2.1 = true ∧ ∃ n, xWp d (xCall d) (xCode j) Q n 0 (xEntry (xM j).2.2.1 as) [] H
def xLe (H H' : xH) : Prop := H.2.2.2.1 ≤ H'.2.2.2.1 ∧ H.2.2.2.2 ≤ H'.2.2.2.2
theorem xLe_rf (H : xH) : xLe H H := ⟨Nat.le_refl _, Nat.le_refl _⟩
theorem xLe_tr {H H' H2 : xH} (h : xLe H H') (h2 : xLe H' H2) : xLe H H2 := ⟨Nat.le_trans h.1 h2.1, Nat.le_trans h.2 h2.2⟩
def xMono (H : xH) : xO → Prop
  | .inl s => xLe H s.2.2.2
  | .inr (.inl (p, s)) => p → xLe H s.2.2.2
  | .inr (.inr (.inl (_, _, _, s, t))) => xLe H s.2.2.2 ∧ xLe H t.2.2.2
  | .inr (.inr (.inr (.inl (_, _, _, H', f)))) => H' = H ∧ ∀ x H2, (f x H2).2.2.2 = H2
  | .inr (.inr (.inr (.inr (.inl (_, _, H'))))) => H' = H
  | .inr (.inr (.inr (.inr (.inr (_, _, ts, t))))) => (∀ u ∈ ts, xLe H u.2.2.2) ∧ xLe H t.2.2.2
theorem xMono_bad {H : xH} (s : xS) : xMono H (xBad s) := fun h => absurd h id
theorem xMono_B1 {H : xH} {s : xS} {st : List xV} {f : Int → List xV → xO} (h : ∀ x r, xMono H (f x r)) : xMono H (xB1 s st f) := by
  unfold xB1; split
  · exact h _ _
  · exact xMono_bad s
theorem xMono_B2 {H : xH} {s : xS} {st : List xV} {f : Int → Int → List xV → xO} (h : ∀ x y r, xMono H (f x y r)) : xMono H (xB2 s st f) := by
  unfold xB2; split
  · exact h _ _ _
  · exact xMono_bad s
theorem xMono_J1 {H : xH} {s : xS} {st : List xV} {f : Int → List xV → xO} (h : ∀ x r, xMono H (f x r)) : xMono H (xJ1 s st f) := by
  unfold xJ1; split
  · exact h _ _
  · exact xMono_bad s
theorem xMono_J2 {H : xH} {s : xS} {st : List xV} {f : Int → Int → List xV → xO} (h : ∀ x y r, xMono H (f x y r)) : xMono H (xJ2 s st f) := by
  unfold xJ2; split
  · exact h _ _ _
  · exact xMono_bad s
theorem xMono_Ji {H : xH} {s : xS} {st : List xV} {f : Int → Int → List xV → xO} (h : ∀ x y r, xMono H (f x y r)) : xMono H (xJi s st f) := by
  unfold xJi; split
  · exact h _ _ _
  · exact xMono_bad s
theorem xMono_R1 {H : xH} {s : xS} {st : List xV} {f : Int → List xV → xO} (h : ∀ x r, xMono H (f x r)) : xMono H (xR1 s st f) := by
  unfold xR1; split
  · exact h _ _
  · exact xMono_bad s
theorem xMono_A2 {H : xH} {s : xS} {st : List xV} {f : Int → Int → List xV → xO} (h : ∀ x y r, xMono H (f x y r)) : xMono H (xA2 s st f) := by
  unfold xA2; split
  · exact h _ _ _
  · exact xMono_bad s
theorem xMono_A3 {H : xH} {s : xS} {t : Nat} {st : List xV} {f : Int → Int → Int → List xV → xO} (h : ∀ x y z r, xMono H (f x y z r)) : xMono H (xA3 s t st f) := by
  unfold xA3; split
  · split
    · exact h _ _ _ _
    · exact xMono_bad s
  · exact xMono_bad s
theorem xMono_Lo {H : xH} {L : List xV} {i t : Nat} {s : xS} {f : xV → xO} (h : ∀ v, xMono H (f v)) : xMono H (xLo L i t s f) := by
  unfold xLo
  split
  split
  · exact h _
  · exact xMono_bad s
theorem xMono_If {H : xH} {b : Bool} {x y : xO} (h : xMono H x) (h2 : xMono H y) : xMono H (xIf b x y) := by
  cases b
  · exact h2
  · exact h
theorem xLe_D (H : xH) (D : xD) : xLe H (D, H.2) := ⟨Nat.le_refl _, Nat.le_refl _⟩
theorem xLe_Nw (H : xH) (κ n : Int) (ns : Nat) : xLe H (xNw H κ n ns) := ⟨Nat.le_succ _, Nat.le_add_right _ _⟩
theorem xLe_Nm (H : xH) (l m : Int) : xLe H (xNm H l m) := ⟨by show H.2.2.2.1 ≤ H.2.2.2.1 + 1 + l.toNat; omega, Nat.le_add_right _ _⟩
theorem xMono_nx {H : xH} {a : Nat} {b f : List xV} : xMono H (xNx (a, b, f, H)) := xLe_rf H
theorem xMono_nw {H : xH} {a : Nat} {b f : List xV} {κ n : Int} {ns : Nat} : xMono H (xNx (a, b, f, xNw H κ n ns)) := xLe_Nw _ _ _ _
theorem xMono_ck {H : xH} {a : Nat} {b f : List xV} {p : Prop} : xMono H (xCk p (a, b, f, H)) := fun _ => xLe_rf H
theorem xMono_ckD {H : xH} {a : Nat} {b f : List xV} {p : Prop} {D : xD} : xMono H (xCk p (a, b, f, (D, H.2))) := fun _ => xLe_D H D
theorem xMono_ckw {H : xH} {a : Nat} {b f : List xV} {p : Prop} {κ n : Int} {ns : Nat} : xMono H (xCk p (a, b, f, xNw H κ n ns)) := fun _ => xLe_Nw _ _ _ _
theorem xMono_ckm {H : xH} {a : Nat} {b f : List xV} {p : Prop} {l n : Int} : xMono H (xCk p (a, b, f, xNm H l n)) := fun _ => xLe_Nm _ _ _
theorem xMono_br {H : xH} {a a' : Nat} {b f b' f' : List xV} {c : ClassFile.Cond} {x y : Int} : xMono H (xBr c x y (a, b, f, H) (a', b', f', H)) := ⟨xLe_rf H, xLe_rf H⟩
theorem xMono_sw {H : xH} {a : Nat} {b f : List xV} {x lo : Int} {ts : List Int} : xMono H (xSwt x lo (ts.map fun u => (u.toNat, b, f, H)) (a, b, f, H)) := ⟨fun u hu => by obtain ⟨z, -, rfl⟩ := List.mem_map.mp hu; exact xLe_rf _, xLe_rf H⟩
theorem xMono_cl {H : xH} {p : Prop} {j : Nat} {as : List xV} {a : Nat} {b : List xV} {g : Int → List xV} : xMono H (xCl4 p j as H fun x H2 => (a, b, g x, H2)) := ⟨rfl, fun _ _ => rfl⟩
theorem xMono_rt {H : xH} {p : Prop} {x : Int} : xMono H (xRt p x H) := rfl
set_option maxHeartbeats 4000000 in
theorem xNext_mono (d : Nat) (i : Instr) (pc : Nat) (L st : List xV) (H : xH) : xMono H (xNext d i pc L st H) := by
  cases i <;> simp only [xNext]
  all_goals first
    | exact xMono_bad _
    | exact xMono_nx
    | exact xMono_nw
    | exact xMono_B1 (fun x r => xMono_nx)
    | exact xMono_B1 (fun x r => xMono_ckw)
    | exact xMono_B1 (fun x r => xMono_br)
    | exact xMono_B1 (fun x r => xMono_sw)
    | exact xMono_B1 (fun x r => xMono_If xMono_nx (xMono_bad _))
    | exact xMono_B2 (fun x y r => xMono_nx)
    | exact xMono_B2 (fun x y r => xMono_ck)
    | exact xMono_B2 (fun x y r => xMono_br)
    | exact xMono_B2 (fun x y r => xMono_If xMono_ck (xMono_bad _))
    | exact xMono_B2 (fun x y r => xMono_ckm)
    | exact xMono_J1 (fun x r => xMono_nx)
    | exact xMono_J1 (fun x r => xMono_If xMono_nx (xMono_bad _))
    | exact xMono_J2 (fun x y r => xMono_nx)
    | exact xMono_J2 (fun x y r => xMono_ck)
    | exact xMono_Ji (fun x y r => xMono_nx)
    | exact xMono_Lo (fun v => xMono_nx)
    | exact xMono_Lo (fun v => xMono_If xMono_nx (xMono_bad _))
    | exact xMono_R1 (fun x r => xMono_If xMono_ck (xMono_bad _))
    | exact xMono_R1 (fun x r => xMono_ck)
    | exact xMono_R1 (fun x r => xMono_br)
    | exact xMono_A2 (fun x y r => xMono_nx)
    | exact xMono_A2 (fun x y r => xMono_ck)
    | exact xMono_A3 (fun x y z r => xMono_ckD)
    | (split
       all_goals first
         | exact xMono_bad _
         | exact xMono_nx
         | exact xMono_ck
         | exact xMono_ckD
         | exact xMono_If xMono_ck (xMono_bad _)
         | exact xMono_If xMono_ckD (xMono_bad _)
         | exact xMono_cl
         | exact xMono_rt)
theorem xSw_imp {k k' : xS → Prop} {x : Int} : ∀ {lo : Int} {ts : List xS}, (∀ u ∈ ts, k u → k' u) → xSw k x lo ts → xSw k' x lo ts
  | _, [], _, _ => trivial
  | lo, u :: ts, h, ⟨h1, h2⟩ => ⟨fun e => h u List.mem_cons_self (h1 e), xSw_imp (fun v hv => h v (List.mem_cons_of_mem _ hv)) h2⟩
theorem xSw_no {k : xS → Prop} {x : Int} : ∀ {lo : Int} {ts : List xS}, (x < lo ∨ lo + (ts.length : Int) ≤ x) → xSw k x lo ts
  | _, [], _ => trivial
  | lo, u :: ts, h => by
    have hl : ((u :: ts).length : Int) = (ts.length : Int) + 1 := by simp
    rw [hl] at h
    exact ⟨fun e => by omega, xSw_no (by omega)⟩
theorem xSw_one {k : xS → Prop} {x : Int} : ∀ {lo : Int} {ts : List xS} (j : Nat) (u : xS), ts[j]? = some u → x = lo + (j : Int) → k u → xSw k x lo ts
  | _, [], j, u, h, _, _ => trivial
  | lo, w :: ts, 0, u, h, e, hk => by
    simp at h
    subst h
    exact ⟨fun _ => hk, xSw_no (by omega)⟩
  | lo, w :: ts, j + 1, u, h, e, hk => ⟨fun q => by omega, xSw_one j u (by simpa using h) (by omega) hk⟩
theorem xSw_get {k : xS → Prop} {x : Int} : ∀ {lo : Int} {ts : List xS} (j : Nat) (u : xS), ts[j]? = some u → x = lo + (j : Int) → xSw k x lo ts → k u
  | _, [], j, u, h, _, _ => by simp at h
  | lo, w :: ts, 0, u, h, e, ⟨h1, _⟩ => by
    simp at h
    subst h
    exact h1 (by omega)
  | lo, w :: ts, j + 1, u, h, e, ⟨_, h2⟩ => xSw_get j u (by simpa using h) (by omega) h2
/-- of a call: one end, room that only grows -/
def xDet (call : xCallT) : Prop := ∀ j as H F, call j as H F → ∃ r H', F r H' ∧ xLe H H' ∧ call j as H (fun r2 H2 => r2 = r ∧ H2 = H')
def xMon (call : xCallT) : Prop := ∀ (j : Nat) (as : List xV) (H : xH) (F F' : Int → xH → Prop), (∀ r H2, F r H2 → F' r H2) → call j as H F → call j as H F'
theorem xGo_mono {call : xCallT} (hc : xMon call) {k k' : xS → Prop} {Q Q' : Int → xH → Prop} (hk : ∀ s, k s → k' s) (hQ : ∀ r H, Q r H → Q' r H) : ∀ o : xO, xGo call k Q o → xGo call k' Q' o
  | .inl s, h => hk s h
  | .inr (.inl (p, s)), h => ⟨h.1, hk s h.2⟩
  | .inr (.inr (.inl (c, x, y, s, t))), h => ⟨fun q => hk s (h.1 q), fun q => hk t (h.2 q)⟩
  | .inr (.inr (.inr (.inl (p, j, as, H, f)))), h => ⟨h.1, hc j as H _ _ (fun r H2 q => hk _ q) h.2⟩
  | .inr (.inr (.inr (.inr (.inl (p, x, H))))), h => ⟨h.1, hQ x H h.2⟩
  | .inr (.inr (.inr (.inr (.inr (x, lo, ts, t))))), h => ⟨xSw_imp (fun u _ => hk u) h.1, fun q => hk t (h.2 q)⟩
theorem xWp_mono {d : Nat} {call : xCallT} (hc : xMon call) {code : List Instr} {Q Q' : Int → xH → Prop} (hQ : ∀ r H, Q r H → Q' r H) : ∀ (n pc : Nat) (L st : List xV) (H : xH), xWp d call code Q n pc L st H → xWp d call code Q' n pc L st H
  | 0, _, _, _, _, h => absurd h id
  | n + 1, pc, L, st, H, h => xGo_mono hc (fun s q => xWp_mono hc hQ n s.1 s.2.1 s.2.2.1 s.2.2.2 q) hQ _ h
theorem xWp_up {d : Nat} {call : xCallT} (hc : xMon call) {code : List Instr} {Q : Int → xH → Prop} : ∀ (n pc : Nat) (L st : List xV) (H : xH), xWp d call code Q n pc L st H → xWp d call code Q (n + 1) pc L st H
  | 0, _, _, _, _, h => absurd h id
  | n + 1, pc, L, st, H, h => xGo_mono hc (fun s q => xWp_up hc n s.1 s.2.1 s.2.2.1 s.2.2.2 q) (fun _ _ q => q) _ h
theorem xWp_le {d : Nat} {call : xCallT} (hc : xMon call) {code : List Instr} {Q : Int → xH → Prop} {n n' pc : Nat} {L st : List xV} {H : xH} (hn : n ≤ n') (h : xWp d call code Q n pc L st H) : xWp d call code Q n' pc L st H := by
  induction hn with
  | refl => exact h
  | step _ ih => exact xWp_up hc _ _ _ _ _ ih
theorem xWp_det {d : Nat} {call : xCallT} (hc : xMon call) (hd : xDet call) {code : List Instr} {Q : Int → xH → Prop} : ∀ (n pc : Nat) (L st : List xV) (H : xH), xWp d call code Q n pc L st H → ∃ r H', Q r H' ∧ xLe H H' ∧ xWp d call code (fun r2 H2 => r2 = r ∧ H2 = H') n pc L st H := by
  intro n
  induction n with
  | zero => intro pc L st H h; exact absurd h id
  | succ n ih =>
    intro pc L st H h
    have hm := xNext_mono d (code.getD pc .nop) pc L st H
    have step : ∀ o : xO, xMono H o → xGo call (fun s => xWp d call code Q n s.1 s.2.1 s.2.2.1 s.2.2.2) Q o → ∃ r H', Q r H' ∧ xLe H H' ∧ xGo call (fun s => xWp d call code (fun r2 H2 => r2 = r ∧ H2 = H') n s.1 s.2.1 s.2.2.1 s.2.2.2) (fun r2 H2 => r2 = r ∧ H2 = H') o := by
      intro o hm h
      match o, hm, h with
      | .inl s, hm, h =>
        obtain ⟨r, H', q1, q2, q3⟩ := ih _ _ _ _ h
        exact ⟨r, H', q1, xLe_tr hm q2, q3⟩
      | .inr (.inl (p, s)), hm, h =>
        obtain ⟨r, H', q1, q2, q3⟩ := ih _ _ _ _ h.2
        exact ⟨r, H', q1, xLe_tr (hm h.1) q2, h.1, q3⟩
      | .inr (.inr (.inl (c, x, y, s, t))), hm, h =>
        rcases xT_or c x y with q | q
        · obtain ⟨r, H', q1, q2, q3⟩ := ih _ _ _ _ (h.1 q)
          exact ⟨r, H', q1, xLe_tr hm.1 q2, fun _ => q3, fun z => absurd ⟨q, z⟩ (xT_not c x y)⟩
        · obtain ⟨r, H', q1, q2, q3⟩ := ih _ _ _ _ (h.2 q)
          exact ⟨r, H', q1, xLe_tr hm.2 q2, fun z => absurd ⟨z, q⟩ (xT_not c x y), fun _ => q3⟩
      | .inr (.inr (.inr (.inl (p, j, as, H1, f)))), hm, h =>
        obtain ⟨e1, hf⟩ := hm
        have h4 : call j as H1 (fun x H2 => xWp d call code Q n (f x H2).1 (f x H2).2.1 (f x H2).2.2.1 (f x H2).2.2.2) := h.2
        obtain ⟨r1, M1, q1, q2, q3⟩ := hd j as H1 _ h4
        have q1 : xWp d call code Q n (f r1 M1).1 (f r1 M1).2.1 (f r1 M1).2.2.1 (f r1 M1).2.2.2 := q1
        obtain ⟨r, H', k1, k2, k3⟩ := ih _ _ _ _ q1
        rw [hf r1 M1] at k2
        refine ⟨r, H', k1, by rw [← e1]; exact xLe_tr q2 k2, h.1, hc j as H1 _ _ (fun r2 H2 z => ?_) q3⟩
        rw [z.1, z.2]
        exact k3
      | .inr (.inr (.inr (.inr (.inl (p, x, H1))))), hm, h =>
        have hm : H1 = H := hm
        exact ⟨x, H1, h.2, by rw [hm]; exact xLe_rf _, h.1, rfl, rfl⟩
      | .inr (.inr (.inr (.inr (.inr (x, lo, ts, t))))), hm, h =>
        by_cases q : x < lo ∨ lo + (ts.length : Int) ≤ x
        · obtain ⟨r, H', q1, q2, q3⟩ := ih _ _ _ _ (h.2 q)
          exact ⟨r, H', q1, xLe_tr hm.2 q2, xSw_no q, fun _ => q3⟩
        · have hl : (x - lo).toNat < ts.length := by omega
          have hu : ts[(x - lo).toNat]? = some (ts[(x - lo).toNat]) := List.getElem?_eq_getElem hl
          obtain ⟨r, H', q1, q2, q3⟩ := ih _ _ _ _ (xSw_get _ _ hu (by omega) h.1)
          exact ⟨r, H', q1, xLe_tr (hm.1 _ (List.mem_of_getElem? hu)) q2, xSw_one _ _ hu (by omega) q3, fun z => absurd z q⟩
    exact step _ hm h
theorem xCall_md : ∀ d : Nat, xMon (xCall d) ∧ xDet (xCall d)
  | 0 => ⟨fun _ _ _ _ _ _ h => absurd h id, fun _ _ _ _ h => absurd h id⟩
  | d + 1 => by
    obtain ⟨hm, hd⟩ := xCall_md d
    refine ⟨fun j as H F F' hF h => ?_, fun j as H F h => ?_⟩
    · obtain ⟨hb, n, h⟩ := h
      exact ⟨hb, n, xWp_mono hm hF n _ _ _ _ h⟩
    · obtain ⟨hb, n, h⟩ := h
      obtain ⟨r, H', q1, q2, q3⟩ := xWp_det hm hd n _ _ _ _ h
      exact ⟨r, H', q1, q2, hb, n, q3⟩
