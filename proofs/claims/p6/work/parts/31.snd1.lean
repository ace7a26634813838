/-! soundness of the run: places, contracts -/
theorem ttFr_D {r : Nat} {l h : Int} {H : xH} {D : xD} (hd : ∀ b k : Int, D b k ≠ H.1 b k → ttHit (r, l, h) b k) : ttFr (true, [(r, l, h)]) H (D, H.2) := by
  refine ⟨fun _ => rfl, Nat.le_refl _, fun _ _ => ⟨rfl, rfl⟩, fun b k hb hq => ?_⟩
  by_cases e : D b k = H.1 b k
  · exact e
  · exact absurd (hd b k e) (hq _ (List.mem_singleton.mpr rfl))
/-- a write of some places of one role -/
theorem ttW_ok {XX : xH → Prop} {ev : ttEv} {H0 H : xH} {X : ttX} {ρ : Nat → Int} {r : Nat} {l h : Int} {D : xD} {v : Option yyN} (hJ : ttJ XX ev H0 H) (hO : ttOut XX ev.2.2) (hS : ttSat H X ρ) (hk : ttWk ev X r l h v = true) (hd : ∀ b k : Int, D b k ≠ H.1 b k → ttHit (r, l, h) b k ∧ ∀ w, v = some w → D b k = yyG ρ w) (hT : ttTI (D, H.2)) : ttJ XX ev H0 (D, H.2) ∧ ttSat (D, H.2) (ttXk X [(r, l, h)]) ρ := by
  obtain ⟨k1, k2⟩ := zz_and hk
  have hF := ttFr_D (fun b k e => (hd b k e).1)
  refine ⟨⟨hT, hO H D hJ.2.1 (fun a j ha => ?_) (fun q hq a j hh => ?_), ttFr_tr hJ.2.2 hF (fun _ => rfl) ?_⟩, ttSat_fr hJ.1 hS hF⟩
  · by_cases e : D a j = H.1 a j
    · exact e
    · obtain ⟨⟨⟨c1, -⟩, -⟩, -⟩ := hd a j e
      omega
  · by_cases e : D a j = H.1 a j
    · exact Or.inl e
    · right
      obtain ⟨⟨⟨c1, c2⟩, c3, c4⟩, c5⟩ := hd a j e
      obtain ⟨⟨-, d2⟩, d3, d4⟩ := hh
      have c2 : ttRo a = r := c2
      have c3 : l ≤ j := c3
      have c4 : j ≤ h := c4
      have z := List.all_eq_true.mp k2 q hq
      have z1 : Nat.beq q.1.1 r = true := by rw [← d2, c2]; exact Nat.beq_refl _
      have z2 : zzLe q.1.2.1 h = true := zzLe_iff.mpr (by omega)
      have z3 : zzLe l q.1.2.2 = true := zzLe_iff.mpr (by omega)
      rw [z1, z2, z3] at z
      rcases Bool.or_eq_true _ _ ▸ z with z | z
      · cases z
      obtain ⟨y1, y2⟩ := zz_and z
      cases v with
      | none => cases y2
      | some w =>
        obtain ⟨x1, x2, y2, x3, x4⟩ := ttBd_ok hS y2
        obtain ⟨y3, y4⟩ := zz_and y2
        have y3 := zzEq_ok y3
        have y4 := zzEq_ok y4
        exact ⟨y1, by rw [c5 w rfl]; omega⟩
  · exact List.all_eq_true.mpr (fun q hq => by rw [List.mem_singleton.mp hq]; exact k1)
theorem ttW1_ok {XX : xH → Prop} {ev : ttEv} {H0 H : xH} {X : ttX} {ρ : Nat → Int} {r : Nat} {l h : Int} {a j v : yyN} {f : ttX → Bool} (hJ : ttJ XX ev H0 H) (hO : ttOut XX ev.2.2) (hS : ttSat H X ρ) (hk : ttWk ev X r l h (some v) = true) (ha : ttW X.1 a) (hj : ttW X.1 j) (hv : ttW X.1 v) (h1 : 1 ≤ yyG ρ a) (hr : ttRo (yyG ρ a) = r) (h2 : l ≤ yyG ρ j) (h3 : yyG ρ j ≤ h) (hx : 0 ≤ yyG ρ j → yyG ρ j < (ttTb (ttRo (yyG ρ a))).2.2.1 → ttM (H.2.2.2.1 : Int) (ttTy (ttTb (ttRo (yyG ρ a))) (yyG ρ j)) (yyG ρ v)) (hf : ttPu X r l h a j v f = true) : ∃ X', f X' = true ∧ X'.1 = X.1 ∧ ttSat (xUp H.1 (yyG ρ a) (yyG ρ j) (yyG ρ v), H.2) X' ρ ∧ ttJ XX ev H0 (xUp H.1 (yyG ρ a) (yyG ρ j) (yyG ρ v), H.2) := by
  have k := ttW_ok (D := xUp H.1 (yyG ρ a) (yyG ρ j) (yyG ρ v)) hJ hO hS hk (fun b k e => by
    by_cases z : b = yyG ρ a ∧ k = yyG ρ j
    · refine ⟨?_, fun w hw => ?_⟩
      · obtain ⟨rfl, rfl⟩ := z
        exact ⟨⟨h1, hr⟩, h2, h3⟩
      · cases hw
        show (if b = yyG ρ a ∧ k = yyG ρ j then yyG ρ v else H.1 b k) = yyG ρ v
        rw [if_pos z]
    · exact absurd (show (if b = yyG ρ a ∧ k = yyG ρ j then yyG ρ v else H.1 b k) = H.1 b k by rw [if_neg z]) e) (ttTI_st hJ.1 hx)
  refine ⟨_, hf, rfl, ttSat_k k.2 ha hj hv ?_, k.1⟩
  show (if yyG ρ a = yyG ρ a ∧ yyG ρ j = yyG ρ j then yyG ρ v else _) = yyG ρ v
  rw [if_pos ⟨rfl, rfl⟩]
theorem ttAl_ok {H : xH} {X : ttX} {ρ : Nat → Int} {κ : Int → Bool} {a i : yyN} {f : ttX → yyN → Bool} (hT : ttTI H) (hS : ttSat H X ρ) (ha : ttW X.1 a) (hi : ttW X.1 i) (h : ttAl κ X a i f = true) : κ (H.2.1 (yyG ρ a)) = true ∧ (0 ≤ yyG ρ i ∧ yyG ρ i < H.2.2.1 (yyG ρ a)) ∧ ttRs H X ρ f (H.1 (yyG ρ a) (yyG ρ i)) := by
  unfold ttAl at h
  obtain ⟨h, a1, a2⟩ := ttRl_ok hT hS h
  obtain ⟨t1, t2, t3⟩ := hT.2 _ a1 a2
  revert h t1 t2 t3
  generalize ttTb (ttRo (yyG ρ a)) = tb
  obtain ⟨k, len, sz, m, ts⟩ := tb
  intro h t1 t2 t3
  have t1 : H.2.1 (yyG ρ a) = k := t1
  have t2 : H.2.2.1 (yyG ρ a) = len := t2
  have t3 : ∀ j : Int, 0 ≤ j → j < sz → ttM (H.2.2.2.1 : Int) (ts.getD (j % m).toNat (9, 0, 0)) (H.1 (yyG ρ a) j) := t3
  simp only [] at h
  obtain ⟨h1, h⟩ := zz_and h
  obtain ⟨h2, h⟩ := zz_and h
  obtain ⟨l, hh, h2, b1, b2⟩ := ttBd_ok hS h2
  obtain ⟨h2, h3⟩ := zz_and h2
  obtain ⟨h3, h4⟩ := zz_and h3
  have h2 := zzLe_ok h2
  have h3 := zzLe_ok h3
  have h4 := zzLe_ok h4
  obtain ⟨rs, h, hr⟩ := ttRe_ok hS h
  obtain ⟨T, h, hm⟩ := ttLt_ok h hr (t3 _ (by omega) (by omega))
  exact ⟨by rw [t1]; exact h1, ⟨by omega, by omega⟩, ttGe_ok hS ha hi hm h⟩
theorem ttAt_ok {XX : xH → Prop} {ev : ttEv} {H0 H : xH} {X : ttX} {ρ : Nat → Int} {κ : Int} {a i x : yyN} {f : ttX → Bool} (hJ : ttJ XX ev H0 H) (hO : ttOut XX ev.2.2) (hS : ttSat H X ρ) (ha : ttW X.1 a) (hi : ttW X.1 i) (hx : ttW X.1 x) (h : ttAt ev κ X a i x f = true) : (0 < yyG ρ a ∧ H.2.1 (yyG ρ a) = κ ∧ 0 ≤ yyG ρ i ∧ yyG ρ i < H.2.2.1 (yyG ρ a)) ∧ ∃ X', f X' = true ∧ X'.1 = X.1 ∧ ttSat (xUp H.1 (yyG ρ a) (yyG ρ i) (yyG ρ x), H.2) X' ρ ∧ ttJ XX ev H0 (xUp H.1 (yyG ρ a) (yyG ρ i) (yyG ρ x), H.2) := by
  unfold ttAt at h
  obtain ⟨h, a1, a2⟩ := ttRl_ok hJ.1 hS h
  obtain ⟨t1, t2, t3⟩ := hJ.1.2 _ a1 a2
  have hW := fun (l0 h0 : Int) => ttW1_ok (r := ttRo (yyG ρ a)) (l := l0) (h := h0) (f := f) hJ hO hS (hj := hi) (ha := ha) (hv := hx) (h1 := a1) (hr := rfl)
  revert h t1 t2 t3 hW
  generalize hg : ttTb (ttRo (yyG ρ a)) = tb
  obtain ⟨k, len, sz, m, ts⟩ := tb
  intro h t1 t2 t3 hW
  have t1 : H.2.1 (yyG ρ a) = k := t1
  have t2 : H.2.2.1 (yyG ρ a) = len := t2
  simp only [] at h
  obtain ⟨h1, h⟩ := zz_and h
  obtain ⟨l, hh, h, b1, b2⟩ := ttBd_ok hS h
  obtain ⟨h2, h⟩ := zz_and h
  obtain ⟨h2, h3, h4, h5⟩ := tt_and4 h2
  have h2 := zzLe_ok h2
  have h3 := zzLe_ok h3
  have h4 := zzLe_ok h4
  obtain ⟨rs, h, hr⟩ := ttRe_ok hS h
  obtain ⟨h6, h⟩ := zz_and h
  refine ⟨⟨by omega, by rw [t1]; exact zzEq_ok h1, by omega, by omega⟩, hW l hh h5 b1 b2 (fun _ _ => ?_) h⟩
  exact ttChk_ok hJ.1 hS (List.all_eq_true.mp h6 _ hr)
theorem ttGf_ok {H : xH} {X : ttX} {ρ : Nat → Int} {q : Nat} {a : yyN} {f : ttX → yyN → Bool} (hT : ttTI H) (hS : ttSat H X ρ) (ha : ttW X.1 a) (h : ttGf X q a f = true) : H.2.1 (yyG ρ a) = ((q / 1000 : Nat) : Int) ∧ ttRs H X ρ f (H.1 (yyG ρ a) ((q / 10 % 100 : Nat) : Int)) := by
  unfold ttGf at h
  obtain ⟨h, a1, a2⟩ := ttRl_ok hT hS h
  obtain ⟨t1, t2, t3⟩ := hT.2 _ a1 a2
  revert h t1 t3
  generalize ttTb (ttRo (yyG ρ a)) = tb
  obtain ⟨k, len, sz, m, ts⟩ := tb
  intro h t1 t3
  have t1 : H.2.1 (yyG ρ a) = k := t1
  have t3 : ∀ j : Int, 0 ≤ j → j < sz → ttM (H.2.2.2.1 : Int) (ts.getD (j % m).toNat (9, 0, 0)) (H.1 (yyG ρ a) j) := t3
  simp only [] at h
  obtain ⟨h1, h⟩ := zz_and h
  obtain ⟨h2, h⟩ := zz_and h
  have h2 := zzLe_ok h2
  have k := ttGe_ok (ρ := ρ) (j := (0, 0, ((q / 10 % 100 : Nat) : Int))) (T := ts.getD (((q / 10 % 100 : Nat) : Int) % m).toNat (9, 0, 0)) hS ha (Or.inl rfl) (by rw [yyG_c]; exact t3 _ (Int.natCast_nonneg _) (by omega)) h
  rw [yyG_c] at k
  exact ⟨by rw [t1]; exact zzEq_ok h1, k⟩
theorem ttPf_ok {XX : xH → Prop} {ev : ttEv} {H0 H : xH} {X : ttX} {ρ : Nat → Int} {q : Nat} {a x : yyN} {f : ttX → Bool} (hJ : ttJ XX ev H0 H) (hO : ttOut XX ev.2.2) (hS : ttSat H X ρ) (ha : ttW X.1 a) (hx : ttW X.1 x) (h : ttPf ev X q a x f = true) : H.2.1 (yyG ρ a) = ((q / 1000 : Nat) : Int) ∧ ∃ X', f X' = true ∧ X'.1 = X.1 ∧ ttSat (xUp H.1 (yyG ρ a) ((q / 10 % 100 : Nat) : Int) (yyG ρ x), H.2) X' ρ ∧ ttJ XX ev H0 (xUp H.1 (yyG ρ a) ((q / 10 % 100 : Nat) : Int) (yyG ρ x), H.2) := by
  unfold ttPf at h
  obtain ⟨h, a1, a2⟩ := ttRl_ok hJ.1 hS h
  obtain ⟨t1, t2, t3⟩ := hJ.1.2 _ a1 a2
  have hW := ttW1_ok (r := ttRo (yyG ρ a)) (l := ((q / 10 % 100 : Nat) : Int)) (h := ((q / 10 % 100 : Nat) : Int)) (j := (0, 0, ((q / 10 % 100 : Nat) : Int))) (f := f) hJ hO hS (hj := Or.inl rfl) (ha := ha) (hv := hx) (h1 := a1) (hr := rfl)
  rw [yyG_c] at hW
  revert h t1 hW
  generalize hg : ttTb (ttRo (yyG ρ a)) = tb
  obtain ⟨k, len, sz, m, ts⟩ := tb
  intro h t1 hW
  have t1 : H.2.1 (yyG ρ a) = k := t1
  simp only [] at h
  obtain ⟨h1, h⟩ := zz_and h
  obtain ⟨h2, h⟩ := zz_and h
  obtain ⟨h3, h⟩ := zz_and h
  obtain ⟨h4, h⟩ := zz_and h
  exact ⟨by rw [t1]; exact zzEq_ok h1, hW h3 (Int.le_refl _) (Int.le_refl _) (fun _ _ => ttChk_ok hJ.1 hS h4) h⟩
theorem ttCy_ok {XX : xH → Prop} {ev : ttEv} {H0 H : xH} {X : ttX} {ρ : Nat → Int} {a b : yyN} {sp dp l : Int} {f : ttX → Bool} (hJ : ttJ XX ev H0 H) (hO : ttOut XX ev.2.2) (hS : ttSat H X ρ) (h : ttCy ev X a b sp dp l f = true) : (0 < yyG ρ a ∧ 0 < yyG ρ b ∧ H.2.1 (yyG ρ a) = 20 ∧ H.2.1 (yyG ρ b) = 20 ∧ 0 ≤ sp ∧ 0 ≤ dp ∧ 0 ≤ l ∧ sp + l ≤ H.2.2.1 (yyG ρ a) ∧ dp + l ≤ H.2.2.1 (yyG ρ b)) ∧ ∃ X', f X' = true ∧ X'.1 = X.1 ∧ ttSat (xCpy H.1 (yyG ρ a) sp (yyG ρ b) dp l, H.2) X' ρ ∧ ttJ XX ev H0 (xCpy H.1 (yyG ρ a) sp (yyG ρ b) dp l, H.2) := by
  unfold ttCy at h
  obtain ⟨h, a1, a2⟩ := ttRl_ok hJ.1 hS h
  obtain ⟨h, b1, b2⟩ := ttRl_ok hJ.1 hS h
  obtain ⟨t1, t2, t3⟩ := hJ.1.2 _ a1 a2
  obtain ⟨u1, u2, u3⟩ := hJ.1.2 _ b1 b2
  have hT : ∀ (m m2 : Int) (ts ts2 : List ttI), (ttTb (ttRo (yyG ρ a))).2.2.2.1 = 1 → (ttTb (ttRo (yyG ρ b))).2.2.2.1 = 1 → ttSb ((ttTb (ttRo (yyG ρ a))).2.2.2.2.getD 0 (9, 0, 0)) ((ttTb (ttRo (yyG ρ b))).2.2.2.2.getD 0 (9, 0, 0)) = true → 0 ≤ sp → sp + l ≤ (ttTb (ttRo (yyG ρ a))).2.2.1 → ttTI (xCpy H.1 (yyG ρ a) sp (yyG ρ b) dp l, H.2) := fun m m2 ts ts2 e1 e2 e3 s0 s1 => by
    refine ⟨hJ.1.1, fun c c1 c2 => ?_⟩
    obtain ⟨k1, k2, k3⟩ := hJ.1.2 c c1 c2
    refine ⟨k1, k2, fun i i0 i1 => ?_⟩
    show ttM (H.2.2.2.1 : Int) (ttTy (ttTb (ttRo c)) i) (if c = yyG ρ b ∧ dp ≤ i ∧ i < dp + l then H.1 (yyG ρ a) (sp + (i - dp)) else H.1 c i)
    by_cases e : c = yyG ρ b ∧ dp ≤ i ∧ i < dp + l
    · rw [if_pos e]
      obtain ⟨rfl, f1, f2⟩ := e
      have z := t3 (sp + (i - dp)) (by omega) (by omega)
      unfold ttTy at z ⊢
      rw [e1, Int.emod_one] at z
      rw [e2, Int.emod_one]
      exact ttSb_ok e3 z
    · rw [if_neg e]
      exact k3 i i0 i1
  revert h t1 t2 u1 u2 hT
  generalize ttTb (ttRo (yyG ρ a)) = tb
  generalize hb : ttTb (ttRo (yyG ρ b)) = tb2
  obtain ⟨k, len, sz, m, ts⟩ := tb
  obtain ⟨k2, len2, sz2, m2, ts2⟩ := tb2
  intro h t1 t2 u1 u2 hT
  have t1 : H.2.1 (yyG ρ a) = k := t1
  have u1 : H.2.1 (yyG ρ b) = k2 := u1
  have t2 : H.2.2.1 (yyG ρ a) = len := t2
  have u2 : H.2.2.1 (yyG ρ b) = len2 := u2
  simp only [] at h
  obtain ⟨h1, h⟩ := zz_and h
  obtain ⟨h1, h2, h3, h4⟩ := tt_and4 h1
  obtain ⟨h5, h⟩ := zz_and h
  obtain ⟨h5, h6, h7, h8⟩ := tt_and4 h5
  obtain ⟨h9, h⟩ := zz_and h
  obtain ⟨h9, h10, h11, h12⟩ := tt_and4 h9
  have h1 := zzEq_ok h1
  have h2 := zzEq_ok h2
  have h5 := zzLe_ok h5
  have h6 := zzLe_ok h6
  have h7 := zzLe_ok h7
  have h8 := zzLe_ok h8
  have h9 := zzLe_ok h9
  have h10 := zzLe_ok h10
  have hTI := hT m m2 ts ts2 (zzEq_ok h3) (zzEq_ok h4) h11 h5 h8
  have w := ttW_ok (D := xCpy H.1 (yyG ρ a) sp (yyG ρ b) dp l) hJ hO hS h12 (fun c j e => by
    by_cases z : c = yyG ρ b ∧ dp ≤ j ∧ j < dp + l
    · obtain ⟨rfl, f1, f2⟩ := z
      exact ⟨⟨⟨b1, rfl⟩, f1, (by show j ≤ dp + l - 1; omega)⟩, fun w hw => by cases hw⟩
    · exact absurd (show (if c = yyG ρ b ∧ dp ≤ j ∧ j < dp + l then H.1 (yyG ρ a) (sp + (j - dp)) else H.1 c j) = H.1 c j by rw [if_neg z]) e) hTI
  exact ⟨⟨by omega, by omega, by rw [t1]; exact h1, by rw [u1]; exact h2, h5, h6, h7, by omega, by omega⟩, _, h, rfl, w.2, w.1⟩
theorem ttCl_ok {XX : xH → Prop} {ev : ttEv} {H0 H : xH} {X : ttX} {ρ : Nat → Int} {d dd : Nat} {c : ttCon} {as : List ttV} {vs : List xV} {f : ttX → yyN → Bool} {Q : Int → xH → Prop} (hc : ttHas XX c) (hd : d ≤ dd) (hJ : ttJ XX ev H0 H) (hS : ttSat H X ρ) (hv : ttF (ttR ρ X.1) as vs) (ha : ttAc X as c.2.2.1 = true) (hcc : ttCc X as c.2.2.2.1 = true) (h : ttCl ev.2.1 d c as X f = true) (hQ : ∀ X' ρ' v x H', f X' v = true → X.1 ≤ X'.1 → ttAg X.1 ρ ρ' → ttSat H' X' ρ' → ttJ XX ev H0 H' → ttW X'.1 v → yyG ρ' v = x → Q x H') : xCall dd c.1 vs H Q := by
  obtain ⟨j, dep, ps, cc, res, rc, na, eff⟩ := c
  unfold ttCl at h
  simp only [] at h
  cases e : Nat.ble dep d && (ttSub ev.2.1.2 eff && (!ev.2.1.1 || na))
  · rw [e] at h; cases h
  rw [e] at h
  obtain ⟨e1, e2⟩ := zz_and e
  obtain ⟨e2, e3⟩ := zz_and e2
  refine hc dd (Nat.le_trans (Nat.le_of_ble_eq_true e1) hd) vs H hJ.1 hJ.2.1 (ttAc_ok hJ.1 hS ha hv) (ttCc_ok hJ.1 hS hv hcc) Q (fun r H' hT hX hF hr hq => ?_)
  obtain ⟨p, hp, hm⟩ := hr
  rw [ttKf_eq] at h
  have h : (res.all fun p => ttMk (ttXk X eff) p fun X2 r => ttAdC as r rc X2 fun X3 => f X3 r) = true := h
  have h := List.all_eq_true.mp h p hp
  have S1 : ttSat H' (ttXk X eff) ρ := ttSat_fr hJ.1 hS hF
  obtain ⟨X2, ρ2, v, h, n2, g2, S2, w2, x2⟩ := ttMk_ok S1 hm h
  have n2 : X.1 ≤ X2.1 := n2
  have g2 : ttAg X.1 ρ ρ2 := g2
  obtain ⟨X3, ρ3, h, n3, g3, S3⟩ := ttAdC_ok S2 (ttF_imp (fun _ _ z => ttR_up n2 g2 z) hv) w2 x2 hq h
  refine hQ X3 ρ3 v r H' h (Nat.le_trans n2 n3) (ttAg_tr n2 g2 g3) S3 ⟨hT, hX, ttFr_tr hJ.2.2 hF (fun z => ?_) e2⟩ (ttW_up n3 w2) ((yyG_ag w2 g3).trans x2)
  rw [z] at e3
  exact e3
