/-! one instruction over bounds says of the plain machine's what it must -/
section ZY
variable {call : xCallT} {k : xS → Prop} {Q : Int → xH → Prop} {cd : List Instr} {S : zzQ} {m : zzMm}
theorem zzIfB {b : Bool} {x y : xO} (h1 : b = true) (h : xGo call k Q x) : xGo call k Q (xIf b x y) := by rw [h1]; exact h
theorem zzBlt {i : Nat} {L : List zzV} {L2 : List xV} (hL : zzL L L2) (h : Nat.blt i L.length = true) : Nat.blt i L2.length = true := by rw [← zzL_len hL]; exact h
theorem zz_and {a b : Bool} (h : (a && b) = true) : a = true ∧ b = true := Bool.and_eq_true a b ▸ h
theorem zz_nn {a : Bool} (h : (!a) = true) : a = false := by cases a; rfl; cases h
theorem zzCat_le {r : List zzV} {r2 : List xV} (hr : zzL r r2) (h : Nat.ble (zzCat r) 8 = true) : Nat.ble (xCat r2) 8 = true := by rw [← zzL_cat hr]; exact h
variable {d : Nat} {rs : List Instr} {L st : List zzV} {pc : Nat} {L2 st2 : List xV} {H : xH}
theorem zn_dup (hp : cd.drop (pc + 1) = rs) (hL : zzL L L2) (hs : zzL st st2) (hW : zzW S m H) (h : zzSat call k Q cd S m (zzNext S d cd .dup rs L st m)) : xGo call k Q (xNext d .dup pc L2 st2 H) := by
  simp only [zzNext] at h
  split at h
  · match st2, hs with
    | (_, a) :: r2, hs =>
      obtain ⟨⟨e, hm⟩, hr⟩ := hs
      cases e
      exact zzNx_ok h hp hL ⟨⟨rfl, hm⟩, ⟨rfl, hm⟩, hr⟩ hW
  · match st2, hs with
    | (_, a) :: r2, hs =>
      obtain ⟨⟨e, hm⟩, hr⟩ := hs
      cases e
      exact zzNx_ok h hp hL ⟨⟨rfl, hm⟩, ⟨rfl, hm⟩, hr⟩ hW
  · exact h.elim
theorem zn_pop (hp : cd.drop (pc + 1) = rs) (hL : zzL L L2) (hs : zzL st st2) (hW : zzW S m H) (h : zzSat call k Q cd S m (zzNext S d cd .pop rs L st m)) : xGo call k Q (xNext d .pop pc L2 st2 H) := by
  simp only [zzNext] at h
  split at h
  · match st2, hs with
    | (_, a) :: r2, hs =>
      obtain ⟨⟨e, hm⟩, hr⟩ := hs
      cases e
      exact zzNx_ok h hp hL hr hW
  · match st2, hs with
    | (_, a) :: r2, hs =>
      obtain ⟨⟨e, hm⟩, hr⟩ := hs
      cases e
      exact zzNx_ok h hp hL hr hW
  · exact h.elim
theorem zn_tsw {t lo hi : Int} {ts : Array Int} (hL : zzL L L2) (hs : zzL st st2) (hW : zzW S m H) (h : zzSat call k Q cd S m (zzNext S d cd (.tableswitch t lo hi ts) rs L st m)) : xGo call k Q (xNext d (.tableswitch t lo hi ts) pc L2 st2 H) := by
  simp only [zzNext] at h
  split at h
  · rename_i x y r
    match st2, hs with
    | (_, a) :: r2, hs =>
      obtain ⟨⟨e, hm⟩, hr⟩ := hs
      cases e
      cases e : zzEq x y
      · rw [e] at h
        have h : zzSat call k Q cd S m (match zzLe (y + 1) lo || zzLe (lo + (ts.toList.length : Int)) x with | true => zzNx (cd.drop t.toNat, L, r) | false => zzHk) := h
        have g1 : x ≤ a := hm.1
        have g2 : a ≤ y := hm.2
        cases e4 : zzLe (y + 1) lo || zzLe (lo + (ts.toList.length : Int)) x
        · rw [e4] at h; exact h.elim
        · rw [e4] at h
          have h : zzSat call k Q cd S m (zzNx (cd.drop t.toNat, L, r)) := h
          have hk := zzNx_ok (pc := t.toNat) h rfl hL hr hW
          have h5 : a < lo ∨ lo + (ts.toList.length : Int) ≤ a := by
            rcases Bool.or_eq_true _ _ ▸ e4 with z | z
            · have := zzLe_ok z; left; omega
            · have := zzLe_ok z; right; omega
          show xSw k a lo (ts.toList.map fun u => (u.toNat, L2, r2, H)) ∧ (a < lo ∨ lo + ((ts.toList.map fun u => (u.toNat, L2, r2, H)).length : Int) ≤ a → k (t.toNat, L2, r2, H))
          exact ⟨xSw_no (by rw [List.length_map]; exact h5), fun _ => hk⟩
      · rw [e] at h
        have e3 := zzM_s hm e
        subst e3
        have h : zzSat call k Q cd S m (zzNx (cd.drop (zzSw a lo ts.toList t), L, r)) := h
        have hk := zzNx_ok (pc := zzSw a lo ts.toList t) h rfl hL hr hW
        show xSw k a lo (ts.toList.map fun u => (u.toNat, L2, r2, H)) ∧ (a < lo ∨ lo + ((ts.toList.map fun u => (u.toNat, L2, r2, H)).length : Int) ≤ a → k (t.toNat, L2, r2, H))
        rw [List.length_map]
        unfold zzSw at hk
        cases e4 : zzLe lo a && zzLe (a + 1) (lo + (ts.toList.length : Int))
        · rw [e4] at hk
          have h5 : a < lo ∨ lo + (ts.toList.length : Int) ≤ a := by
            by_cases z : lo ≤ a
            · by_cases z2 : a < lo + (ts.toList.length : Int)
              · rw [zzLe_iff.mpr z, zzLe_iff.mpr (show a + 1 ≤ lo + (ts.toList.length : Int) by omega)] at e4
                cases e4
              · exact Or.inr (by omega)
            · exact Or.inl (by omega)
          exact ⟨xSw_no (by rw [List.length_map]; exact h5), fun _ => hk⟩
        · rw [e4] at hk
          have h5 := zzLe_ok (zz_and e4).1
          have h6 := zzLe_ok (zz_and e4).2
          have hl : (a - lo).toNat < ts.toList.length := by omega
          refine ⟨xSw_one (a - lo).toNat ((ts.toList.getD (a - lo).toNat 0).toNat, L2, r2, H) ?_ (by omega) hk, fun z => ?_⟩
          · rw [List.getElem?_map, List.getD_eq_getElem?_getD, List.getElem?_eq_getElem hl]; rfl
          · omega
  · exact h.elim
theorem zn_put {f : Nat} (hf : f / 1000 < 1000 → True) (hp : cd.drop (pc + 1) = rs) (hL : zzL L L2) (hs : zzL st st2) (hW : zzW S m H) (h : zzSat call k Q cd S m (zzNext S d cd (.putfield f) rs L st m)) : xGo call k Q (xNext d (.putfield f) pc L2 st2 H) := by
  simp only [zzNext] at h
  split at h
  · rename_i t x a a2 r
    match st2, hs with
    | (_, v) :: (_, b) :: r2, hs =>
      obtain ⟨⟨e, hm⟩, ⟨e2, hm2⟩, hr⟩ := hs
      cases e; cases e2
      obtain ⟨h1, h2⟩ := zzIf_ok h
      obtain ⟨h3, h1⟩ := zz_and h1
      obtain ⟨h4, h1⟩ := zz_and h1
      obtain ⟨h5, h6⟩ := zz_and h1
      have e3 := zzM_s hm2 h3
      subst e3
      have ha := zzLe_ok h4
      have hk := zzKn_eq hW (Int.natCast_nonneg _) h5
      refine ⟨zzPt_ok hk.1 hm h6, ?_⟩
      refine zzSt_ok h2 hp hL hr hW ha (by omega) (Int.natCast_nonneg _) ?_ hm
      omega
  · exact h.elim
theorem zn_iv {q : Nat} (hp : cd.drop (pc + 1) = rs) (hL : zzL L L2) (hs : zzL st st2) (hW : zzW S m H) (h : zzSat call k Q cd S m (zzNext S d cd (.invokevirtual q) rs L st m)) : xGo call k Q (xNext d (.invokevirtual q) pc L2 st2 H) := by
  have ht := zzL_rev (zzL_take (q / 4 % 20) hs)
  have hd := zzL_drop (q / 4 % 20) hs
  have hl := zzL_len hs
  have hc := zzL_cat hd
  simp only [zzNext] at h
  simp only [xNext]
  rw [← hc, ← hl]
  split at h
  · rename_i a a2 as z1 z2
    rw [z1] at ht
    rw [z2]
    generalize (st2.take (q / 4 % 20)).reverse = ws at ht
    match ws, ht with
    | (_, b) :: vs, ht =>
      obtain ⟨⟨e, hm⟩, hr⟩ := ht
      cases e
      obtain ⟨h1, h2⟩ := zzIf_ok h
      obtain ⟨h3, h1⟩ := zz_and h1
      obtain ⟨h4, h5⟩ := zz_and h1
      have e3 := zzM_s hm h3
      subst e3
      have hk := zzKn_eq hW (Int.natCast_nonneg _) h4
      exact ⟨zzNz_ok hk.1 hr h5, h2 _ _ _ _ _ ⟨⟨rfl, hm⟩, hr⟩ ⟨hp, hL, hd⟩ hW⟩
  · exact h.elim
theorem zn_is {q : Nat} (hp : cd.drop (pc + 1) = rs) (hL : zzL L L2) (hs : zzL st st2) (hW : zzW S m H) (h : zzSat call k Q cd S m (zzNext S d cd (.invokespecial q) rs L st m)) : xGo call k Q (xNext d (.invokespecial q) pc L2 st2 H) := by
  have ht := zzL_rev (zzL_take (q / 4 % 20) hs)
  have hd := zzL_drop (q / 4 % 20) hs
  have hl := zzL_len hs
  have hc := zzL_cat hd
  simp only [zzNext] at h
  simp only [xNext]
  rw [← hc, ← hl]
  split at h
  · rename_i a a2 as z1 z2
    rw [z1] at ht
    rw [z2]
    generalize (st2.take (q / 4 % 20)).reverse = ws at ht
    match ws, ht with
    | (_, b) :: vs, ht =>
      obtain ⟨⟨e, hm⟩, hr⟩ := ht
      cases e
      obtain ⟨h1, h2⟩ := zzIf_ok h
      obtain ⟨h3, h1⟩ := zz_and h1
      obtain ⟨h4, h5⟩ := zz_and h1
      have e3 := zzM_s hm h3
      subst e3
      have hk := zzKn_eq hW (Int.natCast_nonneg _) h4
      exact ⟨zzNz_ok hk.1 hr h5, h2 _ _ _ _ _ ⟨⟨rfl, hm⟩, hr⟩ ⟨hp, hL, hd⟩ hW⟩
  · exact h.elim
theorem zn_ic {q : Nat} (hp : cd.drop (pc + 1) = rs) (hL : zzL L L2) (hs : zzL st st2) (hW : zzW S m H) (h : zzSat call k Q cd S m (zzNext S d cd (.invokestatic q) rs L st m)) : xGo call k Q (xNext d (.invokestatic q) pc L2 st2 H) := by
  have ht := zzL_rev (zzL_take (q / 4 % 20) hs)
  have hd := zzL_drop (q / 4 % 20) hs
  have hl := zzL_len hs
  have hc := zzL_cat hd
  have h : zzSat call k Q cd S m (zzIf ((Nat.ble (zzCat (st.drop (q / 4 % 20))) 8 && Nat.ble (q / 4 % 20) st.length) && zzNz (st.take (q / 4 % 20)).reverse) (zzCl (q / 8000) (st.take (q / 4 % 20)).reverse (q % 4) (rs, L, st.drop (q / 4 % 20)))) := h
  obtain ⟨h1, h2⟩ := zzIf_ok h
  obtain ⟨h3, h4⟩ := zz_and h1
  simp only [xNext]
  rw [← hc, ← hl, h3]
  exact ⟨zzNz_ok trivial ht h4, h2 _ _ _ _ _ ht ⟨hp, hL, hd⟩ hW⟩
theorem zn_cpy (hp : cd.drop (pc + 1) = rs) (hL : zzL L L2) (hs : zzL st st2) (hW : zzW S m H) (h : zzSat call k Q cd S m (zzNext S d cd .dmul rs L st m)) : xGo call k Q (xNext d .dmul pc L2 st2 H) := by
  simp only [zzNext] at h
  split at h
  · rename_i l l2 dp dp2 b b2 sp sp2 a a2 r
    match st2, hs with
    | (_, v1) :: (_, v2) :: (_, v3) :: (_, v4) :: (_, v5) :: r2, hs =>
      obtain ⟨⟨e1, m1⟩, ⟨e2, m2⟩, ⟨e3, m3⟩, ⟨e4, m4⟩, ⟨e5, m5⟩, hr⟩ := hs
      cases e1; cases e2; cases e3; cases e4; cases e5
      obtain ⟨h1, h2⟩ := zzIf_ok h
      obtain ⟨h3, h4⟩ := zz_and h1
      obtain ⟨c0, h3⟩ := zz_and h3
      obtain ⟨c1, h3⟩ := zz_and h3
      obtain ⟨c2, h3⟩ := zz_and h3
      obtain ⟨c3, h3⟩ := zz_and h3
      obtain ⟨c4, c5⟩ := zz_and h3
      have q1 := zzM_s m1 c1
      have q2 := zzM_s m2 c2
      have q3 := zzM_s m3 c3
      have q4 := zzM_s m4 c4
      have q5 := zzM_s m5 c5
      subst q1; subst q2; subst q3; subst q4; subst q5
      obtain ⟨d0, h4⟩ := zz_and h4
      obtain ⟨d1, h4⟩ := zz_and h4
      obtain ⟨d2, h4⟩ := zz_and h4
      obtain ⟨d3, h4⟩ := zz_and h4
      obtain ⟨d4, h4⟩ := zz_and h4
      obtain ⟨d5, h4⟩ := zz_and h4
      obtain ⟨d6, h4⟩ := zz_and h4
      obtain ⟨d7, h4⟩ := zz_and h4
      obtain ⟨d8, h4⟩ := zz_and h4
      obtain ⟨d9, h4⟩ := zz_and h4
      obtain ⟨f1, f2⟩ := zz_and h4
      have d1 := zzLe_ok d1
      have d2 := zzLe_ok d2
      have k1 := zzKn_eq hW (by decide) d3
      have k2 := zzKn_eq hW (by decide) d4
      have d5 := zzLe_ok d5
      have d6 := zzLe_ok d6
      have d7 := zzLe_ok d7
      have d8 := zzLe_ok d8
      have d9 := zzLe_ok d9
      have f1 := zzLe_ok f1
      have f2 := zzLe_ok f2
      have ev : ((v1.toNat : Nat) : Int) = v1 := Int.toNat_of_nonneg d7
      have hw := zzW_cp (n := v1.toNat) hW d1 (by omega) d2 (by omega) d5 d6 (by omega) (by omega)
      rw [ev] at hw
      refine zzIfB (zzCat_le hr c0) ⟨⟨?_, by omega, by omega, k1.1, k2.1, d5, d6, d7, ?_, ?_⟩, h2 _ _ _ _ ⟨hp, hL, hr⟩ hw⟩
      · have := d0; simp only [Nat.blt_eq] at this; exact this
      · exact Int.le_trans d8 k1.2.1
      · exact Int.le_trans d9 k2.2.1
  · exact h.elim
theorem zn_ret1 (hs : zzL st st2) (hW : zzW S m H) (h : zzSat call k Q cd S m (zzNext S d cd .ireturn rs L st m)) : xGo call k Q (xNext d .ireturn pc L2 st2 H) := by
  simp only [zzNext] at h
  split at h
  · match st2, hs with
    | [(_, v)], hs =>
      obtain ⟨⟨e, hm⟩, -⟩ := hs
      cases e
      exact ⟨trivial, h v H hm hW⟩
  · exact h.elim
theorem zn_ret2 (hs : zzL st st2) (hW : zzW S m H) (h : zzSat call k Q cd S m (zzNext S d cd .freturn rs L st m)) : xGo call k Q (xNext d .freturn pc L2 st2 H) := by
  simp only [zzNext] at h
  split at h
  · rename_i x
    match st2, hs with
    | [(_, v)], hs =>
      obtain ⟨⟨e, hm⟩, -⟩ := hs
      cases e
      obtain ⟨h1, h2⟩ := zzIf_ok h
      have h3 := zzLe_ok (zz_and h1).1
      have h4 := zzLe_ok (zz_and h1).2
      have h5 : x.1 ≤ v := hm.1
      have h6 : v ≤ x.2 := hm.2
      exact ⟨by omega, h2 v H hm hW⟩
  · exact h.elim
theorem zn_ret3 (hs : zzL st st2) (hW : zzW S m H) (h : zzSat call k Q cd S m (zzNext S d cd .lreturn rs L st m)) : xGo call k Q (xNext d .lreturn pc L2 st2 H) := by
  simp only [zzNext] at h
  split at h
  · match st2, hs with
    | [(_, v)], hs =>
      obtain ⟨⟨e, hm⟩, -⟩ := hs
      cases e
      exact ⟨trivial, h v H hm hW⟩
  · exact h.elim
theorem zn_ret4 (hs : zzL st st2) (hW : zzW S m H) (h : zzSat call k Q cd S m (zzNext S d cd .areturn rs L st m)) : xGo call k Q (xNext d .areturn pc L2 st2 H) := by
  simp only [zzNext] at h
  split at h
  · match st2, hs with
    | [(_, v)], hs =>
      obtain ⟨⟨e, hm⟩, -⟩ := hs
      cases e
      exact ⟨trivial, h v H hm hW⟩
  · exact h.elim
theorem zn_ret5 (hs : zzL st st2) (hW : zzW S m H) (h : zzSat call k Q cd S m (zzNext S d cd .return_ rs L st m)) : xGo call k Q (xNext d .return_ pc L2 st2 H) := by
  simp only [zzNext] at h
  split at h
  · match st2, hs with
    | [], hs => exact ⟨trivial, h 0 H (zzM_1 0) hW⟩
  · exact h.elim
theorem zzDiv {x y : zzI} {a b : Int} (hx : zzM x a) (hy : zzM y b) (h : (zzEq x.1 x.2 && (zzEq y.1 y.2 && !zzEq y.1 0)) = true) : a = x.1 ∧ b = y.1 ∧ b ≠ 0 := by
  obtain ⟨h1, h⟩ := zz_and h
  obtain ⟨h2, h3⟩ := zz_and h
  have e1 := zzM_s (a := x.1) (b := x.2) hx h1
  have e2 := zzM_s (a := y.1) (b := y.2) hy h2
  exact ⟨e1, e2, by rw [e2]; exact zzEq_no (zz_nn h3)⟩
set_option maxHeartbeats 4000000 in
theorem zzNext_ok {i : Instr} (hp : cd.drop (pc + 1) = rs) (hL : zzL L L2) (hs : zzL st st2) (hW : zzW S m H) (h : zzSat call k Q cd S m (zzNext S d cd i rs L st m)) : xGo call k Q (xNext d i pc L2 st2 H) := by
  cases i <;> simp only [zzNext] at h
  case iconst v => exact zzNx_ok h hp hL ⟨⟨rfl, zzM_1 _⟩, hs⟩ hW
  case jsr v => exact zzNx_ok h hp hL ⟨⟨rfl, zzM_1 _⟩, hs⟩ hW
  case ldc v => exact zzNx_ok h hp hL ⟨⟨rfl, zzM_1 _⟩, hs⟩ hW
  case iload i =>
    simp only [xNext]
    exact zzLo_ok h hL (fun v w hr h => zzNx_ok h hp hL ⟨hr, hs⟩ hW)
  case lload i =>
    simp only [xNext]
    exact zzLo_ok h hL (fun v w hr h => zzNx_ok h hp hL ⟨hr, hs⟩ hW)
  case aload i =>
    simp only [xNext]
    exact zzLo_ok h hL (fun v w hr h => zzNx_ok h hp hL ⟨hr, hs⟩ hW)
  case istore i => exact zzB1_ok h hs (fun x r a r2 hx hr h => zzIfB (zzBlt hL (zzIf_ok h).1) (zzNx_ok (zzIf_ok h).2 hp (zzSt1_ok hL _ ⟨rfl, hx⟩) hr hW))
  case lstore i => exact zzJ1_ok h hs (fun x r a r2 hx hr h => zzIfB (zzBlt hL (zzIf_ok h).1) (zzNx_ok (zzIf_ok h).2 hp (zzSt2_ok hL _ ⟨rfl, hx⟩) hr hW))
  case astore i => exact zzR1_ok h hs (fun a r r2 hr h => zzIfB (zzBlt hL (zz_and (zzIf_ok h).1).1) ⟨zzEq_no (zz_nn (zz_and (zzIf_ok h).1).2), zzNx_ok (zzIf_ok h).2 hp (zzSt1_ok hL _ ⟨rfl, zzM_1 _⟩) hr hW⟩)
  case iinc i c =>
    simp only [xNext]
    exact zzLo_ok h hL (fun v w hr h => zzIfB (zzBlt hL (zzIf_ok h).1) (zzNx_ok (zzIf_ok h).2 hp (zzSt1_ok hL _ ⟨rfl, zz1_ok hr.2 (fun _ => w32_in _)⟩) hs hW))
  case dup => exact zn_dup hp hL hs hW h
  case dup2 => exact zzA2_ok h hs (fun a i r r2 hr h => zzNx_ok h hp hL ⟨⟨rfl, zzM_1 _⟩, ⟨rfl, zzM_1 _⟩, ⟨rfl, zzM_1 _⟩, ⟨rfl, zzM_1 _⟩, hr⟩ hW)
  case pop => exact zn_pop hp hL hs hW h
  case iadd => exact zzB2_ok h hs (fun x y r a b r2 hx hy hr h => zzNx_ok h hp hL ⟨⟨rfl, zzAd_ok hx hy⟩, hr⟩ hW)
  case isub => exact zzB2_ok h hs (fun x y r a b r2 hx hy hr h => zzNx_ok h hp hL ⟨⟨rfl, zzSb_ok hx hy⟩, hr⟩ hW)
  case imul => exact zzB2_ok h hs (fun x y r a b r2 hx hy hr h => zzNx_ok h hp hL ⟨⟨rfl, zz2_ok hx hy (fun _ _ => w32_in _)⟩, hr⟩ hW)
  case idiv => exact zzB2_ok h hs (fun x y r a b r2 hx hy hr h => by
    obtain ⟨h1, h2⟩ := zzIf_ok h
    obtain ⟨e1, e2, e3⟩ := zzDiv hx hy h1
    refine ⟨e3, zzNx_ok h2 hp hL ⟨⟨rfl, ?_⟩, hr⟩ hW⟩
    rw [e1, e2]; exact zzM_1 _)
  case irem => exact zzB2_ok h hs (fun x y r a b r2 hx hy hr h => by
    obtain ⟨h1, h2⟩ := zzIf_ok h
    obtain ⟨e1, e2, e3⟩ := zzDiv hx hy h1
    refine ⟨e3, zzNx_ok h2 hp hL ⟨⟨rfl, ?_⟩, hr⟩ hW⟩
    rw [e1, e2]; exact zzM_1 _)
  case ineg => exact zzB1_ok h hs (fun x r a r2 hx hr h => zzNx_ok h hp hL ⟨⟨rfl, zz1_ok hx (fun _ => w32_in _)⟩, hr⟩ hW)
  case ishl => exact zzB2_ok h hs (fun x y r a b r2 hx hy hr h => zzNx_ok h hp hL ⟨⟨rfl, zz2_ok hx hy (fun _ _ => xi_in _)⟩, hr⟩ hW)
  case ishr => exact zzB2_ok h hs (fun x y r a b r2 hx hy hr h => zzNx_ok h hp hL ⟨⟨rfl, zz2_ok hx hy (fun _ _ => xi_in _)⟩, hr⟩ hW)
  case iushr => exact zzB2_ok h hs (fun x y r a b r2 hx hy hr h => zzNx_ok h hp hL ⟨⟨rfl, zz2_ok hx hy (fun _ _ => xi_in _)⟩, hr⟩ hW)
  case iand => exact zzB2_ok h hs (fun x y r a b r2 hx hy hr h => zzNx_ok h hp hL ⟨⟨rfl, zzAn_ok hx hy⟩, hr⟩ hW)
  case ior => exact zzB2_ok h hs (fun x y r a b r2 hx hy hr h => zzNx_ok h hp hL ⟨⟨rfl, zz2_ok hx hy (fun _ _ => xi_in _)⟩, hr⟩ hW)
  case ixor => exact zzB2_ok h hs (fun x y r a b r2 hx hy hr h => zzNx_ok h hp hL ⟨⟨rfl, zz2_ok hx hy (fun _ _ => xi_in _)⟩, hr⟩ hW)
  case i2l => exact zzB1_ok h hs (fun x r a r2 hx hr h => zzNx_ok h hp hL ⟨⟨rfl, hx⟩, hr⟩ hW)
  case l2i => exact zzJ1_ok h hs (fun x r a r2 hx hr h => zzNx_ok h hp hL ⟨⟨rfl, zz1_ok hx w32_in⟩, hr⟩ hW)
  case i2b => exact zzB1_ok h hs (fun x r a r2 hx hr h => zzNx_ok h hp hL ⟨⟨rfl, zz1_ok hx (fun _ => xIn40 (w8_in _))⟩, hr⟩ hW)
  case i2s => exact zzB1_ok h hs (fun x r a r2 hx hr h => zzNx_ok h hp hL ⟨⟨rfl, zz1_ok hx w16_in⟩, hr⟩ hW)
  case ladd => exact zzJ2_ok h hs (fun x y r a b r2 hx hy hr h => zzNx_ok h hp hL ⟨⟨rfl, zz2j_ok hx hy (fun _ _ => w64_in _)⟩, hr⟩ hW)
  case lmul => exact zzJ2_ok h hs (fun x y r a b r2 hx hy hr h => zzNx_ok h hp hL ⟨⟨rfl, zz2j_ok hx hy (fun _ _ => w64_in _)⟩, hr⟩ hW)
  case land => exact zzJ2_ok h hs (fun x y r a b r2 hx hy hr h => zzNx_ok h hp hL ⟨⟨rfl, zz2j_ok hx hy (fun _ _ => xj_in _)⟩, hr⟩ hW)
  case lor => exact zzJ2_ok h hs (fun x y r a b r2 hx hy hr h => zzNx_ok h hp hL ⟨⟨rfl, zz2j_ok hx hy (fun _ _ => xj_in _)⟩, hr⟩ hW)
  case lshl => exact zzJi_ok h hs (fun x y r a b r2 hx hy hr h => zzNx_ok h hp hL ⟨⟨rfl, zz2j_ok hx hy (fun _ _ => xj_in _)⟩, hr⟩ hW)
  case lshr => exact zzJi_ok h hs (fun x y r a b r2 hx hy hr h => zzNx_ok h hp hL ⟨⟨rfl, zz2j_ok hx hy (fun _ _ => xj_in _)⟩, hr⟩ hW)
  case lcmp => exact zzJ2_ok h hs (fun x y r a b r2 hx hy hr h => zzNx_ok h hp hL ⟨⟨rfl, zzLc_ok hx hy⟩, hr⟩ hW)
  case ifCond c t => exact zzB1_ok h hs (fun x r a r2 hx hr h => zzBr_ok h hx (zzM_1 0) ⟨rfl, hL, hr⟩ ⟨hp, hL, hr⟩ hW rfl rfl)
  case if_icmp c t => exact zzB2_ok h hs (fun x y r a b r2 hx hy hr h => zzBr_ok h hx hy ⟨rfl, hL, hr⟩ ⟨hp, hL, hr⟩ hW rfl rfl)
  case ifnull t => exact zzR1_ok h hs (fun a r r2 hr h => zzBr_ok h (zzM_1 _) (zzM_1 0) ⟨rfl, hL, hr⟩ ⟨hp, hL, hr⟩ hW rfl rfl)
  case ifnonnull t => exact zzR1_ok h hs (fun a r r2 hr h => zzBr_ok h (zzM_1 _) (zzM_1 0) ⟨rfl, hL, hr⟩ ⟨hp, hL, hr⟩ hW rfl rfl)
  case goto t => exact zzNx_ok h rfl hL hs hW
  case tableswitch t lo hi ts => exact zn_tsw (rs := rs) hL hs hW h
  case iaload => exact zzA2_ok h hs (fun a i r r2 hr h => by
    obtain ⟨h1, h2⟩ := zzIf_ok h
    obtain ⟨q1, q2⟩ := zzOk_ok hW (by decide) h1
    exact ⟨q1, zzNx_ok h2 hp hL ⟨⟨rfl, zzLd_ok hW q1.2.1 q2⟩, hr⟩ hW⟩)
  case baload => exact zzA2_ok h hs (fun a i r r2 hr h => by
    obtain ⟨h1, h2⟩ := zzIf_ok h
    obtain ⟨q1, q2⟩ := zzOk_ok hW (by decide) h1
    exact ⟨q1, zzNx_ok h2 hp hL ⟨⟨rfl, zzLd_ok hW q1.2.1 q2⟩, hr⟩ hW⟩)
  case caload => exact zzA2_ok h hs (fun a i r r2 hr h => by
    obtain ⟨h1, h2⟩ := zzIf_ok h
    obtain ⟨q1, q2⟩ := zzOk_ok hW (by decide) h1
    exact ⟨q1, zzNx_ok h2 hp hL ⟨⟨rfl, zzLd_ok hW q1.2.1 q2⟩, hr⟩ hW⟩)
  case laload => exact zzA2_ok h hs (fun a i r r2 hr h => by
    obtain ⟨h1, h2⟩ := zzIf_ok h
    obtain ⟨q1, q2⟩ := zzOk_ok hW (by decide) h1
    exact ⟨q1, zzNx_ok h2 hp hL ⟨⟨rfl, zzLd_ok hW q1.2.1 q2⟩, hr⟩ hW⟩)
  case aaload => exact zzA2_ok h hs (fun a i r r2 hr h => by
    obtain ⟨h1, h2⟩ := zzIf_ok h
    obtain ⟨q1, q2⟩ := zzOk4_ok hW h1
    exact ⟨q1, zzNx_ok h2 hp hL ⟨⟨rfl, zzLd_ok hW q1.2.1 q2⟩, hr⟩ hW⟩)
  case iastore => exact zzA3_ok h hs (fun a i x r v r2 hx hr h => by
    obtain ⟨h1, h2⟩ := zzIf_ok h
    obtain ⟨h3, h4⟩ := zz_and h1
    have h3 := zzLe_ok h3
    obtain ⟨q1, q2, q3⟩ := zzOk_ok hW (by decide) h4
    exact ⟨⟨by omega, q1⟩, zzSt_ok h2 hp hL hr hW h3 (by omega) q1.2.1 q2 hx⟩)
  case bastore => exact zzA3_ok h hs (fun a i x r v r2 hx hr h => by
    obtain ⟨h1, h2⟩ := zzIf_ok h
    obtain ⟨h3, h4⟩ := zz_and h1
    have h3 := zzLe_ok h3
    obtain ⟨q1, q2, q3⟩ := zzOk_ok hW (by decide) h4
    exact ⟨⟨by omega, q1⟩, zzSt_ok h2 hp hL hr hW h3 (by omega) q1.2.1 q2 (zz1_ok hx (fun _ => xIn40 (w8_in _)))⟩)
  case castore => exact zzA3_ok h hs (fun a i x r v r2 hx hr h => by
    obtain ⟨h1, h2⟩ := zzIf_ok h
    obtain ⟨h3, h4⟩ := zz_and h1
    obtain ⟨h4, h5⟩ := zz_and h4
    have h3 := zzLe_ok h3
    have h6 := zzLe_ok (zz_and h5).1
    have h7 := zzLe_ok (zz_and h5).2
    have h8 : x.1 ≤ v := hx.1
    have h9 : v ≤ x.2 := hx.2
    obtain ⟨q1, q2, q3⟩ := zzOk_ok hW (by decide) h4
    exact ⟨⟨by omega, q1.1, q1.2.1, q1.2.2, by omega⟩, zzSt_ok h2 hp hL hr hW h3 (by omega) q1.2.1 q2 hx⟩)
  case lastore => exact zzA3_ok h hs (fun a i x r v r2 hx hr h => by
    obtain ⟨h1, h2⟩ := zzIf_ok h
    obtain ⟨h3, h4⟩ := zz_and h1
    have h3 := zzLe_ok h3
    obtain ⟨q1, q2, q3⟩ := zzOk_ok hW (by decide) h4
    exact ⟨⟨by omega, q1⟩, zzSt_ok h2 hp hL hr hW h3 (by omega) q1.2.1 q2 hx⟩)
  case aastore => exact zzA3_ok h hs (fun a i x r v r2 hx hr h => by
    obtain ⟨h1, h2⟩ := zzIf_ok h
    obtain ⟨h3, h4⟩ := zz_and h1
    obtain ⟨h4, h5⟩ := zz_and h4
    obtain ⟨h5, h6⟩ := zz_and h5
    obtain ⟨h6, h7⟩ := zz_and h6
    have h3 := zzLe_ok h3
    have e := zzM_s (a := x.1) (b := x.2) hx h5
    have h6 := zzLe_ok h6
    obtain ⟨q1, q2, q3⟩ := zzOk4_ok hW h4
    have k1 := zzKn_ok hW h6
    have k2 : H.2.1 a = (zzKn S m a).1 := (zzKn_ok hW (by have := zzOk4_ok hW h4; unfold zzOk4 at h4; have := zzLe_ok (zz_and h4).1; omega)).1
    exact ⟨⟨by omega, by rw [e, k1.1, k2]; exact zzEq_ok h7, by rw [e, k1.1]; exact h6, q1.2.1, q1.2.2⟩, zzSt_ok h2 hp hL hr hW h3 (by omega) q1.2.1 q2 hx⟩)
  case arraylength => exact zzR1_ok h hs (fun a r r2 hr h => by
    obtain ⟨h1, h2⟩ := zzIf_ok h
    have h3 := zzLe_ok h1
    have k1 := zzKn_ok hW (a := a) (by omega)
    exact ⟨by rw [k1.1]; exact h3, zzNx_ok h2 hp hL ⟨⟨rfl, zzAl_ok hW (by omega)⟩, hr⟩ hW⟩)
  case newarray t => exact zzB1_ok h hs (fun x r a r2 hx hr h => by
    obtain ⟨h1, h2⟩ := zzIf_ok h
    obtain ⟨h3, h1⟩ := zz_and h1
    obtain ⟨h4, h1⟩ := zz_and h1
    obtain ⟨h5, h1⟩ := zz_and h1
    obtain ⟨h6, h7⟩ := zz_and h1
    have e := zzM_s (a := x.1) (b := x.2) hx h3
    rw [← e] at h2 h4 h5
    refine ⟨⟨zzLe_ok h4, zzLe_ok h5⟩, zzNw_ok h2 hp hL ⟨⟨rfl, ?_⟩, hr⟩ hW h6 h7⟩
    rw [hW.1.1]; exact zzM_1 _)
  case anewarray κ => exact zzB1_ok h hs (fun x r a r2 hx hr h => by
    obtain ⟨h1, h2⟩ := zzIf_ok h
    obtain ⟨h3, h1⟩ := zz_and h1
    obtain ⟨h4, h1⟩ := zz_and h1
    obtain ⟨h5, h1⟩ := zz_and h1
    obtain ⟨h6, h7⟩ := zz_and h1
    have e := zzM_s (a := x.1) (b := x.2) hx h3
    rw [← e] at h2 h4 h5
    refine ⟨⟨zzLe_ok h4, zzLe_ok h5⟩, zzNw_ok h2 hp hL ⟨⟨rfl, ?_⟩, hr⟩ hW h6 h7⟩
    rw [hW.1.1]; exact zzM_1 _)
  case multianewarray p1 p2 => exact zzB2_ok h hs (fun x y r a b r2 hx hy hr h => by
    obtain ⟨h1, h2⟩ := zzIf_ok h
    obtain ⟨h3, h1⟩ := zz_and h1
    obtain ⟨h4, h1⟩ := zz_and h1
    obtain ⟨h5, h1⟩ := zz_and h1
    obtain ⟨h6, h1⟩ := zz_and h1
    obtain ⟨h7, h1⟩ := zz_and h1
    obtain ⟨h8, h1⟩ := zz_and h1
    obtain ⟨h9, hA⟩ := zz_and h1
    have e := zzM_s (a := x.1) (b := x.2) hx h3
    have e2 := zzM_s (a := y.1) (b := y.2) hy h4
    rw [← e] at h2 h5 h6 hA
    rw [← e2] at h2 h7 h8
    have h5 := zzLe_ok h5
    have hw := zzW_nm hW (Nat.le_of_ble_eq_true h9) (l := a.toNat) (Nat.le_of_ble_eq_true hA) b
    rw [Int.toNat_of_nonneg h5] at hw
    refine ⟨⟨h5, zzLe_ok h6, zzLe_ok h7, zzLe_ok h8⟩, h2 _ _ _ _ ⟨hp, hL, ⟨rfl, ?_⟩, hr⟩ hw⟩
    show zzM _ (H.2.2.2.1 : Int)
    rw [hW.1.1]; exact zzM_1 _)
  case new c =>
    obtain ⟨h1, h2⟩ := zzIf_ok h
    obtain ⟨h6, h7⟩ := zz_and h1
    refine zzNw_ok h2 hp hL ⟨⟨rfl, ?_⟩, hs⟩ hW h6 h7
    rw [hW.1.1]; exact zzM_1 _
  case getfield f => exact zzR1_ok h hs (fun a r r2 hr h => by
    obtain ⟨h1, h2⟩ := zzIf_ok h
    obtain ⟨h3, h4⟩ := zz_and h1
    have h3 := zzLe_ok h3
    have k1 := zzKn_eq hW (Int.natCast_nonneg _) h4
    refine ⟨k1.1, zzNx_ok h2 hp hL ⟨⟨rfl, ?_⟩, hr⟩ hW⟩
    exact hW.2.2.1 a _ h3 (by omega) (Int.natCast_nonneg _) (by omega))
  case putfield f => exact zn_put (fun _ => trivial) hp hL hs hW h
  case invokevirtual q => exact zn_iv hp hL hs hW h
  case invokespecial q => exact zn_is hp hL hs hW h
  case invokestatic q => exact zn_ic hp hL hs hW h
  case dneg => exact zzR1_ok h hs (fun a r r2 hr h => by
    obtain ⟨h1, h2⟩ := zzIf_ok h
    obtain ⟨h3, h4⟩ := zz_and h1
    obtain ⟨h5, h6⟩ := zz_and h4
    have h6 := zzLe_ok h6
    have h5 : 0 < d := by simpa only [Nat.blt_eq] using h5
    exact zzIfB (zzCat_le hr h3) ⟨⟨h5, by omega⟩, zzNx_ok h2 hp hL hr hW⟩)
  case dadd => exact zzB2_ok h hs (fun x y r a b r2 hx hy hr h => by
    obtain ⟨h1, h2⟩ := zzIf_ok h
    obtain ⟨h3, h4⟩ := zz_and h1
    have h5 : 0 < d := by simpa only [Nat.blt_eq] using h4
    refine zzIfB (zzCat_le hr h3) ⟨h5, zzNx_ok h2 hp hL ⟨⟨rfl, ?_⟩, hr⟩ hW⟩
    have h6 : x.1 ≤ a := hx.1
    have h7 : a ≤ x.2 := hx.2
    have h8 : y.1 ≤ b := hy.1
    have h9 : b ≤ y.2 := hy.2
    exact ⟨by show max x.1 y.1 ≤ max a b; omega, by show max a b ≤ max x.2 y.2; omega⟩)
  case dsub => exact zzB2_ok h hs (fun x y r a b r2 hx hy hr h => by
    obtain ⟨h1, h2⟩ := zzIf_ok h
    obtain ⟨h3, h4⟩ := zz_and h1
    have h5 : 0 < d := by simpa only [Nat.blt_eq] using h4
    refine zzIfB (zzCat_le hr h3) ⟨h5, zzNx_ok h2 hp hL ⟨⟨rfl, ?_⟩, hr⟩ hW⟩
    have h6 : x.1 ≤ a := hx.1
    have h7 : a ≤ x.2 := hx.2
    have h8 : y.1 ≤ b := hy.1
    have h9 : b ≤ y.2 := hy.2
    exact ⟨by show min x.1 y.1 ≤ min a b; omega, by show min a b ≤ min x.2 y.2; omega⟩)
  case dmul => exact zn_cpy hp hL hs hW h
  case ireturn => exact zn_ret1 (rs := rs) (L := L) hs hW h
  case freturn => exact zn_ret2 (rs := rs) (L := L) hs hW h
  case lreturn => exact zn_ret3 (rs := rs) (L := L) hs hW h
  case areturn => exact zn_ret4 (rs := rs) (L := L) hs hW h
  case return_ => exact zn_ret5 (rs := rs) (L := L) hs hW h
  all_goals exact False.elim h
end ZY
