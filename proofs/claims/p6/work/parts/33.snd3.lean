/-! soundness of the run -/
section TTU
variable {XX : xH → Prop} {ev : ttEv} {ih : ttG} {ct : ttCt} {k : ttKo} {d dd : Nat} {cd rs : List Instr} {pc : Nat} {L st : List ttV} {X : ttX} {ρ : Nat → Int} {H0 H : xH} {L2 st2 : List xV} {Q : Int → xH → Prop}
theorem ttBlt {i : Nat} (hL : ttF (ttQ ρ X.1) L L2) (h : Nat.blt i L.length = true) : Nat.blt i L2.length = true := by rw [← ttF_len hL]; exact h
theorem ttIf {call : xCallT} {kk : xS → Prop} {QQ : Int → xH → Prop} {b : Bool} {x y : xO} (h1 : b = true) (h : xGo call kk QQ x) : xGo call kk QQ (xIf b x y) := by rw [h1]; exact h
theorem ttCatle {r : List ttV} {r2 : List xV} (hr : ttF (ttR ρ X.1) r r2) (h : Nat.ble (ttCat r) 8 = true) : Nat.ble (xCat r2) 8 = true := by rw [← ttCat_ok hr]; exact h
theorem tt_w32 {x : Int} (h1 : (-2147483648 : Int) ≤ x) (h2 : x ≤ 2147483647) : x = w32 x := (w32_eq (show (-2147483648 : Int) ≤ x ∧ x < 2147483648 by omega)).symm
theorem tt_w8 {x : Int} (h1 : (-128 : Int) ≤ x) (h2 : x ≤ 127) : x = w8 x := by
  have k1 : w8 x = x := by
    show x.bmod 256 = x
    exact Int.bmod_eq_of_le (by omega) (by omega)
  exact k1.symm
theorem tt_w16 {x : Int} (h1 : (-32768 : Int) ≤ x) (h2 : x ≤ 32767) : x = w16 x := by
  have k1 : w16 x = x := by
    show x.bmod 65536 = x
    exact Int.bmod_eq_of_le (by omega) (by omega)
  exact k1.symm
theorem tt_w16r (x : Int) : (-32768 : Int) ≤ w16 x ∧ w16 x ≤ 32767 := by
  have h1 := Int.le_bmod (x := x) (m := 65536) (by decide)
  have h2 := Int.bmod_lt (x := x) (m := 65536) (by decide)
  constructor
  · show (-32768 : Int) ≤ x.bmod 65536
    omega
  · show x.bmod 65536 ≤ 32767
    omega
theorem ttPt_ok {ty t : Nat} {x : yyN} {p : Prop} (hp : p) (hS : ttSat H X ρ) (h : ttPt ty t X x = true) : xPt ty t (yyG ρ x) p := by
  unfold ttPt at h
  split at h
  · exact hp
  · exact hp
  · exact hp
  · obtain ⟨l, hh, h0, b1, b2⟩ := ttBd_ok hS h
    have z1 := zzLe_ok (zz_and h0).1
    have z2 := zzLe_ok (zz_and h0).2
    exact ⟨hp, by omega⟩
  · cases h
set_option maxHeartbeats 8000000 in
theorem ttIx_ok (hC : ∀ c ∈ ev.1, ttHas XX c) (hO : ttOut XX ev.2.2) (hG : ttGd XX ev ih) {i : Instr} (hd : d ≤ dd) (hp0 : cd.drop pc = i :: rs) (hJ : ttJ XX ev H0 H) (hS : ttSat H X ρ) (hL : ttF (ttQ ρ X.1) L L2) (hs : ttF (ttR ρ X.1) st st2) (hE : ttEn2 XX ev H0 dd cd ct k Q X.1 ρ) (h : (ttIx i).1 ev ih ct k d cd rs pc L st X = true) : xGo (xCall dd) (xW dd cd Q) Q (xNext dd i pc L2 st2 H) := by
  have hp : cd.drop (pc + 1) = rs := (zz_hd hp0).2
  have hE1 := hE.1
  cases i <;> simp only [ttIx] at h
  case iconst v => exact ttN_ok hG hd hp hJ hL hs hE (ttRs_ex hS h (Or.inl rfl) (yyG_c ρ v))
  case jsr v => exact ttN_ok hG hd hp hJ hL hs hE (ttRs_ex hS h (Or.inl rfl) (yyG_c ρ v))
  case ldc j => exact ttN_ok hG hd hp hJ hL hs hE (ttRs_ex hS h (Or.inl rfl) (yyG_c ρ _))
  case iload i =>
    simp only [xNext]
    exact ttLd_ok (by decide) h hL (fun v h w => ttN_ok hG hd hp hJ hL hs hE (ttRs_ex hS h w rfl))
  case lload i =>
    simp only [xNext]
    exact ttLd_ok (by decide) h hL (fun v h w => ttN_ok hG hd hp hJ hL hs hE (ttRs_ex hS h w rfl))
  case aload i =>
    simp only [xNext]
    exact ttLd_ok (by decide) h hL (fun v h w => ttN_ok hG hd hp hJ hL hs hE (ttRs_ex hS h w rfl))
  case istore i => exact ttB1_ok h hs (fun x r r2 h w hr => ttIf (ttBlt hL (zz_and h).1) (ttO_ok hG hd hp hJ (ttSt1_ok hL i (Or.inr ⟨rfl, w, rfl⟩)) hr hE rfl hS (zz_and h).2))
  case lstore i => exact ttJ1_ok h hs (fun x r r2 h w hr => ttIf (ttBlt hL (zz_and h).1) (ttO_ok hG hd hp hJ (ttSt2_ok hL i (Or.inr ⟨rfl, w, rfl⟩)) hr hE rfl hS (zz_and h).2))
  case astore i => exact ttR1_ok h hs (fun x r r2 h w hr => ttIf (ttBlt hL (zz_and (zz_and h).1).1) ⟨ttNn_ok hJ.1 hS (zz_and (zz_and h).1).2, ttO_ok hG hd hp hJ (ttSt1_ok hL i (Or.inr ⟨rfl, w, rfl⟩)) hr hE rfl hS (zz_and h).2⟩)
  case iinc i c =>
    simp only [xNext]
    refine ttLd_ok (by decide) h hL (fun v h w => ttIf (ttBlt hL (zz_and h).1) ?_)
    obtain ⟨X', ρ', u, h1, n1, g1, S1, w1, e1⟩ := ttAd_ok hS w (Or.inl rfl) (zz_and h).2
    rw [yyG_c] at e1
    exact hG _ _ _ _ _ _ _ _ _ h1 dd ρ' H0 H _ _ Q hd hp hJ S1 (ttSt1_ok (ttF_imp (fun _ _ z => ttQ_up n1 g1 z) hL) i (Or.inr ⟨rfl, w1, e1⟩)) (ttF_imp (fun _ _ z => ttR_up n1 g1 z) hs) (ttEn2_up n1 g1 hE)
  case dup =>
    split at h
    · rename_i t x r
      match st2, hs with
      | (_, y) :: r2, hs =>
        obtain ⟨⟨e, w, e2⟩, hr⟩ := hs
        cases e
        cases e2
        obtain ⟨h1, h2⟩ := zz_and h
        have kk := ttO_ok hG hd hp hJ hL (r := (t, x) :: (t, x) :: r) (r2 := (t, yyG ρ x) :: (t, yyG ρ x) :: r2) ⟨⟨rfl, w, rfl⟩, ⟨rfl, w, rfl⟩, hr⟩ hE rfl hS h2
        rcases Bool.or_eq_true _ _ ▸ h1 with z | z
        · have := Nat.eq_of_beq_eq_true z
          subst this
          exact kk
        · have := Nat.eq_of_beq_eq_true z
          subst this
          exact kk
    · cases h
  case dup2 => exact ttA2_ok h hs (fun a i r r2 h wa wi hr => ttO_ok hG hd hp hJ hL (r := (0, i) :: (2, a) :: (0, i) :: (2, a) :: r) ⟨⟨rfl, wi, rfl⟩, ⟨rfl, wa, rfl⟩, ⟨rfl, wi, rfl⟩, ⟨rfl, wa, rfl⟩, hr⟩ hE rfl hS h)
  case pop =>
    split at h
    · rename_i t x r
      match st2, hs with
      | (_, y) :: r2, hs =>
        obtain ⟨⟨e, w, e2⟩, hr⟩ := hs
        cases e
        obtain ⟨h1, h2⟩ := zz_and h
        have kk := ttO_ok hG hd hp hJ hL hr hE rfl hS h2
        rcases Bool.or_eq_true _ _ ▸ h1 with z | z
        · have := Nat.eq_of_beq_eq_true z
          subst this
          exact kk
        · have := Nat.eq_of_beq_eq_true z
          subst this
          exact kk
    · cases h
  case iadd => exact ttB2_ok h hs (fun x y r r2 h wx wy hr => ttN_ok hG hd hp hJ hL hr hE (ttAd_ok hS wx wy h))
  case isub => exact ttB2_ok h hs (fun x y r r2 h wx wy hr => by
    have q := ttAd_ok hS wx (yyMul_w wy) h
    rw [yyMul_ok, show yyG ρ x + -1 * yyG ρ y = yyG ρ x - yyG ρ y by omega] at q
    exact ttN_ok hG hd hp hJ hL hr hE q)
  case imul => exact ttB2_ok h hs (fun x y r r2 h wx wy hr => ttN_ok hG hd hp hJ hL hr hE (ttMu_ok hS wx wy h))
  case idiv => exact ttB2_ok h hs (fun x y r r2 h wx wy hr => ⟨(ttDv_ok hS wx wy h).1, ttN_ok hG hd hp hJ hL hr hE (ttDv_ok hS wx wy h).2⟩)
  case irem => exact ttB2_ok h hs (fun x y r r2 h wx wy hr => ⟨(ttRm_ok hS h).1, ttN_ok hG hd hp hJ hL hr hE (ttRm_ok hS h).2⟩)
  case ineg => exact ttB1_ok h hs (fun x r r2 h w hr => ttN_ok hG hd hp hJ hL hr hE (ttNg_ok hS w h))
  case ishl => exact ttB2_ok h hs (fun x y r r2 h wx wy hr => ttN_ok hG hd hp hJ hL hr hE (ttSl_ok hS h))
  case ishr => exact ttB2_ok h hs (fun x y r r2 h wx wy hr => ttN_ok hG hd hp hJ hL hr hE (by
    have q : (-2147483648 : Int) ≤ xShr (yyG ρ x) (yyG ρ y) ∧ xShr (yyG ρ x) (yyG ρ y) < 2147483648 := xi_in _
    exact ttRs_ni hS h q.1 (by omega)))
  case iushr => exact ttB2_ok h hs (fun x y r r2 h wx wy hr => ttN_ok hG hd hp hJ hL hr hE (by
    have q : (-2147483648 : Int) ≤ xUsh (yyG ρ x) (yyG ρ y) ∧ xUsh (yyG ρ x) (yyG ρ y) < 2147483648 := xi_in _
    exact ttRs_ni hS h q.1 (by omega)))
  case iand => exact ttB2_ok h hs (fun x y r r2 h wx wy hr => ttN_ok hG hd hp hJ hL hr hE (ttAn_ok hS h))
  case ior => exact ttB2_ok h hs (fun x y r r2 h wx wy hr => ttN_ok hG hd hp hJ hL hr hE (ttOr_ok hS h))
  case ixor => exact ttB2_ok h hs (fun x y r r2 h wx wy hr => ttN_ok hG hd hp hJ hL hr hE (by
    have q : (-2147483648 : Int) ≤ xXor (yyG ρ x) (yyG ρ y) ∧ xXor (yyG ρ x) (yyG ρ y) < 2147483648 := xi_in _
    exact ttRs_ni hS h q.1 (by omega)))
  case i2l => exact ttB1_ok h hs (fun x r r2 h w hr => ttN_ok hG hd hp hJ hL hr hE (ttRs_ex hS h w rfl))
  case l2i => exact ttJ1_ok h hs (fun x r r2 h w hr => ttN_ok hG hd hp hJ hL hr hE (by
    have q : (-2147483648 : Int) ≤ w32 (yyG ρ x) ∧ w32 (yyG ρ x) < 2147483648 := w32_in _
    exact ttCs_ok hS w h q.1 (by omega) tt_w32))
  case i2b => exact ttB1_ok h hs (fun x r r2 h w hr => ttN_ok hG hd hp hJ hL hr hE (by
    have q : (-128 : Int) ≤ w8 (yyG ρ x) ∧ w8 (yyG ρ x) < 128 := w8_in _
    exact ttCs_ok hS w h q.1 (by omega) tt_w8))
  case i2s => exact ttB1_ok h hs (fun x r r2 h w hr => ttN_ok hG hd hp hJ hL hr hE (by
    have q := tt_w16r (yyG ρ x)
    exact ttCs_ok hS w h q.1 q.2 tt_w16))
  case ladd => exact ttJ2_ok h hs (fun x y r r2 h wx wy hr => ttN_ok hG hd hp hJ hL hr hE (ttAd_ok hS wx wy h))
  case lmul => exact ttJ2_ok h hs (fun x y r r2 h wx wy hr => ttN_ok hG hd hp hJ hL hr hE (ttMu_ok hS wx wy h))
  case ldiv => exact ttJ2_ok h hs (fun x y r r2 h wx wy hr => ⟨(ttDv_ok hS wx wy h).1, ttN_ok hG hd hp hJ hL hr hE (ttDv_ok hS wx wy h).2⟩)
  case lrem => exact ttJ2_ok h hs (fun x y r r2 h wx wy hr => ⟨(ttRm_ok hS h).1, ttN_ok hG hd hp hJ hL hr hE (ttRm_ok hS h).2⟩)
  case land => exact ttJ2_ok h hs (fun x y r r2 h wx wy hr => ttN_ok hG hd hp hJ hL hr hE (by
    have q : (-9223372036854775808 : Int) ≤ xLand (yyG ρ x) (yyG ρ y) ∧ xLand (yyG ρ x) (yyG ρ y) < 9223372036854775808 := xj_in _
    exact ttRs_ni hS h q.1 (by omega)))
  case lor => exact ttJ2_ok h hs (fun x y r r2 h wx wy hr => ttN_ok hG hd hp hJ hL hr hE (by
    have q : (-9223372036854775808 : Int) ≤ xLor (yyG ρ x) (yyG ρ y) ∧ xLor (yyG ρ x) (yyG ρ y) < 9223372036854775808 := xj_in _
    exact ttRs_ni hS h q.1 (by omega)))
  case lshl => exact ttJi_ok h hs (fun x y r r2 h wx wy hr => ttN_ok hG hd hp hJ hL hr hE (by
    have q : (-9223372036854775808 : Int) ≤ xLshl (yyG ρ x) (yyG ρ y) ∧ xLshl (yyG ρ x) (yyG ρ y) < 9223372036854775808 := xj_in _
    exact ttRs_ni hS h q.1 (by omega)))
  case lshr => exact ttJi_ok h hs (fun x y r r2 h wx wy hr => ttN_ok hG hd hp hJ hL hr hE (by
    have q : (-9223372036854775808 : Int) ≤ xLshr (yyG ρ x) (yyG ρ y) ∧ xLshr (yyG ρ x) (yyG ρ y) < 9223372036854775808 := xj_in _
    exact ttRs_ni hS h q.1 (by omega)))
  case lcmp =>
    refine ttJ2_ok h hs (fun x y r r2 h wx wy hr => ?_)
    split at h
    · rename_i c t rs2
      obtain ⟨e1, e2⟩ := zz_hd hp
      have q := ttBr_ok (pc' := pc + 1 + 1) hG hd e2 hJ hS hL hr hE wx wy h
      refine xW_step (show xGo (xCall dd) (xW dd cd Q) Q (xNext dd (cd.getD (pc + 1) .nop) (pc + 1) L2 ((0, xLcmp (yyG ρ x) (yyG ρ y)) :: r2) H) from ?_)
      rw [e1]
      exact ⟨fun z => q.1 (xT_lcmp.1 z), fun z => q.2 (xT_lcmp.2 z)⟩
    · cases h
  case ifCond c t => exact ttB1_ok h hs (fun x r r2 h w hr => by
    have q := ttBr_ok (pc' := pc + 1) hG hd hp hJ hS hL hr hE w (Or.inl rfl) h
    rw [yyG_c] at q
    exact q)
  case if_icmp c t => exact ttB2_ok h hs (fun x y r r2 h wx wy hr => ttBr_ok (pc' := pc + 1) hG hd hp hJ hS hL hr hE wx wy h)
  case ifnull t => exact ttR1_ok h hs (fun x r r2 h w hr => by
    obtain ⟨q1, q2⟩ := ttNu_ok hS w h
    exact ⟨fun z => ttGo_ok hG hd rfl hJ hL hr hE (q1 z), fun z => ttGo_ok hG hd hp hJ hL hr hE (q2 z)⟩)
  case ifnonnull t => exact ttR1_ok h hs (fun x r r2 h w hr => by
    obtain ⟨q1, q2⟩ := ttNu_ok hS w h
    exact ⟨fun z => ttGo_ok hG hd rfl hJ hL hr hE (q2 z), fun z => ttGo_ok hG hd hp hJ hL hr hE (q1 z)⟩)
  case goto t => exact ttO_ok hG hd rfl hJ hL hs hE rfl hS h
  case tableswitch t lo hi ts =>
    refine ttB1_ok h hs (fun x r r2 h w hr => ?_)
    obtain ⟨h1, h2⟩ := zz_and h
    obtain ⟨h2, h3⟩ := zz_and h2
    refine ⟨ttSw_ok (g := fun u => (u, L2, r2, H)) (fun v u hf e => ttGo_ok hG hd rfl hJ hL hr hE (ttAs_ok hS w (Or.inl rfl) hf (by rw [yyG_c]; exact e))) h1, fun z => ?_⟩
    rw [List.length_map] at z
    rcases z with z | z
    · exact ttGo_ok hG hd rfl hJ hL hr hE (ttAs_ok hS w (Or.inl rfl) h2 (by rw [yyG_c]; exact z))
    · exact ttGo_ok hG hd rfl hJ hL hr hE (ttAs_ok hS w (Or.inl rfl) h3 (by rw [yyG_c]; exact z))
  case iaload => exact ttA2_ok h hs (fun a i r r2 h wa wi hr => by
    obtain ⟨q1, q2, q3⟩ := ttAl_ok hJ.1 hS wa wi h
    exact ⟨⟨zzEq_ok q1, q2⟩, ttN_ok hG hd hp hJ hL hr hE q3⟩)
  case baload => exact ttA2_ok h hs (fun a i r r2 h wa wi hr => by
    obtain ⟨q1, q2, q3⟩ := ttAl_ok hJ.1 hS wa wi h
    exact ⟨⟨zzEq_ok q1, q2⟩, ttN_ok hG hd hp hJ hL hr hE q3⟩)
  case caload => exact ttA2_ok h hs (fun a i r r2 h wa wi hr => by
    obtain ⟨q1, q2, q3⟩ := ttAl_ok hJ.1 hS wa wi h
    exact ⟨⟨zzEq_ok q1, q2⟩, ttN_ok hG hd hp hJ hL hr hE q3⟩)
  case laload => exact ttA2_ok h hs (fun a i r r2 h wa wi hr => by
    obtain ⟨q1, q2, q3⟩ := ttAl_ok hJ.1 hS wa wi h
    exact ⟨⟨zzEq_ok q1, q2⟩, ttN_ok hG hd hp hJ hL hr hE q3⟩)
  case aaload => exact ttA2_ok h hs (fun a i r r2 h wa wi hr => by
    obtain ⟨q1, q2, q3⟩ := ttAl_ok hJ.1 hS wa wi h
    exact ⟨⟨zzLe_ok q1, q2⟩, ttN_ok hG hd hp hJ hL hr hE q3⟩)
  case iastore => exact ttA3_ok h hs (fun a i x r r2 h wa wi wx hr => by
    obtain ⟨q1, X', h1, n1, S1, J1⟩ := ttAt_ok hJ hO hS wa wi wx h
    exact ⟨q1, ttO_ok hG hd hp J1 hL hr hE n1 S1 h1⟩)
  case bastore => exact ttA3_ok h hs (fun a i x r r2 h wa wi wx hr => by
    have q : (-128 : Int) ≤ w8 (yyG ρ x) ∧ w8 (yyG ρ x) < 128 := w8_in _
    obtain ⟨X1, ρ1, v, h1, n1, g1, S1, w1, e1⟩ := ttCs_ok hS wx h q.1 (show w8 (yyG ρ x) ≤ 127 by omega) tt_w8
    obtain ⟨q1, X', h2, n2, S2, J2⟩ := ttAt_ok hJ hO S1 (ttW_up n1 wa) (ttW_up n1 wi) w1 h1
    rw [yyG_ag wa g1, yyG_ag wi g1, e1] at S2 J2
    rw [yyG_ag wa g1, yyG_ag wi g1] at q1
    exact ⟨q1, ttO_ok hG hd hp J2 (ttF_imp (fun _ _ z => ttQ_up n1 g1 z) hL) (ttF_imp (fun _ _ z => ttR_up n1 g1 z) hr) (ttEn2_up n1 g1 hE) n2 S2 h2⟩)
  case castore => exact ttA3_ok h hs (fun a i x r r2 h wa wi wx hr => by
    obtain ⟨h0, h⟩ := zz_and h
    obtain ⟨l, hh, h0, b1, b2⟩ := ttBd_ok hS h0
    have z1 := zzLe_ok (zz_and h0).1
    have z2 := zzLe_ok (zz_and h0).2
    obtain ⟨q1, X', h1, n1, S1, J1⟩ := ttAt_ok hJ hO hS wa wi wx h
    exact ⟨⟨q1.1, q1.2.1, q1.2.2.1, q1.2.2.2, by omega⟩, ttO_ok hG hd hp J1 hL hr hE n1 S1 h1⟩)
  case lastore => exact ttA3_ok h hs (fun a i x r r2 h wa wi wx hr => by
    obtain ⟨q1, X', h1, n1, S1, J1⟩ := ttAt_ok hJ hO hS wa wi wx h
    exact ⟨q1, ttO_ok hG hd hp J1 hL hr hE n1 S1 h1⟩)
  case arraylength => exact ttR1_ok h hs (fun a r r2 h wa hr => by
    obtain ⟨h, a1, a2⟩ := ttRl_ok hJ.1 hS h
    obtain ⟨t1, t2, t3⟩ := hJ.1.2 _ a1 a2
    revert h t1 t2
    generalize ttTb (ttRo (yyG ρ a)) = tb
    obtain ⟨κ, len, sz, m, ts⟩ := tb
    intro h t1 t2
    have t1 : H.2.1 (yyG ρ a) = κ := t1
    have t2 : H.2.2.1 (yyG ρ a) = len := t2
    obtain ⟨h1, h2⟩ := zz_and h
    exact ⟨by rw [t1]; exact zzLe_ok h1, ttN_ok hG hd hp hJ hL hr hE (ttRs_ex hS h2 (Or.inl rfl) ((yyG_c ρ len).trans t2.symm))⟩)
  case getfield q => exact ttR1_ok h hs (fun a r r2 h wa hr => by
    obtain ⟨q1, q2⟩ := ttGf_ok hJ.1 hS wa h
    exact ⟨q1, ttN_ok hG hd hp hJ hL hr hE q2⟩)
  case putfield q =>
    split at h
    · rename_i t x a r
      match st2, hs with
      | (_, y) :: (_, b) :: r2, hs =>
        obtain ⟨⟨e, wx, e2⟩, ⟨e3, wa, e4⟩, hr⟩ := hs
        cases e
        cases e2
        cases e3
        cases e4
        obtain ⟨h1, h2⟩ := zz_and h
        obtain ⟨q1, X', h3, n1, S1, J1⟩ := ttPf_ok hJ hO hS wa wx h2
        refine ⟨?_, ttO_ok hG hd hp J1 hL hr hE n1 S1 h3⟩
        show xPt (q % 10) t (yyG ρ x) (H.2.1 (yyG ρ a) = ((q / 1000 : Nat) : Int))
        exact ttPt_ok q1 hS h1
    · cases h
  case invokevirtual q =>
    have ht := ttF_rev (ttF_take (q / 4 % 20) hs)
    have hdr := ttF_drop (q / 4 % 20) hs
    have hl := ttF_len hs
    have hc := ttCat_ok hdr
    simp only [xNext]
    rw [← hc, ← hl]
    split at h
    · rename_i a as z1 z2
      rw [z1] at ht
      rw [z2]
      generalize (st2.take (q / 4 % 20)).reverse = ws at ht
      match ws, ht with
      | (_, b) :: vs, ht =>
        obtain ⟨⟨e, wa, e2⟩, hr⟩ := ht
        cases e
        cases e2
        obtain ⟨h1, h2⟩ := zz_and h
        obtain ⟨h1, h3⟩ := zz_and h1
        obtain ⟨h1, a1, a2⟩ := ttRl_ok hJ.1 hS h1
        exact ⟨ttNs_ok ((hJ.1.2 _ a1 a2).1.trans (zzEq_ok h1)) hJ.1 hS hr h3, ttIv_ok (as := (2, a) :: as) (vs := (2, yyG ρ a) :: vs) (r2 := st2.drop (q / 4 % 20)) hC hG hd hp hJ hS hL ⟨⟨rfl, wa, rfl⟩, hr⟩ hdr hE h2⟩
    · cases h
  case invokespecial q =>
    have ht := ttF_rev (ttF_take (q / 4 % 20) hs)
    have hdr := ttF_drop (q / 4 % 20) hs
    have hl := ttF_len hs
    have hc := ttCat_ok hdr
    simp only [xNext]
    rw [← hc, ← hl]
    split at h
    · rename_i a as z1 z2
      rw [z1] at ht
      rw [z2]
      generalize (st2.take (q / 4 % 20)).reverse = ws at ht
      match ws, ht with
      | (_, b) :: vs, ht =>
        obtain ⟨⟨e, wa, e2⟩, hr⟩ := ht
        cases e
        cases e2
        obtain ⟨h1, h2⟩ := zz_and h
        obtain ⟨h1, h3⟩ := zz_and h1
        obtain ⟨h1, a1, a2⟩ := ttRl_ok hJ.1 hS h1
        exact ⟨ttNs_ok ((hJ.1.2 _ a1 a2).1.trans (zzEq_ok h1)) hJ.1 hS hr h3, ttIv_ok (as := (2, a) :: as) (vs := (2, yyG ρ a) :: vs) (r2 := st2.drop (q / 4 % 20)) hC hG hd hp hJ hS hL ⟨⟨rfl, wa, rfl⟩, hr⟩ hdr hE h2⟩
    · cases h
  case invokestatic q =>
    have ht := ttF_rev (ttF_take (q / 4 % 20) hs)
    have hdr := ttF_drop (q / 4 % 20) hs
    have hl := ttF_len hs
    have hc := ttCat_ok hdr
    have h : (((Nat.ble (ttCat (st.drop (q / 4 % 20))) 8 && Nat.ble (q / 4 % 20) st.length) && ttNs X (st.take (q / 4 % 20)).reverse) && ttIv ev ih ct k d cd rs (Nat.add pc 1) L X (q / 8000) (st.take (q / 4 % 20)).reverse (q % 4) (st.drop (q / 4 % 20))) = true := h
    obtain ⟨h1, h2⟩ := zz_and h
    obtain ⟨h1, h3⟩ := zz_and h1
    simp only [xNext]
    rw [← hc, ← hl, h1]
    exact ⟨ttNs_ok trivial hJ.1 hS ht h3, ttIv_ok (r2 := st2.drop (q / 4 % 20)) hC hG hd hp hJ hS hL ht hdr hE h2⟩
  case dadd => exact ttB2_ok h hs (fun x y r r2 h wx wy hr => by
    obtain ⟨h1, h2⟩ := zz_and h
    obtain ⟨h1, h3⟩ := zz_and h1
    have h3 : 0 < d := by simpa only [Nat.blt_eq] using h3
    exact ttIf (ttCatle hr h1) ⟨by omega, ttN_ok hG hd hp hJ hL hr hE (ttMx_ok hS wx wy h2)⟩)
  case dsub => exact ttB2_ok h hs (fun x y r r2 h wx wy hr => by
    obtain ⟨h1, h2⟩ := zz_and h
    obtain ⟨h1, h3⟩ := zz_and h1
    have h3 : 0 < d := by simpa only [Nat.blt_eq] using h3
    exact ttIf (ttCatle hr h1) ⟨by omega, ttN_ok hG hd hp hJ hL hr hE (ttMn_ok hS wx wy h2)⟩)
  case dmul =>
    split at h
    · rename_i c1 u1 l c2 u2 dp b c3 u3 sp a r
      match st2, hs with
      | (_, y1) :: (_, y2) :: (_, y3) :: (_, y4) :: (_, y5) :: r2, hs =>
        obtain ⟨⟨e1, v1, f1⟩, ⟨e2, v2, f2⟩, ⟨e3, v3, f3⟩, ⟨e4, v4, f4⟩, ⟨e5, v5, f5⟩, hr⟩ := hs
        cases e1
        cases e2
        cases e3
        cases e4
        cases e5
        obtain ⟨h1, h2⟩ := zz_and h
        obtain ⟨h1, h3⟩ := zz_and h1
        obtain ⟨h1, h4⟩ := zz_and h1
        obtain ⟨h1, h5⟩ := zz_and h1
        obtain ⟨h4, h6⟩ := zz_and h4
        have h3 : 0 < d := by simpa only [Nat.blt_eq] using h3
        have g1 : yyG ρ (c1, u1, l) = l := by rw [zzEq_ok h1]; exact (show (0 : Int) * ρ u1 + l = l by omega)
        have g2 : yyG ρ (c2, u2, dp) = dp := by rw [zzEq_ok h5]; exact (show (0 : Int) * ρ u2 + dp = dp by omega)
        have g4 : yyG ρ (c3, u3, sp) = sp := by rw [zzEq_ok h4]; exact (show (0 : Int) * ρ u3 + sp = sp by omega)
        have f1 : l = y1 := g1.symm.trans f1
        have f2 : dp = y2 := g2.symm.trans f2
        have f3 : yyG ρ b = y3 := f3
        have f4 : sp = y4 := g4.symm.trans f4
        have f5 : yyG ρ a = y5 := f5
        subst f1
        subst f2
        subst f3
        subst f4
        subst f5
        obtain ⟨q1, X', h7, n1, S1, J1⟩ := ttCy_ok hJ hO hS h2
        exact ttIf (ttCatle hr h6) ⟨⟨by omega, q1⟩, ttO_ok hG hd hp J1 hL hr hE n1 S1 h7⟩
    · cases h
  case ireturn =>
    split at h
    · match st2, hs with
      | [(_, y)], hs =>
        obtain ⟨⟨e, w, e2⟩, -⟩ := hs
        cases e
        cases e2
        exact ⟨trivial, hE1 X _ ρ H h (Nat.le_refl _) (ttAg_rf _ _) hJ hS w⟩
    · cases h
  case freturn =>
    split at h
    · rename_i x
      match st2, hs with
      | [(_, y)], hs =>
        obtain ⟨⟨e, w, e2⟩, -⟩ := hs
        cases e
        cases e2
        obtain ⟨h1, h2⟩ := zz_and h
        obtain ⟨l, hh, h0, b1, b2⟩ := ttBd_ok hS h1
        have z1 := zzLe_ok (zz_and h0).1
        have z2 := zzLe_ok (zz_and h0).2
        have z : yyG ρ x = 0 ∨ yyG ρ x = 1 := by omega
        exact ⟨z, hE1 X _ ρ H h2 (Nat.le_refl _) (ttAg_rf _ _) hJ hS w⟩
    · cases h
  case lreturn =>
    split at h
    · match st2, hs with
      | [(_, y)], hs =>
        obtain ⟨⟨e, w, e2⟩, -⟩ := hs
        cases e
        cases e2
        exact ⟨trivial, hE1 X _ ρ H h (Nat.le_refl _) (ttAg_rf _ _) hJ hS w⟩
    · cases h
  case areturn =>
    split at h
    · match st2, hs with
      | [(_, y)], hs =>
        obtain ⟨⟨e, w, e2⟩, -⟩ := hs
        cases e
        cases e2
        exact ⟨trivial, hE1 X _ ρ H h (Nat.le_refl _) (ttAg_rf _ _) hJ hS w⟩
    · cases h
  case return_ =>
    split at h
    · match st2, hs with
      | [], hs =>
        have q := hE1 X (0, 0, 0) ρ H h (Nat.le_refl _) (ttAg_rf _ _) hJ hS (Or.inl rfl)
        rw [yyG_c] at q
        exact ⟨trivial, q⟩
    · cases h
  all_goals cases h
theorem ttSp_ok (hC : ∀ c ∈ ev.1, ttHas XX c) (hO : ttOut XX ev.2.2) (hG : ttGd XX ev ih) : ttGd XX ev (ttSp ev ih) := by
  intro ct k d cd rs pc L st X h dd ρ H0 H L2 st2 Q hd hp hJ hS hL hs hE
  match rs, hp, h with
  | [], _, h => cases h
  | i :: rest, hp, h =>
    refine xW_step ?_
    rw [(zz_hd hp).1]
    exact ttIx_ok hC hO hG hd hp hJ hS hL hs hE h
theorem ttCu_ok {ct : ttCt} {pc : Nat} {g : List ttV → ttX → Bool} (h : ttCu ct pc = some g) : (pc, g) ∈ ct := by
  induction ct with
  | nil => cases h
  | cons q r ihh =>
    obtain ⟨p, g2⟩ := q
    have h : (match Nat.beq p pc with | true => some g2 | false => ttCu r pc) = some g := h
    cases e : Nat.beq p pc
    · rw [e] at h
      exact List.mem_cons_of_mem _ (ihh h)
    · rw [e] at h
      cases h
      rw [Nat.eq_of_beq_eq_true e]
      exact List.mem_cons_self
theorem ttBo_ok (hC : ∀ c ∈ ev.1, ttHas XX c) (hO : ttOut XX ev.2.2) (hG : ttGd XX ev ih) : ttGd XX ev (ttBo ev ih) := by
  intro ct k d cd rs pc L st X h dd ρ H0 H L2 st2 Q hd hp hJ hS hL hs hE
  unfold ttBo at h
  cases e : ttCu ct pc with
  | none =>
    rw [e] at h
    exact ttSp_ok hC hO hG ct k d cd rs pc L st X h dd ρ H0 H L2 st2 Q hd hp hJ hS hL hs hE
  | some g =>
    rw [e] at h
    match st, st2, hs, h with
    | [], [], _, h => exact hE.2 _ (ttCu_ok e) L X ρ H L2 h (Nat.le_refl _) (ttAg_rf _ _) hJ hS hL
    | _ :: _, _, _, h => cases h
theorem ttRun_ok (hC : ∀ c ∈ ev.1, ttHas XX c) (hO : ttOut XX ev.2.2) : ∀ n : Nat, ttGd XX ev (ttRun ev n)
  | 0 => fun _ _ _ _ _ _ _ _ _ h => Bool.noConfusion (show false = true from h)
  | n + 1 => ttBo_ok hC hO (ttRun_ok hC hO n)
end TTU
