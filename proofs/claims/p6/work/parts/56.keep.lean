/-! the reference: forgets, keep, back -/
theorem ttPuT {ef : ttEf} {H0 H : xH} (hT : ttTI H) (hF : ttFr ef H0 H) {a j x : Int} (a1 : 1 ≤ a) (hty : 0 ≤ j → j < (ttTb (ttRo a)).2.2.1 → ttM (H.2.2.2.1 : Int) (ttTy (ttTb (ttRo a)) j) x) (hin : ∃ q ∈ ef.2, ttHit q a j) : ttTI (xUp H.1 a j x, H.2) ∧ ttFr ef H0 (xUp H.1 a j x, H.2) := by
  have c := ttPut (XX := fun _ => True) (ff := []) (fun _ _ _ _ _ => trivial) hT trivial hF a1 hty hin (fun q hq => absurd hq List.not_mem_nil)
  exact ⟨c.1, c.2.2⟩
theorem up_ne {D : xD} {a j x b k : Int} (h : ¬ (b = a ∧ k = j)) : xUp D a j x b k = D b k := by
  show (if b = a ∧ k = j then x else D b k) = D b k
  rw [if_neg h]
theorem up_na {D : xD} {a j x b k : Int} (h : b ≠ a) : xUp D a j x b k = D b k := up_ne (fun z => h z.1)
theorem up_tr {D : xD} {a j x b k y : Int} (h : b ≠ a) (w : D b k = y) : xUp D a j x b k = y := (up_na h).trans w
theorem up_t2 {D : xD} {a j x b k y : Int} (h : ¬ (b = a ∧ k = j)) (w : D b k = y) : xUp D a j x b k = y := (up_ne h).trans w
theorem up_eq {D : xD} {a j x : Int} : xUp D a j x a j = x := by
  show (if a = a ∧ j = j then x else D a j) = x
  rw [if_pos ⟨rfl, rfl⟩]
theorem fr_no {ef : ttEf} {H H' : xH} (hF : ttFr ef H H') {a j : Int} (r : Nat) (ha : a < (H.2.2.2.1 : Int)) (hr : ttRo a = r) (hne : ef.2.all (fun q => decide (q.1 ≠ r)) = true) : H'.1 a j = H.1 a j :=
  hF.2.2.2 a j ha (fun q hq hh => by
    have k := of_decide_eq_true (List.all_eq_true.mp hne q hq)
    exact k (hh.1.2.symm.trans hr))
theorem rm_fr {ef : ttEf} {H H' : xH} (hF : ttFr ef H H') (h1 : ef.1 = true) (hn : 210 ≤ (H.2.2.2.1 : Int)) (hne : ef.2.all (fun q => decide (q.1 ≠ 73)) = true) (h : ttRM H) : ttRM H' := by
  have e : ∀ j : Int, H'.1 73 j = H.1 73 j := fun j => fr_no hF 73 (by omega) rfl hne
  have eN : ttNs5 H'.1 = ttNs5 H.1 := by
    unfold ttNs5
    rw [e 0, e 1, e 2, e 3, e 4]
  have e2 := hF.1 h1
  exact ⟨by rw [e2, eN]; exact h.1, by rw [e2, eN]; exact h.2⟩
theorem ty_img {k i : Int} (i0 : 0 ≤ i) (i1 : i < 196) : ttTy (ttTb 185) (196 * k + i) = ttTy (ttTb 184) i := by
  unfold ttTy
  rw [show (ttTb 185).2.2.2.1 = 196 from rfl, show (ttTb 184).2.2.2.1 = 196 from rfl, show (196 * k + i) % 196 = i % 196 by omega]
  rfl
theorem lf_forgets {dd : Nat} (hd : 1 ≤ dd) {H : xH} (hT : ttTI H) {Q : Int → xH → Prop} (hQ : ∀ H', ttTI H' → ttFr (true, [(193, 0, 975), (183, 22, 22), (183, 29, 29)]) H H' → H'.1 183 22 = 0 → H'.1 183 29 = -1 → Q 0 H') : xCall dd 266 [(2, 183)] H Q := by
  obtain ⟨e, rfl, he⟩ := ttRun0 (n := 0) hd
  have hl : ∀ n : Nat, ∀ (K : xH) (i : Int), ttTI K → ttFr (true, [(193, 0, 975), (183, 22, 22), (183, 29, 29)]) H K → K.1 183 22 = 0 → K.1 183 29 = -1 → 0 ≤ i → i ≤ 976 → 976 - i ≤ (n : Int) → xW e cd_266 Q (8, [(2, 183), (0, i)], [], K) := by
    intro n
    induction n with
    | zero =>
      intro K i kT kF w1 w2 i0 i1 hn
      refine q_il (pc := 8) (i := 1) (x := i) rfl rfl ?_
      refine q_ic (pc := 9) (v := 976) rfl ?_
      refine q_i2 (pc := 10) rfl (fun h10 => ?_) (fun h10 => ?_)
      · replace h10 : 976 ≤ i := h10
        refine q_rv (pc := 18) rfl ?_
        exact hQ K kT kF w1 w2
      · replace h10 : i < 976 := h10
        refine q_al (pc := 11) (i := 0) (x := 183) rfl rfl ?_
        refine q_gf (pc := 12) (m := 12242) (t := 2) (c := 24) rfl (ttKc kT (a := 183) (κ := 12) (len := 0) ⟨rfl, rfl⟩ (by decide) (by decide)).1 rfl rfl ?_
        rw [show K.1 183 24 = 193 from ttFx kT (by decide) (by decide) rfl rfl rfl]
        refine q_il (pc := 13) (i := 1) (x := i) rfl rfl ?_
        refine q_ic (pc := 14) (v := (-1)) rfl ?_
        refine q_si (pc := 15) rfl (by decide) (ttKc kT (a := 193) (κ := 20) (len := 976) ⟨rfl, rfl⟩ (by decide) (by decide)).1 (by omega) (by rw [(ttKc kT (a := 193) (κ := 20) (len := 976) ⟨rfl, rfl⟩ (by decide) (by decide)).2]; omega) ?_
        refine q_ii (pc := 16) (i := 1) (c := 1) (x := i) (L' := [(2, 183), (0, (i + 1))]) rfl rfl rfl (by omega) (by omega) rfl ?_
        refine q_go (pc := 17) rfl ?_
        omega
    | succ n ih =>
      intro K i kT kF w1 w2 i0 i1 hn
      refine q_il (pc := 8) (i := 1) (x := i) rfl rfl ?_
      refine q_ic (pc := 9) (v := 976) rfl ?_
      refine q_i2 (pc := 10) rfl (fun h10 => ?_) (fun h10 => ?_)
      · replace h10 : 976 ≤ i := h10
        refine q_rv (pc := 18) rfl ?_
        exact hQ K kT kF w1 w2
      · replace h10 : i < 976 := h10
        refine q_al (pc := 11) (i := 0) (x := 183) rfl rfl ?_
        refine q_gf (pc := 12) (m := 12242) (t := 2) (c := 24) rfl (ttKc kT (a := 183) (κ := 12) (len := 0) ⟨rfl, rfl⟩ (by decide) (by decide)).1 rfl rfl ?_
        rw [show K.1 183 24 = 193 from ttFx kT (by decide) (by decide) rfl rfl rfl]
        refine q_il (pc := 13) (i := 1) (x := i) rfl rfl ?_
        refine q_ic (pc := 14) (v := (-1)) rfl ?_
        refine q_si (pc := 15) rfl (by decide) (ttKc kT (a := 193) (κ := 20) (len := 976) ⟨rfl, rfl⟩ (by decide) (by decide)).1 (by omega) (by rw [(ttKc kT (a := 193) (κ := 20) (len := 976) ⟨rfl, rfl⟩ (by decide) (by decide)).2]; omega) ?_
        refine q_ii (pc := 16) (i := 1) (c := 1) (x := i) (L' := [(2, 183), (0, (i + 1))]) rfl rfl rfl (by omega) (by omega) rfl ?_
        refine q_go (pc := 17) rfl ?_
        have c := ttPuT kT kF (a := 193) (j := i) (x := -1) (by decide) (fun _ _ => ttTyr rfl (by decide) (by decide)) ⟨(193, 0, 975), List.mem_cons_self .., ⟨⟨by decide, rfl⟩, by show (0 : Int) ≤ i; omega, by show i ≤ 975; omega⟩⟩
        exact ih _ (i + 1) c.1 c.2 (show xUp K.1 193 i (-1) 183 22 = 0 from up_tr (by decide) w1) (show xUp K.1 193 i (-1) 183 29 = -1 from up_tr (by decide) w2) (by omega) (by omega) (by omega)
  refine xC_of (L := [(2, 183), (9, 0)]) (cd := cd_266) rfl rfl rfl ?_
  refine q_al (pc := 0) (i := 0) (x := 183) rfl rfl ?_
  refine q_ic (pc := 1) (v := (-1)) rfl ?_
  refine q_pf (pc := 2) (m := 12290) (c := 29) rfl (show xPt 0 0 _ _ from (ttKc hT (a := 183) (κ := 12) (len := 0) ⟨rfl, rfl⟩ (by decide) (by decide)).1) rfl ?_
  refine q_al (pc := 3) (i := 0) (x := 183) rfl rfl ?_
  refine q_ic (pc := 4) (v := 0) rfl ?_
  refine q_pf (pc := 5) (m := 12223) (c := 22) rfl (show xPt 3 0 _ _ from ⟨(ttKc hT (a := 183) (κ := 12) (len := 0) ⟨rfl, rfl⟩ (by decide) (by decide)).1, by omega⟩) rfl ?_
  refine q_ic (pc := 6) (v := 0) rfl ?_
  refine q_is (pc := 7) (i := 1) (L' := [(2, 183), (0, 0)]) rfl rfl rfl ?_
  have c1 := ttPuT hT (ttFr_rf (true, [(193, 0, 975), (183, 22, 22), (183, 29, 29)]) H) (a := 183) (j := 29) (x := -1) (by decide) (fun _ _ => show ttM _ (0, -2147483648, 2147483647) (-1) from ⟨by decide, by decide⟩) ⟨(183, 29, 29), by decide, ⟨⟨by decide, rfl⟩, by decide, by decide⟩⟩
  have c2 := ttPuT c1.1 c1.2 (a := 183) (j := 22) (x := 0) (by decide) (fun _ _ => show ttM _ (0, 0, 1) 0 from ⟨by decide, by decide⟩) ⟨(183, 22, 22), by decide, ⟨⟨by decide, rfl⟩, by decide, by decide⟩⟩
  exact hl 976 _ 0 c2.1 c2.2 (show xUp (xUp H.1 183 29 (-1)) 183 22 0 183 22 = 0 from up_eq) (show xUp (xUp H.1 183 29 (-1)) 183 22 0 183 29 = -1 from up_t2 (by decide) up_eq) (by decide) (by decide) (by decide)
theorem hm_forgets : ttHas (ttXX YY) m_forgets := by
  intro dd hdd vs H hT hX hargs hcells Q hQ
  obtain ⟨v0, vs, rfl, p0, hargs⟩ := ttV1 hargs
  cases ttV0 hargs
  cases ttPk p0
  refine lf_forgets hdd hT (fun H' hT' hF w1 w2 => hQ 0 H' hT' ?_ hF ⟨_, List.mem_singleton.mpr rfl, ttPk_of rfl⟩ (fun q hq => absurd hq List.not_mem_nil))
  obtain ⟨rm, n, w, im, -, -⟩ := hX
  refine ⟨rm_fr hF rfl n (by decide) rm, ?_, yyR_eq (fun j _ _ _ => fr_no hF 184 (by omega) rfl (by decide)) w, fun k k0 k1 k2 => ?_, fun z => ?_, fun z => absurd w2 z⟩
  · rw [hF.1 rfl]; exact n
  · rw [fr_no hF 186 (by omega) rfl (by decide)] at k2
    exact yyR_eq (fun j _ _ _ => fr_no hF 185 (by omega) rfl (by decide)) (im k k0 k1 k2)
  · rw [w1] at z
    exact absurd z (by decide)
def m_keep2 : ttCon := (205, 2, [(2, (0, 183, (9, 0, 0))), (0, (1, 0, (0, (-2147483648), 2147483647)))], [], [(1, 0, (0, (-2), 0))], [], true, [(185, 0, 587), (186, 0, 2)])
theorem lf_keep2 {dd : Nat} {v1 : Int} (hd : 2 ≤ dd) {H : xH} (hT : ttTI H) (hX : ttXX YY H) (p1 : -2147483648 ≤ v1 ∧ v1 ≤ 2147483647) {Q : Int → xH → Prop} (hq : ∀ r H', ((0 ≤ v1 ∧ v1 ≤ 2) ∧ r = 0 ∨ ¬ (0 ≤ v1 ∧ v1 ≤ 2) ∧ r = -2) → ttTI H' → ttXX YY H' → ttFr (true, [(185, 0, 587), (186, 0, 2)]) H H' → Q r H') : xCall dd 205 [(2, 183), (0, v1)] H Q := by
  obtain ⟨e, rfl, he⟩ := ttRun0 (n := 1) hd
  have he : 1 ≤ e := he
  obtain ⟨rm, n, w, im, wy, lg⟩ := id hX
  have hl : ∀ m : Nat, ∀ (K : xH) (i : Int), ttTI K → ttFr (true, [(185, 0, 587), (186, 0, 2)]) H K → (∀ j : Int, 0 ≤ j → j < i → K.1 185 (196 * v1 + j) = H.1 184 j) → (∀ j : Int, ¬ (196 * v1 ≤ j ∧ j < 196 * v1 + i) → K.1 185 j = H.1 185 j) → (∀ j : Int, K.1 186 j = H.1 186 j) → 0 ≤ v1 → v1 ≤ 2 → 0 ≤ i → i ≤ 196 → 196 - i ≤ (m : Int) → xW e cd_205 Q (10, [(2, 183), (0, v1), (0, i)], [], K) := by
    intro m
    induction m with
    | zero =>
      intro K i kT kF f1 f2 f3 w1 w2 i0 i1 hn
      refine q_il (pc := 10) (i := 2) (x := i) rfl rfl ?_
      refine q_ic (pc := 11) (v := 196) rfl ?_
      refine q_i2 (pc := 12) rfl (fun h12 => ?_) (fun h12 => ?_)
      · replace h12 : 196 ≤ i := h12
        refine q_al (pc := 27) (i := 0) (x := 183) rfl rfl ?_
        refine q_gf (pc := 28) (m := 12032) (t := 2) (c := 3) rfl (ttKc kT (a := 183) (κ := 12) (len := 0) ⟨rfl, rfl⟩ (by decide) (by decide)).1 rfl rfl ?_
        rw [show K.1 183 3 = 186 from ttFx kT (by decide) (by decide) rfl rfl rfl]
        refine q_il (pc := 29) (i := 1) (x := v1) rfl rfl ?_
        refine q_ic (pc := 30) (v := 1) rfl ?_
        refine q_sc2 (pc := 31) rfl (by decide) (ttKc kT (a := 186) (κ := 22) (len := 3) ⟨rfl, rfl⟩ (by decide) (by decide)).1 (by omega) (by rw [(ttKc kT (a := 186) (κ := 22) (len := 3) ⟨rfl, rfl⟩ (by decide) (by decide)).2]; omega) (by omega) ?_
        refine q_ic (pc := 32) (v := 0) rfl ?_
        refine q_ri (pc := 33) rfl ?_
        have c := ttPuT kT kF (a := 186) (j := v1) (x := 1) (by decide) (fun _ _ => ttTyr rfl (by decide) (by decide)) ⟨(186, 0, 2), List.mem_cons_of_mem _ (List.mem_cons_self ..), ⟨⟨by decide, rfl⟩, by show (0 : Int) ≤ v1; omega, by show v1 ≤ 2; omega⟩⟩
        refine hq _ _ (by omega) c.1 ⟨rm_fr c.2 rfl n (by decide) rm, by show 210 ≤ (K.2.2.2.1 : Int); rw [kF.1 rfl]; exact n, yyR_eq (fun j _ _ _ => fr_no c.2 184 (by omega) rfl (by decide)) w, fun k k0 k1 k2 => ?_, fun z => ?_, fun z => ?_⟩ c.2
        · by_cases z : k = v1
          · subst z
            exact yyR_eq (fun j j0 j1 _ => by
              rw [Int.zero_add]
              exact (show xUp K.1 186 k 1 185 (196 * k + j) = _ from up_tr (by decide) (f1 j j0 (by omega)))) w
          · have e : xUp K.1 186 v1 1 186 k = H.1 186 k := up_t2 (by omega) (f3 k)
            replace k2 : xUp K.1 186 v1 1 186 k ≠ 0 := k2
            rw [e] at k2
            exact yyR_eq (fun j j0 j1 _ => show xUp K.1 186 v1 1 185 (196 * k + j) = _ from up_tr (by decide) (f2 _ (by omega))) (im k k0 k1 k2)
        · rw [fr_no c.2 183 (by omega) rfl (by decide)] at z
          exact yyW_eq (fun j _ _ _ => fr_no c.2 184 (by omega) rfl (by decide)) (fun j _ _ => fr_no c.2 190 (by omega) rfl (by decide)) (fun j _ _ => fr_no c.2 191 (by omega) rfl (by decide)) (wy z)
        · rw [fr_no c.2 183 (by omega) rfl (by decide)] at z
          obtain ⟨z1, z2⟩ := lg z
          exact ⟨(fr_no c.2 183 (by omega) rfl (by decide)).trans z1, yyL_eq (fun j _ _ _ => fr_no c.2 184 (by omega) rfl (by decide)) (fun j _ _ => fr_no c.2 190 (by omega) rfl (by decide)) (fun j _ _ => fr_no c.2 191 (by omega) rfl (by decide)) (fun j _ _ => fr_no c.2 196 (by omega) rfl (by decide)) z2⟩
      · replace h12 : i < 196 := h12
        refine q_al (pc := 13) (i := 0) (x := 183) rfl rfl ?_
        refine q_gf (pc := 14) (m := 12022) (t := 2) (c := 2) rfl (ttKc kT (a := 183) (κ := 12) (len := 0) ⟨rfl, rfl⟩ (by decide) (by decide)).1 rfl rfl ?_
        rw [show K.1 183 2 = 185 from ttFx kT (by decide) (by decide) rfl rfl rfl]
        refine q_ic (pc := 15) (v := 196) rfl ?_
        refine q_il (pc := 16) (i := 1) (x := v1) rfl rfl ?_
        refine q_im (pc := 17) rfl (by omega) (by omega) ?_
        refine q_il (pc := 18) (i := 2) (x := i) rfl rfl ?_
        refine q_ia (pc := 19) rfl (by omega) (by omega) ?_
        refine q_al (pc := 20) (i := 0) (x := 183) rfl rfl ?_
        refine q_gf (pc := 21) (m := 12012) (t := 2) (c := 1) rfl (ttKc kT (a := 183) (κ := 12) (len := 0) ⟨rfl, rfl⟩ (by decide) (by decide)).1 rfl rfl ?_
        rw [show K.1 183 1 = 184 from ttFx kT (by decide) (by decide) rfl rfl rfl]
        refine q_il (pc := 22) (i := 2) (x := i) rfl rfl ?_
        refine q_ai (pc := 23) rfl (ttKc kT (a := 184) (κ := 20) (len := 196) ⟨rfl, rfl⟩ (by decide) (by decide)).1 (by omega) (by rw [(ttKc kT (a := 184) (κ := 20) (len := 196) ⟨rfl, rfl⟩ (by decide) (by decide)).2]; omega) ?_
        refine q_si (pc := 24) rfl (by decide) (ttKc kT (a := 185) (κ := 20) (len := 588) ⟨rfl, rfl⟩ (by decide) (by decide)).1 (by omega) (by rw [(ttKc kT (a := 185) (κ := 20) (len := 588) ⟨rfl, rfl⟩ (by decide) (by decide)).2]; omega) ?_
        refine q_ii (pc := 25) (i := 2) (c := 1) (x := i) (L' := [(2, 183), (0, v1), (0, (i + 1))]) rfl rfl rfl (by omega) (by omega) rfl ?_
        refine q_go (pc := 26) rfl ?_
        omega
    | succ m ih =>
      intro K i kT kF f1 f2 f3 w1 w2 i0 i1 hn
      refine q_il (pc := 10) (i := 2) (x := i) rfl rfl ?_
      refine q_ic (pc := 11) (v := 196) rfl ?_
      refine q_i2 (pc := 12) rfl (fun h12 => ?_) (fun h12 => ?_)
      · replace h12 : 196 ≤ i := h12
        refine q_al (pc := 27) (i := 0) (x := 183) rfl rfl ?_
        refine q_gf (pc := 28) (m := 12032) (t := 2) (c := 3) rfl (ttKc kT (a := 183) (κ := 12) (len := 0) ⟨rfl, rfl⟩ (by decide) (by decide)).1 rfl rfl ?_
        rw [show K.1 183 3 = 186 from ttFx kT (by decide) (by decide) rfl rfl rfl]
        refine q_il (pc := 29) (i := 1) (x := v1) rfl rfl ?_
        refine q_ic (pc := 30) (v := 1) rfl ?_
        refine q_sc2 (pc := 31) rfl (by decide) (ttKc kT (a := 186) (κ := 22) (len := 3) ⟨rfl, rfl⟩ (by decide) (by decide)).1 (by omega) (by rw [(ttKc kT (a := 186) (κ := 22) (len := 3) ⟨rfl, rfl⟩ (by decide) (by decide)).2]; omega) (by omega) ?_
        refine q_ic (pc := 32) (v := 0) rfl ?_
        refine q_ri (pc := 33) rfl ?_
        have c := ttPuT kT kF (a := 186) (j := v1) (x := 1) (by decide) (fun _ _ => ttTyr rfl (by decide) (by decide)) ⟨(186, 0, 2), List.mem_cons_of_mem _ (List.mem_cons_self ..), ⟨⟨by decide, rfl⟩, by show (0 : Int) ≤ v1; omega, by show v1 ≤ 2; omega⟩⟩
        refine hq _ _ (by omega) c.1 ⟨rm_fr c.2 rfl n (by decide) rm, by show 210 ≤ (K.2.2.2.1 : Int); rw [kF.1 rfl]; exact n, yyR_eq (fun j _ _ _ => fr_no c.2 184 (by omega) rfl (by decide)) w, fun k k0 k1 k2 => ?_, fun z => ?_, fun z => ?_⟩ c.2
        · by_cases z : k = v1
          · subst z
            exact yyR_eq (fun j j0 j1 _ => by
              rw [Int.zero_add]
              exact (show xUp K.1 186 k 1 185 (196 * k + j) = _ from up_tr (by decide) (f1 j j0 (by omega)))) w
          · have e : xUp K.1 186 v1 1 186 k = H.1 186 k := up_t2 (by omega) (f3 k)
            replace k2 : xUp K.1 186 v1 1 186 k ≠ 0 := k2
            rw [e] at k2
            exact yyR_eq (fun j j0 j1 _ => show xUp K.1 186 v1 1 185 (196 * k + j) = _ from up_tr (by decide) (f2 _ (by omega))) (im k k0 k1 k2)
        · rw [fr_no c.2 183 (by omega) rfl (by decide)] at z
          exact yyW_eq (fun j _ _ _ => fr_no c.2 184 (by omega) rfl (by decide)) (fun j _ _ => fr_no c.2 190 (by omega) rfl (by decide)) (fun j _ _ => fr_no c.2 191 (by omega) rfl (by decide)) (wy z)
        · rw [fr_no c.2 183 (by omega) rfl (by decide)] at z
          obtain ⟨z1, z2⟩ := lg z
          exact ⟨(fr_no c.2 183 (by omega) rfl (by decide)).trans z1, yyL_eq (fun j _ _ _ => fr_no c.2 184 (by omega) rfl (by decide)) (fun j _ _ => fr_no c.2 190 (by omega) rfl (by decide)) (fun j _ _ => fr_no c.2 191 (by omega) rfl (by decide)) (fun j _ _ => fr_no c.2 196 (by omega) rfl (by decide)) z2⟩
      · replace h12 : i < 196 := h12
        refine q_al (pc := 13) (i := 0) (x := 183) rfl rfl ?_
        refine q_gf (pc := 14) (m := 12022) (t := 2) (c := 2) rfl (ttKc kT (a := 183) (κ := 12) (len := 0) ⟨rfl, rfl⟩ (by decide) (by decide)).1 rfl rfl ?_
        rw [show K.1 183 2 = 185 from ttFx kT (by decide) (by decide) rfl rfl rfl]
        refine q_ic (pc := 15) (v := 196) rfl ?_
        refine q_il (pc := 16) (i := 1) (x := v1) rfl rfl ?_
        refine q_im (pc := 17) rfl (by omega) (by omega) ?_
        refine q_il (pc := 18) (i := 2) (x := i) rfl rfl ?_
        refine q_ia (pc := 19) rfl (by omega) (by omega) ?_
        refine q_al (pc := 20) (i := 0) (x := 183) rfl rfl ?_
        refine q_gf (pc := 21) (m := 12012) (t := 2) (c := 1) rfl (ttKc kT (a := 183) (κ := 12) (len := 0) ⟨rfl, rfl⟩ (by decide) (by decide)).1 rfl rfl ?_
        rw [show K.1 183 1 = 184 from ttFx kT (by decide) (by decide) rfl rfl rfl]
        refine q_il (pc := 22) (i := 2) (x := i) rfl rfl ?_
        refine q_ai (pc := 23) rfl (ttKc kT (a := 184) (κ := 20) (len := 196) ⟨rfl, rfl⟩ (by decide) (by decide)).1 (by omega) (by rw [(ttKc kT (a := 184) (κ := 20) (len := 196) ⟨rfl, rfl⟩ (by decide) (by decide)).2]; omega) ?_
        refine q_si (pc := 24) rfl (by decide) (ttKc kT (a := 185) (κ := 20) (len := 588) ⟨rfl, rfl⟩ (by decide) (by decide)).1 (by omega) (by rw [(ttKc kT (a := 185) (κ := 20) (len := 588) ⟨rfl, rfl⟩ (by decide) (by decide)).2]; omega) ?_
        refine q_ii (pc := 25) (i := 2) (c := 1) (x := i) (L' := [(2, 183), (0, v1), (0, (i + 1))]) rfl rfl rfl (by omega) (by omega) rfl ?_
        refine q_go (pc := 26) rfl ?_
        have k := ttMc kT (a := 184) (j := i) (by decide) (by decide) i0 (by show i < 196; omega)
        have c := ttPuT kT kF (a := 185) (j := 196 * v1 + i) (x := K.1 184 i) (by decide) (fun _ _ => by rw [show ttRo 185 = 185 from rfl, ty_img i0 (by omega)]; exact k) ⟨(185, 0, 587), List.mem_cons_self .., ⟨⟨by decide, rfl⟩, by show (0 : Int) ≤ 196 * v1 + i; omega, by show 196 * v1 + i ≤ 587; omega⟩⟩
        exact ih _ (i + 1) c.1 c.2 (fun j j0 j1 => by
          by_cases z : j = i
          · subst z
            exact (show xUp K.1 185 (196 * v1 + j) (K.1 184 j) 185 (196 * v1 + j) = _ from up_eq.trans (fr_no kF 184 (by omega) rfl (by decide)))
          · exact (show xUp K.1 185 (196 * v1 + i) (K.1 184 i) 185 (196 * v1 + j) = _ from up_t2 (by omega) (f1 j j0 (by omega)))) (fun j hj => show xUp K.1 185 (196 * v1 + i) (K.1 184 i) 185 j = _ from up_t2 (by omega) (f2 j (by omega))) (fun j => show xUp K.1 185 (196 * v1 + i) (K.1 184 i) 186 j = _ from up_tr (by decide) (f3 j)) w1 w2 (by omega) (by omega) (by omega)
  refine xC_of (L := [(2, 183), (0, v1), (9, 0)]) (cd := cd_205) rfl rfl rfl ?_
  refine q_il (pc := 0) (i := 1) (x := v1) rfl rfl ?_
  refine q_2l (pc := 1) rfl ?_
  refine q_lc (pc := 2) (v := 0) rfl ?_
  refine q_lc (pc := 3) (v := 2) rfl ?_
  refine q_ij (pc := 4) (q := 1615932) rfl rfl rfl trivial ?_
  refine lf_in (by omega) (fun h4 => ?_) (fun h4 => ?_)
  · replace h4 : 0 ≤ v1 ∧ v1 ≤ 2 := h4
    refine q_if (pc := 5) rfl (fun h5 => ?_) (fun h5 => ?_)
    · replace h5 : (1 : Int) ≠ 0 := h5
      refine q_ic (pc := 8) (v := 0) rfl ?_
      refine q_is (pc := 9) (i := 2) (L' := [(2, 183), (0, v1), (0, 0)]) rfl rfl rfl ?_
      exact hl 196 H 0 hT (ttFr_rf _ _) (fun j _ _ => by omega) (fun _ _ => rfl) (fun _ => rfl) (by omega) (by omega) (by decide) (by decide) (by decide)
    · replace h5 : (1 : Int) = 0 := h5
      omega
  · replace h4 : ¬ (0 ≤ v1 ∧ v1 ≤ 2) := h4
    refine q_if (pc := 5) rfl (fun h5 => ?_) (fun h5 => ?_)
    · replace h5 : (0 : Int) ≠ 0 := h5
      omega
    · replace h5 : (0 : Int) = 0 := h5
      refine q_ic (pc := 6) (v := (-2)) rfl ?_
      refine q_ri (pc := 7) rfl ?_
      exact hq _ H (by omega) hT hX (ttFr_rf _ _)
theorem hm_keep2  : ttHas (ttXX YY) m_keep2 := by
  intro dd hdd vs H hT hX hargs hcells Q hQ
  obtain ⟨v0, vs, rfl, p0, hargs⟩ := ttV1 hargs
  obtain ⟨v1, vs, rfl, p1, hargs⟩ := ttV1 hargs
  cases ttV0 hargs
  cases ttPk p0
  have p1 := ttPi p1
  obtain ⟨e, rfl, he⟩ := ttRun0 (n := 1) hdd
  have he : 1 ≤ e := he
  exact lf_keep2 (by omega) hT hX p1 (fun r H' hr a b c => hQ r H' a b c ⟨_, List.mem_singleton.mpr rfl, ttPi_of (by omega) (by omega)⟩ (fun q hq => absurd hq List.not_mem_nil))
def m_back2 : ttCon := (206, 2, [(2, (0, 183, (9, 0, 0))), (0, (1, 0, (0, (-2147483648), 2147483647)))], [], [(1, 0, (0, (-6), 0))], [], true, [(184, 0, 195), (193, 0, 975), (183, 22, 22), (183, 29, 29)])
theorem hm_back2  : ttHas (ttXX YY) m_back2 := by
  intro dd hdd vs H hT hX hargs hcells Q hQ
  obtain ⟨v0, vs, rfl, p0, hargs⟩ := ttV1 hargs
  obtain ⟨v1, vs, rfl, p1, hargs⟩ := ttV1 hargs
  cases ttV0 hargs
  cases ttPk p0
  have p1 := ttPi p1
  obtain ⟨e, rfl, he⟩ := ttRun0 (n := 1) hdd
  have he : 1 ≤ e := he
  have hq : ∀ r H', (-6 ≤ r ∧ r ≤ 0) → ttTI H' → ttXX YY H' → ttFr (true, [(184, 0, 195), (193, 0, 975), (183, 22, 22), (183, 29, 29)]) H H' → Q r H' := fun r H' hr a b c => hQ r H' a b c ⟨_, List.mem_singleton.mpr rfl, ttPi_of hr.1 hr.2⟩ (fun q hq => absurd hq List.not_mem_nil)
  obtain ⟨rm, n, w, im, wy, lg⟩ := id hX
  have hl : ∀ m : Nat, ∀ (K : xH) (i : Int), ttTI K → ttFr (true, [(184, 0, 195), (193, 0, 975), (183, 22, 22), (183, 29, 29)]) H K → (∀ j : Int, 0 ≤ j → j < i → K.1 184 j = H.1 185 (196 * v1 + j)) → H.1 186 v1 ≠ 0 → 0 ≤ v1 → v1 ≤ 2 → 0 ≤ i → i ≤ 196 → 196 - i ≤ (m : Int) → xW e cd_206 Q (17, [(2, 183), (0, v1), (0, i)], [], K) := by
    intro m
    induction m with
    | zero =>
      intro K i kT kF f1 f2 w1 w2 i0 i1 hn
      refine q_il (pc := 17) (i := 2) (x := i) rfl rfl ?_
      refine q_ic (pc := 18) (v := 196) rfl ?_
      refine q_i2 (pc := 19) rfl (fun h19 => ?_) (fun h19 => ?_)
      · replace h19 : 196 ≤ i := h19
        refine q_al (pc := 34) (i := 0) (x := 183) rfl rfl ?_
        refine q_iv (pc := 35) (q := 2128967) rfl rfl rfl (ttKc kT (a := 183) (κ := 12) (len := 0) ⟨rfl, rfl⟩ (by decide) (by decide)).1 ?_
        refine lf_forgets (by omega) kT (fun M mT mF m1 m2 => ?_)
        refine q_ic (pc := 36) (v := 0) rfl ?_
        refine q_ri (pc := 37) rfl ?_
        have c : ttFr (true, [(184, 0, 195), (193, 0, 975), (183, 22, 22), (183, 29, 29)]) H M := ttFr_tr kF mF (fun _ => rfl) (by decide)
        have hw : ∀ j : Int, 0 ≤ j → j < 196 → M.1 184 j = H.1 185 (196 * v1 + j) := fun j j0 j1 => (fr_no mF 184 (by rw [kF.1 rfl]; omega) rfl (by decide)).trans (f1 j j0 (by omega))
        refine hq _ M (by omega) mT ⟨rm_fr c rfl n (by decide) rm, by rw [c.1 rfl]; exact n, yyR_eq (fun j j0 j1 _ => ?_) (im v1 w1 (by omega) f2), fun k k0 k1 k2 => ?_, fun z => ?_, fun z => absurd m2 z⟩ c
        · rw [Int.zero_add]
          exact hw j j0 (by omega)
        · rw [fr_no c 186 (by omega) rfl (by decide)] at k2
          exact yyR_eq (fun j _ _ _ => fr_no c 185 (by omega) rfl (by decide)) (im k k0 k1 k2)
        · rw [m1] at z
          exact absurd z (by decide)
      · replace h19 : i < 196 := h19
        refine q_al (pc := 20) (i := 0) (x := 183) rfl rfl ?_
        refine q_gf (pc := 21) (m := 12012) (t := 2) (c := 1) rfl (ttKc kT (a := 183) (κ := 12) (len := 0) ⟨rfl, rfl⟩ (by decide) (by decide)).1 rfl rfl ?_
        rw [show K.1 183 1 = 184 from ttFx kT (by decide) (by decide) rfl rfl rfl]
        refine q_il (pc := 22) (i := 2) (x := i) rfl rfl ?_
        refine q_al (pc := 23) (i := 0) (x := 183) rfl rfl ?_
        refine q_gf (pc := 24) (m := 12022) (t := 2) (c := 2) rfl (ttKc kT (a := 183) (κ := 12) (len := 0) ⟨rfl, rfl⟩ (by decide) (by decide)).1 rfl rfl ?_
        rw [show K.1 183 2 = 185 from ttFx kT (by decide) (by decide) rfl rfl rfl]
        refine q_ic (pc := 25) (v := 196) rfl ?_
        refine q_il (pc := 26) (i := 1) (x := v1) rfl rfl ?_
        refine q_im (pc := 27) rfl (by omega) (by omega) ?_
        refine q_il (pc := 28) (i := 2) (x := i) rfl rfl ?_
        refine q_ia (pc := 29) rfl (by omega) (by omega) ?_
        refine q_ai (pc := 30) rfl (ttKc kT (a := 185) (κ := 20) (len := 588) ⟨rfl, rfl⟩ (by decide) (by decide)).1 (by omega) (by rw [(ttKc kT (a := 185) (κ := 20) (len := 588) ⟨rfl, rfl⟩ (by decide) (by decide)).2]; omega) ?_
        refine q_si (pc := 31) rfl (by decide) (ttKc kT (a := 184) (κ := 20) (len := 196) ⟨rfl, rfl⟩ (by decide) (by decide)).1 (by omega) (by rw [(ttKc kT (a := 184) (κ := 20) (len := 196) ⟨rfl, rfl⟩ (by decide) (by decide)).2]; omega) ?_
        refine q_ii (pc := 32) (i := 2) (c := 1) (x := i) (L' := [(2, 183), (0, v1), (0, (i + 1))]) rfl rfl rfl (by omega) (by omega) rfl ?_
        refine q_go (pc := 33) rfl ?_
        omega
    | succ m ih =>
      intro K i kT kF f1 f2 w1 w2 i0 i1 hn
      refine q_il (pc := 17) (i := 2) (x := i) rfl rfl ?_
      refine q_ic (pc := 18) (v := 196) rfl ?_
      refine q_i2 (pc := 19) rfl (fun h19 => ?_) (fun h19 => ?_)
      · replace h19 : 196 ≤ i := h19
        refine q_al (pc := 34) (i := 0) (x := 183) rfl rfl ?_
        refine q_iv (pc := 35) (q := 2128967) rfl rfl rfl (ttKc kT (a := 183) (κ := 12) (len := 0) ⟨rfl, rfl⟩ (by decide) (by decide)).1 ?_
        refine lf_forgets (by omega) kT (fun M mT mF m1 m2 => ?_)
        refine q_ic (pc := 36) (v := 0) rfl ?_
        refine q_ri (pc := 37) rfl ?_
        have c : ttFr (true, [(184, 0, 195), (193, 0, 975), (183, 22, 22), (183, 29, 29)]) H M := ttFr_tr kF mF (fun _ => rfl) (by decide)
        have hw : ∀ j : Int, 0 ≤ j → j < 196 → M.1 184 j = H.1 185 (196 * v1 + j) := fun j j0 j1 => (fr_no mF 184 (by rw [kF.1 rfl]; omega) rfl (by decide)).trans (f1 j j0 (by omega))
        refine hq _ M (by omega) mT ⟨rm_fr c rfl n (by decide) rm, by rw [c.1 rfl]; exact n, yyR_eq (fun j j0 j1 _ => ?_) (im v1 w1 (by omega) f2), fun k k0 k1 k2 => ?_, fun z => ?_, fun z => absurd m2 z⟩ c
        · rw [Int.zero_add]
          exact hw j j0 (by omega)
        · rw [fr_no c 186 (by omega) rfl (by decide)] at k2
          exact yyR_eq (fun j _ _ _ => fr_no c 185 (by omega) rfl (by decide)) (im k k0 k1 k2)
        · rw [m1] at z
          exact absurd z (by decide)
      · replace h19 : i < 196 := h19
        refine q_al (pc := 20) (i := 0) (x := 183) rfl rfl ?_
        refine q_gf (pc := 21) (m := 12012) (t := 2) (c := 1) rfl (ttKc kT (a := 183) (κ := 12) (len := 0) ⟨rfl, rfl⟩ (by decide) (by decide)).1 rfl rfl ?_
        rw [show K.1 183 1 = 184 from ttFx kT (by decide) (by decide) rfl rfl rfl]
        refine q_il (pc := 22) (i := 2) (x := i) rfl rfl ?_
        refine q_al (pc := 23) (i := 0) (x := 183) rfl rfl ?_
        refine q_gf (pc := 24) (m := 12022) (t := 2) (c := 2) rfl (ttKc kT (a := 183) (κ := 12) (len := 0) ⟨rfl, rfl⟩ (by decide) (by decide)).1 rfl rfl ?_
        rw [show K.1 183 2 = 185 from ttFx kT (by decide) (by decide) rfl rfl rfl]
        refine q_ic (pc := 25) (v := 196) rfl ?_
        refine q_il (pc := 26) (i := 1) (x := v1) rfl rfl ?_
        refine q_im (pc := 27) rfl (by omega) (by omega) ?_
        refine q_il (pc := 28) (i := 2) (x := i) rfl rfl ?_
        refine q_ia (pc := 29) rfl (by omega) (by omega) ?_
        refine q_ai (pc := 30) rfl (ttKc kT (a := 185) (κ := 20) (len := 588) ⟨rfl, rfl⟩ (by decide) (by decide)).1 (by omega) (by rw [(ttKc kT (a := 185) (κ := 20) (len := 588) ⟨rfl, rfl⟩ (by decide) (by decide)).2]; omega) ?_
        refine q_si (pc := 31) rfl (by decide) (ttKc kT (a := 184) (κ := 20) (len := 196) ⟨rfl, rfl⟩ (by decide) (by decide)).1 (by omega) (by rw [(ttKc kT (a := 184) (κ := 20) (len := 196) ⟨rfl, rfl⟩ (by decide) (by decide)).2]; omega) ?_
        refine q_ii (pc := 32) (i := 2) (c := 1) (x := i) (L' := [(2, 183), (0, v1), (0, (i + 1))]) rfl rfl rfl (by omega) (by omega) rfl ?_
        refine q_go (pc := 33) rfl ?_
        have k := ttMc kT (a := 185) (j := 196 * v1 + i) (by decide) (by decide) (by omega) (by show 196 * v1 + i < 588; omega)
        rw [show ttRo 185 = 185 from rfl, ty_img i0 (by omega)] at k
        have c := ttPuT kT kF (a := 184) (j := i) (x := K.1 185 (196 * v1 + i)) (by decide) (fun _ _ => k) ⟨(184, 0, 195), List.mem_cons_self .., ⟨⟨by decide, rfl⟩, by show (0 : Int) ≤ i; omega, by show i ≤ 195; omega⟩⟩
        exact ih _ (i + 1) c.1 c.2 (fun j j0 j1 => by
          by_cases z : j = i
          · subst z
            exact (show xUp K.1 184 j (K.1 185 (196 * v1 + j)) 184 j = _ from up_eq.trans (fr_no kF 185 (by omega) rfl (by decide)))
          · exact (show xUp K.1 184 i (K.1 185 (196 * v1 + i)) 184 j = _ from up_t2 (by omega) (f1 j j0 (by omega)))) f2 w1 w2 (by omega) (by omega) (by omega)
  refine xC_of (L := [(2, 183), (0, v1), (9, 0)]) (cd := cd_206) rfl rfl rfl ?_
  refine q_il (pc := 0) (i := 1) (x := v1) rfl rfl ?_
  refine q_2l (pc := 1) rfl ?_
  refine q_lc (pc := 2) (v := 0) rfl ?_
  refine q_lc (pc := 3) (v := 2) rfl ?_
  refine q_ij (pc := 4) (q := 1615932) rfl rfl rfl trivial ?_
  refine lf_in (by omega) (fun h4 => ?_) (fun h4 => ?_)
  · replace h4 : 0 ≤ v1 ∧ v1 ≤ 2 := h4
    refine q_if (pc := 5) rfl (fun h5 => ?_) (fun h5 => ?_)
    · replace h5 : (1 : Int) ≠ 0 := h5
      refine q_al (pc := 8) (i := 0) (x := 183) rfl rfl ?_
      refine q_gf (pc := 9) (m := 12032) (t := 2) (c := 3) rfl (ttKc hT (a := 183) (κ := 12) (len := 0) ⟨rfl, rfl⟩ (by decide) (by decide)).1 rfl rfl ?_
      rw [show H.1 183 3 = 186 from ttFx hT (by decide) (by decide) rfl rfl rfl]
      refine q_il (pc := 10) (i := 1) (x := v1) rfl rfl ?_
      refine q_ac (pc := 11) rfl (ttKc hT (a := 186) (κ := 22) (len := 3) ⟨rfl, rfl⟩ (by decide) (by decide)).1 (by omega) (by rw [(ttKc hT (a := 186) (κ := 22) (len := 3) ⟨rfl, rfl⟩ (by decide) (by decide)).2]; omega) ?_
      refine q_if (pc := 12) rfl (fun h12 => ?_) (fun h12 => ?_)
      · replace h12 : (H.1 186 v1) ≠ 0 := h12
        refine q_ic (pc := 15) (v := 0) rfl ?_
        refine q_is (pc := 16) (i := 2) (L' := [(2, 183), (0, v1), (0, 0)]) rfl rfl rfl ?_
        exact hl 196 H 0 hT (ttFr_rf _ _) (fun j _ _ => by omega) (by omega) (by omega) (by omega) (by decide) (by decide) (by decide)
      · replace h12 : (H.1 186 v1) = 0 := h12
        refine q_ic (pc := 13) (v := (-6)) rfl ?_
        refine q_ri (pc := 14) rfl ?_
        exact hq _ H (by omega) hT hX (ttFr_rf _ _)
    · replace h5 : (1 : Int) = 0 := h5
      omega
  · replace h4 : ¬ (0 ≤ v1 ∧ v1 ≤ 2) := h4
    refine q_if (pc := 5) rfl (fun h5 => ?_) (fun h5 => ?_)
    · replace h5 : (0 : Int) ≠ 0 := h5
      omega
    · replace h5 : (0 : Int) = 0 := h5
      refine q_ic (pc := 6) (v := (-2)) rfl ?_
      refine q_ri (pc := 7) rfl ?_
      exact hq _ H (by omega) hT hX (ttFr_rf _ _)
