/-! numbers with signs, places, by the stream of tokens -/
theorem sNx_in {T : tSm} {i : Int} (i0 : 0 ≤ i) (i1 : i < T.2.2.2.2) : 0 ≤ sNx T i ∧ sNx T i < T.2.2.2.2 := by
  unfold sNx
  split <;> omega
theorem sEr_at {T : tSm} {S : tSa} {k : Int} : (sEr T S k).1 = S.1 := by unfold sEr; split <;> rfl
theorem sNm_in {T : tSm} {S : tSa} {lo hi : Int} (i0 : 0 ≤ S.1) (i1 : S.1 < T.2.2.2.2) : 0 ≤ (sNm T S lo hi).2.1 ∧ (sNm T S lo hi).2.1 < T.2.2.2.2 := by
  unfold sNm
  (repeat' split)
  · exact sNx_in i0 i1
  · show 0 ≤ (sEr T S 2).1 ∧ (sEr T S 2).1 < _
    rw [sEr_at]; exact ⟨i0, i1⟩
  · show 0 ≤ (sEr T S 1).1 ∧ (sEr T S 1).1 < _
    rw [sEr_at]; exact ⟨i0, i1⟩
  · exact ⟨i0, i1⟩
theorem sNm_v {T : tSm} {S : tSa} {lo hi : Int} : (sNm T S lo hi).1 = 0 ∨ lo ≤ (sNm T S lo hi).1 ∧ (sNm T S lo hi).1 ≤ hi := by
  unfold sNm
  (repeat' split)
  · rename_i w
    exact Or.inr w
  · exact Or.inl rfl
  · exact Or.inl rfl
  · exact Or.inl rfl
theorem sTk_in {T : tSm} {S : tSa} {s : Int} (i0 : 0 ≤ S.1) (i1 : S.1 < T.2.2.2.2) : 0 ≤ (sTk T S s).2.1 ∧ (sTk T S s).2.1 < T.2.2.2.2 := by
  unfold sTk
  split
  · exact sNx_in i0 i1
  · exact ⟨i0, i1⟩
theorem sNd_in {T : tSm} {S : tSa} {s : Int} (i0 : 0 ≤ S.1) (i1 : S.1 < T.2.2.2.2) : 0 ≤ (sNd T S s).1 ∧ (sNd T S s).1 < T.2.2.2.2 := by
  unfold sNd
  (repeat' split)
  · exact sNx_in i0 i1
  · rw [sEr_at]; exact ⟨i0, i1⟩
  · exact ⟨i0, i1⟩
theorem sSg_in {T : tSm} {S : tSa} {h : Int} (i0 : 0 ≤ S.1) (i1 : S.1 < T.2.2.2.2) : 0 ≤ (sSg T S h).2.1 ∧ (sSg T S h).2.1 < T.2.2.2.2 := by
  have k := sNm_in (lo := 0) (hi := h) i0 i1
  unfold sSg
  split
  · exact sTk_in k.1 k.2
  · exact k
/-- a place ahead, none of those that are barred -/
def sBa (bar v : Int) : Prop := xAnd (xShr bar v) 1 ≠ 0
noncomputable def sPl (T : tSm) (S : tSa) (N bar : Int) : Int × tSa := if (sNm T S 0 (N - 1)).2.2.1 = 0 ∧ @decide (sBa bar (sNm T S 0 (N - 1)).1) (Classical.propDecidable _) = true then ((sNm T S 0 (N - 1)).1, (S.1, 2, T.2.2.1 S.1)) else sNm T S 0 (N - 1)
theorem sPl_in {T : tSm} {S : tSa} {N bar : Int} (i0 : 0 ≤ S.1) (i1 : S.1 < T.2.2.2.2) : 0 ≤ (sPl T S N bar).2.1 ∧ (sPl T S N bar).2.1 < T.2.2.2.2 := by
  unfold sPl
  split
  · exact ⟨i0, i1⟩
  · exact sNm_in i0 i1
theorem sky_k {b : Int} (h : b = 7 ∨ b = 34) : ((ttTb (ttRo b)).1 = 10 ∧ (ttTb (ttRo b)).2.1 = 0) ∧ 1 ≤ b ∧ b < 210 := by
  rcases h with rfl | rfl
  · exact ⟨⟨rfl, rfl⟩, by decide, by decide⟩
  · exact ⟨⟨rfl, rfl⟩, by decide, by decide⟩
theorem sky_n {H : xH} (hT : ttTI H) {b : Int} (h : b = 7 ∨ b = 34) : (0 ≤ H.1 b 4 ∧ H.1 b 4 ≤ 8) ∧ (0 ≤ H.1 b 5 ∧ H.1 b 5 ≤ 10) := by
  rcases h with rfl | rfl
  · exact ⟨ttMc hT (a := 7) (j := 4) (by decide) (by decide) (by decide) (by decide), ttMc hT (a := 7) (j := 5) (by decide) (by decide) (by decide) (by decide)⟩
  · exact ⟨ttMc hT (a := 34) (j := 4) (by decide) (by decide) (by decide) (by decide), ttMc hT (a := 34) (j := 5) (by decide) (by decide) (by decide) (by decide)⟩
theorem lx_takeSigned {dd : Nat} {h : Int} (hd : 7 ≤ dd) {H : xH} (hT : ttTI H) (hX : ttXX YY H) {n : Int} (hO : sOk (cT H) n) (hi : H.1 3 5 < H.1 3 4) (h9 : h ≤ 9999) {Q : Int → xH → Prop} (hq : ∀ r K, ttTI K → ttXX YY K → ttFr (true, [(3, 5, 7)]) H K → cS K = (sSg (cT H) (cS H) h).2 → r = (sSg (cT H) (cS H) h).1 → Q r K) : xCall dd 81 [(2, 3), (0, h)] H Q := by
  obtain ⟨e, rfl, he⟩ := ttRun0 (n := 6) hd
  have he : 6 ≤ e := he
  have zi := (rd_ty hT).2
  have hn : 210 ≤ (H.2.2.2.1 : Int) := by have := hT.1; omega
  refine xC_of (L := [(2, 3), (0, h), (9, 0)]) (cd := cd_81) rfl rfl rfl ?_
  refine q_al (pc := 0) (i := 0) (x := 3) rfl rfl ?_
  refine q_ic (pc := 1) (v := 0) rfl ?_
  refine q_il (pc := 2) (i := 1) (x := h) rfl rfl ?_
  refine q_iv (pc := 3) (q := 640572) rfl rfl rfl (ttKc hT (a := 3) (κ := 7) (len := 0) ⟨rfl, rfl⟩ (by decide) (by decide)).1 ?_
  refine lx_takeNumber (by omega) hT hX hO hi (by omega) (fun r K kT kX kF kS kr => ?_)
  have kc : cT K = cT H := cT_fr kF hn (by decide) (by decide) (by decide) (by decide) (by decide)
  have kn : 210 ≤ (K.2.2.2.1 : Int) := by have := kT.1; omega
  have kO : sOk (cT K) n := by rw [kc]; exact hO
  have ki : K.1 3 5 < K.1 3 4 := by
    have w := (sNm_in (T := cT H) (S := cS H) (lo := 0) (hi := h) zi.1 hi).2
    rw [← kS, ← kc] at w
    exact w
  have kv : 0 ≤ r ∧ r ≤ 9999 := by
    have w := sNm_v (T := cT H) (S := cS H) (lo := 0) (hi := h)
    rw [← kr] at w
    omega
  refine q_is (pc := 4) (i := 2) (L' := [(2, 3), (0, h), (0, r)]) rfl rfl rfl ?_
  refine q_al (pc := 5) (i := 0) (x := 3) rfl rfl ?_
  refine q_gf (pc := 6) (m := 7060) (t := 0) (c := 6) rfl (ttKc kT (a := 3) (κ := 7) (len := 0) ⟨rfl, rfl⟩ (by decide) (by decide)).1 rfl rfl ?_
  refine q_if (pc := 7) rfl (fun h7 => ?_) (fun h7 => ?_)
  · replace h7 : (K.1 3 6) ≠ 0 := h7
    refine q_il (pc := 17) (i := 2) (x := r) rfl rfl ?_
    refine q_ri (pc := 18) rfl ?_
    have e1 : sTk (cT H) (sNm (cT H) (cS H) 0 h).2 (-18) = (false, cS K) := by
      rw [← kS, ← kc]
      exact if_neg (fun z => h7 z.1)
    have eq : sSg (cT H) (cS H) h = sNm (cT H) (cS H) 0 h := by
      unfold sSg
      rw [e1]
      exact if_neg (fun z => absurd (show false = true from z) (by decide))
    rw [eq] at hq
    exact hq r K kT kX kF kS kr
  · replace h7 : (K.1 3 6) = 0 := h7
    refine q_al (pc := 8) (i := 0) (x := 3) rfl rfl ?_
    refine q_sc (pc := 9) (j := 16) rfl ?_
    refine q_iv (pc := 10) (q := 616568) rfl rfl rfl ⟨by omega, (ttKc kT (a := 3) (κ := 7) (len := 0) ⟨rfl, rfl⟩ (by decide) (by decide)).1⟩ ?_
    refine lx_isWord (by decide) (by decide) (by omega) kT kO ki (fun jw => ?_) (fun jw => ?_)
    · skip
      refine q_if (pc := 11) rfl (fun h11 => ?_) (fun h11 => ?_)
      · replace h11 : (1 : Int) = 0 := h11
        omega
      · replace h11 : (1 : Int) ≠ 0 := h11
        refine q_al (pc := 12) (i := 0) (x := 3) rfl rfl ?_
        refine q_iv (pc := 13) (q := 608567) rfl rfl rfl (ttKc kT (a := 3) (κ := 7) (len := 0) ⟨rfl, rfl⟩ (by decide) (by decide)).1 ?_
        refine lx_goOn (by omega) kT kX (fun J jT jX jF jS => ?_)
        refine q_il (pc := 14) (i := 2) (x := r) rfl rfl ?_
        refine q_in (pc := 15) rfl ?_
        refine q_is (pc := 16) (i := 2) (L' := [(2, 3), (0, h), (0, (w32 (-r)))]) rfl rfl rfl ?_
        refine q_il (pc := 17) (i := 2) (x := (w32 (-r))) rfl rfl ?_
        refine q_ri (pc := 18) rfl ?_
        have e1 : sTk (cT H) (sNm (cT H) (cS H) 0 h).2 (-18) = (true, (sNx (cT H) (cS K).1, (cS K).2)) := by
          rw [← kS, ← kc]
          exact if_pos ⟨h7, sW_t jw⟩
        have eq : sSg (cT H) (cS H) h = (-r, (sNx (cT H) (cS K).1, (cS K).2)) := by
          unfold sSg
          rw [e1, if_pos rfl, ← kr]
        rw [eq] at hq
        rw [kc] at jS
        exact hq _ J jT jX (ttFr_tr kF jF (fun _ => rfl) (by decide)) jS (by show w32 (-r) = -r; exact w32_eq ⟨by omega, by omega⟩)
    · skip
      refine q_if (pc := 11) rfl (fun h11 => ?_) (fun h11 => ?_)
      · replace h11 : (0 : Int) = 0 := h11
        refine q_il (pc := 17) (i := 2) (x := r) rfl rfl ?_
        refine q_ri (pc := 18) rfl ?_
        have e1 : sTk (cT H) (sNm (cT H) (cS H) 0 h).2 (-18) = (false, cS K) := by
          rw [← kS, ← kc]
          exact if_neg (fun z => absurd ((sW_f jw).symm.trans z.2) (by decide))
        have eq : sSg (cT H) (cS H) h = sNm (cT H) (cS H) 0 h := by
          unfold sSg
          rw [e1]
          exact if_neg (fun z => absurd (show false = true from z) (by decide))
        rw [eq] at hq
        exact hq r K kT kX kF kS kr
      · replace h11 : (0 : Int) ≠ 0 := h11
        omega
theorem lx_takePlace {dd : Nat} {m : Int} (hd : 3 ≤ dd) {H : xH} (hT : ttTI H) (hX : ttXX YY H) {n : Int} (hO : sOk (cT H) n) (hi : H.1 3 5 < H.1 3 4) {b : Int} (hb : b = 7 ∨ b = 34) (h9 : H.1 3 9 = b) {Q : Int → xH → Prop} (hq : ∀ r K, ttTI K → ttXX YY K → ttFr (true, [(3, 5, 7)]) H K → cS K = (sPl (cT H) (cS H) (H.1 b 4) m).2 → r = (sPl (cT H) (cS H) (H.1 b 4) m).1 → Q r K) : xCall dd 82 [(2, 3), (0, m)] H Q := by
  obtain ⟨e, rfl, he⟩ := ttRun0 (n := 2) hd
  have he : 2 ≤ e := he
  have zi := (rd_ty hT).2
  have hn : 210 ≤ (H.2.2.2.1 : Int) := by have := hT.1; omega
  have hk := sky_k hb
  have hz := (sky_n hT hb).1
  refine xC_of (L := [(2, 3), (0, m), (9, 0), (9, 0)]) (cd := cd_82) rfl rfl rfl ?_
  refine q_al (pc := 0) (i := 0) (x := 3) rfl rfl ?_
  refine q_gf (pc := 1) (m := 7050) (t := 0) (c := 5) rfl (ttKc hT (a := 3) (κ := 7) (len := 0) ⟨rfl, rfl⟩ (by decide) (by decide)).1 rfl rfl ?_
  refine q_is (pc := 2) (i := 2) (L' := [(2, 3), (0, m), (0, (H.1 3 5)), (9, 0)]) rfl rfl rfl ?_
  refine q_al (pc := 3) (i := 0) (x := 3) rfl rfl ?_
  refine q_ic (pc := 4) (v := 0) rfl ?_
  refine q_al (pc := 5) (i := 0) (x := 3) rfl rfl ?_
  refine q_gf (pc := 6) (m := 7092) (t := 2) (c := 9) rfl (ttKc hT (a := 3) (κ := 7) (len := 0) ⟨rfl, rfl⟩ (by decide) (by decide)).1 rfl rfl ?_
  rw [h9]
  refine q_gf (pc := 7) (m := 10040) (t := 0) (c := 4) rfl (ttKc hT (a := b) (κ := 10) (len := 0) hk.1 hk.2.1 hk.2.2).1 rfl rfl ?_
  refine q_ic (pc := 8) (v := 1) rfl ?_
  refine q_ib (pc := 9) rfl (by omega) (by omega) ?_
  refine q_iv (pc := 10) (q := 640572) rfl rfl rfl (ttKc hT (a := 3) (κ := 7) (len := 0) ⟨rfl, rfl⟩ (by decide) (by decide)).1 ?_
  refine lx_takeNumber (by omega) hT hX hO hi (by omega) (fun r K kT kX kF kS kr => ?_)
  have kc : cT K = cT H := cT_fr kF hn (by decide) (by decide) (by decide) (by decide) (by decide)
  have kn : 210 ≤ (K.2.2.2.1 : Int) := by have := kT.1; omega
  refine q_is (pc := 11) (i := 3) (L' := [(2, 3), (0, m), (0, (H.1 3 5)), (0, r)]) rfl rfl rfl ?_
  refine q_al (pc := 12) (i := 0) (x := 3) rfl rfl ?_
  refine q_gf (pc := 13) (m := 7060) (t := 0) (c := 6) rfl (ttKc kT (a := 3) (κ := 7) (len := 0) ⟨rfl, rfl⟩ (by decide) (by decide)).1 rfl rfl ?_
  refine q_if (pc := 14) rfl (fun h14 => ?_) (fun h14 => ?_)
  · replace h14 : (K.1 3 6) ≠ 0 := h14
    refine q_il (pc := 27) (i := 3) (x := r) rfl rfl ?_
    refine q_ri (pc := 28) rfl ?_
    have eq : sPl (cT H) (cS H) (H.1 b 4) m = (r, cS K) := by
      have e2 : sNm (cT H) (cS H) 0 (H.1 b 4 - 1) = (r, cS K) := by rw [kr, kS]
      unfold sPl
      rw [e2]
      exact if_neg (fun z => h14 z.1)
    rw [eq] at hq
    exact hq r K kT kX kF rfl rfl
  · replace h14 : (K.1 3 6) = 0 := h14
    refine q_il (pc := 15) (i := 1) (x := m) rfl rfl ?_
    refine q_il (pc := 16) (i := 3) (x := r) rfl rfl ?_
    refine q_sr (pc := 17) rfl ?_
    refine q_ic (pc := 18) (v := 1) rfl ?_
    refine q_an (pc := 19) rfl ?_
    refine q_if (pc := 20) rfl (fun h20 => ?_) (fun h20 => ?_)
    · replace h20 : (xAnd (xShr m r) 1) = 0 := h20
      refine q_il (pc := 27) (i := 3) (x := r) rfl rfl ?_
      refine q_ri (pc := 28) rfl ?_
      have eq : sPl (cT H) (cS H) (H.1 b 4) m = (r, cS K) := by
        have e2 : sNm (cT H) (cS H) 0 (H.1 b 4 - 1) = (r, cS K) := by rw [kr, kS]
        unfold sPl
        rw [e2]
        exact if_neg (fun z => absurd z.2 (by rw [@decide_eq_false _ (Classical.propDecidable _) (show ¬ sBa m r from fun y => y h20)]; decide))
      rw [eq] at hq
      exact hq r K kT kX kF rfl rfl
    · replace h20 : (xAnd (xShr m r) 1) ≠ 0 := h20
      refine q_al (pc := 21) (i := 0) (x := 3) rfl rfl ?_
      refine q_il (pc := 22) (i := 2) (x := (H.1 3 5)) rfl rfl ?_
      refine q_pf (pc := 23) (m := 7050) (c := 5) rfl (show xPt 0 0 _ _ from (ttKc kT (a := 3) (κ := 7) (len := 0) ⟨rfl, rfl⟩ (by decide) (by decide)).1) rfl ?_
      have yc := ttPut (ttXX_out yyStab (fun _ _ => trivial)) kT kX kF (a := 3) (j := 5) (x := (H.1 3 5)) (by decide) (fun _ _ => show (0 : Int) ≤ (H.1 3 5) ∧ (H.1 3 5) ≤ 1600 from ⟨by omega, by omega⟩) ⟨(3, 5, 7), by simp, ⟨⟨by decide, rfl⟩, by decide, by decide⟩⟩ (ttMay_no (r := 3) rfl (by decide))
      obtain ⟨Y, jY⟩ : ∃ X : xH, X = (xUp K.1 3 5 (H.1 3 5), K.2) := ⟨_, rfl⟩
      rw [← jY] at yc ⊢
      have y5 : Y.1 3 5 = H.1 3 5 := by rw [jY]; exact up_eq (D := K.1) (a := 3) (j := 5) (x := (H.1 3 5))
      have y6 : Y.1 3 6 = K.1 3 6 := by rw [jY]; exact up_j (D := K.1) (a := 3) (j := 5) (x := (H.1 3 5)) (k := 6) (by decide)
      have yt : cT Y = cT H := cT_fr yc.2.2 hn (by decide) (by decide) (by decide) (by decide) (by decide)
      refine q_al (pc := 24) (i := 0) (x := 3) rfl rfl ?_
      refine q_ic (pc := 25) (v := 2) rfl ?_
      refine q_iv (pc := 26) (q := 600571) rfl rfl rfl (ttKc yc.1 (a := 3) (κ := 7) (len := 0) ⟨rfl, rfl⟩ (by decide) (by decide)).1 ?_
      refine lx_fail (by omega) yc.1 yc.2.1 (by decide) (by decide) (fun J jT jX jF jS => ?_)
      refine q_il (pc := 27) (i := 3) (x := r) rfl rfl ?_
      refine q_ri (pc := 28) rfl ?_
      have eq : sPl (cT H) (cS H) (H.1 b 4) m = (r, (H.1 3 5, 2, H.1 5 (H.1 3 5))) := by
        unfold sPl
        rw [← kS, ← kr]
        exact if_pos ⟨h14, @decide_eq_true _ (Classical.propDecidable _) (show sBa m r from h20)⟩
      rw [eq] at hq
      refine hq r J jT jX (ttFr_tr yc.2.2 jF (fun _ => rfl) (by decide)) (jS.trans ?_) rfl
      rw [yt]
      unfold sEr
      rw [if_pos (show (cS Y).2.1 = 0 from y6.trans h14)]
      show (Y.1 3 5, 2, (cT H).2.2.1 (Y.1 3 5)) = _
      rw [y5]
      rfl
