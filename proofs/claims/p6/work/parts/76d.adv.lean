/-! the second reader's tokens -/
def sB (v : Int) : Int := if 0 ≤ v then v else v + 256
theorem and_255 {v : Int} (h0 : -128 ≤ v) (h1 : v ≤ 127) : xAnd v 255 = sB v := by
  have e : ∀ n : Nat, n < 256 → xAnd ((n : Int) - 128) 255 = sB ((n : Int) - 128) := by decide +kernel
  have k := e (v + 128).toNat (by omega)
  rw [show ((v + 128).toNat : Int) - 128 = v by omega] at k
  exact k
theorem sB_tk {v : Int} (h0 : -128 ≤ v) (h1 : v ≤ 127) : (97 ≤ sB v ∧ sB v ≤ 122 ↔ tkd v = 1) ∧ (48 ≤ sB v ∧ sB v ≤ 57 ↔ tkd v = 2) ∧ (sB v = 59 ↔ tkd v = 3) ∧ (sB v = 32 ∨ sB v = 10 ↔ tbl v) ∧ 0 ≤ sB v ∧ (48 ≤ v ∧ v ≤ 57 → sB v = v) := by
  unfold sB tkd tbl
  refine ⟨?_, ?_, ?_, ?_, ?_, ?_⟩ <;> (repeat' split) <;> omega
theorem tp_187 {H : xH} (hT : ttTI H) {k : Int} (k0 : 0 ≤ k) (k1 : k < 1600) : -128 ≤ H.1 187 k ∧ H.1 187 k ≤ 127 := ttRw hT (a := 187) (κ := 21) (len := 1600) (sz := 1600) (lo := -128) (hi := 127) (by decide) (by decide) rfl k k0 k1
theorem sVl_s {x : Int → Int} {f q : Int} (h : f ≤ q) : sVl x f (q + 1 - f).toNat = 10 * sVl x f (q - f).toNat + (x q - 48) := by
  rw [show (q + 1 - f).toNat = (q - f).toNat + 1 by omega]
  show 10 * sVl x f (q - f).toNat + (x (f + ((q - f).toNat : Int)) - 48) = _
  rw [show f + ((q - f).toNat : Int) = q by omega]
theorem lx_see {dd : Nat} {k n : Int} (hd : 1 ≤ dd) {H : xH} (hT : ttTI H) (k0 : 0 ≤ k) (jn : H.1 183 7 = n) {Q : Int → xH → Prop} (hq : Q (if k < n then sB (H.1 187 k) else -1) H) : xCall dd 212 [(2, 183), (0, k)] H Q := by
  obtain ⟨e, rfl, he⟩ := ttRun0 (n := 0) hd
  have zs : 0 ≤ H.1 183 7 ∧ H.1 183 7 ≤ 1600 := ttMc hT (a := 183) (j := 7) (by decide) (by decide) (by decide) (by decide)
  rw [jn] at zs
  refine xC_of (L := [(2, 183), (0, k)]) (cd := cd_212) rfl rfl rfl ?_
  refine q_il (pc := 0) (i := 1) (x := k) rfl rfl ?_
  refine q_al (pc := 1) (i := 0) (x := 183) rfl rfl ?_
  refine q_gf (pc := 2) (m := 12070) (t := 0) (c := 7) rfl (ttKc hT (a := 183) (κ := 12) (len := 0) ⟨rfl, rfl⟩ (by decide) (by decide)).1 rfl rfl ?_
  rw [jn]
  refine q_i2 (pc := 3) rfl (fun h3 => ?_) (fun h3 => ?_)
  · replace h3 : n ≤ k := h3
    refine q_ic (pc := 11) (v := (-1)) rfl ?_
    refine q_ri (pc := 12) rfl ?_
    rw [if_neg (by omega)] at hq
    exact hq
  · replace h3 : k < n := h3
    refine q_al (pc := 4) (i := 0) (x := 183) rfl rfl ?_
    refine q_gf (pc := 5) (m := 12042) (t := 2) (c := 4) rfl (ttKc hT (a := 183) (κ := 12) (len := 0) ⟨rfl, rfl⟩ (by decide) (by decide)).1 rfl rfl ?_
    rw [show H.1 183 4 = 187 from ttFx hT (by decide) (by decide) rfl rfl rfl]
    refine q_il (pc := 6) (i := 1) (x := k) rfl rfl ?_
    refine q_ab (pc := 7) rfl (ttKc hT (a := 187) (κ := 21) (len := 1600) ⟨rfl, rfl⟩ (by decide) (by decide)).1 (by omega) (by rw [(ttKc hT (a := 187) (κ := 21) (len := 1600) ⟨rfl, rfl⟩ (by decide) (by decide)).2]; omega) ?_
    refine q_ic (pc := 8) (v := 255) rfl ?_
    refine q_an (pc := 9) rfl ?_
    refine q_go (pc := 10) rfl ?_
    refine q_ri (pc := 12) rfl ?_
    rw [if_pos h3] at hq
    have zb := tp_187 hT k0 (by omega)
    rw [and_255 zb.1 zb.2]
    exact hq
theorem lx_adv {dd : Nat} {n p : Int} (hd : 2 ≤ dd) {H : xH} (hT : ttTI H) (jn : H.1 183 7 = n) (jp : H.1 183 8 = p) (p0 : 0 ≤ p) (pn : p ≤ n) {Q : Int → xH → Prop} (hq : ∀ K, ttTI K → ttFr (true, [(183, 8, 11)]) H K → tTk (H.1 187) n p (K.1 183 10) (K.1 183 9) (K.1 183 8) → (K.1 183 10 = 2 → K.1 183 11 = min 99999 (sVl (H.1 187) (K.1 183 9) (K.1 183 8 - K.1 183 9).toNat)) → Q 0 K) : xCall dd 213 [(2, 183)] H Q := by
  obtain ⟨e, rfl, he⟩ := ttRun0 (n := 1) hd
  have he : 1 ≤ e := he
  have hn : 210 ≤ (H.2.2.2.1 : Int) := by have := hT.1; omega
  have n1 : n ≤ 1600 := by rw [← jn]; exact (show 0 ≤ H.1 183 7 ∧ H.1 183 7 ≤ 1600 from ttMc hT (a := 183) (j := 7) (by decide) (by decide) (by decide) (by decide)).2
  obtain ⟨x, jx⟩ : ∃ x, x = H.1 187 := ⟨_, rfl⟩
  rw [← jx] at hq
  have xb : ∀ j : Int, 0 ≤ j → j < n → -128 ≤ x j ∧ x j ≤ 127 := fun j j0 j1 => by rw [jx]; exact tp_187 hT j0 (by omega)
  have kx : ∀ K : xH, ttFr (true, [(183, 8, 11)]) H K → K.1 187 = x := fun K kF => by rw [jx]; exact funext fun j => fr_no kF 187 (by omega) rfl rfl
  have kn : ∀ K : xH, ttFr (true, [(183, 8, 11)]) H K → K.1 183 7 = n := fun K kF => (fr_cl kF (a := 183) (j := 7) (by omega) (by decide)).trans jn
  have ha : ∀ m : Nat, ∀ (K : xH) (f q : Int) (x1 : xV), ttTI K → ttFr (true, [(183, 8, 11)]) H K → K.1 183 8 = q → K.1 183 9 = f → p ≤ f → (∀ j : Int, p ≤ j → j < f → tbl (x j)) → f < q → q ≤ n → tkd (x f) = 1 → (∀ j : Int, f ≤ j → j < q → tkd (x j) = 1) → n - q ≤ (m : Int) → xW e cd_213 Q (41, [(2, 183), x1], [], K) := by
    intro m
    induction m with
    | zero =>
      intro K f q x1 kT kF j8 j9 pf kb fq qn kf kj hm
      refine q_al (pc := 41) (i := 0) (x := 183) rfl rfl ?_
      refine q_al (pc := 42) (i := 0) (x := 183) rfl rfl ?_
      refine q_gf (pc := 43) (m := 12080) (t := 0) (c := 8) rfl (ttKc kT (a := 183) (κ := 12) (len := 0) ⟨rfl, rfl⟩ (by decide) (by decide)).1 rfl rfl ?_
      rw [j8]
      refine q_iv (pc := 44) (q := 1696968) rfl rfl rfl (ttKc kT (a := 183) (κ := 12) (len := 0) ⟨rfl, rfl⟩ (by decide) (by decide)).1 ?_
      refine lx_see (by omega) kT (by omega) (kn K kF) ?_
      rw [kx K kF]
      obtain ⟨c44, jc44⟩ : ∃ c, c = (if q < n then sB (x q) else -1) := ⟨_, rfl⟩
      rw [← jc44]
      have wc44 : (q < n ∧ c44 = sB (x q)) ∨ (¬ q < n ∧ c44 = -1) := (Classical.em (q < n)).elim (fun w => Or.inl ⟨w, by rw [jc44, if_pos w]⟩) (fun w => Or.inr ⟨w, by rw [jc44, if_neg w]⟩)
      refine q_2l (pc := 45) rfl ?_
      refine q_lc (pc := 46) (v := 97) rfl ?_
      refine q_lc (pc := 47) (v := 122) rfl ?_
      refine q_ij (pc := 48) (q := 1615932) rfl rfl rfl trivial ?_
      refine lf_in (by omega) (fun jn48 => ?_) (fun jn48 => ?_)
      · skip
        refine q_if (pc := 49) rfl (fun h49 => ?_) (fun h49 => ?_)
        · replace h49 : (1 : Int) = 0 := h49
          omega
        · replace h49 : (1 : Int) ≠ 0 := h49
          exfalso
          rcases wc44 with ⟨w, -⟩ | ⟨-, w⟩ <;> omega
      · skip
        refine q_if (pc := 49) rfl (fun h49 => ?_) (fun h49 => ?_)
        · replace h49 : (0 : Int) = 0 := h49
          refine q_al (pc := 57) (i := 0) (x := 183) rfl rfl ?_
          refine q_ic (pc := 58) (v := 1) rfl ?_
          refine q_pf (pc := 59) (m := 12100) (c := 10) rfl (show xPt 0 0 _ _ from (ttKc kT (a := 183) (κ := 12) (len := 0) ⟨rfl, rfl⟩ (by decide) (by decide)).1) rfl ?_
          have ujzc1 := ttPuT kT kF (a := 183) (j := 10) (x := 1) (by decide) (fun _ _ => show ((-2147483648) : Int) ≤ (1 : Int) ∧ (1 : Int) ≤ 2147483647 from by decide) ⟨(183, 8, 11), by simp, ⟨⟨by decide, rfl⟩, by decide, by decide⟩⟩
          obtain ⟨ujZ1, ujzk1⟩ : ∃ X : xH, X = (xUp K.1 183 10 1, K.2) := ⟨_, rfl⟩
          rw [← ujzk1] at ujzc1 ⊢
          have ujze1 : ujZ1.1 183 10 = 1 := by rw [ujzk1]; exact up_eq (D := K.1) (a := 183) (j := 10) (x := 1)
          have ujzm1_8 : ujZ1.1 183 8 = q := by rw [ujzk1]; exact (up_j (D := K.1) (a := 183) (j := 10) (x := 1) (k := 8) (by decide)).trans j8
          have ujzm1_9 : ujZ1.1 183 9 = f := by rw [ujzk1]; exact (up_j (D := K.1) (a := 183) (j := 10) (x := 1) (k := 9) (by decide)).trans j9
          refine q_go (pc := 60) rfl ?_
          refine q_rv (pc := 119) rfl ?_
          have eK : ujZ1.1 183 10 = 1 := ujze1
          refine hq ujZ1 ujzc1.1 ujzc1.2 ?_ ?_
          · rw [ujzm1_9, ujzm1_8, eK]
            refine ⟨⟨pf, by omega, kb⟩, Or.inr ⟨⟨by omega, fun w => by have := tkd_bl w; omega, kf.symm⟩, ⟨fq, qn⟩, fun _ => ⟨kj, fun w => ?_⟩, fun w => by omega⟩⟩
            have wb := sB_tk (xb q (by omega) w).1 (xb q (by omega) w).2
            intro w2
            rcases wc44 with ⟨-, u⟩ | ⟨u, -⟩
            · exact jn48 (by rw [u]; exact wb.1.mpr w2)
            · exact u w
          · intro w
            rw [eK] at w
            exact absurd w (by decide)
        · replace h49 : (0 : Int) ≠ 0 := h49
          omega
    | succ m ih =>
      intro K f q x1 kT kF j8 j9 pf kb fq qn kf kj hm
      refine q_al (pc := 41) (i := 0) (x := 183) rfl rfl ?_
      refine q_al (pc := 42) (i := 0) (x := 183) rfl rfl ?_
      refine q_gf (pc := 43) (m := 12080) (t := 0) (c := 8) rfl (ttKc kT (a := 183) (κ := 12) (len := 0) ⟨rfl, rfl⟩ (by decide) (by decide)).1 rfl rfl ?_
      rw [j8]
      refine q_iv (pc := 44) (q := 1696968) rfl rfl rfl (ttKc kT (a := 183) (κ := 12) (len := 0) ⟨rfl, rfl⟩ (by decide) (by decide)).1 ?_
      refine lx_see (by omega) kT (by omega) (kn K kF) ?_
      rw [kx K kF]
      obtain ⟨c44, jc44⟩ : ∃ c, c = (if q < n then sB (x q) else -1) := ⟨_, rfl⟩
      rw [← jc44]
      have wc44 : (q < n ∧ c44 = sB (x q)) ∨ (¬ q < n ∧ c44 = -1) := (Classical.em (q < n)).elim (fun w => Or.inl ⟨w, by rw [jc44, if_pos w]⟩) (fun w => Or.inr ⟨w, by rw [jc44, if_neg w]⟩)
      refine q_2l (pc := 45) rfl ?_
      refine q_lc (pc := 46) (v := 97) rfl ?_
      refine q_lc (pc := 47) (v := 122) rfl ?_
      refine q_ij (pc := 48) (q := 1615932) rfl rfl rfl trivial ?_
      refine lf_in (by omega) (fun jn48 => ?_) (fun jn48 => ?_)
      · skip
        refine q_if (pc := 49) rfl (fun h49 => ?_) (fun h49 => ?_)
        · replace h49 : (1 : Int) = 0 := h49
          omega
        · replace h49 : (1 : Int) ≠ 0 := h49
          obtain ⟨q1, q2⟩ : q < n ∧ c44 = sB (x q) := by
            rcases wc44 with w | ⟨-, w⟩
            · exact w
            · omega
          have qb := xb q (by omega) q1
          have qt := sB_tk qb.1 qb.2
          have qd : tkd (x q) = 1 := qt.1.mp (by rw [← q2]; exact jn48)
          refine q_al (pc := 50) (i := 0) (x := 183) rfl rfl ?_
          refine q_d2 (pc := 51) rfl ?_
          refine q_gf (pc := 52) (m := 12080) (t := 0) (c := 8) rfl (ttKc kT (a := 183) (κ := 12) (len := 0) ⟨rfl, rfl⟩ (by decide) (by decide)).1 rfl rfl ?_
          rw [j8]
          refine q_ic (pc := 53) (v := 1) rfl ?_
          refine q_ia (pc := 54) rfl (by omega) (by omega) ?_
          refine q_pf (pc := 55) (m := 12080) (c := 8) rfl (show xPt 0 0 _ _ from (ttKc kT (a := 183) (κ := 12) (len := 0) ⟨rfl, rfl⟩ (by decide) (by decide)).1) rfl ?_
          have ujzc2 := ttPuT kT kF (a := 183) (j := 8) (x := (q + 1)) (by decide) (fun _ _ => show (0 : Int) ≤ (q + 1) ∧ (q + 1) ≤ 1600 from by omega) ⟨(183, 8, 11), by simp, ⟨⟨by decide, rfl⟩, by decide, by decide⟩⟩
          obtain ⟨ujZ2, ujzk2⟩ : ∃ X : xH, X = (xUp K.1 183 8 (q + 1), K.2) := ⟨_, rfl⟩
          rw [← ujzk2] at ujzc2 ⊢
          have ujze2 : ujZ2.1 183 8 = (q + 1) := by rw [ujzk2]; exact up_eq (D := K.1) (a := 183) (j := 8) (x := (q + 1))
          have ujzm2_9 : ujZ2.1 183 9 = f := by rw [ujzk2]; exact (up_j (D := K.1) (a := 183) (j := 8) (x := (q + 1)) (k := 9) (by decide)).trans j9
          refine q_go (pc := 56) rfl ?_
          refine ih ujZ2 f (q + 1) _ ujzc2.1 ujzc2.2 ujze2 ujzm2_9 pf kb (by omega) (by omega) kf (fun j j0 j1 => ?_) (by omega)
          · by_cases w : j = q
            · rw [w]; exact qd
            · exact kj j j0 (by omega)
      · skip
        refine q_if (pc := 49) rfl (fun h49 => ?_) (fun h49 => ?_)
        · replace h49 : (0 : Int) = 0 := h49
          refine q_al (pc := 57) (i := 0) (x := 183) rfl rfl ?_
          refine q_ic (pc := 58) (v := 1) rfl ?_
          refine q_pf (pc := 59) (m := 12100) (c := 10) rfl (show xPt 0 0 _ _ from (ttKc kT (a := 183) (κ := 12) (len := 0) ⟨rfl, rfl⟩ (by decide) (by decide)).1) rfl ?_
          have ujzc3 := ttPuT kT kF (a := 183) (j := 10) (x := 1) (by decide) (fun _ _ => show ((-2147483648) : Int) ≤ (1 : Int) ∧ (1 : Int) ≤ 2147483647 from by decide) ⟨(183, 8, 11), by simp, ⟨⟨by decide, rfl⟩, by decide, by decide⟩⟩
          obtain ⟨ujZ3, ujzk3⟩ : ∃ X : xH, X = (xUp K.1 183 10 1, K.2) := ⟨_, rfl⟩
          rw [← ujzk3] at ujzc3 ⊢
          have ujze3 : ujZ3.1 183 10 = 1 := by rw [ujzk3]; exact up_eq (D := K.1) (a := 183) (j := 10) (x := 1)
          have ujzm3_8 : ujZ3.1 183 8 = q := by rw [ujzk3]; exact (up_j (D := K.1) (a := 183) (j := 10) (x := 1) (k := 8) (by decide)).trans j8
          have ujzm3_9 : ujZ3.1 183 9 = f := by rw [ujzk3]; exact (up_j (D := K.1) (a := 183) (j := 10) (x := 1) (k := 9) (by decide)).trans j9
          refine q_go (pc := 60) rfl ?_
          refine q_rv (pc := 119) rfl ?_
          have eK : ujZ3.1 183 10 = 1 := ujze3
          refine hq ujZ3 ujzc3.1 ujzc3.2 ?_ ?_
          · rw [ujzm3_9, ujzm3_8, eK]
            refine ⟨⟨pf, by omega, kb⟩, Or.inr ⟨⟨by omega, fun w => by have := tkd_bl w; omega, kf.symm⟩, ⟨fq, qn⟩, fun _ => ⟨kj, fun w => ?_⟩, fun w => by omega⟩⟩
            have wb := sB_tk (xb q (by omega) w).1 (xb q (by omega) w).2
            intro w2
            rcases wc44 with ⟨-, u⟩ | ⟨u, -⟩
            · exact jn48 (by rw [u]; exact wb.1.mpr w2)
            · exact u w
          · intro w
            rw [eK] at w
            exact absurd w (by decide)
        · replace h49 : (0 : Int) ≠ 0 := h49
          omega
  have hc : ∀ m : Nat, ∀ (K : xH) (f q : Int) (x1 : xV), ttTI K → ttFr (true, [(183, 8, 11)]) H K → K.1 183 8 = q → K.1 183 9 = f → p ≤ f → (∀ j : Int, p ≤ j → j < f → tbl (x j)) → f < q → q ≤ n → tkd (x f) = 2 → (∀ j : Int, f ≤ j → j < q → tkd (x j) = 2) → K.1 183 11 = min 99999 (sVl x f (q - f).toNat) → n - q ≤ (m : Int) → xW e cd_213 Q (70, [(2, 183), x1], [], K) := by
    intro m
    induction m with
    | zero =>
      intro K f q x1 kT kF j8 j9 pf kb fq qn kf kj jv hm
      refine q_al (pc := 70) (i := 0) (x := 183) rfl rfl ?_
      refine q_al (pc := 71) (i := 0) (x := 183) rfl rfl ?_
      refine q_gf (pc := 72) (m := 12080) (t := 0) (c := 8) rfl (ttKc kT (a := 183) (κ := 12) (len := 0) ⟨rfl, rfl⟩ (by decide) (by decide)).1 rfl rfl ?_
      rw [j8]
      refine q_iv (pc := 73) (q := 1696968) rfl rfl rfl (ttKc kT (a := 183) (κ := 12) (len := 0) ⟨rfl, rfl⟩ (by decide) (by decide)).1 ?_
      refine lx_see (by omega) kT (by omega) (kn K kF) ?_
      rw [kx K kF]
      obtain ⟨c73, jc73⟩ : ∃ c, c = (if q < n then sB (x q) else -1) := ⟨_, rfl⟩
      rw [← jc73]
      have wc73 : (q < n ∧ c73 = sB (x q)) ∨ (¬ q < n ∧ c73 = -1) := (Classical.em (q < n)).elim (fun w => Or.inl ⟨w, by rw [jc73, if_pos w]⟩) (fun w => Or.inr ⟨w, by rw [jc73, if_neg w]⟩)
      refine q_2l (pc := 74) rfl ?_
      refine q_lc (pc := 75) (v := 48) rfl ?_
      refine q_lc (pc := 76) (v := 57) rfl ?_
      refine q_ij (pc := 77) (q := 1615932) rfl rfl rfl trivial ?_
      refine lf_in (by omega) (fun jn77 => ?_) (fun jn77 => ?_)
      · skip
        refine q_if (pc := 78) rfl (fun h78 => ?_) (fun h78 => ?_)
        · replace h78 : (1 : Int) = 0 := h78
          omega
        · replace h78 : (1 : Int) ≠ 0 := h78
          exfalso
          rcases wc73 with ⟨w, -⟩ | ⟨-, w⟩ <;> omega
      · skip
        refine q_if (pc := 78) rfl (fun h78 => ?_) (fun h78 => ?_)
        · replace h78 : (0 : Int) = 0 := h78
          refine q_al (pc := 101) (i := 0) (x := 183) rfl rfl ?_
          refine q_ic (pc := 102) (v := 2) rfl ?_
          refine q_pf (pc := 103) (m := 12100) (c := 10) rfl (show xPt 0 0 _ _ from (ttKc kT (a := 183) (κ := 12) (len := 0) ⟨rfl, rfl⟩ (by decide) (by decide)).1) rfl ?_
          have ujzc4 := ttPuT kT kF (a := 183) (j := 10) (x := 2) (by decide) (fun _ _ => show ((-2147483648) : Int) ≤ (2 : Int) ∧ (2 : Int) ≤ 2147483647 from by decide) ⟨(183, 8, 11), by simp, ⟨⟨by decide, rfl⟩, by decide, by decide⟩⟩
          obtain ⟨ujZ4, ujzk4⟩ : ∃ X : xH, X = (xUp K.1 183 10 2, K.2) := ⟨_, rfl⟩
          rw [← ujzk4] at ujzc4 ⊢
          have ujze4 : ujZ4.1 183 10 = 2 := by rw [ujzk4]; exact up_eq (D := K.1) (a := 183) (j := 10) (x := 2)
          have ujzm4_8 : ujZ4.1 183 8 = q := by rw [ujzk4]; exact (up_j (D := K.1) (a := 183) (j := 10) (x := 2) (k := 8) (by decide)).trans j8
          have ujzm4_9 : ujZ4.1 183 9 = f := by rw [ujzk4]; exact (up_j (D := K.1) (a := 183) (j := 10) (x := 2) (k := 9) (by decide)).trans j9
          have ujzm4_11 : ujZ4.1 183 11 = (min 99999 (sVl x f (q - f).toNat)) := by rw [ujzk4]; exact (up_j (D := K.1) (a := 183) (j := 10) (x := 2) (k := 11) (by decide)).trans jv
          refine q_go (pc := 104) rfl ?_
          refine q_rv (pc := 119) rfl ?_
          have eK : ujZ4.1 183 10 = 2 := ujze4
          refine hq ujZ4 ujzc4.1 ujzc4.2 ?_ ?_
          · rw [ujzm4_9, ujzm4_8, eK]
            refine ⟨⟨pf, by omega, kb⟩, Or.inr ⟨⟨by omega, fun w => by have := tkd_bl w; omega, kf.symm⟩, ⟨fq, qn⟩, fun _ => ⟨kj, fun w => ?_⟩, fun w => by omega⟩⟩
            have wb := sB_tk (xb q (by omega) w).1 (xb q (by omega) w).2
            intro w2
            rcases wc73 with ⟨-, u⟩ | ⟨u, -⟩
            · exact jn77 (by rw [u]; exact wb.2.1.mpr w2)
            · exact u w
          · intro _
            rw [ujzm4_11, ujzm4_9, ujzm4_8]
        · replace h78 : (0 : Int) ≠ 0 := h78
          omega
    | succ m ih =>
      intro K f q x1 kT kF j8 j9 pf kb fq qn kf kj jv hm
      refine q_al (pc := 70) (i := 0) (x := 183) rfl rfl ?_
      refine q_al (pc := 71) (i := 0) (x := 183) rfl rfl ?_
      refine q_gf (pc := 72) (m := 12080) (t := 0) (c := 8) rfl (ttKc kT (a := 183) (κ := 12) (len := 0) ⟨rfl, rfl⟩ (by decide) (by decide)).1 rfl rfl ?_
      rw [j8]
      refine q_iv (pc := 73) (q := 1696968) rfl rfl rfl (ttKc kT (a := 183) (κ := 12) (len := 0) ⟨rfl, rfl⟩ (by decide) (by decide)).1 ?_
      refine lx_see (by omega) kT (by omega) (kn K kF) ?_
      rw [kx K kF]
      obtain ⟨c73, jc73⟩ : ∃ c, c = (if q < n then sB (x q) else -1) := ⟨_, rfl⟩
      rw [← jc73]
      have wc73 : (q < n ∧ c73 = sB (x q)) ∨ (¬ q < n ∧ c73 = -1) := (Classical.em (q < n)).elim (fun w => Or.inl ⟨w, by rw [jc73, if_pos w]⟩) (fun w => Or.inr ⟨w, by rw [jc73, if_neg w]⟩)
      refine q_2l (pc := 74) rfl ?_
      refine q_lc (pc := 75) (v := 48) rfl ?_
      refine q_lc (pc := 76) (v := 57) rfl ?_
      refine q_ij (pc := 77) (q := 1615932) rfl rfl rfl trivial ?_
      refine lf_in (by omega) (fun jn77 => ?_) (fun jn77 => ?_)
      · skip
        refine q_if (pc := 78) rfl (fun h78 => ?_) (fun h78 => ?_)
        · replace h78 : (1 : Int) = 0 := h78
          omega
        · replace h78 : (1 : Int) ≠ 0 := h78
          obtain ⟨q1, q2⟩ : q < n ∧ c73 = sB (x q) := by
            rcases wc73 with w | ⟨-, w⟩
            · exact w
            · omega
          have qb := xb q (by omega) q1
          have qt := sB_tk qb.1 qb.2
          have qd : tkd (x q) = 2 := qt.2.1.mp (by rw [← q2]; exact jn77)
          have qe : 48 ≤ x q ∧ x q ≤ 57 := by
            unfold tkd at qd
            revert qd
            (repeat' split) <;> intro qd <;> omega
          have qs := qt.2.2.2.2.2 qe
          have u0 := sVl_0 (x := x) (f := f) (q - f).toNat (fun j j0 j1 => by
            have z := kj j j0 (by omega)
            unfold tkd at z
            revert z
            (repeat' split) <;> intro z <;> omega)
          obtain ⟨u, ju⟩ : ∃ u, u = sVl x f (q - f).toNat := ⟨_, rfl⟩
          rw [← ju] at u0 jv
          refine q_al (pc := 79) (i := 0) (x := 183) rfl rfl ?_
          refine q_ic (pc := 80) (v := 99999) rfl ?_
          refine q_ic (pc := 81) (v := 10) rfl ?_
          refine q_al (pc := 82) (i := 0) (x := 183) rfl rfl ?_
          refine q_gf (pc := 83) (m := 12110) (t := 0) (c := 11) rfl (ttKc kT (a := 183) (κ := 12) (len := 0) ⟨rfl, rfl⟩ (by decide) (by decide)).1 rfl rfl ?_
          rw [jv]
          refine q_im (pc := 84) rfl (by omega) (by omega) ?_
          refine q_al (pc := 85) (i := 0) (x := 183) rfl rfl ?_
          refine q_al (pc := 86) (i := 0) (x := 183) rfl rfl ?_
          refine q_gf (pc := 87) (m := 12080) (t := 0) (c := 8) rfl (ttKc kT (a := 183) (κ := 12) (len := 0) ⟨rfl, rfl⟩ (by decide) (by decide)).1 rfl rfl ?_
          rw [j8]
          refine q_iv (pc := 88) (q := 1696968) rfl rfl rfl (ttKc kT (a := 183) (κ := 12) (len := 0) ⟨rfl, rfl⟩ (by decide) (by decide)).1 ?_
          refine lx_see (by omega) kT (by omega) (kn K kF) ?_
          rw [kx K kF]
          rw [if_pos (by omega)]
          rw [qs]
          refine q_ia (pc := 89) rfl (by omega) (by omega) ?_
          refine q_ic (pc := 90) (v := 48) rfl ?_
          refine q_ib (pc := 91) rfl (by omega) (by omega) ?_
          refine q_mn (pc := 92) rfl rfl (by omega) ?_
          refine q_pf (pc := 93) (m := 12110) (c := 11) rfl (show xPt 0 0 _ _ from (ttKc kT (a := 183) (κ := 12) (len := 0) ⟨rfl, rfl⟩ (by decide) (by decide)).1) rfl ?_
          have ujzc5 := ttPuT kT kF (a := 183) (j := 11) (x := (min 99999 (((10 * (min 99999 u)) + (x q)) - 48))) (by decide) (fun _ _ => show ((-2147483648) : Int) ≤ (min 99999 (((10 * (min 99999 u)) + (x q)) - 48)) ∧ (min 99999 (((10 * (min 99999 u)) + (x q)) - 48)) ≤ 2147483647 from by omega) ⟨(183, 8, 11), by simp, ⟨⟨by decide, rfl⟩, by decide, by decide⟩⟩
          obtain ⟨ujZ5, ujzk5⟩ : ∃ X : xH, X = (xUp K.1 183 11 (min 99999 (((10 * (min 99999 u)) + (x q)) - 48)), K.2) := ⟨_, rfl⟩
          rw [← ujzk5] at ujzc5 ⊢
          have ujze5 : ujZ5.1 183 11 = (min 99999 (((10 * (min 99999 u)) + (x q)) - 48)) := by rw [ujzk5]; exact up_eq (D := K.1) (a := 183) (j := 11) (x := (min 99999 (((10 * (min 99999 u)) + (x q)) - 48)))
          have ujzm5_8 : ujZ5.1 183 8 = q := by rw [ujzk5]; exact (up_j (D := K.1) (a := 183) (j := 11) (x := (min 99999 (((10 * (min 99999 u)) + (x q)) - 48))) (k := 8) (by decide)).trans j8
          have ujzm5_9 : ujZ5.1 183 9 = f := by rw [ujzk5]; exact (up_j (D := K.1) (a := 183) (j := 11) (x := (min 99999 (((10 * (min 99999 u)) + (x q)) - 48))) (k := 9) (by decide)).trans j9
          refine q_al (pc := 94) (i := 0) (x := 183) rfl rfl ?_
          refine q_d2 (pc := 95) rfl ?_
          refine q_gf (pc := 96) (m := 12080) (t := 0) (c := 8) rfl (ttKc ujzc5.1 (a := 183) (κ := 12) (len := 0) ⟨rfl, rfl⟩ (by decide) (by decide)).1 rfl rfl ?_
          rw [ujzm5_8]
          refine q_ic (pc := 97) (v := 1) rfl ?_
          refine q_ia (pc := 98) rfl (by omega) (by omega) ?_
          refine q_pf (pc := 99) (m := 12080) (c := 8) rfl (show xPt 0 0 _ _ from (ttKc ujzc5.1 (a := 183) (κ := 12) (len := 0) ⟨rfl, rfl⟩ (by decide) (by decide)).1) rfl ?_
          have ujzc6 := ttPuT ujzc5.1 ujzc5.2 (a := 183) (j := 8) (x := (q + 1)) (by decide) (fun _ _ => show (0 : Int) ≤ (q + 1) ∧ (q + 1) ≤ 1600 from by omega) ⟨(183, 8, 11), by simp, ⟨⟨by decide, rfl⟩, by decide, by decide⟩⟩
          obtain ⟨ujZ6, ujzk6⟩ : ∃ X : xH, X = (xUp ujZ5.1 183 8 (q + 1), ujZ5.2) := ⟨_, rfl⟩
          rw [← ujzk6] at ujzc6 ⊢
          have ujze6 : ujZ6.1 183 8 = (q + 1) := by rw [ujzk6]; exact up_eq (D := ujZ5.1) (a := 183) (j := 8) (x := (q + 1))
          have ujzm6_9 : ujZ6.1 183 9 = f := by rw [ujzk6]; exact (up_j (D := ujZ5.1) (a := 183) (j := 8) (x := (q + 1)) (k := 9) (by decide)).trans ujzm5_9
          have ujzm6_11 : ujZ6.1 183 11 = (min 99999 (((10 * (min 99999 u)) + (x q)) - 48)) := by rw [ujzk6]; exact (up_j (D := ujZ5.1) (a := 183) (j := 8) (x := (q + 1)) (k := 11) (by decide)).trans ujze5
          refine q_go (pc := 100) rfl ?_
          refine ih ujZ6 f (q + 1) _ ujzc6.1 ujzc6.2 ujze6 ujzm6_9 pf kb (by omega) (by omega) kf (fun j j0 j1 => ?_) ?_ (by omega)
          · by_cases w : j = q
            · rw [w]; exact qd
            · exact kj j j0 (by omega)
          · rw [sVl_s (by omega), ← ju, ujzm6_11]
            omega
      · skip
        refine q_if (pc := 78) rfl (fun h78 => ?_) (fun h78 => ?_)
        · replace h78 : (0 : Int) = 0 := h78
          refine q_al (pc := 101) (i := 0) (x := 183) rfl rfl ?_
          refine q_ic (pc := 102) (v := 2) rfl ?_
          refine q_pf (pc := 103) (m := 12100) (c := 10) rfl (show xPt 0 0 _ _ from (ttKc kT (a := 183) (κ := 12) (len := 0) ⟨rfl, rfl⟩ (by decide) (by decide)).1) rfl ?_
          have ujzc7 := ttPuT kT kF (a := 183) (j := 10) (x := 2) (by decide) (fun _ _ => show ((-2147483648) : Int) ≤ (2 : Int) ∧ (2 : Int) ≤ 2147483647 from by decide) ⟨(183, 8, 11), by simp, ⟨⟨by decide, rfl⟩, by decide, by decide⟩⟩
          obtain ⟨ujZ7, ujzk7⟩ : ∃ X : xH, X = (xUp K.1 183 10 2, K.2) := ⟨_, rfl⟩
          rw [← ujzk7] at ujzc7 ⊢
          have ujze7 : ujZ7.1 183 10 = 2 := by rw [ujzk7]; exact up_eq (D := K.1) (a := 183) (j := 10) (x := 2)
          have ujzm7_8 : ujZ7.1 183 8 = q := by rw [ujzk7]; exact (up_j (D := K.1) (a := 183) (j := 10) (x := 2) (k := 8) (by decide)).trans j8
          have ujzm7_9 : ujZ7.1 183 9 = f := by rw [ujzk7]; exact (up_j (D := K.1) (a := 183) (j := 10) (x := 2) (k := 9) (by decide)).trans j9
          have ujzm7_11 : ujZ7.1 183 11 = (min 99999 (sVl x f (q - f).toNat)) := by rw [ujzk7]; exact (up_j (D := K.1) (a := 183) (j := 10) (x := 2) (k := 11) (by decide)).trans jv
          refine q_go (pc := 104) rfl ?_
          refine q_rv (pc := 119) rfl ?_
          have eK : ujZ7.1 183 10 = 2 := ujze7
          refine hq ujZ7 ujzc7.1 ujzc7.2 ?_ ?_
          · rw [ujzm7_9, ujzm7_8, eK]
            refine ⟨⟨pf, by omega, kb⟩, Or.inr ⟨⟨by omega, fun w => by have := tkd_bl w; omega, kf.symm⟩, ⟨fq, qn⟩, fun _ => ⟨kj, fun w => ?_⟩, fun w => by omega⟩⟩
            have wb := sB_tk (xb q (by omega) w).1 (xb q (by omega) w).2
            intro w2
            rcases wc73 with ⟨-, u⟩ | ⟨u, -⟩
            · exact jn77 (by rw [u]; exact wb.2.1.mpr w2)
            · exact u w
          · intro _
            rw [ujzm7_11, ujzm7_9, ujzm7_8]
        · replace h78 : (0 : Int) ≠ 0 := h78
          omega
  have ha0 : ∀ (K : xH) (q : Int) (x1 : xV), ttTI K → ttFr (true, [(183, 8, 11)]) H K → K.1 183 8 = q → K.1 183 9 = q → p ≤ q → (∀ j : Int, p ≤ j → j < q → tbl (x j)) → q < n → tkd (x q) = 1 → xW e cd_213 Q (41, [(2, 183), x1], [], K) := by
    intro K q x1 kT kF j8 j9 pq kb q1 kq
    have qb := xb q (by omega) q1
    have qt := sB_tk qb.1 qb.2
    refine q_al (pc := 41) (i := 0) (x := 183) rfl rfl ?_
    refine q_al (pc := 42) (i := 0) (x := 183) rfl rfl ?_
    refine q_gf (pc := 43) (m := 12080) (t := 0) (c := 8) rfl (ttKc kT (a := 183) (κ := 12) (len := 0) ⟨rfl, rfl⟩ (by decide) (by decide)).1 rfl rfl ?_
    rw [j8]
    refine q_iv (pc := 44) (q := 1696968) rfl rfl rfl (ttKc kT (a := 183) (κ := 12) (len := 0) ⟨rfl, rfl⟩ (by decide) (by decide)).1 ?_
    refine lx_see (by omega) kT (by omega) (kn K kF) ?_
    rw [kx K kF]
    rw [if_pos (by omega)]
    refine q_2l (pc := 45) rfl ?_
    refine q_lc (pc := 46) (v := 97) rfl ?_
    refine q_lc (pc := 47) (v := 122) rfl ?_
    refine q_ij (pc := 48) (q := 1615932) rfl rfl rfl trivial ?_
    refine lf_in (by omega) (fun jn48 => ?_) (fun jn48 => ?_)
    · skip
      refine q_if (pc := 49) rfl (fun h49 => ?_) (fun h49 => ?_)
      · replace h49 : (1 : Int) = 0 := h49
        omega
      · replace h49 : (1 : Int) ≠ 0 := h49
        refine q_al (pc := 50) (i := 0) (x := 183) rfl rfl ?_
        refine q_d2 (pc := 51) rfl ?_
        refine q_gf (pc := 52) (m := 12080) (t := 0) (c := 8) rfl (ttKc kT (a := 183) (κ := 12) (len := 0) ⟨rfl, rfl⟩ (by decide) (by decide)).1 rfl rfl ?_
        rw [j8]
        refine q_ic (pc := 53) (v := 1) rfl ?_
        refine q_ia (pc := 54) rfl (by omega) (by omega) ?_
        refine q_pf (pc := 55) (m := 12080) (c := 8) rfl (show xPt 0 0 _ _ from (ttKc kT (a := 183) (κ := 12) (len := 0) ⟨rfl, rfl⟩ (by decide) (by decide)).1) rfl ?_
        have ujzc24 := ttPuT kT kF (a := 183) (j := 8) (x := (q + 1)) (by decide) (fun _ _ => show (0 : Int) ≤ (q + 1) ∧ (q + 1) ≤ 1600 from by omega) ⟨(183, 8, 11), by simp, ⟨⟨by decide, rfl⟩, by decide, by decide⟩⟩
        obtain ⟨ujZ24, ujzk24⟩ : ∃ X : xH, X = (xUp K.1 183 8 (q + 1), K.2) := ⟨_, rfl⟩
        rw [← ujzk24] at ujzc24 ⊢
        have ujze24 : ujZ24.1 183 8 = (q + 1) := by rw [ujzk24]; exact up_eq (D := K.1) (a := 183) (j := 8) (x := (q + 1))
        have ujzm24_9 : ujZ24.1 183 9 = q := by rw [ujzk24]; exact (up_j (D := K.1) (a := 183) (j := 8) (x := (q + 1)) (k := 9) (by decide)).trans j9
        refine q_go (pc := 56) rfl ?_
        refine ha (n - (q + 1)).toNat ujZ24 q (q + 1) _ ujzc24.1 ujzc24.2 ujze24 ujzm24_9 pq kb (by omega) (by omega) kq (fun j j0 j1 => by rw [show j = q by omega]; exact kq) (by omega)
    · skip
      refine q_if (pc := 49) rfl (fun h49 => ?_) (fun h49 => ?_)
      · replace h49 : (0 : Int) = 0 := h49
        exact absurd (qt.1.mpr kq) jn48
      · replace h49 : (0 : Int) ≠ 0 := h49
        omega
  have hc0 : ∀ (K : xH) (q : Int) (x1 : xV), ttTI K → ttFr (true, [(183, 8, 11)]) H K → K.1 183 8 = q → K.1 183 9 = q → p ≤ q → (∀ j : Int, p ≤ j → j < q → tbl (x j)) → q < n → tkd (x q) = 2 → K.1 183 11 = 0 → xW e cd_213 Q (70, [(2, 183), x1], [], K) := by
    intro K q x1 kT kF j8 j9 pq kb q1 kq jv
    have qb := xb q (by omega) q1
    have qt := sB_tk qb.1 qb.2
    refine q_al (pc := 70) (i := 0) (x := 183) rfl rfl ?_
    refine q_al (pc := 71) (i := 0) (x := 183) rfl rfl ?_
    refine q_gf (pc := 72) (m := 12080) (t := 0) (c := 8) rfl (ttKc kT (a := 183) (κ := 12) (len := 0) ⟨rfl, rfl⟩ (by decide) (by decide)).1 rfl rfl ?_
    rw [j8]
    refine q_iv (pc := 73) (q := 1696968) rfl rfl rfl (ttKc kT (a := 183) (κ := 12) (len := 0) ⟨rfl, rfl⟩ (by decide) (by decide)).1 ?_
    refine lx_see (by omega) kT (by omega) (kn K kF) ?_
    rw [kx K kF]
    rw [if_pos (by omega)]
    refine q_2l (pc := 74) rfl ?_
    refine q_lc (pc := 75) (v := 48) rfl ?_
    refine q_lc (pc := 76) (v := 57) rfl ?_
    refine q_ij (pc := 77) (q := 1615932) rfl rfl rfl trivial ?_
    refine lf_in (by omega) (fun jn77 => ?_) (fun jn77 => ?_)
    · skip
      refine q_if (pc := 78) rfl (fun h78 => ?_) (fun h78 => ?_)
      · replace h78 : (1 : Int) = 0 := h78
        omega
      · replace h78 : (1 : Int) ≠ 0 := h78
        have qe : 48 ≤ x q ∧ x q ≤ 57 := by
          have qd := kq
          unfold tkd at qd
          revert qd
          (repeat' split) <;> intro qd <;> omega
        have qs := qt.2.2.2.2.2 qe
        refine q_al (pc := 79) (i := 0) (x := 183) rfl rfl ?_
        refine q_ic (pc := 80) (v := 99999) rfl ?_
        refine q_ic (pc := 81) (v := 10) rfl ?_
        refine q_al (pc := 82) (i := 0) (x := 183) rfl rfl ?_
        refine q_gf (pc := 83) (m := 12110) (t := 0) (c := 11) rfl (ttKc kT (a := 183) (κ := 12) (len := 0) ⟨rfl, rfl⟩ (by decide) (by decide)).1 rfl rfl ?_
        rw [jv]
        refine q_im (pc := 84) rfl (by omega) (by omega) ?_
        refine q_al (pc := 85) (i := 0) (x := 183) rfl rfl ?_
        refine q_al (pc := 86) (i := 0) (x := 183) rfl rfl ?_
        refine q_gf (pc := 87) (m := 12080) (t := 0) (c := 8) rfl (ttKc kT (a := 183) (κ := 12) (len := 0) ⟨rfl, rfl⟩ (by decide) (by decide)).1 rfl rfl ?_
        rw [j8]
        refine q_iv (pc := 88) (q := 1696968) rfl rfl rfl (ttKc kT (a := 183) (κ := 12) (len := 0) ⟨rfl, rfl⟩ (by decide) (by decide)).1 ?_
        refine lx_see (by omega) kT (by omega) (kn K kF) ?_
        rw [kx K kF]
        rw [if_pos (by omega)]
        rw [qs]
        refine q_ia (pc := 89) rfl (by omega) (by omega) ?_
        refine q_ic (pc := 90) (v := 48) rfl ?_
        refine q_ib (pc := 91) rfl (by omega) (by omega) ?_
        refine q_mn (pc := 92) rfl rfl (by omega) ?_
        refine q_pf (pc := 93) (m := 12110) (c := 11) rfl (show xPt 0 0 _ _ from (ttKc kT (a := 183) (κ := 12) (len := 0) ⟨rfl, rfl⟩ (by decide) (by decide)).1) rfl ?_
        have ujzc25 := ttPuT kT kF (a := 183) (j := 11) (x := (min 99999 (((10 * 0) + (x q)) - 48))) (by decide) (fun _ _ => show ((-2147483648) : Int) ≤ (min 99999 (((10 * 0) + (x q)) - 48)) ∧ (min 99999 (((10 * 0) + (x q)) - 48)) ≤ 2147483647 from by omega) ⟨(183, 8, 11), by simp, ⟨⟨by decide, rfl⟩, by decide, by decide⟩⟩
        obtain ⟨ujZ25, ujzk25⟩ : ∃ X : xH, X = (xUp K.1 183 11 (min 99999 (((10 * 0) + (x q)) - 48)), K.2) := ⟨_, rfl⟩
        rw [← ujzk25] at ujzc25 ⊢
        have ujze25 : ujZ25.1 183 11 = (min 99999 (((10 * 0) + (x q)) - 48)) := by rw [ujzk25]; exact up_eq (D := K.1) (a := 183) (j := 11) (x := (min 99999 (((10 * 0) + (x q)) - 48)))
        have ujzm25_8 : ujZ25.1 183 8 = q := by rw [ujzk25]; exact (up_j (D := K.1) (a := 183) (j := 11) (x := (min 99999 (((10 * 0) + (x q)) - 48))) (k := 8) (by decide)).trans j8
        have ujzm25_9 : ujZ25.1 183 9 = q := by rw [ujzk25]; exact (up_j (D := K.1) (a := 183) (j := 11) (x := (min 99999 (((10 * 0) + (x q)) - 48))) (k := 9) (by decide)).trans j9
        refine q_al (pc := 94) (i := 0) (x := 183) rfl rfl ?_
        refine q_d2 (pc := 95) rfl ?_
        refine q_gf (pc := 96) (m := 12080) (t := 0) (c := 8) rfl (ttKc ujzc25.1 (a := 183) (κ := 12) (len := 0) ⟨rfl, rfl⟩ (by decide) (by decide)).1 rfl rfl ?_
        rw [ujzm25_8]
        refine q_ic (pc := 97) (v := 1) rfl ?_
        refine q_ia (pc := 98) rfl (by omega) (by omega) ?_
        refine q_pf (pc := 99) (m := 12080) (c := 8) rfl (show xPt 0 0 _ _ from (ttKc ujzc25.1 (a := 183) (κ := 12) (len := 0) ⟨rfl, rfl⟩ (by decide) (by decide)).1) rfl ?_
        have ujzc26 := ttPuT ujzc25.1 ujzc25.2 (a := 183) (j := 8) (x := (q + 1)) (by decide) (fun _ _ => show (0 : Int) ≤ (q + 1) ∧ (q + 1) ≤ 1600 from by omega) ⟨(183, 8, 11), by simp, ⟨⟨by decide, rfl⟩, by decide, by decide⟩⟩
        obtain ⟨ujZ26, ujzk26⟩ : ∃ X : xH, X = (xUp ujZ25.1 183 8 (q + 1), ujZ25.2) := ⟨_, rfl⟩
        rw [← ujzk26] at ujzc26 ⊢
        have ujze26 : ujZ26.1 183 8 = (q + 1) := by rw [ujzk26]; exact up_eq (D := ujZ25.1) (a := 183) (j := 8) (x := (q + 1))
        have ujzm26_9 : ujZ26.1 183 9 = q := by rw [ujzk26]; exact (up_j (D := ujZ25.1) (a := 183) (j := 8) (x := (q + 1)) (k := 9) (by decide)).trans ujzm25_9
        have ujzm26_11 : ujZ26.1 183 11 = (min 99999 (((10 * 0) + (x q)) - 48)) := by rw [ujzk26]; exact (up_j (D := ujZ25.1) (a := 183) (j := 8) (x := (q + 1)) (k := 11) (by decide)).trans ujze25
        refine q_go (pc := 100) rfl ?_
        refine hc (n - (q + 1)).toNat ujZ26 q (q + 1) _ ujzc26.1 ujzc26.2 ujze26 ujzm26_9 pq kb (by omega) (by omega) kq (fun j j0 j1 => by rw [show j = q by omega]; exact kq) ?_ (by omega)
        rw [show (q + 1 - q).toNat = 1 by omega, ujzm26_11]
        show _ = min 99999 (10 * 0 + (x (q + ((0 : Nat) : Int)) - 48))
        rw [show q + ((0 : Nat) : Int) = q by omega]
        omega
    · skip
      refine q_if (pc := 78) rfl (fun h78 => ?_) (fun h78 => ?_)
      · replace h78 : (0 : Int) = 0 := h78
        exact absurd (qt.2.1.mpr kq) jn77
      · replace h78 : (0 : Int) ≠ 0 := h78
        omega
  have hb : ∀ m : Nat, ∀ (K : xH) (q : Int) (x1 : xV), ttTI K → ttFr (true, [(183, 8, 11)]) H K → K.1 183 8 = q → p ≤ q → q ≤ n → (∀ j : Int, p ≤ j → j < q → tbl (x j)) → n - q ≤ (m : Int) → xW e cd_213 Q (0, [(2, 183), x1], [], K) := by
    intro m
    induction m with
    | zero =>
      intro K q x1 kT kF j8 pq qn kb hm
      refine q_al (pc := 0) (i := 0) (x := 183) rfl rfl ?_
      refine q_al (pc := 1) (i := 0) (x := 183) rfl rfl ?_
      refine q_gf (pc := 2) (m := 12080) (t := 0) (c := 8) rfl (ttKc kT (a := 183) (κ := 12) (len := 0) ⟨rfl, rfl⟩ (by decide) (by decide)).1 rfl rfl ?_
      rw [j8]
      refine q_iv (pc := 3) (q := 1696968) rfl rfl rfl (ttKc kT (a := 183) (κ := 12) (len := 0) ⟨rfl, rfl⟩ (by decide) (by decide)).1 ?_
      refine lx_see (by omega) kT (by omega) (kn K kF) ?_
      rw [kx K kF]
      obtain ⟨c3, jc3⟩ : ∃ c, c = (if q < n then sB (x q) else -1) := ⟨_, rfl⟩
      rw [← jc3]
      have wc3 : (q < n ∧ c3 = sB (x q)) ∨ (¬ q < n ∧ c3 = -1) := (Classical.em (q < n)).elim (fun w => Or.inl ⟨w, by rw [jc3, if_pos w]⟩) (fun w => Or.inr ⟨w, by rw [jc3, if_neg w]⟩)
      refine q_ic (pc := 4) (v := 32) rfl ?_
      refine q_i2 (pc := 5) rfl (fun h5 => ?_) (fun h5 => ?_)
      · replace h5 : c3 = 32 := h5
        exfalso
        have a3 := wc3
        rcases wc3 with ⟨w, -⟩ | ⟨-, w⟩ <;> omega
      · replace h5 : c3 ≠ 32 := h5
        refine q_al (pc := 6) (i := 0) (x := 183) rfl rfl ?_
        refine q_al (pc := 7) (i := 0) (x := 183) rfl rfl ?_
        refine q_gf (pc := 8) (m := 12080) (t := 0) (c := 8) rfl (ttKc kT (a := 183) (κ := 12) (len := 0) ⟨rfl, rfl⟩ (by decide) (by decide)).1 rfl rfl ?_
        rw [j8]
        refine q_iv (pc := 9) (q := 1696968) rfl rfl rfl (ttKc kT (a := 183) (κ := 12) (len := 0) ⟨rfl, rfl⟩ (by decide) (by decide)).1 ?_
        refine lx_see (by omega) kT (by omega) (kn K kF) ?_
        rw [kx K kF]
        obtain ⟨c9, jc9⟩ : ∃ c, c = (if q < n then sB (x q) else -1) := ⟨_, rfl⟩
        rw [← jc9]
        have wc9 : (q < n ∧ c9 = sB (x q)) ∨ (¬ q < n ∧ c9 = -1) := (Classical.em (q < n)).elim (fun w => Or.inl ⟨w, by rw [jc9, if_pos w]⟩) (fun w => Or.inr ⟨w, by rw [jc9, if_neg w]⟩)
        refine q_ic (pc := 10) (v := 10) rfl ?_
        refine q_i2 (pc := 11) rfl (fun h11 => ?_) (fun h11 => ?_)
        · replace h11 : c9 ≠ 10 := h11
          refine q_al (pc := 19) (i := 0) (x := 183) rfl rfl ?_
          refine q_al (pc := 20) (i := 0) (x := 183) rfl rfl ?_
          refine q_gf (pc := 21) (m := 12080) (t := 0) (c := 8) rfl (ttKc kT (a := 183) (κ := 12) (len := 0) ⟨rfl, rfl⟩ (by decide) (by decide)).1 rfl rfl ?_
          rw [j8]
          refine q_pf (pc := 22) (m := 12090) (c := 9) rfl (show xPt 0 0 _ _ from (ttKc kT (a := 183) (κ := 12) (len := 0) ⟨rfl, rfl⟩ (by decide) (by decide)).1) rfl ?_
          have ujzc8 := ttPuT kT kF (a := 183) (j := 9) (x := q) (by decide) (fun _ _ => show (0 : Int) ≤ q ∧ q ≤ 1600 from by omega) ⟨(183, 8, 11), by simp, ⟨⟨by decide, rfl⟩, by decide, by decide⟩⟩
          obtain ⟨ujZ8, ujzk8⟩ : ∃ X : xH, X = (xUp K.1 183 9 q, K.2) := ⟨_, rfl⟩
          rw [← ujzk8] at ujzc8 ⊢
          have ujze8 : ujZ8.1 183 9 = q := by rw [ujzk8]; exact up_eq (D := K.1) (a := 183) (j := 9) (x := q)
          have ujzm8_8 : ujZ8.1 183 8 = q := by rw [ujzk8]; exact (up_j (D := K.1) (a := 183) (j := 9) (x := q) (k := 8) (by decide)).trans j8
          refine q_al (pc := 23) (i := 0) (x := 183) rfl rfl ?_
          refine q_al (pc := 24) (i := 0) (x := 183) rfl rfl ?_
          refine q_gf (pc := 25) (m := 12080) (t := 0) (c := 8) rfl (ttKc ujzc8.1 (a := 183) (κ := 12) (len := 0) ⟨rfl, rfl⟩ (by decide) (by decide)).1 rfl rfl ?_
          rw [ujzm8_8]
          refine q_iv (pc := 26) (q := 1696968) rfl rfl rfl (ttKc ujzc8.1 (a := 183) (κ := 12) (len := 0) ⟨rfl, rfl⟩ (by decide) (by decide)).1 ?_
          refine lx_see (by omega) ujzc8.1 (by omega) (kn ujZ8 ujzc8.2) ?_
          rw [kx ujZ8 ujzc8.2]
          obtain ⟨c26, jc26⟩ : ∃ c, c = (if q < n then sB (x q) else -1) := ⟨_, rfl⟩
          rw [← jc26]
          have wc26 : (q < n ∧ c26 = sB (x q)) ∨ (¬ q < n ∧ c26 = -1) := (Classical.em (q < n)).elim (fun w => Or.inl ⟨w, by rw [jc26, if_pos w]⟩) (fun w => Or.inr ⟨w, by rw [jc26, if_neg w]⟩)
          have nb : q < n → ¬ tbl (x q) := fun w w2 => by
            have wb := (sB_tk (xb q (by omega) w).1 (xb q (by omega) w).2).2.2.2.1.mpr w2
            rcases wc3 with ⟨-, u⟩ | ⟨u, -⟩
            · rcases wc9 with ⟨-, u2⟩ | ⟨u2, -⟩
              · omega
              · exact u2 w
            · exact u w
          refine q_is (pc := 27) (i := 1) (L' := [(2, 183), (0, c26)]) rfl rfl rfl ?_
          refine q_il (pc := 28) (i := 1) (x := c26) rfl rfl ?_
          refine q_ic (pc := 29) (v := (-1)) rfl ?_
          refine q_i2 (pc := 30) rfl (fun h30 => ?_) (fun h30 => ?_)
          · replace h30 : c26 ≠ (-1) := h30
            obtain ⟨q1, q2⟩ : q < n ∧ c26 = sB (x q) := by
              rcases wc26 with w | ⟨-, w⟩
              · exact w
              · omega
            have qb := xb q (by omega) q1
            have qt := sB_tk qb.1 qb.2
            have tk := tkd_in (x q)
            refine q_il (pc := 35) (i := 1) (x := c26) rfl rfl ?_
            refine q_2l (pc := 36) rfl ?_
            refine q_lc (pc := 37) (v := 97) rfl ?_
            refine q_lc (pc := 38) (v := 122) rfl ?_
            refine q_ij (pc := 39) (q := 1615932) rfl rfl rfl trivial ?_
            refine lf_in (by omega) (fun jn39 => ?_) (fun jn39 => ?_)
            · skip
              refine q_if (pc := 40) rfl (fun h40 => ?_) (fun h40 => ?_)
              · replace h40 : (1 : Int) = 0 := h40
                omega
              · replace h40 : (1 : Int) ≠ 0 := h40
                have kq : tkd (x q) = 1 := qt.1.mp (by rw [← q2]; exact jn39)
                exact ha0 ujZ8 q _ ujzc8.1 ujzc8.2 ujzm8_8 ujze8 pq kb q1 kq
            · skip
              refine q_if (pc := 40) rfl (fun h40 => ?_) (fun h40 => ?_)
              · replace h40 : (0 : Int) = 0 := h40
                refine q_il (pc := 61) (i := 1) (x := c26) rfl rfl ?_
                refine q_2l (pc := 62) rfl ?_
                refine q_lc (pc := 63) (v := 48) rfl ?_
                refine q_lc (pc := 64) (v := 57) rfl ?_
                refine q_ij (pc := 65) (q := 1615932) rfl rfl rfl trivial ?_
                refine lf_in (by omega) (fun jn65 => ?_) (fun jn65 => ?_)
                · skip
                  refine q_if (pc := 66) rfl (fun h66 => ?_) (fun h66 => ?_)
                  · replace h66 : (1 : Int) = 0 := h66
                    omega
                  · replace h66 : (1 : Int) ≠ 0 := h66
                    refine q_al (pc := 67) (i := 0) (x := 183) rfl rfl ?_
                    refine q_ic (pc := 68) (v := 0) rfl ?_
                    refine q_pf (pc := 69) (m := 12110) (c := 11) rfl (show xPt 0 0 _ _ from (ttKc ujzc8.1 (a := 183) (κ := 12) (len := 0) ⟨rfl, rfl⟩ (by decide) (by decide)).1) rfl ?_
                    have ujzc9 := ttPuT ujzc8.1 ujzc8.2 (a := 183) (j := 11) (x := 0) (by decide) (fun _ _ => show ((-2147483648) : Int) ≤ (0 : Int) ∧ (0 : Int) ≤ 2147483647 from by decide) ⟨(183, 8, 11), by simp, ⟨⟨by decide, rfl⟩, by decide, by decide⟩⟩
                    obtain ⟨ujZ9, ujzk9⟩ : ∃ X : xH, X = (xUp ujZ8.1 183 11 0, ujZ8.2) := ⟨_, rfl⟩
                    rw [← ujzk9] at ujzc9 ⊢
                    have ujze9 : ujZ9.1 183 11 = 0 := by rw [ujzk9]; exact up_eq (D := ujZ8.1) (a := 183) (j := 11) (x := 0)
                    have ujzm9_8 : ujZ9.1 183 8 = q := by rw [ujzk9]; exact (up_j (D := ujZ8.1) (a := 183) (j := 11) (x := 0) (k := 8) (by decide)).trans ujzm8_8
                    have ujzm9_9 : ujZ9.1 183 9 = q := by rw [ujzk9]; exact (up_j (D := ujZ8.1) (a := 183) (j := 11) (x := 0) (k := 9) (by decide)).trans ujze8
                    have kq : tkd (x q) = 2 := qt.2.1.mp (by rw [← q2]; exact jn65)
                    exact hc0 ujZ9 q _ ujzc9.1 ujzc9.2 ujzm9_8 ujzm9_9 pq kb q1 kq ujze9
                · skip
                  refine q_if (pc := 66) rfl (fun h66 => ?_) (fun h66 => ?_)
                  · replace h66 : (0 : Int) = 0 := h66
                    refine q_al (pc := 105) (i := 0) (x := 183) rfl rfl ?_
                    refine q_il (pc := 106) (i := 1) (x := c26) rfl rfl ?_
                    refine q_ic (pc := 107) (v := 59) rfl ?_
                    refine q_i2 (pc := 108) rfl (fun h108 => ?_) (fun h108 => ?_)
                    · replace h108 : c26 ≠ 59 := h108
                      refine q_ic (pc := 111) (v := 4) rfl ?_
                      refine q_pf (pc := 112) (m := 12100) (c := 10) rfl (show xPt 0 0 _ _ from (ttKc ujzc8.1 (a := 183) (κ := 12) (len := 0) ⟨rfl, rfl⟩ (by decide) (by decide)).1) rfl ?_
                      have ujzc10 := ttPuT ujzc8.1 ujzc8.2 (a := 183) (j := 10) (x := 4) (by decide) (fun _ _ => show ((-2147483648) : Int) ≤ (4 : Int) ∧ (4 : Int) ≤ 2147483647 from by decide) ⟨(183, 8, 11), by simp, ⟨⟨by decide, rfl⟩, by decide, by decide⟩⟩
                      obtain ⟨ujZ10, ujzk10⟩ : ∃ X : xH, X = (xUp ujZ8.1 183 10 4, ujZ8.2) := ⟨_, rfl⟩
                      rw [← ujzk10] at ujzc10 ⊢
                      have ujze10 : ujZ10.1 183 10 = 4 := by rw [ujzk10]; exact up_eq (D := ujZ8.1) (a := 183) (j := 10) (x := 4)
                      have ujzm10_8 : ujZ10.1 183 8 = q := by rw [ujzk10]; exact (up_j (D := ujZ8.1) (a := 183) (j := 10) (x := 4) (k := 8) (by decide)).trans ujzm8_8
                      have ujzm10_9 : ujZ10.1 183 9 = q := by rw [ujzk10]; exact (up_j (D := ujZ8.1) (a := 183) (j := 10) (x := 4) (k := 9) (by decide)).trans ujze8
                      refine q_al (pc := 113) (i := 0) (x := 183) rfl rfl ?_
                      refine q_d2 (pc := 114) rfl ?_
                      refine q_gf (pc := 115) (m := 12080) (t := 0) (c := 8) rfl (ttKc ujzc10.1 (a := 183) (κ := 12) (len := 0) ⟨rfl, rfl⟩ (by decide) (by decide)).1 rfl rfl ?_
                      rw [ujzm10_8]
                      refine q_ic (pc := 116) (v := 1) rfl ?_
                      refine q_ia (pc := 117) rfl (by omega) (by omega) ?_
                      refine q_pf (pc := 118) (m := 12080) (c := 8) rfl (show xPt 0 0 _ _ from (ttKc ujzc10.1 (a := 183) (κ := 12) (len := 0) ⟨rfl, rfl⟩ (by decide) (by decide)).1) rfl ?_
                      have ujzc11 := ttPuT ujzc10.1 ujzc10.2 (a := 183) (j := 8) (x := (q + 1)) (by decide) (fun _ _ => show (0 : Int) ≤ (q + 1) ∧ (q + 1) ≤ 1600 from by omega) ⟨(183, 8, 11), by simp, ⟨⟨by decide, rfl⟩, by decide, by decide⟩⟩
                      obtain ⟨ujZ11, ujzk11⟩ : ∃ X : xH, X = (xUp ujZ10.1 183 8 (q + 1), ujZ10.2) := ⟨_, rfl⟩
                      rw [← ujzk11] at ujzc11 ⊢
                      have ujze11 : ujZ11.1 183 8 = (q + 1) := by rw [ujzk11]; exact up_eq (D := ujZ10.1) (a := 183) (j := 8) (x := (q + 1))
                      have ujzm11_9 : ujZ11.1 183 9 = q := by rw [ujzk11]; exact (up_j (D := ujZ10.1) (a := 183) (j := 8) (x := (q + 1)) (k := 9) (by decide)).trans ujzm10_9
                      have ujzm11_10 : ujZ11.1 183 10 = 4 := by rw [ujzk11]; exact (up_j (D := ujZ10.1) (a := 183) (j := 8) (x := (q + 1)) (k := 10) (by decide)).trans ujze10
                      refine q_rv (pc := 119) rfl ?_
                      have eK : ujZ11.1 183 10 = 4 := ujzm11_10
                      refine hq ujZ11 ujzc11.1 ujzc11.2 ?_ (fun w => by rw [eK] at w; exact absurd w (by decide))
                      rw [ujzm11_9, ujze11, eK]
                      have kq : tkd (x q) = 4 := by
                        have a1 : ¬ tkd (x q) = 1 := fun w => jn39 (by rw [q2]; exact qt.1.mpr w)
                        have a2 : ¬ tkd (x q) = 2 := fun w => jn65 (by rw [q2]; exact qt.2.1.mpr w)
                        have a3 : sB (x q) = 59 ↔ tkd (x q) = 3 := qt.2.2.1
                        omega
                      exact ⟨⟨pq, by omega, kb⟩, Or.inr ⟨⟨q1, nb q1, kq.symm⟩, ⟨by omega, by omega⟩, fun w => by omega, fun _ => rfl⟩⟩
                    · replace h108 : c26 = 59 := h108
                      refine q_ic (pc := 109) (v := 3) rfl ?_
                      refine q_go (pc := 110) rfl ?_
                      refine q_pf (pc := 112) (m := 12100) (c := 10) rfl (show xPt 0 0 _ _ from (ttKc ujzc8.1 (a := 183) (κ := 12) (len := 0) ⟨rfl, rfl⟩ (by decide) (by decide)).1) rfl ?_
                      have ujzc12 := ttPuT ujzc8.1 ujzc8.2 (a := 183) (j := 10) (x := 3) (by decide) (fun _ _ => show ((-2147483648) : Int) ≤ (3 : Int) ∧ (3 : Int) ≤ 2147483647 from by decide) ⟨(183, 8, 11), by simp, ⟨⟨by decide, rfl⟩, by decide, by decide⟩⟩
                      obtain ⟨ujZ12, ujzk12⟩ : ∃ X : xH, X = (xUp ujZ8.1 183 10 3, ujZ8.2) := ⟨_, rfl⟩
                      rw [← ujzk12] at ujzc12 ⊢
                      have ujze12 : ujZ12.1 183 10 = 3 := by rw [ujzk12]; exact up_eq (D := ujZ8.1) (a := 183) (j := 10) (x := 3)
                      have ujzm12_8 : ujZ12.1 183 8 = q := by rw [ujzk12]; exact (up_j (D := ujZ8.1) (a := 183) (j := 10) (x := 3) (k := 8) (by decide)).trans ujzm8_8
                      have ujzm12_9 : ujZ12.1 183 9 = q := by rw [ujzk12]; exact (up_j (D := ujZ8.1) (a := 183) (j := 10) (x := 3) (k := 9) (by decide)).trans ujze8
                      refine q_al (pc := 113) (i := 0) (x := 183) rfl rfl ?_
                      refine q_d2 (pc := 114) rfl ?_
                      refine q_gf (pc := 115) (m := 12080) (t := 0) (c := 8) rfl (ttKc ujzc12.1 (a := 183) (κ := 12) (len := 0) ⟨rfl, rfl⟩ (by decide) (by decide)).1 rfl rfl ?_
                      rw [ujzm12_8]
                      refine q_ic (pc := 116) (v := 1) rfl ?_
                      refine q_ia (pc := 117) rfl (by omega) (by omega) ?_
                      refine q_pf (pc := 118) (m := 12080) (c := 8) rfl (show xPt 0 0 _ _ from (ttKc ujzc12.1 (a := 183) (κ := 12) (len := 0) ⟨rfl, rfl⟩ (by decide) (by decide)).1) rfl ?_
                      have ujzc13 := ttPuT ujzc12.1 ujzc12.2 (a := 183) (j := 8) (x := (q + 1)) (by decide) (fun _ _ => show (0 : Int) ≤ (q + 1) ∧ (q + 1) ≤ 1600 from by omega) ⟨(183, 8, 11), by simp, ⟨⟨by decide, rfl⟩, by decide, by decide⟩⟩
                      obtain ⟨ujZ13, ujzk13⟩ : ∃ X : xH, X = (xUp ujZ12.1 183 8 (q + 1), ujZ12.2) := ⟨_, rfl⟩
                      rw [← ujzk13] at ujzc13 ⊢
                      have ujze13 : ujZ13.1 183 8 = (q + 1) := by rw [ujzk13]; exact up_eq (D := ujZ12.1) (a := 183) (j := 8) (x := (q + 1))
                      have ujzm13_9 : ujZ13.1 183 9 = q := by rw [ujzk13]; exact (up_j (D := ujZ12.1) (a := 183) (j := 8) (x := (q + 1)) (k := 9) (by decide)).trans ujzm12_9
                      have ujzm13_10 : ujZ13.1 183 10 = 3 := by rw [ujzk13]; exact (up_j (D := ujZ12.1) (a := 183) (j := 8) (x := (q + 1)) (k := 10) (by decide)).trans ujze12
                      refine q_rv (pc := 119) rfl ?_
                      have eK : ujZ13.1 183 10 = 3 := ujzm13_10
                      refine hq ujZ13 ujzc13.1 ujzc13.2 ?_ (fun w => by rw [eK] at w; exact absurd w (by decide))
                      rw [ujzm13_9, ujze13, eK]
                      have kq : tkd (x q) = 3 := by
                        have a1 : ¬ tkd (x q) = 1 := fun w => jn39 (by rw [q2]; exact qt.1.mpr w)
                        have a2 : ¬ tkd (x q) = 2 := fun w => jn65 (by rw [q2]; exact qt.2.1.mpr w)
                        have a3 : sB (x q) = 59 ↔ tkd (x q) = 3 := qt.2.2.1
                        omega
                      exact ⟨⟨pq, by omega, kb⟩, Or.inr ⟨⟨q1, nb q1, kq.symm⟩, ⟨by omega, by omega⟩, fun w => by omega, fun _ => rfl⟩⟩
                  · replace h66 : (0 : Int) ≠ 0 := h66
                    omega
              · replace h40 : (0 : Int) ≠ 0 := h40
                omega
          · replace h30 : c26 = (-1) := h30
            refine q_al (pc := 31) (i := 0) (x := 183) rfl rfl ?_
            refine q_ic (pc := 32) (v := 0) rfl ?_
            refine q_pf (pc := 33) (m := 12100) (c := 10) rfl (show xPt 0 0 _ _ from (ttKc ujzc8.1 (a := 183) (κ := 12) (len := 0) ⟨rfl, rfl⟩ (by decide) (by decide)).1) rfl ?_
            have ujzc14 := ttPuT ujzc8.1 ujzc8.2 (a := 183) (j := 10) (x := 0) (by decide) (fun _ _ => show ((-2147483648) : Int) ≤ (0 : Int) ∧ (0 : Int) ≤ 2147483647 from by decide) ⟨(183, 8, 11), by simp, ⟨⟨by decide, rfl⟩, by decide, by decide⟩⟩
            obtain ⟨ujZ14, ujzk14⟩ : ∃ X : xH, X = (xUp ujZ8.1 183 10 0, ujZ8.2) := ⟨_, rfl⟩
            rw [← ujzk14] at ujzc14 ⊢
            have ujze14 : ujZ14.1 183 10 = 0 := by rw [ujzk14]; exact up_eq (D := ujZ8.1) (a := 183) (j := 10) (x := 0)
            have ujzm14_8 : ujZ14.1 183 8 = q := by rw [ujzk14]; exact (up_j (D := ujZ8.1) (a := 183) (j := 10) (x := 0) (k := 8) (by decide)).trans ujzm8_8
            have ujzm14_9 : ujZ14.1 183 9 = q := by rw [ujzk14]; exact (up_j (D := ujZ8.1) (a := 183) (j := 10) (x := 0) (k := 9) (by decide)).trans ujze8
            refine q_go (pc := 34) rfl ?_
            refine q_rv (pc := 119) rfl ?_
            have eK : ujZ14.1 183 10 = 0 := ujze14
            refine hq ujZ14 ujzc14.1 ujzc14.2 ?_ (fun w => by rw [eK] at w; exact absurd w (by decide))
            rw [ujzm14_9, ujzm14_8, eK]
            have qe : q = n := by
              rcases wc26 with ⟨w, u⟩ | ⟨w, -⟩
              · have := (sB_tk (xb q (by omega) w).1 (xb q (by omega) w).2).2.2.2.2.1; omega
              · omega
            exact ⟨⟨pq, qn, kb⟩, Or.inl ⟨qe, rfl, qe⟩⟩
        · replace h11 : c9 = 10 := h11
          exfalso
          have a3 := wc3
          rcases wc3 with ⟨w, -⟩ | ⟨-, w⟩ <;> omega
    | succ m ih =>
      intro K q x1 kT kF j8 pq qn kb hm
      refine q_al (pc := 0) (i := 0) (x := 183) rfl rfl ?_
      refine q_al (pc := 1) (i := 0) (x := 183) rfl rfl ?_
      refine q_gf (pc := 2) (m := 12080) (t := 0) (c := 8) rfl (ttKc kT (a := 183) (κ := 12) (len := 0) ⟨rfl, rfl⟩ (by decide) (by decide)).1 rfl rfl ?_
      rw [j8]
      refine q_iv (pc := 3) (q := 1696968) rfl rfl rfl (ttKc kT (a := 183) (κ := 12) (len := 0) ⟨rfl, rfl⟩ (by decide) (by decide)).1 ?_
      refine lx_see (by omega) kT (by omega) (kn K kF) ?_
      rw [kx K kF]
      obtain ⟨c3, jc3⟩ : ∃ c, c = (if q < n then sB (x q) else -1) := ⟨_, rfl⟩
      rw [← jc3]
      have wc3 : (q < n ∧ c3 = sB (x q)) ∨ (¬ q < n ∧ c3 = -1) := (Classical.em (q < n)).elim (fun w => Or.inl ⟨w, by rw [jc3, if_pos w]⟩) (fun w => Or.inr ⟨w, by rw [jc3, if_neg w]⟩)
      refine q_ic (pc := 4) (v := 32) rfl ?_
      refine q_i2 (pc := 5) rfl (fun h5 => ?_) (fun h5 => ?_)
      · replace h5 : c3 = 32 := h5
        obtain ⟨q1, q2⟩ : q < n ∧ c3 = sB (x q) := by
          rcases wc3 with w | ⟨-, w⟩
          · exact w
          · omega
        have qbl : tbl (x q) := (sB_tk (xb q (by omega) q1).1 (xb q (by omega) q1).2).2.2.2.1.mp (by omega)
        refine q_al (pc := 12) (i := 0) (x := 183) rfl rfl ?_
        refine q_d2 (pc := 13) rfl ?_
        refine q_gf (pc := 14) (m := 12080) (t := 0) (c := 8) rfl (ttKc kT (a := 183) (κ := 12) (len := 0) ⟨rfl, rfl⟩ (by decide) (by decide)).1 rfl rfl ?_
        rw [j8]
        refine q_ic (pc := 15) (v := 1) rfl ?_
        refine q_ia (pc := 16) rfl (by omega) (by omega) ?_
        refine q_pf (pc := 17) (m := 12080) (c := 8) rfl (show xPt 0 0 _ _ from (ttKc kT (a := 183) (κ := 12) (len := 0) ⟨rfl, rfl⟩ (by decide) (by decide)).1) rfl ?_
        have ujzc15 := ttPuT kT kF (a := 183) (j := 8) (x := (q + 1)) (by decide) (fun _ _ => show (0 : Int) ≤ (q + 1) ∧ (q + 1) ≤ 1600 from by omega) ⟨(183, 8, 11), by simp, ⟨⟨by decide, rfl⟩, by decide, by decide⟩⟩
        obtain ⟨ujZ15, ujzk15⟩ : ∃ X : xH, X = (xUp K.1 183 8 (q + 1), K.2) := ⟨_, rfl⟩
        rw [← ujzk15] at ujzc15 ⊢
        have ujze15 : ujZ15.1 183 8 = (q + 1) := by rw [ujzk15]; exact up_eq (D := K.1) (a := 183) (j := 8) (x := (q + 1))
        refine q_go (pc := 18) rfl ?_
        exact ih ujZ15 (q + 1) _ ujzc15.1 ujzc15.2 ujze15 (by omega) (by omega) (fun j j0 j1 => by
          by_cases w : j = q
          · rw [w]; exact qbl
          · exact kb j j0 (by omega)) (by omega)
      · replace h5 : c3 ≠ 32 := h5
        refine q_al (pc := 6) (i := 0) (x := 183) rfl rfl ?_
        refine q_al (pc := 7) (i := 0) (x := 183) rfl rfl ?_
        refine q_gf (pc := 8) (m := 12080) (t := 0) (c := 8) rfl (ttKc kT (a := 183) (κ := 12) (len := 0) ⟨rfl, rfl⟩ (by decide) (by decide)).1 rfl rfl ?_
        rw [j8]
        refine q_iv (pc := 9) (q := 1696968) rfl rfl rfl (ttKc kT (a := 183) (κ := 12) (len := 0) ⟨rfl, rfl⟩ (by decide) (by decide)).1 ?_
        refine lx_see (by omega) kT (by omega) (kn K kF) ?_
        rw [kx K kF]
        obtain ⟨c9, jc9⟩ : ∃ c, c = (if q < n then sB (x q) else -1) := ⟨_, rfl⟩
        rw [← jc9]
        have wc9 : (q < n ∧ c9 = sB (x q)) ∨ (¬ q < n ∧ c9 = -1) := (Classical.em (q < n)).elim (fun w => Or.inl ⟨w, by rw [jc9, if_pos w]⟩) (fun w => Or.inr ⟨w, by rw [jc9, if_neg w]⟩)
        refine q_ic (pc := 10) (v := 10) rfl ?_
        refine q_i2 (pc := 11) rfl (fun h11 => ?_) (fun h11 => ?_)
        · replace h11 : c9 ≠ 10 := h11
          refine q_al (pc := 19) (i := 0) (x := 183) rfl rfl ?_
          refine q_al (pc := 20) (i := 0) (x := 183) rfl rfl ?_
          refine q_gf (pc := 21) (m := 12080) (t := 0) (c := 8) rfl (ttKc kT (a := 183) (κ := 12) (len := 0) ⟨rfl, rfl⟩ (by decide) (by decide)).1 rfl rfl ?_
          rw [j8]
          refine q_pf (pc := 22) (m := 12090) (c := 9) rfl (show xPt 0 0 _ _ from (ttKc kT (a := 183) (κ := 12) (len := 0) ⟨rfl, rfl⟩ (by decide) (by decide)).1) rfl ?_
          have ujzc16 := ttPuT kT kF (a := 183) (j := 9) (x := q) (by decide) (fun _ _ => show (0 : Int) ≤ q ∧ q ≤ 1600 from by omega) ⟨(183, 8, 11), by simp, ⟨⟨by decide, rfl⟩, by decide, by decide⟩⟩
          obtain ⟨ujZ16, ujzk16⟩ : ∃ X : xH, X = (xUp K.1 183 9 q, K.2) := ⟨_, rfl⟩
          rw [← ujzk16] at ujzc16 ⊢
          have ujze16 : ujZ16.1 183 9 = q := by rw [ujzk16]; exact up_eq (D := K.1) (a := 183) (j := 9) (x := q)
          have ujzm16_8 : ujZ16.1 183 8 = q := by rw [ujzk16]; exact (up_j (D := K.1) (a := 183) (j := 9) (x := q) (k := 8) (by decide)).trans j8
          refine q_al (pc := 23) (i := 0) (x := 183) rfl rfl ?_
          refine q_al (pc := 24) (i := 0) (x := 183) rfl rfl ?_
          refine q_gf (pc := 25) (m := 12080) (t := 0) (c := 8) rfl (ttKc ujzc16.1 (a := 183) (κ := 12) (len := 0) ⟨rfl, rfl⟩ (by decide) (by decide)).1 rfl rfl ?_
          rw [ujzm16_8]
          refine q_iv (pc := 26) (q := 1696968) rfl rfl rfl (ttKc ujzc16.1 (a := 183) (κ := 12) (len := 0) ⟨rfl, rfl⟩ (by decide) (by decide)).1 ?_
          refine lx_see (by omega) ujzc16.1 (by omega) (kn ujZ16 ujzc16.2) ?_
          rw [kx ujZ16 ujzc16.2]
          obtain ⟨c26, jc26⟩ : ∃ c, c = (if q < n then sB (x q) else -1) := ⟨_, rfl⟩
          rw [← jc26]
          have wc26 : (q < n ∧ c26 = sB (x q)) ∨ (¬ q < n ∧ c26 = -1) := (Classical.em (q < n)).elim (fun w => Or.inl ⟨w, by rw [jc26, if_pos w]⟩) (fun w => Or.inr ⟨w, by rw [jc26, if_neg w]⟩)
          have nb : q < n → ¬ tbl (x q) := fun w w2 => by
            have wb := (sB_tk (xb q (by omega) w).1 (xb q (by omega) w).2).2.2.2.1.mpr w2
            rcases wc3 with ⟨-, u⟩ | ⟨u, -⟩
            · rcases wc9 with ⟨-, u2⟩ | ⟨u2, -⟩
              · omega
              · exact u2 w
            · exact u w
          refine q_is (pc := 27) (i := 1) (L' := [(2, 183), (0, c26)]) rfl rfl rfl ?_
          refine q_il (pc := 28) (i := 1) (x := c26) rfl rfl ?_
          refine q_ic (pc := 29) (v := (-1)) rfl ?_
          refine q_i2 (pc := 30) rfl (fun h30 => ?_) (fun h30 => ?_)
          · replace h30 : c26 ≠ (-1) := h30
            obtain ⟨q1, q2⟩ : q < n ∧ c26 = sB (x q) := by
              rcases wc26 with w | ⟨-, w⟩
              · exact w
              · omega
            have qb := xb q (by omega) q1
            have qt := sB_tk qb.1 qb.2
            have tk := tkd_in (x q)
            refine q_il (pc := 35) (i := 1) (x := c26) rfl rfl ?_
            refine q_2l (pc := 36) rfl ?_
            refine q_lc (pc := 37) (v := 97) rfl ?_
            refine q_lc (pc := 38) (v := 122) rfl ?_
            refine q_ij (pc := 39) (q := 1615932) rfl rfl rfl trivial ?_
            refine lf_in (by omega) (fun jn39 => ?_) (fun jn39 => ?_)
            · skip
              refine q_if (pc := 40) rfl (fun h40 => ?_) (fun h40 => ?_)
              · replace h40 : (1 : Int) = 0 := h40
                omega
              · replace h40 : (1 : Int) ≠ 0 := h40
                have kq : tkd (x q) = 1 := qt.1.mp (by rw [← q2]; exact jn39)
                exact ha0 ujZ16 q _ ujzc16.1 ujzc16.2 ujzm16_8 ujze16 pq kb q1 kq
            · skip
              refine q_if (pc := 40) rfl (fun h40 => ?_) (fun h40 => ?_)
              · replace h40 : (0 : Int) = 0 := h40
                refine q_il (pc := 61) (i := 1) (x := c26) rfl rfl ?_
                refine q_2l (pc := 62) rfl ?_
                refine q_lc (pc := 63) (v := 48) rfl ?_
                refine q_lc (pc := 64) (v := 57) rfl ?_
                refine q_ij (pc := 65) (q := 1615932) rfl rfl rfl trivial ?_
                refine lf_in (by omega) (fun jn65 => ?_) (fun jn65 => ?_)
                · skip
                  refine q_if (pc := 66) rfl (fun h66 => ?_) (fun h66 => ?_)
                  · replace h66 : (1 : Int) = 0 := h66
                    omega
                  · replace h66 : (1 : Int) ≠ 0 := h66
                    refine q_al (pc := 67) (i := 0) (x := 183) rfl rfl ?_
                    refine q_ic (pc := 68) (v := 0) rfl ?_
                    refine q_pf (pc := 69) (m := 12110) (c := 11) rfl (show xPt 0 0 _ _ from (ttKc ujzc16.1 (a := 183) (κ := 12) (len := 0) ⟨rfl, rfl⟩ (by decide) (by decide)).1) rfl ?_
                    have ujzc17 := ttPuT ujzc16.1 ujzc16.2 (a := 183) (j := 11) (x := 0) (by decide) (fun _ _ => show ((-2147483648) : Int) ≤ (0 : Int) ∧ (0 : Int) ≤ 2147483647 from by decide) ⟨(183, 8, 11), by simp, ⟨⟨by decide, rfl⟩, by decide, by decide⟩⟩
                    obtain ⟨ujZ17, ujzk17⟩ : ∃ X : xH, X = (xUp ujZ16.1 183 11 0, ujZ16.2) := ⟨_, rfl⟩
                    rw [← ujzk17] at ujzc17 ⊢
                    have ujze17 : ujZ17.1 183 11 = 0 := by rw [ujzk17]; exact up_eq (D := ujZ16.1) (a := 183) (j := 11) (x := 0)
                    have ujzm17_8 : ujZ17.1 183 8 = q := by rw [ujzk17]; exact (up_j (D := ujZ16.1) (a := 183) (j := 11) (x := 0) (k := 8) (by decide)).trans ujzm16_8
                    have ujzm17_9 : ujZ17.1 183 9 = q := by rw [ujzk17]; exact (up_j (D := ujZ16.1) (a := 183) (j := 11) (x := 0) (k := 9) (by decide)).trans ujze16
                    have kq : tkd (x q) = 2 := qt.2.1.mp (by rw [← q2]; exact jn65)
                    exact hc0 ujZ17 q _ ujzc17.1 ujzc17.2 ujzm17_8 ujzm17_9 pq kb q1 kq ujze17
                · skip
                  refine q_if (pc := 66) rfl (fun h66 => ?_) (fun h66 => ?_)
                  · replace h66 : (0 : Int) = 0 := h66
                    refine q_al (pc := 105) (i := 0) (x := 183) rfl rfl ?_
                    refine q_il (pc := 106) (i := 1) (x := c26) rfl rfl ?_
                    refine q_ic (pc := 107) (v := 59) rfl ?_
                    refine q_i2 (pc := 108) rfl (fun h108 => ?_) (fun h108 => ?_)
                    · replace h108 : c26 ≠ 59 := h108
                      refine q_ic (pc := 111) (v := 4) rfl ?_
                      refine q_pf (pc := 112) (m := 12100) (c := 10) rfl (show xPt 0 0 _ _ from (ttKc ujzc16.1 (a := 183) (κ := 12) (len := 0) ⟨rfl, rfl⟩ (by decide) (by decide)).1) rfl ?_
                      have ujzc18 := ttPuT ujzc16.1 ujzc16.2 (a := 183) (j := 10) (x := 4) (by decide) (fun _ _ => show ((-2147483648) : Int) ≤ (4 : Int) ∧ (4 : Int) ≤ 2147483647 from by decide) ⟨(183, 8, 11), by simp, ⟨⟨by decide, rfl⟩, by decide, by decide⟩⟩
                      obtain ⟨ujZ18, ujzk18⟩ : ∃ X : xH, X = (xUp ujZ16.1 183 10 4, ujZ16.2) := ⟨_, rfl⟩
                      rw [← ujzk18] at ujzc18 ⊢
                      have ujze18 : ujZ18.1 183 10 = 4 := by rw [ujzk18]; exact up_eq (D := ujZ16.1) (a := 183) (j := 10) (x := 4)
                      have ujzm18_8 : ujZ18.1 183 8 = q := by rw [ujzk18]; exact (up_j (D := ujZ16.1) (a := 183) (j := 10) (x := 4) (k := 8) (by decide)).trans ujzm16_8
                      have ujzm18_9 : ujZ18.1 183 9 = q := by rw [ujzk18]; exact (up_j (D := ujZ16.1) (a := 183) (j := 10) (x := 4) (k := 9) (by decide)).trans ujze16
                      refine q_al (pc := 113) (i := 0) (x := 183) rfl rfl ?_
                      refine q_d2 (pc := 114) rfl ?_
                      refine q_gf (pc := 115) (m := 12080) (t := 0) (c := 8) rfl (ttKc ujzc18.1 (a := 183) (κ := 12) (len := 0) ⟨rfl, rfl⟩ (by decide) (by decide)).1 rfl rfl ?_
                      rw [ujzm18_8]
                      refine q_ic (pc := 116) (v := 1) rfl ?_
                      refine q_ia (pc := 117) rfl (by omega) (by omega) ?_
                      refine q_pf (pc := 118) (m := 12080) (c := 8) rfl (show xPt 0 0 _ _ from (ttKc ujzc18.1 (a := 183) (κ := 12) (len := 0) ⟨rfl, rfl⟩ (by decide) (by decide)).1) rfl ?_
                      have ujzc19 := ttPuT ujzc18.1 ujzc18.2 (a := 183) (j := 8) (x := (q + 1)) (by decide) (fun _ _ => show (0 : Int) ≤ (q + 1) ∧ (q + 1) ≤ 1600 from by omega) ⟨(183, 8, 11), by simp, ⟨⟨by decide, rfl⟩, by decide, by decide⟩⟩
                      obtain ⟨ujZ19, ujzk19⟩ : ∃ X : xH, X = (xUp ujZ18.1 183 8 (q + 1), ujZ18.2) := ⟨_, rfl⟩
                      rw [← ujzk19] at ujzc19 ⊢
                      have ujze19 : ujZ19.1 183 8 = (q + 1) := by rw [ujzk19]; exact up_eq (D := ujZ18.1) (a := 183) (j := 8) (x := (q + 1))
                      have ujzm19_9 : ujZ19.1 183 9 = q := by rw [ujzk19]; exact (up_j (D := ujZ18.1) (a := 183) (j := 8) (x := (q + 1)) (k := 9) (by decide)).trans ujzm18_9
                      have ujzm19_10 : ujZ19.1 183 10 = 4 := by rw [ujzk19]; exact (up_j (D := ujZ18.1) (a := 183) (j := 8) (x := (q + 1)) (k := 10) (by decide)).trans ujze18
                      refine q_rv (pc := 119) rfl ?_
                      have eK : ujZ19.1 183 10 = 4 := ujzm19_10
                      refine hq ujZ19 ujzc19.1 ujzc19.2 ?_ (fun w => by rw [eK] at w; exact absurd w (by decide))
                      rw [ujzm19_9, ujze19, eK]
                      have kq : tkd (x q) = 4 := by
                        have a1 : ¬ tkd (x q) = 1 := fun w => jn39 (by rw [q2]; exact qt.1.mpr w)
                        have a2 : ¬ tkd (x q) = 2 := fun w => jn65 (by rw [q2]; exact qt.2.1.mpr w)
                        have a3 : sB (x q) = 59 ↔ tkd (x q) = 3 := qt.2.2.1
                        omega
                      exact ⟨⟨pq, by omega, kb⟩, Or.inr ⟨⟨q1, nb q1, kq.symm⟩, ⟨by omega, by omega⟩, fun w => by omega, fun _ => rfl⟩⟩
                    · replace h108 : c26 = 59 := h108
                      refine q_ic (pc := 109) (v := 3) rfl ?_
                      refine q_go (pc := 110) rfl ?_
                      refine q_pf (pc := 112) (m := 12100) (c := 10) rfl (show xPt 0 0 _ _ from (ttKc ujzc16.1 (a := 183) (κ := 12) (len := 0) ⟨rfl, rfl⟩ (by decide) (by decide)).1) rfl ?_
                      have ujzc20 := ttPuT ujzc16.1 ujzc16.2 (a := 183) (j := 10) (x := 3) (by decide) (fun _ _ => show ((-2147483648) : Int) ≤ (3 : Int) ∧ (3 : Int) ≤ 2147483647 from by decide) ⟨(183, 8, 11), by simp, ⟨⟨by decide, rfl⟩, by decide, by decide⟩⟩
                      obtain ⟨ujZ20, ujzk20⟩ : ∃ X : xH, X = (xUp ujZ16.1 183 10 3, ujZ16.2) := ⟨_, rfl⟩
                      rw [← ujzk20] at ujzc20 ⊢
                      have ujze20 : ujZ20.1 183 10 = 3 := by rw [ujzk20]; exact up_eq (D := ujZ16.1) (a := 183) (j := 10) (x := 3)
                      have ujzm20_8 : ujZ20.1 183 8 = q := by rw [ujzk20]; exact (up_j (D := ujZ16.1) (a := 183) (j := 10) (x := 3) (k := 8) (by decide)).trans ujzm16_8
                      have ujzm20_9 : ujZ20.1 183 9 = q := by rw [ujzk20]; exact (up_j (D := ujZ16.1) (a := 183) (j := 10) (x := 3) (k := 9) (by decide)).trans ujze16
                      refine q_al (pc := 113) (i := 0) (x := 183) rfl rfl ?_
                      refine q_d2 (pc := 114) rfl ?_
                      refine q_gf (pc := 115) (m := 12080) (t := 0) (c := 8) rfl (ttKc ujzc20.1 (a := 183) (κ := 12) (len := 0) ⟨rfl, rfl⟩ (by decide) (by decide)).1 rfl rfl ?_
                      rw [ujzm20_8]
                      refine q_ic (pc := 116) (v := 1) rfl ?_
                      refine q_ia (pc := 117) rfl (by omega) (by omega) ?_
                      refine q_pf (pc := 118) (m := 12080) (c := 8) rfl (show xPt 0 0 _ _ from (ttKc ujzc20.1 (a := 183) (κ := 12) (len := 0) ⟨rfl, rfl⟩ (by decide) (by decide)).1) rfl ?_
                      have ujzc21 := ttPuT ujzc20.1 ujzc20.2 (a := 183) (j := 8) (x := (q + 1)) (by decide) (fun _ _ => show (0 : Int) ≤ (q + 1) ∧ (q + 1) ≤ 1600 from by omega) ⟨(183, 8, 11), by simp, ⟨⟨by decide, rfl⟩, by decide, by decide⟩⟩
                      obtain ⟨ujZ21, ujzk21⟩ : ∃ X : xH, X = (xUp ujZ20.1 183 8 (q + 1), ujZ20.2) := ⟨_, rfl⟩
                      rw [← ujzk21] at ujzc21 ⊢
                      have ujze21 : ujZ21.1 183 8 = (q + 1) := by rw [ujzk21]; exact up_eq (D := ujZ20.1) (a := 183) (j := 8) (x := (q + 1))
                      have ujzm21_9 : ujZ21.1 183 9 = q := by rw [ujzk21]; exact (up_j (D := ujZ20.1) (a := 183) (j := 8) (x := (q + 1)) (k := 9) (by decide)).trans ujzm20_9
                      have ujzm21_10 : ujZ21.1 183 10 = 3 := by rw [ujzk21]; exact (up_j (D := ujZ20.1) (a := 183) (j := 8) (x := (q + 1)) (k := 10) (by decide)).trans ujze20
                      refine q_rv (pc := 119) rfl ?_
                      have eK : ujZ21.1 183 10 = 3 := ujzm21_10
                      refine hq ujZ21 ujzc21.1 ujzc21.2 ?_ (fun w => by rw [eK] at w; exact absurd w (by decide))
                      rw [ujzm21_9, ujze21, eK]
                      have kq : tkd (x q) = 3 := by
                        have a1 : ¬ tkd (x q) = 1 := fun w => jn39 (by rw [q2]; exact qt.1.mpr w)
                        have a2 : ¬ tkd (x q) = 2 := fun w => jn65 (by rw [q2]; exact qt.2.1.mpr w)
                        have a3 : sB (x q) = 59 ↔ tkd (x q) = 3 := qt.2.2.1
                        omega
                      exact ⟨⟨pq, by omega, kb⟩, Or.inr ⟨⟨q1, nb q1, kq.symm⟩, ⟨by omega, by omega⟩, fun w => by omega, fun _ => rfl⟩⟩
                  · replace h66 : (0 : Int) ≠ 0 := h66
                    omega
              · replace h40 : (0 : Int) ≠ 0 := h40
                omega
          · replace h30 : c26 = (-1) := h30
            refine q_al (pc := 31) (i := 0) (x := 183) rfl rfl ?_
            refine q_ic (pc := 32) (v := 0) rfl ?_
            refine q_pf (pc := 33) (m := 12100) (c := 10) rfl (show xPt 0 0 _ _ from (ttKc ujzc16.1 (a := 183) (κ := 12) (len := 0) ⟨rfl, rfl⟩ (by decide) (by decide)).1) rfl ?_
            have ujzc22 := ttPuT ujzc16.1 ujzc16.2 (a := 183) (j := 10) (x := 0) (by decide) (fun _ _ => show ((-2147483648) : Int) ≤ (0 : Int) ∧ (0 : Int) ≤ 2147483647 from by decide) ⟨(183, 8, 11), by simp, ⟨⟨by decide, rfl⟩, by decide, by decide⟩⟩
            obtain ⟨ujZ22, ujzk22⟩ : ∃ X : xH, X = (xUp ujZ16.1 183 10 0, ujZ16.2) := ⟨_, rfl⟩
            rw [← ujzk22] at ujzc22 ⊢
            have ujze22 : ujZ22.1 183 10 = 0 := by rw [ujzk22]; exact up_eq (D := ujZ16.1) (a := 183) (j := 10) (x := 0)
            have ujzm22_8 : ujZ22.1 183 8 = q := by rw [ujzk22]; exact (up_j (D := ujZ16.1) (a := 183) (j := 10) (x := 0) (k := 8) (by decide)).trans ujzm16_8
            have ujzm22_9 : ujZ22.1 183 9 = q := by rw [ujzk22]; exact (up_j (D := ujZ16.1) (a := 183) (j := 10) (x := 0) (k := 9) (by decide)).trans ujze16
            refine q_go (pc := 34) rfl ?_
            refine q_rv (pc := 119) rfl ?_
            have eK : ujZ22.1 183 10 = 0 := ujze22
            refine hq ujZ22 ujzc22.1 ujzc22.2 ?_ (fun w => by rw [eK] at w; exact absurd w (by decide))
            rw [ujzm22_9, ujzm22_8, eK]
            have qe : q = n := by
              rcases wc26 with ⟨w, u⟩ | ⟨w, -⟩
              · have := (sB_tk (xb q (by omega) w).1 (xb q (by omega) w).2).2.2.2.2.1; omega
              · omega
            exact ⟨⟨pq, qn, kb⟩, Or.inl ⟨qe, rfl, qe⟩⟩
        · replace h11 : c9 = 10 := h11
          obtain ⟨q1, q2⟩ : q < n ∧ c3 = sB (x q) := by
            rcases wc3 with w | ⟨-, w⟩
            · exact w
            · omega
          have qbl : tbl (x q) := (sB_tk (xb q (by omega) q1).1 (xb q (by omega) q1).2).2.2.2.1.mp (by omega)
          refine q_al (pc := 12) (i := 0) (x := 183) rfl rfl ?_
          refine q_d2 (pc := 13) rfl ?_
          refine q_gf (pc := 14) (m := 12080) (t := 0) (c := 8) rfl (ttKc kT (a := 183) (κ := 12) (len := 0) ⟨rfl, rfl⟩ (by decide) (by decide)).1 rfl rfl ?_
          rw [j8]
          refine q_ic (pc := 15) (v := 1) rfl ?_
          refine q_ia (pc := 16) rfl (by omega) (by omega) ?_
          refine q_pf (pc := 17) (m := 12080) (c := 8) rfl (show xPt 0 0 _ _ from (ttKc kT (a := 183) (κ := 12) (len := 0) ⟨rfl, rfl⟩ (by decide) (by decide)).1) rfl ?_
          have ujzc23 := ttPuT kT kF (a := 183) (j := 8) (x := (q + 1)) (by decide) (fun _ _ => show (0 : Int) ≤ (q + 1) ∧ (q + 1) ≤ 1600 from by omega) ⟨(183, 8, 11), by simp, ⟨⟨by decide, rfl⟩, by decide, by decide⟩⟩
          obtain ⟨ujZ23, ujzk23⟩ : ∃ X : xH, X = (xUp K.1 183 8 (q + 1), K.2) := ⟨_, rfl⟩
          rw [← ujzk23] at ujzc23 ⊢
          have ujze23 : ujZ23.1 183 8 = (q + 1) := by rw [ujzk23]; exact up_eq (D := K.1) (a := 183) (j := 8) (x := (q + 1))
          refine q_go (pc := 18) rfl ?_
          exact ih ujZ23 (q + 1) _ ujzc23.1 ujzc23.2 ujze23 (by omega) (by omega) (fun j j0 j1 => by
            by_cases w : j = q
            · rw [w]; exact qbl
            · exact kb j j0 (by omega)) (by omega)
  refine xC_of (L := [(2, 183), (9, 0)]) (cd := cd_213) rfl rfl rfl ?_
  exact hb (n - p).toNat H p _ hT (ttFr_rf _ H) jp (Int.le_refl _) pn (fun j j0 j1 => by omega) (by omega)
