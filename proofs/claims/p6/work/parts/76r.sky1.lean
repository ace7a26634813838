/-! the first object: its sky -/
abbrev eK : ttEf := (true, [(7, 4, 18), (10, 0, 0), (13, 0, 0), (16, 0, 6)])
theorem rK_put {H K : xH} (kT : ttTI K) (kX : ttXX YY K) (kF : ttFr eK H K) {a j x : Int} (r : Nat) (hr : ttRo a = r) (a1 : 1 ≤ a) (hm : ttM (K.2.2.2.1 : Int) (ttTy (ttTb r) j) x) (hin : ∃ q ∈ eK.2, q.1 = r ∧ q.2.1 ≤ j ∧ j ≤ q.2.2) (hff : ∀ q ∈ ttFF, q.1.1 ≠ r) : ttTI (xUp K.1 a j x, K.2) ∧ ttXX YY (xUp K.1 a j x, K.2) ∧ ttFr eK H (xUp K.1 a j x, K.2) :=
  ttPut (ttXX_out yyStab (fun _ _ => trivial)) kT kX kF a1 (fun _ _ => by rw [hr]; exact hm) (by
    obtain ⟨q, q1, q2, q3, q4⟩ := hin
    exact ⟨q, q1, ⟨⟨a1, hr.trans q2.symm⟩, q3, q4⟩⟩) (ttMay_no hr hff)
theorem zE0_0 {j : Int} (h : j ≠ 7) (h8 : j ≠ 8) (h9 : j ≠ 9) (h2 : j ≠ 12) : zE0 j = 0 := (if_neg h).trans ((if_neg h8).trans ((if_neg h9).trans (if_neg h2)))
/-- a place that tells nothing -/
def skC (D : xD) (a : Int) : Prop := D a 0 = 0 ∧ D a 1 = -1 ∧ D a 2 = 0 ∧ D a 3 = 0 ∧ D a 4 = 0 ∧ D a 5 = 0 ∧ D a 6 = 0
theorem lc_place {dd : Nat} (hd : 1 ≤ dd) {H K : xH} {b p : Int} (hB : skB b) (p0 : 0 ≤ p) (p7 : p ≤ 7) (kT : ttTI K) (kX : ttXX YY K) (kF : ttFr eK H K) {Q : Int → xH → Prop} (hq : ∀ J, ttTI J → ttXX YY J → ttFr eK H J → (∀ a j : Int, a ≠ b + 9 + p → J.1 a j = K.1 a j) → skC J.1 (b + 9 + p) → Q 0 J) : xCall dd 41 [(2, b + 9 + p)] K Q := by
  obtain ⟨e, rfl, he⟩ := ttRun0 (n := 0) hd
  have hi := skB_in hB
  have y9 : ttTI K ∧ ttXX YY K ∧ ttFr eK H K := ⟨kT, kX, kF⟩
  refine xC_of (L := [(2, b + 9 + p)]) (cd := cd_41) rfl rfl rfl ?_
  refine q_al (pc := 0) (i := 0) (x := (b + 9 + p)) rfl rfl ?_
  refine q_ic (pc := 1) (v := 0) rfl ?_
  refine q_pf (pc := 2) (m := 4000) (c := 0) rfl (show xPt 0 0 _ _ from (sk_kp y9.1 hB (by omega) (by omega)).1) rfl ?_
  have y10 := rK_put y9.1 y9.2.1 y9.2.2 (a := (b + 9 + p)) (j := 0) (x := 0) 16 (sk_rp hB (by omega) (by omega)) (by omega) (show (0 : Int) ≤ 0 ∧ 0 ≤ 30 from ⟨by omega, by omega⟩) ⟨(16, 0, 6), by decide, rfl, (show (0 : Int) ≤ 0 ∧ 0 ≤ 6 from ⟨by omega, by omega⟩)⟩ (by decide)
  obtain ⟨Y10, yk10⟩ : ∃ X : xH, X = (xUp K.1 (b + 9 + p) 0 0, K.2) := ⟨_, rfl⟩
  rw [← yk10] at y10 ⊢
  refine q_al (pc := 3) (i := 0) (x := (b + 9 + p)) rfl rfl ?_
  refine q_ic (pc := 4) (v := (-1)) rfl ?_
  refine q_pf (pc := 5) (m := 4010) (c := 1) rfl (show xPt 0 0 _ _ from (sk_kp y10.1 hB (by omega) (by omega)).1) rfl ?_
  have y11 := rK_put y10.1 y10.2.1 y10.2.2 (a := (b + 9 + p)) (j := 1) (x := (-1)) 16 (sk_rp hB (by omega) (by omega)) (by omega) (show ((-2147483648) : Int) ≤ (-1) ∧ (-1) ≤ 2147483647 from ⟨by omega, by omega⟩) ⟨(16, 0, 6), by decide, rfl, (show (0 : Int) ≤ 1 ∧ 1 ≤ 6 from ⟨by omega, by omega⟩)⟩ (by decide)
  obtain ⟨Y11, yk11⟩ : ∃ X : xH, X = (xUp Y10.1 (b + 9 + p) 1 (-1), Y10.2) := ⟨_, rfl⟩
  rw [← yk11] at y11 ⊢
  refine q_al (pc := 6) (i := 0) (x := (b + 9 + p)) rfl rfl ?_
  refine q_ic (pc := 7) (v := 0) rfl ?_
  refine q_pf (pc := 8) (m := 4023) (c := 2) rfl (show xPt 3 0 _ _ from ⟨(sk_kp y11.1 hB (by omega) (by omega)).1, by omega⟩) rfl ?_
  have y12 := rK_put y11.1 y11.2.1 y11.2.2 (a := (b + 9 + p)) (j := 2) (x := 0) 16 (sk_rp hB (by omega) (by omega)) (by omega) (show (0 : Int) ≤ 0 ∧ 0 ≤ 1 from ⟨by omega, by omega⟩) ⟨(16, 0, 6), by decide, rfl, (show (0 : Int) ≤ 2 ∧ 2 ≤ 6 from ⟨by omega, by omega⟩)⟩ (by decide)
  obtain ⟨Y12, yk12⟩ : ∃ X : xH, X = (xUp Y11.1 (b + 9 + p) 2 0, Y11.2) := ⟨_, rfl⟩
  rw [← yk12] at y12 ⊢
  refine q_al (pc := 9) (i := 0) (x := (b + 9 + p)) rfl rfl ?_
  refine q_ic (pc := 10) (v := 0) rfl ?_
  refine q_pf (pc := 11) (m := 4030) (c := 3) rfl (show xPt 0 0 _ _ from (sk_kp y12.1 hB (by omega) (by omega)).1) rfl ?_
  have y13 := rK_put y12.1 y12.2.1 y12.2.2 (a := (b + 9 + p)) (j := 3) (x := 0) 16 (sk_rp hB (by omega) (by omega)) (by omega) (show ((-2147483648) : Int) ≤ 0 ∧ 0 ≤ 2147483647 from ⟨by omega, by omega⟩) ⟨(16, 0, 6), by decide, rfl, (show (0 : Int) ≤ 3 ∧ 3 ≤ 6 from ⟨by omega, by omega⟩)⟩ (by decide)
  obtain ⟨Y13, yk13⟩ : ∃ X : xH, X = (xUp Y12.1 (b + 9 + p) 3 0, Y12.2) := ⟨_, rfl⟩
  rw [← yk13] at y13 ⊢
  refine q_al (pc := 12) (i := 0) (x := (b + 9 + p)) rfl rfl ?_
  refine q_ic (pc := 13) (v := 0) rfl ?_
  refine q_pf (pc := 14) (m := 4040) (c := 4) rfl (show xPt 0 0 _ _ from (sk_kp y13.1 hB (by omega) (by omega)).1) rfl ?_
  have y14 := rK_put y13.1 y13.2.1 y13.2.2 (a := (b + 9 + p)) (j := 4) (x := 0) 16 (sk_rp hB (by omega) (by omega)) (by omega) (show ((-2147483648) : Int) ≤ 0 ∧ 0 ≤ 2147483647 from ⟨by omega, by omega⟩) ⟨(16, 0, 6), by decide, rfl, (show (0 : Int) ≤ 4 ∧ 4 ≤ 6 from ⟨by omega, by omega⟩)⟩ (by decide)
  obtain ⟨Y14, yk14⟩ : ∃ X : xH, X = (xUp Y13.1 (b + 9 + p) 4 0, Y13.2) := ⟨_, rfl⟩
  rw [← yk14] at y14 ⊢
  refine q_al (pc := 15) (i := 0) (x := (b + 9 + p)) rfl rfl ?_
  refine q_ic (pc := 16) (v := 0) rfl ?_
  refine q_pf (pc := 17) (m := 4050) (c := 5) rfl (show xPt 0 0 _ _ from (sk_kp y14.1 hB (by omega) (by omega)).1) rfl ?_
  have y15 := rK_put y14.1 y14.2.1 y14.2.2 (a := (b + 9 + p)) (j := 5) (x := 0) 16 (sk_rp hB (by omega) (by omega)) (by omega) (show ((-2147483648) : Int) ≤ 0 ∧ 0 ≤ 2147483647 from ⟨by omega, by omega⟩) ⟨(16, 0, 6), by decide, rfl, (show (0 : Int) ≤ 5 ∧ 5 ≤ 6 from ⟨by omega, by omega⟩)⟩ (by decide)
  obtain ⟨Y15, yk15⟩ : ∃ X : xH, X = (xUp Y14.1 (b + 9 + p) 5 0, Y14.2) := ⟨_, rfl⟩
  rw [← yk15] at y15 ⊢
  refine q_al (pc := 18) (i := 0) (x := (b + 9 + p)) rfl rfl ?_
  refine q_ic (pc := 19) (v := 0) rfl ?_
  refine q_pf (pc := 20) (m := 4060) (c := 6) rfl (show xPt 0 0 _ _ from (sk_kp y15.1 hB (by omega) (by omega)).1) rfl ?_
  have y16 := rK_put y15.1 y15.2.1 y15.2.2 (a := (b + 9 + p)) (j := 6) (x := 0) 16 (sk_rp hB (by omega) (by omega)) (by omega) (show ((-2147483648) : Int) ≤ 0 ∧ 0 ≤ 2147483647 from ⟨by omega, by omega⟩) ⟨(16, 0, 6), by decide, rfl, (show (0 : Int) ≤ 6 ∧ 6 ≤ 6 from ⟨by omega, by omega⟩)⟩ (by decide)
  obtain ⟨Y16, yk16⟩ : ∃ X : xH, X = (xUp Y15.1 (b + 9 + p) 6 0, Y15.2) := ⟨_, rfl⟩
  rw [← yk16] at y16 ⊢
  refine q_rv (pc := 21) rfl ?_
  have eD : Y16.1 = xUp (xUp (xUp (xUp (xUp (xUp (xUp (K.1) (b + 9 + p) 0 0) (b + 9 + p) 1 (-1)) (b + 9 + p) 2 0) (b + 9 + p) 3 0) (b + 9 + p) 4 0) (b + 9 + p) 5 0) (b + 9 + p) 6 0 := by rw [yk16, yk15, yk14, yk13, yk12, yk11, yk10]
  refine hq Y16 y16.1 y16.2.1 y16.2.2 (fun a j h => ?_) ?_
  · rw [eD]
    exact (up_ne (by omega)).trans ((up_ne (by omega)).trans ((up_ne (by omega)).trans ((up_ne (by omega)).trans ((up_ne (by omega)).trans ((up_ne (by omega)).trans (up_ne (by omega)))))))
  · rw [eD]
    exact ⟨(up_ne (by omega)).trans ((up_ne (by omega)).trans ((up_ne (by omega)).trans ((up_ne (by omega)).trans ((up_ne (by omega)).trans ((up_ne (by omega)).trans (up_eq)))))), (up_ne (by omega)).trans ((up_ne (by omega)).trans ((up_ne (by omega)).trans ((up_ne (by omega)).trans ((up_ne (by omega)).trans (up_eq))))), (up_ne (by omega)).trans ((up_ne (by omega)).trans ((up_ne (by omega)).trans ((up_ne (by omega)).trans (up_eq)))), (up_ne (by omega)).trans ((up_ne (by omega)).trans ((up_ne (by omega)).trans (up_eq))), (up_ne (by omega)).trans ((up_ne (by omega)).trans (up_eq)), (up_ne (by omega)).trans (up_eq), up_eq⟩
theorem lc_clear {dd : Nat} (hd : 2 ≤ dd) {H : xH} (hT : ttTI H) (hX : ttXX YY H) {b : Int} (hB : skB b) (hW : skW H.1 b) {Q : Int → xH → Prop} (hq : ∀ J, ttTI J → ttXX YY J → ttFr eK H J → skO b H J → skR J.1 b zZ0 → Q 0 J) : xCall dd 111 [(2, b)] H Q := by
  obtain ⟨e, rfl, he⟩ := ttRun0 (n := 1) hd
  have he : 1 ≤ e := he
  have hi := skB_in hB
  have hn : 210 ≤ (H.2.2.2.1 : Int) := by have := hT.1; omega
  have h12 : ∀ (K : xH) (i : Int), ttTI K → ttXX YY K → ttFr eK H K → skO b H K → (∀ p : Int, 0 ≤ p → p ≤ 7 → skC K.1 (b + 9 + p)) → xW e cd_111 Q (12, [(2, b), (0, i)], [], K) := by
    intro K i kT kX kF kO kc
    have y9 : ttTI K ∧ ttXX YY K ∧ ttFr eK H K := ⟨kT, kX, kF⟩
    refine q_al (pc := 12) (i := 0) (x := b) rfl rfl ?_
    refine q_gf (pc := 13) (m := 10022) (t := 2) (c := 2) rfl (sk_kb y9.1 hB).1 rfl rfl ?_
    rw [show K.1 b 2 = (b + 3) from (skW_fr y9.2.2 hn hB (by decide) hW).1.2.2.1]
    refine q_ic (pc := 14) (v := 0) rfl ?_
    refine q_pf (pc := 15) (m := 6000) (c := 0) rfl (show xPt 0 0 _ _ from (sk_kx y9.1 hB (o := 3) (by decide) (by decide) (κ := 6) (len := 0) ⟨rfl, rfl⟩).1) rfl ?_
    have y10 := rK_put y9.1 y9.2.1 y9.2.2 (a := (b + 3)) (j := 0) (x := 0) 10 (sk_ro hB (o := 3) (by decide) (by decide)).1 (by omega) (show (0 : Int) ≤ 0 ∧ 0 ≤ 6 from ⟨by omega, by omega⟩) ⟨(10, 0, 0), by decide, rfl, (show (0 : Int) ≤ 0 ∧ 0 ≤ 0 from ⟨by omega, by omega⟩)⟩ (by decide)
    obtain ⟨Y10, yk10⟩ : ∃ X : xH, X = (xUp K.1 (b + 3) 0 0, K.2) := ⟨_, rfl⟩
    rw [← yk10] at y10 ⊢
    have o_Y10 : skO b H Y10 := skO_u (by first | assumption | exact skO_B (by assumption) | exact skO_t2 (by assumption) (by assumption)) hB (by omega) yk10
    refine q_al (pc := 16) (i := 0) (x := b) rfl rfl ?_
    refine q_gf (pc := 17) (m := 10032) (t := 2) (c := 3) rfl (sk_kb y10.1 hB).1 rfl rfl ?_
    rw [show Y10.1 b 3 = (b + 6) from (skW_fr y10.2.2 hn hB (by decide) hW).1.2.2.2]
    refine q_ic (pc := 18) (v := 0) rfl ?_
    refine q_pf (pc := 19) (m := 9000) (c := 0) rfl (show xPt 0 0 _ _ from (sk_kx y10.1 hB (o := 6) (by decide) (by decide) (κ := 9) (len := 0) ⟨rfl, rfl⟩).1) rfl ?_
    have y11 := rK_put y10.1 y10.2.1 y10.2.2 (a := (b + 6)) (j := 0) (x := 0) 13 (sk_ro hB (o := 6) (by decide) (by decide)).1 (by omega) (show (0 : Int) ≤ 0 ∧ 0 ≤ 20 from ⟨by omega, by omega⟩) ⟨(13, 0, 0), by decide, rfl, (show (0 : Int) ≤ 0 ∧ 0 ≤ 0 from ⟨by omega, by omega⟩)⟩ (by decide)
    obtain ⟨Y11, yk11⟩ : ∃ X : xH, X = (xUp Y10.1 (b + 6) 0 0, Y10.2) := ⟨_, rfl⟩
    rw [← yk11] at y11 ⊢
    have o_Y11 : skO b H Y11 := skO_u (by first | assumption | exact skO_B (by assumption) | exact skO_t2 (by assumption) (by assumption)) hB (by omega) yk11
    refine q_al (pc := 20) (i := 0) (x := b) rfl rfl ?_
    refine q_ic (pc := 21) (v := 0) rfl ?_
    refine q_pf (pc := 22) (m := 10040) (c := 4) rfl (show xPt 0 0 _ _ from (sk_kb y11.1 hB).1) rfl ?_
    have y12 := rK_put y11.1 y11.2.1 y11.2.2 (a := b) (j := 4) (x := 0) 7 (sk_rb hB) (by omega) (show (0 : Int) ≤ 0 ∧ 0 ≤ 8 from ⟨by omega, by omega⟩) ⟨(7, 4, 18), by decide, rfl, (show (4 : Int) ≤ 4 ∧ 4 ≤ 18 from ⟨by omega, by omega⟩)⟩ (by decide)
    obtain ⟨Y12, yk12⟩ : ∃ X : xH, X = (xUp Y11.1 b 4 0, Y11.2) := ⟨_, rfl⟩
    rw [← yk12] at y12 ⊢
    have o_Y12 : skO b H Y12 := skO_u (by first | assumption | exact skO_B (by assumption) | exact skO_t2 (by assumption) (by assumption)) hB (by omega) yk12
    refine q_al (pc := 23) (i := 0) (x := b) rfl rfl ?_
    refine q_ic (pc := 24) (v := 0) rfl ?_
    refine q_pf (pc := 25) (m := 10050) (c := 5) rfl (show xPt 0 0 _ _ from (sk_kb y12.1 hB).1) rfl ?_
    have y13 := rK_put y12.1 y12.2.1 y12.2.2 (a := b) (j := 5) (x := 0) 7 (sk_rb hB) (by omega) (show (0 : Int) ≤ 0 ∧ 0 ≤ 10 from ⟨by omega, by omega⟩) ⟨(7, 4, 18), by decide, rfl, (show (4 : Int) ≤ 5 ∧ 5 ≤ 18 from ⟨by omega, by omega⟩)⟩ (by decide)
    obtain ⟨Y13, yk13⟩ : ∃ X : xH, X = (xUp Y12.1 b 5 0, Y12.2) := ⟨_, rfl⟩
    rw [← yk13] at y13 ⊢
    have o_Y13 : skO b H Y13 := skO_u (by first | assumption | exact skO_B (by assumption) | exact skO_t2 (by assumption) (by assumption)) hB (by omega) yk13
    refine q_al (pc := 26) (i := 0) (x := b) rfl rfl ?_
    refine q_ic (pc := 27) (v := 0) rfl ?_
    refine q_pf (pc := 28) (m := 10060) (c := 6) rfl (show xPt 0 0 _ _ from (sk_kb y13.1 hB).1) rfl ?_
    have y14 := rK_put y13.1 y13.2.1 y13.2.2 (a := b) (j := 6) (x := 0) 7 (sk_rb hB) (by omega) (show ((-2147483648) : Int) ≤ 0 ∧ 0 ≤ 2147483647 from ⟨by omega, by omega⟩) ⟨(7, 4, 18), by decide, rfl, (show (4 : Int) ≤ 6 ∧ 6 ≤ 18 from ⟨by omega, by omega⟩)⟩ (by decide)
    obtain ⟨Y14, yk14⟩ : ∃ X : xH, X = (xUp Y13.1 b 6 0, Y13.2) := ⟨_, rfl⟩
    rw [← yk14] at y14 ⊢
    have o_Y14 : skO b H Y14 := skO_u (by first | assumption | exact skO_B (by assumption) | exact skO_t2 (by assumption) (by assumption)) hB (by omega) yk14
    refine q_al (pc := 29) (i := 0) (x := b) rfl rfl ?_
    refine q_ic (pc := 30) (v := 0) rfl ?_
    refine q_pf (pc := 31) (m := 10070) (c := 7) rfl (show xPt 0 0 _ _ from (sk_kb y14.1 hB).1) rfl ?_
    have y15 := rK_put y14.1 y14.2.1 y14.2.2 (a := b) (j := 7) (x := 0) 7 (sk_rb hB) (by omega) (show ((-2147483648) : Int) ≤ 0 ∧ 0 ≤ 2147483647 from ⟨by omega, by omega⟩) ⟨(7, 4, 18), by decide, rfl, (show (4 : Int) ≤ 7 ∧ 7 ≤ 18 from ⟨by omega, by omega⟩)⟩ (by decide)
    obtain ⟨Y15, yk15⟩ : ∃ X : xH, X = (xUp Y14.1 b 7 0, Y14.2) := ⟨_, rfl⟩
    rw [← yk15] at y15 ⊢
    have o_Y15 : skO b H Y15 := skO_u (by first | assumption | exact skO_B (by assumption) | exact skO_t2 (by assumption) (by assumption)) hB (by omega) yk15
    refine q_al (pc := 32) (i := 0) (x := b) rfl rfl ?_
    refine q_ic (pc := 33) (v := 0) rfl ?_
    refine q_pf (pc := 34) (m := 10080) (c := 8) rfl (show xPt 0 0 _ _ from (sk_kb y15.1 hB).1) rfl ?_
    have y16 := rK_put y15.1 y15.2.1 y15.2.2 (a := b) (j := 8) (x := 0) 7 (sk_rb hB) (by omega) (show ((-2147483648) : Int) ≤ 0 ∧ 0 ≤ 2147483647 from ⟨by omega, by omega⟩) ⟨(7, 4, 18), by decide, rfl, (show (4 : Int) ≤ 8 ∧ 8 ≤ 18 from ⟨by omega, by omega⟩)⟩ (by decide)
    obtain ⟨Y16, yk16⟩ : ∃ X : xH, X = (xUp Y15.1 b 8 0, Y15.2) := ⟨_, rfl⟩
    rw [← yk16] at y16 ⊢
    have o_Y16 : skO b H Y16 := skO_u (by first | assumption | exact skO_B (by assumption) | exact skO_t2 (by assumption) (by assumption)) hB (by omega) yk16
    refine q_al (pc := 35) (i := 0) (x := b) rfl rfl ?_
    refine q_ic (pc := 36) (v := 40) rfl ?_
    refine q_pf (pc := 37) (m := 10090) (c := 9) rfl (show xPt 0 0 _ _ from (sk_kb y16.1 hB).1) rfl ?_
    have y17 := rK_put y16.1 y16.2.1 y16.2.2 (a := b) (j := 9) (x := 40) 7 (sk_rb hB) (by omega) (show (0 : Int) ≤ 40 ∧ 40 ≤ 60 from ⟨by omega, by omega⟩) ⟨(7, 4, 18), by decide, rfl, (show (4 : Int) ≤ 9 ∧ 9 ≤ 18 from ⟨by omega, by omega⟩)⟩ (by decide)
    obtain ⟨Y17, yk17⟩ : ∃ X : xH, X = (xUp Y16.1 b 9 40, Y16.2) := ⟨_, rfl⟩
    rw [← yk17] at y17 ⊢
    have o_Y17 : skO b H Y17 := skO_u (by first | assumption | exact skO_B (by assumption) | exact skO_t2 (by assumption) (by assumption)) hB (by omega) yk17
    refine q_al (pc := 38) (i := 0) (x := b) rfl rfl ?_
    refine q_ic (pc := 39) (v := 40) rfl ?_
    refine q_pf (pc := 40) (m := 10100) (c := 10) rfl (show xPt 0 0 _ _ from (sk_kb y17.1 hB).1) rfl ?_
    have y18 := rK_put y17.1 y17.2.1 y17.2.2 (a := b) (j := 10) (x := 40) 7 (sk_rb hB) (by omega) (show (0 : Int) ≤ 40 ∧ 40 ≤ 47 from ⟨by omega, by omega⟩) ⟨(7, 4, 18), by decide, rfl, (show (4 : Int) ≤ 10 ∧ 10 ≤ 18 from ⟨by omega, by omega⟩)⟩ (by decide)
    obtain ⟨Y18, yk18⟩ : ∃ X : xH, X = (xUp Y17.1 b 10 40, Y17.2) := ⟨_, rfl⟩
    rw [← yk18] at y18 ⊢
    have o_Y18 : skO b H Y18 := skO_u (by first | assumption | exact skO_B (by assumption) | exact skO_t2 (by assumption) (by assumption)) hB (by omega) yk18
    refine q_al (pc := 41) (i := 0) (x := b) rfl rfl ?_
    refine q_ic (pc := 42) (v := 1000) rfl ?_
    refine q_pf (pc := 43) (m := 10110) (c := 11) rfl (show xPt 0 0 _ _ from (sk_kb y18.1 hB).1) rfl ?_
    have y19 := rK_put y18.1 y18.2.1 y18.2.2 (a := b) (j := 11) (x := 1000) 7 (sk_rb hB) (by omega) (show ((-2147483648) : Int) ≤ 1000 ∧ 1000 ≤ 2147483647 from ⟨by omega, by omega⟩) ⟨(7, 4, 18), by decide, rfl, (show (4 : Int) ≤ 11 ∧ 11 ≤ 18 from ⟨by omega, by omega⟩)⟩ (by decide)
    obtain ⟨Y19, yk19⟩ : ∃ X : xH, X = (xUp Y18.1 b 11 1000, Y18.2) := ⟨_, rfl⟩
    rw [← yk19] at y19 ⊢
    have o_Y19 : skO b H Y19 := skO_u (by first | assumption | exact skO_B (by assumption) | exact skO_t2 (by assumption) (by assumption)) hB (by omega) yk19
    refine q_al (pc := 44) (i := 0) (x := b) rfl rfl ?_
    refine q_ic (pc := 45) (v := 0) rfl ?_
    refine q_pf (pc := 46) (m := 10120) (c := 12) rfl (show xPt 0 0 _ _ from (sk_kb y19.1 hB).1) rfl ?_
    have y20 := rK_put y19.1 y19.2.1 y19.2.2 (a := b) (j := 12) (x := 0) 7 (sk_rb hB) (by omega) (show ((-2147483648) : Int) ≤ 0 ∧ 0 ≤ 2147483647 from ⟨by omega, by omega⟩) ⟨(7, 4, 18), by decide, rfl, (show (4 : Int) ≤ 12 ∧ 12 ≤ 18 from ⟨by omega, by omega⟩)⟩ (by decide)
    obtain ⟨Y20, yk20⟩ : ∃ X : xH, X = (xUp Y19.1 b 12 0, Y19.2) := ⟨_, rfl⟩
    rw [← yk20] at y20 ⊢
    have o_Y20 : skO b H Y20 := skO_u (by first | assumption | exact skO_B (by assumption) | exact skO_t2 (by assumption) (by assumption)) hB (by omega) yk20
    refine q_al (pc := 47) (i := 0) (x := b) rfl rfl ?_
    refine q_ic (pc := 48) (v := 0) rfl ?_
    refine q_pf (pc := 49) (m := 10130) (c := 13) rfl (show xPt 0 0 _ _ from (sk_kb y20.1 hB).1) rfl ?_
    have y21 := rK_put y20.1 y20.2.1 y20.2.2 (a := b) (j := 13) (x := 0) 7 (sk_rb hB) (by omega) (show ((-2147483648) : Int) ≤ 0 ∧ 0 ≤ 2147483647 from ⟨by omega, by omega⟩) ⟨(7, 4, 18), by decide, rfl, (show (4 : Int) ≤ 13 ∧ 13 ≤ 18 from ⟨by omega, by omega⟩)⟩ (by decide)
    obtain ⟨Y21, yk21⟩ : ∃ X : xH, X = (xUp Y20.1 b 13 0, Y20.2) := ⟨_, rfl⟩
    rw [← yk21] at y21 ⊢
    have o_Y21 : skO b H Y21 := skO_u (by first | assumption | exact skO_B (by assumption) | exact skO_t2 (by assumption) (by assumption)) hB (by omega) yk21
    refine q_al (pc := 50) (i := 0) (x := b) rfl rfl ?_
    refine q_ic (pc := 51) (v := (-1)) rfl ?_
    refine q_pf (pc := 52) (m := 10140) (c := 14) rfl (show xPt 0 0 _ _ from (sk_kb y21.1 hB).1) rfl ?_
    have y22 := rK_put y21.1 y21.2.1 y21.2.2 (a := b) (j := 14) (x := (-1)) 7 (sk_rb hB) (by omega) (show ((-1) : Int) ≤ (-1) ∧ (-1) ≤ 7 from ⟨by omega, by omega⟩) ⟨(7, 4, 18), by decide, rfl, (show (4 : Int) ≤ 14 ∧ 14 ≤ 18 from ⟨by omega, by omega⟩)⟩ (by decide)
    obtain ⟨Y22, yk22⟩ : ∃ X : xH, X = (xUp Y21.1 b 14 (-1), Y21.2) := ⟨_, rfl⟩
    rw [← yk22] at y22 ⊢
    have o_Y22 : skO b H Y22 := skO_u (by first | assumption | exact skO_B (by assumption) | exact skO_t2 (by assumption) (by assumption)) hB (by omega) yk22
    refine q_al (pc := 53) (i := 0) (x := b) rfl rfl ?_
    refine q_ic (pc := 54) (v := (-1)) rfl ?_
    refine q_pf (pc := 55) (m := 10150) (c := 15) rfl (show xPt 0 0 _ _ from (sk_kb y22.1 hB).1) rfl ?_
    have y23 := rK_put y22.1 y22.2.1 y22.2.2 (a := b) (j := 15) (x := (-1)) 7 (sk_rb hB) (by omega) (show ((-1) : Int) ≤ (-1) ∧ (-1) ≤ 7 from ⟨by omega, by omega⟩) ⟨(7, 4, 18), by decide, rfl, (show (4 : Int) ≤ 15 ∧ 15 ≤ 18 from ⟨by omega, by omega⟩)⟩ (by decide)
    obtain ⟨Y23, yk23⟩ : ∃ X : xH, X = (xUp Y22.1 b 15 (-1), Y22.2) := ⟨_, rfl⟩
    rw [← yk23] at y23 ⊢
    have o_Y23 : skO b H Y23 := skO_u (by first | assumption | exact skO_B (by assumption) | exact skO_t2 (by assumption) (by assumption)) hB (by omega) yk23
    refine q_al (pc := 56) (i := 0) (x := b) rfl rfl ?_
    refine q_ic (pc := 57) (v := 0) rfl ?_
    refine q_pf (pc := 58) (m := 10160) (c := 16) rfl (show xPt 0 0 _ _ from (sk_kb y23.1 hB).1) rfl ?_
    have y24 := rK_put y23.1 y23.2.1 y23.2.2 (a := b) (j := 16) (x := 0) 7 (sk_rb hB) (by omega) (show ((-2147483648) : Int) ≤ 0 ∧ 0 ≤ 2147483647 from ⟨by omega, by omega⟩) ⟨(7, 4, 18), by decide, rfl, (show (4 : Int) ≤ 16 ∧ 16 ≤ 18 from ⟨by omega, by omega⟩)⟩ (by decide)
    obtain ⟨Y24, yk24⟩ : ∃ X : xH, X = (xUp Y23.1 b 16 0, Y23.2) := ⟨_, rfl⟩
    rw [← yk24] at y24 ⊢
    have o_Y24 : skO b H Y24 := skO_u (by first | assumption | exact skO_B (by assumption) | exact skO_t2 (by assumption) (by assumption)) hB (by omega) yk24
    refine q_al (pc := 59) (i := 0) (x := b) rfl rfl ?_
    refine q_ic (pc := 60) (v := 0) rfl ?_
    refine q_pf (pc := 61) (m := 10173) (c := 17) rfl (show xPt 3 0 _ _ from ⟨(sk_kb y24.1 hB).1, by omega⟩) rfl ?_
    have y25 := rK_put y24.1 y24.2.1 y24.2.2 (a := b) (j := 17) (x := 0) 7 (sk_rb hB) (by omega) (show (0 : Int) ≤ 0 ∧ 0 ≤ 1 from ⟨by omega, by omega⟩) ⟨(7, 4, 18), by decide, rfl, (show (4 : Int) ≤ 17 ∧ 17 ≤ 18 from ⟨by omega, by omega⟩)⟩ (by decide)
    obtain ⟨Y25, yk25⟩ : ∃ X : xH, X = (xUp Y24.1 b 17 0, Y24.2) := ⟨_, rfl⟩
    rw [← yk25] at y25 ⊢
    have o_Y25 : skO b H Y25 := skO_u (by first | assumption | exact skO_B (by assumption) | exact skO_t2 (by assumption) (by assumption)) hB (by omega) yk25
    refine q_al (pc := 62) (i := 0) (x := b) rfl rfl ?_
    refine q_ic (pc := 63) (v := 0) rfl ?_
    refine q_pf (pc := 64) (m := 10180) (c := 18) rfl (show xPt 0 0 _ _ from (sk_kb y25.1 hB).1) rfl ?_
    have y26 := rK_put y25.1 y25.2.1 y25.2.2 (a := b) (j := 18) (x := 0) 7 (sk_rb hB) (by omega) (show ((-2147483648) : Int) ≤ 0 ∧ 0 ≤ 2147483647 from ⟨by omega, by omega⟩) ⟨(7, 4, 18), by decide, rfl, (show (4 : Int) ≤ 18 ∧ 18 ≤ 18 from ⟨by omega, by omega⟩)⟩ (by decide)
    obtain ⟨Y26, yk26⟩ : ∃ X : xH, X = (xUp Y25.1 b 18 0, Y25.2) := ⟨_, rfl⟩
    rw [← yk26] at y26 ⊢
    have o_Y26 : skO b H Y26 := skO_u (by first | assumption | exact skO_B (by assumption) | exact skO_t2 (by assumption) (by assumption)) hB (by omega) yk26
    refine q_rv (pc := 65) rfl ?_
    have eD : Y26.1 = xUp (xUp (xUp (xUp (xUp (xUp (xUp (xUp (xUp (xUp (xUp (xUp (xUp (xUp (xUp (xUp (xUp (K.1) (b + 3) 0 0) (b + 6) 0 0) b 4 0) b 5 0) b 6 0) b 7 0) b 8 0) b 9 40) b 10 40) b 11 1000) b 12 0) b 13 0) b 14 (-1)) b 15 (-1)) b 16 0) b 17 0) b 18 0 := by rw [yk26, yk25, yk24, yk23, yk22, yk21, yk20, yk19, yk18, yk17, yk16, yk15, yk14, yk13, yk12, yk11, yk10]
    refine hq Y26 y26.1 y26.2.1 y26.2.2 o_Y26 ?_
    rw [eD]
    refine ⟨(List.forall_mem_cons.mpr ⟨(up_ne (by omega)).trans ((up_ne (by omega)).trans ((up_ne (by omega)).trans ((up_ne (by omega)).trans ((up_ne (by omega)).trans ((up_ne (by omega)).trans ((up_ne (by omega)).trans ((up_ne (by omega)).trans ((up_ne (by omega)).trans ((up_ne (by omega)).trans ((up_ne (by omega)).trans ((up_ne (by omega)).trans ((up_ne (by omega)).trans ((up_ne (by omega)).trans (up_eq)))))))))))))), (List.forall_mem_cons.mpr ⟨(up_ne (by omega)).trans ((up_ne (by omega)).trans ((up_ne (by omega)).trans ((up_ne (by omega)).trans ((up_ne (by omega)).trans ((up_ne (by omega)).trans ((up_ne (by omega)).trans ((up_ne (by omega)).trans ((up_ne (by omega)).trans ((up_ne (by omega)).trans ((up_ne (by omega)).trans ((up_ne (by omega)).trans ((up_ne (by omega)).trans (up_eq))))))))))))), (List.forall_mem_cons.mpr ⟨(up_ne (by omega)).trans ((up_ne (by omega)).trans ((up_ne (by omega)).trans ((up_ne (by omega)).trans ((up_ne (by omega)).trans ((up_ne (by omega)).trans ((up_ne (by omega)).trans ((up_ne (by omega)).trans ((up_ne (by omega)).trans ((up_ne (by omega)).trans ((up_ne (by omega)).trans ((up_ne (by omega)).trans (up_eq)))))))))))), (List.forall_mem_cons.mpr ⟨(up_ne (by omega)).trans ((up_ne (by omega)).trans ((up_ne (by omega)).trans ((up_ne (by omega)).trans ((up_ne (by omega)).trans ((up_ne (by omega)).trans ((up_ne (by omega)).trans ((up_ne (by omega)).trans ((up_ne (by omega)).trans ((up_ne (by omega)).trans ((up_ne (by omega)).trans (up_eq))))))))))), (List.forall_mem_cons.mpr ⟨(up_ne (by omega)).trans ((up_ne (by omega)).trans ((up_ne (by omega)).trans ((up_ne (by omega)).trans ((up_ne (by omega)).trans ((up_ne (by omega)).trans ((up_ne (by omega)).trans ((up_ne (by omega)).trans ((up_ne (by omega)).trans ((up_ne (by omega)).trans (up_eq)))))))))), (List.forall_mem_cons.mpr ⟨(up_ne (by omega)).trans ((up_ne (by omega)).trans ((up_ne (by omega)).trans ((up_ne (by omega)).trans ((up_ne (by omega)).trans ((up_ne (by omega)).trans ((up_ne (by omega)).trans ((up_ne (by omega)).trans ((up_ne (by omega)).trans (up_eq))))))))), (List.forall_mem_cons.mpr ⟨(up_ne (by omega)).trans ((up_ne (by omega)).trans ((up_ne (by omega)).trans ((up_ne (by omega)).trans ((up_ne (by omega)).trans ((up_ne (by omega)).trans ((up_ne (by omega)).trans ((up_ne (by omega)).trans (up_eq)))))))), (List.forall_mem_cons.mpr ⟨(up_ne (by omega)).trans ((up_ne (by omega)).trans ((up_ne (by omega)).trans ((up_ne (by omega)).trans ((up_ne (by omega)).trans ((up_ne (by omega)).trans ((up_ne (by omega)).trans (up_eq))))))), (List.forall_mem_cons.mpr ⟨(up_ne (by omega)).trans ((up_ne (by omega)).trans ((up_ne (by omega)).trans ((up_ne (by omega)).trans ((up_ne (by omega)).trans ((up_ne (by omega)).trans (up_eq)))))), (List.forall_mem_cons.mpr ⟨(up_ne (by omega)).trans ((up_ne (by omega)).trans ((up_ne (by omega)).trans ((up_ne (by omega)).trans ((up_ne (by omega)).trans (up_eq))))), (List.forall_mem_cons.mpr ⟨(up_ne (by omega)).trans ((up_ne (by omega)).trans ((up_ne (by omega)).trans (up_eq))), (List.forall_mem_cons.mpr ⟨(up_ne (by omega)).trans ((up_ne (by omega)).trans (up_eq)), (List.forall_mem_cons.mpr ⟨(up_ne (by omega)).trans (up_eq), (List.forall_mem_cons.mpr ⟨up_eq, (fun q hq => absurd hq List.not_mem_nil)⟩)⟩)⟩)⟩)⟩)⟩)⟩)⟩)⟩)⟩)⟩)⟩)⟩)⟩), fun p p0 p7 => ?_, ⟨fun l c l0 l1 => absurd (show l < (0 : Int) from l1) (by omega), fun l l0 l1 l9 => zE0_0 (by omega) (by omega) (by omega) (by omega)⟩, ⟨(up_ne (by omega)).trans ((up_ne (by omega)).trans ((up_ne (by omega)).trans ((up_ne (by omega)).trans ((up_ne (by omega)).trans ((up_ne (by omega)).trans ((up_ne (by omega)).trans ((up_ne (by omega)).trans ((up_ne (by omega)).trans ((up_ne (by omega)).trans ((up_ne (by omega)).trans ((up_ne (by omega)).trans ((up_ne (by omega)).trans ((up_ne (by omega)).trans ((up_ne (by omega)).trans ((up_ne (by omega)).trans (up_eq)))))))))))))))), fun s s0 s1 => absurd (show s < (0 : Int) from s1) (by omega)⟩, ⟨(up_ne (by omega)).trans ((up_ne (by omega)).trans ((up_ne (by omega)).trans ((up_ne (by omega)).trans ((up_ne (by omega)).trans ((up_ne (by omega)).trans ((up_ne (by omega)).trans ((up_ne (by omega)).trans ((up_ne (by omega)).trans ((up_ne (by omega)).trans ((up_ne (by omega)).trans ((up_ne (by omega)).trans ((up_ne (by omega)).trans ((up_ne (by omega)).trans ((up_ne (by omega)).trans (up_eq))))))))))))))), fun s s0 s1 => absurd (show s < (0 : Int) from s1) (by omega)⟩, Or.inl ⟨(up_ne (by omega)).trans ((up_ne (by omega)).trans ((up_ne (by omega)).trans ((up_ne (by omega)).trans (up_eq)))), rfl, fun p p0 p7 => ?_⟩⟩
    · have w := kc p p0 p7
      have e9 : ∀ j : Int, (xUp (xUp (xUp (xUp (xUp (xUp (xUp (xUp (xUp (xUp (xUp (xUp (xUp (xUp (xUp (xUp (xUp (K.1) (b + 3) 0 0) (b + 6) 0 0) b 4 0) b 5 0) b 6 0) b 7 0) b 8 0) b 9 40) b 10 40) b 11 1000) b 12 0) b 13 0) b 14 (-1)) b 15 (-1)) b 16 0) b 17 0) b 18 0) (b + 9 + p) j = K.1 (b + 9 + p) j := fun j => (up_ne (by omega)).trans ((up_ne (by omega)).trans ((up_ne (by omega)).trans ((up_ne (by omega)).trans ((up_ne (by omega)).trans ((up_ne (by omega)).trans ((up_ne (by omega)).trans ((up_ne (by omega)).trans ((up_ne (by omega)).trans ((up_ne (by omega)).trans ((up_ne (by omega)).trans ((up_ne (by omega)).trans ((up_ne (by omega)).trans ((up_ne (by omega)).trans ((up_ne (by omega)).trans ((up_ne (by omega)).trans (up_ne (by omega)))))))))))))))))
      have z0 : ∀ c : Int, 0 ≤ c → c ≤ 7 → zE0 (20 + 8 * p + c) = 0 := fun c c0 c1 => zE0_0 (by omega) (by omega) (by omega) (by omega)
      have z1 : zE0 (20 + 8 * p) = 0 := zE0_0 (by omega) (by omega) (by omega) (by omega)
      refine ⟨⟨?_, Or.inr ⟨?_, ?_⟩, ?_, ⟨?_, ?_, ?_, ?_⟩, fun _ => ⟨z0 6 (by decide) (by decide), z0 7 (by decide) (by decide)⟩⟩, fun _ => z0 1 (by decide) (by decide)⟩
      · rw [e9, w.1]; exact z1.symm
      · show zE0 (20 + 8 * p + 1) ≠ 1
        rw [z0 1 (by decide) (by decide)]; decide
      · rw [e9, w.2.1]
      · rw [e9, w.2.2.1]; exact (z0 3 (by decide) (by decide)).symm
      · rw [e9, w.2.2.2.1]; exact (z0 4 (by decide) (by decide)).symm
      · rw [e9, w.2.2.2.2.1]; exact (z0 5 (by decide) (by decide)).symm
      · rw [e9, w.2.2.2.2.2.1]; exact (z0 6 (by decide) (by decide)).symm
      · rw [e9, w.2.2.2.2.2.2]; exact (z0 7 (by decide) (by decide)).symm
    · show zE0 (20 + 8 * p + 1) ≠ 2
      rw [show zE0 (20 + 8 * p + 1) = 0 from zE0_0 (by omega) (by omega) (by omega) (by omega)]
      decide
  have hl : ∀ n : Nat, ∀ (K : xH) (i : Int), 0 ≤ i → i ≤ 8 → 8 - i ≤ (n : Int) → ttTI K → ttXX YY K → ttFr eK H K → skO b H K → (∀ p : Int, 0 ≤ p → p < i → skC K.1 (b + 9 + p)) → xW e cd_111 Q (2, [(2, b), (0, i)], [], K) := by
    intro n
    induction n with
    | zero =>
      intro K i i0 i1 hk kT kX kF kO kc
      refine q_il (pc := 2) (i := 1) (x := i) rfl rfl ?_
      refine q_ic (pc := 3) (v := 8) rfl ?_
      refine q_i2 (pc := 4) rfl (fun h4 => ?_) (fun h4 => ?_)
      · replace h4 : 8 ≤ i := h4
        exact h12 K i kT kX kF kO (fun p p0 p7 => kc p p0 (by omega))
      · replace h4 : i < 8 := h4
        omega
    | succ n ih =>
      intro K i i0 i1 hk kT kX kF kO kc
      refine q_il (pc := 2) (i := 1) (x := i) rfl rfl ?_
      refine q_ic (pc := 3) (v := 8) rfl ?_
      refine q_i2 (pc := 4) rfl (fun h4 => ?_) (fun h4 => ?_)
      · replace h4 : 8 ≤ i := h4
        exact h12 K i kT kX kF kO (fun p p0 p7 => kc p p0 (by omega))
      · replace h4 : i < 8 := h4
        refine q_al (pc := 5) (i := 0) (x := b) rfl rfl ?_
        refine q_gf (pc := 6) (m := 10002) (t := 2) (c := 0) rfl (sk_kb kT hB).1 rfl rfl ?_
        rw [show K.1 b 0 = (b + 1) from (skW_fr kF hn hB (by decide) hW).1.1]
        refine q_il (pc := 7) (i := 1) (x := i) rfl rfl ?_
        refine q_aa (pc := 8) rfl (by rw [(sk_kx kT hB (o := 1) (by decide) (by decide) (κ := 25) (len := 8) ⟨rfl, rfl⟩).1]; decide) (by omega) (by rw [(sk_kx kT hB (o := 1) (by decide) (by decide) (κ := 25) (len := 8) ⟨rfl, rfl⟩).2]; omega) ?_
        rw [show K.1 (b + 1) i = (b + 9 + i) from (skW_fr kF hn hB (by decide) hW).2.1 _ (by omega) (by omega)]
        refine q_iv (pc := 9) (q := 328327) rfl rfl rfl (sk_kp kT hB (by omega) (by omega)).1 ?_
        refine lc_place (by omega) hB i0 (by omega) kT kX kF (fun J jT jX jF jn jc => ?_)
        refine q_ii (pc := 10) (i := 1) (c := 1) (x := i) (L' := [(2, b), (0, (i + 1))]) rfl rfl rfl (by omega) (by omega) rfl ?_
        refine q_go (pc := 11) rfl ?_
        refine ih J (i + 1) (by omega) (by omega) (by omega) jT jX jF (fun c hc hne a j a0 a1 => (jn a j (by unfold skB at hc hB; omega)).trans (kO c hc hne a j a0 a1)) (fun p p0 p1 => ?_)
        by_cases z : p = i
        · rw [z]; exact jc
        · have w := kc p p0 (by omega)
          unfold skC
          rw [jn _ _ (by omega), jn _ _ (by omega), jn _ _ (by omega), jn _ _ (by omega), jn _ _ (by omega), jn _ _ (by omega), jn _ _ (by omega)]
          exact w
  refine xC_of (L := [(2, b), (9, 0)]) (cd := cd_111) rfl rfl rfl ?_
  refine q_ic (pc := 0) (v := 0) rfl ?_
  refine q_is (pc := 1) (i := 1) (L' := [(2, b), (0, 0)]) rfl rfl rfl ?_
  exact hl 8 H 0 (by decide) (by decide) (by decide) hT hX (ttFr_rf _ H) skO_r (fun p p0 p1 => absurd p1 (by omega))
abbrev eR : ttEf := (true, [(3, 4, 9), (4, 0, 1600), (5, 0, 1600), (6, 0, 1600), (7, 4, 18), (10, 0, 0), (11, 0, 5), (12, 0, 5), (16, 0, 6), (24, 0, 5)])
theorem rL_b {T : tSm} {b : Int} {I K : xH} {Z : tZ} (h : rL T b I K Z) : rB T K K Z.1 := ⟨h.1, h.2.1, ttFr_rf _ K, h.2.2.2.1, h.2.2.2.2.1⟩
theorem skR_t {T : tSm} {b : Int} {J : xH} {Z : tZ} (hT : ttTI J) (hB : skB b) (h : skR J.1 b Z) : (0 ≤ Z.2.1 1 ∧ Z.2.1 1 ≤ 8) ∧ (0 ≤ Z.2.1 2 ∧ Z.2.1 2 ≤ 10) ∧ (0 ≤ Z.2.1 3 ∧ Z.2.1 3 ≤ 6) := by
  have bi := skB_in hB
  have k : ∀ j : Int, 0 ≤ j → j < 19 → ttM (J.2.2.2.1 : Int) (ttTy (ttTb 7) j) (J.1 b j) := fun j ujj0 ujj1 => by
    have w := ttMc hT (a := b) (j := j) (by omega) (by omega) ujj0 (by rw [sk_rb hB]; exact ujj1)
    rw [sk_rb hB] at w
    exact w
  have w := sk_ro hB (o := 3) (by decide) (by decide)
  have u := ttMc hT (a := b + 3) (j := 0) w.2.1 w.2.2 (by decide) (by rw [w.1]; decide)
  rw [w.1] at u
  have e1 : J.1 b 4 = Z.2.1 1 := skA_i h.1 (j := 4) (i := 1) (by decide)
  have e2 : J.1 b 5 = Z.2.1 2 := skA_i h.1 (j := 5) (i := 2) (by decide)
  have e3 : J.1 (b + 3) 0 = Z.2.1 3 := h.2.2.2.1.1
  rw [← e1, ← e2, ← e3]
  exact ⟨k 4 (by decide) (by decide), k 5 (by decide) (by decide), u⟩
theorem lj_loop {e : Nat} (he : 11 ≤ e) {I : xH} (hI : 210 ≤ (I.2.2.2.1 : Int)) {T : tSm} {n b s : Int} (hb : b = 7 ∨ b = 34) (hO : sOk T n) (h9 : I.1 3 9 = b) (hW : skW I.1 b) {Q : Int → xH → Prop} : ∀ k : Nat, ∀ (K : xH) (Z : tZ) (i : Int), T.2.2.2.2 - i ≤ (k : Int) → 0 ≤ i → i ≤ 1601 → rL T b I K Z → (Z.1.2.1 = 0 → (zRw Z ∧ zRs Z) ∧ i ≤ Z.1.1) → (∀ J E i, zEnd T Z E → rL T b I J E → (E.1.2.1 = 0 → zRw E ∧ zRs E) → xW e cd_71 Q (39, [(2, 3), (0, s), (2, b), (0, i)], [], J)) → xW e cd_71 Q (22, [(2, 3), (0, s), (2, b), (0, i)], [], K) := by
  have hB := skB_2 hb
  intro k
  induction k with
  | zero =>
    intro K Z i hk i0 i16 kL kz hq
    have zB0 := rL_b kL
    have hn := rB_n zB0
    have h9k : K.1 3 9 = b := (fr_cl kL.2.2.1 (a := 3) (j := 9) (by omega) (by decide)).trans h9
    have hWk : skW K.1 b := skW_fr kL.2.2.1 hI hB (by decide) hW
    have zi := kL.2.2.2.2.1
    have m4 : K.1 3 4 = T.2.2.2.2 := by rw [← kL.2.2.2.1.1]; rfl
    have sm := sOk_m hO
    refine q_il (pc := 22) (i := 3) (x := i) rfl rfl ?_
    refine q_al (pc := 23) (i := 0) (x := 3) rfl rfl ?_
    refine q_gf (pc := 24) (m := 7040) (t := 0) (c := 4) rfl (ttKc zB0.1 (a := 3) (κ := 7) (len := 0) ⟨rfl, rfl⟩ (by decide) (by decide)).1 rfl rfl ?_
    rw [m4]
    refine q_i2 (pc := 25) rfl (fun h25 => ?_) (fun h25 => ?_)
    · replace h25 : (T.2.2.2.2) ≤ i := h25
      exact hq K Z i (zEnd_0 (fun y => by have u := (kz y.1).2; omega)) kL (fun y => (kz y).1)
    · replace h25 : i < (T.2.2.2.2) := h25
      omega
  | succ k ih =>
    intro K Z i hk i0 i16 kL kz hq
    have zB0 := rL_b kL
    have hn := rB_n zB0
    have h9k : K.1 3 9 = b := (fr_cl kL.2.2.1 (a := 3) (j := 9) (by omega) (by decide)).trans h9
    have hWk : skW K.1 b := skW_fr kL.2.2.1 hI hB (by decide) hW
    have zi := kL.2.2.2.2.1
    have m4 : K.1 3 4 = T.2.2.2.2 := by rw [← kL.2.2.2.1.1]; rfl
    have sm := sOk_m hO
    refine q_il (pc := 22) (i := 3) (x := i) rfl rfl ?_
    refine q_al (pc := 23) (i := 0) (x := 3) rfl rfl ?_
    refine q_gf (pc := 24) (m := 7040) (t := 0) (c := 4) rfl (ttKc zB0.1 (a := 3) (κ := 7) (len := 0) ⟨rfl, rfl⟩ (by decide) (by decide)).1 rfl rfl ?_
    rw [m4]
    refine q_i2 (pc := 25) rfl (fun h25 => ?_) (fun h25 => ?_)
    · replace h25 : (T.2.2.2.2) ≤ i := h25
      exact hq K Z i (zEnd_0 (fun y => by have u := (kz y.1).2; omega)) kL (fun y => (kz y).1)
    · replace h25 : i < (T.2.2.2.2) := h25
      refine q_al (pc := 26) (i := 0) (x := 3) rfl rfl ?_
      refine q_gf (pc := 27) (m := 7060) (t := 0) (c := 6) rfl (ttKc zB0.1 (a := 3) (κ := 7) (len := 0) ⟨rfl, rfl⟩ (by decide) (by decide)).1 rfl rfl ?_
      rw [show K.1 3 6 = Z.1.2.1 from rB_f zB0]
      refine q_if (pc := 28) rfl (fun h28 => ?_) (fun h28 => ?_)
      · replace h28 : Z.1.2.1 ≠ 0 := h28
        exact hq K Z i (zEnd_0 (fun y => h28 y.1)) kL (fun y => (kz y).1)
      · replace h28 : Z.1.2.1 = 0 := h28
        refine q_al (pc := 29) (i := 0) (x := 3) rfl rfl ?_
        refine q_gf (pc := 30) (m := 7012) (t := 2) (c := 1) rfl (ttKc zB0.1 (a := 3) (κ := 7) (len := 0) ⟨rfl, rfl⟩ (by decide) (by decide)).1 rfl rfl ?_
        rw [show K.1 3 1 = 4 from ttFx zB0.1 (by decide) (by decide) rfl rfl rfl]
        refine q_al (pc := 31) (i := 0) (x := 3) rfl rfl ?_
        refine q_gf (pc := 32) (m := 7050) (t := 0) (c := 5) rfl (ttKc zB0.1 (a := 3) (κ := 7) (len := 0) ⟨rfl, rfl⟩ (by decide) (by decide)).1 rfl rfl ?_
        rw [show K.1 3 5 = Z.1.1 from rB_a zB0]
        refine q_ai (pc := 33) rfl (ttKc zB0.1 (a := 4) (κ := 20) (len := 1601) ⟨rfl, rfl⟩ (by decide) (by decide)).1 (by omega) (by rw [(ttKc zB0.1 (a := 4) (κ := 20) (len := 1601) ⟨rfl, rfl⟩ (by decide) (by decide)).2]; omega) ?_
        rw [show K.1 4 Z.1.1 = (T.2.1 Z.1.1) from rB_k zB0 _]
        refine q_if (pc := 34) rfl (fun h34 => ?_) (fun h34 => ?_)
        · replace h34 : (T.2.1 Z.1.1) = 0 := h34
          exact hq K Z i (zEnd_0 (fun y => y.2 h34)) kL (fun y => (kz y).1)
        · replace h34 : (T.2.1 Z.1.1) ≠ 0 := h34
          refine q_al (pc := 35) (i := 0) (x := 3) rfl rfl ?_
          refine q_iv (pc := 36) (q := 664567) rfl rfl rfl (ttKc zB0.1 (a := 3) (κ := 7) (len := 0) ⟨rfl, rfl⟩ (by decide) (by decide)).1 ?_
          have hR := (kL.2.2.2.2.2.2 h28).1
          have h8 := (kL.2.2.2.2.2.2 h28).2
          have hw := (kz h28).1.1
          refine lj_read (by omega) hb hO zB0 h9k hWk hR hw h8 h28 (fun J jL => ?_)
          refine q_ii (pc := 37) (i := 3) (c := 1) (x := i) (L' := [(2, 3), (0, s), (2, b), (0, (i + 1))]) rfl rfl rfl (by omega) (by omega) rfl ?_
          refine q_go (pc := 38) rfl ?_
          have jL2 := rL_T kL.2.2.1 kL.2.2.2.2.2.1 jL
          refine ih J (zLn T Z) (i + 1) (by omega) (by omega) (by omega) jL2 (fun f => ?_) (fun J2 E i2 hE => hq J2 E i2 (zEnd_s ⟨h28, h34⟩ hE))
          have t3 := skR_t (T := T) jL.1 hB (jL.2.2.2.2.2.2 f).1
          have u := zLn_m hO zi.2 h34 f
          have v := (kz h28).2
          exact ⟨⟨zRw_ln hw h28 f t3.1 t3.2.1 t3.2.2, zRs_ln hw (kz h28).1.2 h28 f⟩, by omega⟩
