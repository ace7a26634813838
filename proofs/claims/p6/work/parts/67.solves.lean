/-! the table is solved -/
def yyES : ttEf := (true, [(192, 0, 7), (193, 0, 975), (195, 0, 93695), (196, 0, 93695), (197, 0, 93695), (198, 0, 7)])
/-- states that have been looked at -/
def yyV (D : xD) (t w p h x : Int) : Prop := ∀ p' h' t' x' w' : Int, 0 ≤ p' → p' ≤ 7 → p' < D 184 1 → 0 ≤ h' → h' ≤ 60 → D 184 (20 + 8 * p') ≤ h' → h' ≤ D 184 7 → 0 ≤ t' → t' ≤ 47 → t' ≤ D 184 8 → 0 ≤ x' → x' ≤ 1 → 0 ≤ w' → w' ≤ 1 → (w' = 1 → 0 < D 184 6) → (t < t' ∨ (t' = t ∧ (w' < w ∨ (w' = w ∧ (p' < p ∨ (p' = p ∧ (h' < h ∨ (h' = h ∧ x' < x)))))))) → yyD D p' h' t' w' (D 196 (yyX p' h' t' x' w'))
theorem yyV_s {H K : xH} {t w p h x : Int} (v : yyV H.1 t w p h x) (kF : ttFr (yyEL (yyX p h t x w)) H K) (hn : 210 ≤ (H.2.2.2.1 : Int)) (p0 : 0 ≤ p) (p1 : p ≤ 7) (h0 : 0 ≤ h) (h1 : h ≤ 60) (t0 : 0 ≤ t) (t1 : t ≤ 47) (x0 : 0 ≤ x) (x1 : x ≤ 1) (w0 : 0 ≤ w) (w1 : w ≤ 1) (d : yyD H.1 p h t w (K.1 196 (yyX p h t x w))) {y : Int} (hy : y = x + 1) : yyV K.1 t w p h y := by
  subst hy
  obtain ⟨k1, k2, k3, k4, k5, k6, k7⟩ := yyEL_k kF hn
  intro p' h' t' x' w' a0 a1 a2 ujb0 ujb1 ujb2 ujb3 c0 c1 c2 d0 d1 e0 e1 e2 c
  rw [k1] at a2 ujb2 ujb3 c2 e2
  by_cases zz : yyX p' h' t' x' w' = yyX p h t x w
  · obtain ⟨rfl, rfl, rfl, rfl, rfl⟩ := yyX_in h0 h1 t0 t1 x0 x1 w0 w1 ujb0 ujb1 c0 c1 d0 d1 e0 e1 zz
    exact yyD_eq k1 k2 k3 p0 p1 w0 w1 d
  · rw [k7 _ zz]
    have c' : t < t' ∨ (t' = t ∧ (w' < w ∨ (w' = w ∧ (p' < p ∨ (p' = p ∧ (h' < h ∨ (h' = h ∧ x' < x))))))) := by
      by_cases z : p' = p ∧ h' = h ∧ t' = t ∧ x' = x ∧ w' = w
      · obtain ⟨rfl, rfl, rfl, rfl, rfl⟩ := z
        exact absurd rfl zz
      · omega
    exact yyD_eq k1 k2 k3 a0 a1 e0 e1 (v p' h' t' x' w' a0 a1 a2 ujb0 ujb1 ujb2 ujb3 c0 c1 c2 d0 d1 e0 e1 e2 c')
theorem yyV_h {D : xD} {t w p h y : Int} (v : yyV D t w p h 2) (hy : y = h + 1) : yyV D t w p y 0 := fun p' h' t' x' w' a0 a1 a2 ujb0 ujb1 ujb2 ujb3 c0 c1 c2 d0 d1 e0 e1 e2 c => v p' h' t' x' w' a0 a1 a2 ujb0 ujb1 ujb2 ujb3 c0 c1 c2 d0 d1 e0 e1 e2 (by omega)
theorem yyV_p {D : xD} {t w p h y : Int} (v : yyV D t w p h 0) (z : D 184 7 < h) (hy : y = p + 1) : yyV D t w y 0 0 := fun p' h' t' x' w' a0 a1 a2 ujb0 ujb1 ujb2 ujb3 c0 c1 c2 d0 d1 e0 e1 e2 c => v p' h' t' x' w' a0 a1 a2 ujb0 ujb1 ujb2 ujb3 c0 c1 c2 d0 d1 e0 e1 e2 (by omega)
theorem yyV_g {D : xD} {t w p y : Int} (v : yyV D t w p 0 0) (hy : y = D 184 (20 + 8 * p)) : yyV D t w p y 0 := fun p' h' t' x' w' a0 a1 a2 ujb0 ujb1 ujb2 ujb3 c0 c1 c2 d0 d1 e0 e1 e2 c => v p' h' t' x' w' a0 a1 a2 ujb0 ujb1 ujb2 ujb3 c0 c1 c2 d0 d1 e0 e1 e2 (by
  by_cases z : p' = p
  · subst z
    omega
  · omega)
theorem yyV_w {D : xD} {t w p y : Int} (v : yyV D t w p 0 0) (z : D 184 1 ≤ p) (hy : y = w + 1) : yyV D t y 0 0 0 := fun p' h' t' x' w' a0 a1 a2 ujb0 ujb1 ujb2 ujb3 c0 c1 c2 d0 d1 e0 e1 e2 c => v p' h' t' x' w' a0 a1 a2 ujb0 ujb1 ujb2 ujb3 c0 c1 c2 d0 d1 e0 e1 e2 (by omega)
theorem yyV_t {D : xD} {t w y : Int} (v : yyV D t w 0 0 0) (z : w = 1 ∧ D 184 6 ≤ 0 ∨ 1 < w) (hy : y = t - 1) : yyV D y 0 0 0 0 := fun p' h' t' x' w' a0 a1 a2 ujb0 ujb1 ujb2 ujb3 c0 c1 c2 d0 d1 e0 e1 e2 c => v p' h' t' x' w' a0 a1 a2 ujb0 ujb1 ujb2 ujb3 c0 c1 c2 d0 d1 e0 e1 e2 (by omega)
theorem yyV_0 {D : xD} {t : Int} (z : D 184 8 ≤ t) : yyV D t 0 0 0 0 := fun p' h' t' x' w' a0 a1 a2 ujb0 ujb1 ujb2 ujb3 c0 c1 c2 d0 d1 e0 e1 e2 c => by omega
theorem yyV_L {D : xD} {t : Int} (v : yyV D t 0 0 0 0) (z : t < 0) : yyL D := fun p' h' t' x' w' a0 a1 a2 ujb0 ujb1 ujb2 ujb3 c0 c1 c2 d0 d1 e0 e1 e2 => v p' h' t' x' w' a0 a1 a2 ujb0 ujb1 ujb2 ujb3 c0 c1 c2 d0 d1 e0 e1 e2 (by omega)
theorem yySol {K : xH} {ru : Int} (y : YY K) (kf : K.1 183 22 = 1) (l : yyL K.1) : YY (xUp K.1 183 29 ru, K.2) := by
  obtain ⟨n, y1, y2, y3, y4⟩ := y
  have g : ∀ a j : Int, a ≠ 183 → xUp K.1 183 29 ru a j = K.1 a j := fun a j h => up_na h
  have g2 : xUp K.1 183 29 ru 183 22 = K.1 183 22 := up_ne (fun z => absurd z.2 (by decide))
  refine ⟨n, yyR_eq (fun j _ _ _ => by rw [Int.zero_add]; exact g 184 j (by decide)) y1, fun k k0 k8 k9 => ?_, fun z => ?_, fun z => ?_⟩
  · exact yyR_eq (fun j _ _ _ => g 185 _ (by decide)) (y2 k k0 k8 ((g 186 k (by decide)) ▸ k9))
  · exact yyW_eq (fun j _ _ _ => g 184 j (by decide)) (fun j _ _ => g 190 j (by decide)) (fun j _ _ => g 191 j (by decide)) (y3 kf)
  · exact ⟨g2.trans kf, yyL_eq (fun j _ _ _ => g 184 j (by decide)) (fun j _ _ => g 190 j (by decide)) (fun j _ _ => g 191 j (by decide)) (fun j _ _ => g 196 j (by decide)) l⟩
theorem yyEL_S {q : Int} (q0 : 0 ≤ q) (q1 : q ≤ 93695) : ttSub yyES.2 (yyEL q).2 = true := by
  have z1 := zzLe_iff.mpr q0
  have z2 := zzLe_iff.mpr q1
  have z : ttIn yyES.2 196 q q = true := by
    unfold ttIn
    refine List.any_eq_true.mpr ⟨(196, 0, 93695), by simp [yyES], ?_⟩
    show (Nat.beq 196 196 && (zzLe 0 q && zzLe q 93695)) = true
    rw [z1, z2]; rfl
  refine List.all_eq_true.mpr (fun r hr => ?_)
  simp only [yyEL, List.mem_cons, List.not_mem_nil, or_false] at hr
  rcases hr with rfl | rfl | rfl | rfl | rfl
  · decide
  · decide
  · decide
  · exact z
  · decide
theorem lf_solves {dd : Nat} {ru : Int} (hd : 9 ≤ dd) {H : xH} (hT : ttTI H) (hX : ttXX YY H) (ra : -2147483648 ≤ ru) (rb : ru ≤ 2147483647) {Q : Int → xH → Prop} (hQ : ∀ K, ttTI K → ttXX YY K → ttFr (true, [(190, 0, 15), (191, 0, 4799), (192, 0, 7), (193, 0, 975), (195, 0, 93695), (196, 0, 93695), (197, 0, 93695), (198, 0, 7), (183, 22, 22), (183, 29, 29)]) H K → K.1 183 29 = ru → Q 0 K) : xCall dd 274 [(2, 183), (0, ru)] H Q := by
  obtain ⟨e, rfl, he⟩ := ttRun0 (n := 8) hd
  have he : 8 ≤ e := he
  have hn : 210 ≤ (H.2.2.2.1 : Int) := by have := hT.1; omega
  have hG : ∀ G : xH, 210 ≤ (G.2.2.2.1 : Int) → ttFr (true, [(190, 0, 15), (191, 0, 4799), (192, 0, 7), (193, 0, 975), (195, 0, 93695), (196, 0, 93695), (197, 0, 93695), (198, 0, 7), (183, 22, 22), (183, 29, 29)]) H G → G.1 183 22 = 1 → ∀ K : xH, ttTI K → ttXX YY K → ttFr yyES G K → xW e cd_274 Q (9, [(2, 183), (0, ru), (0, 0), (9, 0), (9, 0), (9, 0), (9, 0)], [], K) := by
    intro G gn gF gf
    have kk : ∀ K : xH, ttFr yyES G K → ∀ j : Int, K.1 183 j = G.1 183 j := fun K kF j => fr_no kF 183 (by omega) rfl rfl
    have hH : ∀ t w p : Int, 0 ≤ t → t ≤ 47 → 0 ≤ w → w ≤ 1 → 0 ≤ p → p ≤ 7 → (∀ (K : xH) (x5 x6 : xV), ttTI K → ttXX YY K → ttFr yyES G K → yyV K.1 t w (p + 1) 0 0 → xW e cd_274 Q (63, [(2, 183), (0, ru), (0, t), (0, w), (0, (p + 1)), x5, x6], [], K)) → ∀ n : Nat, ∀ (K : xH) (h : Int) (x6 : xV), 0 ≤ h → h ≤ 61 → 61 - h ≤ (n : Int) → ttTI K → ttXX YY K → ttFr yyES G K → yyV K.1 t w p h 0 → xW e cd_274 Q (74, [(2, 183), (0, ru), (0, t), (0, w), (0, p), (0, h), x6], [], K) := by
      intro t w p t0 t1 w0 w1 p0 p1 hk n
      induction n with
      | zero =>
        intro K h x6 h0 h1 hn2 kT kX kF kV
        have z60 : 0 ≤ K.1 184 7 ∧ K.1 184 7 ≤ 60 := ttMc kT (a := 184) (j := 7) (by decide) (by decide) (by decide) (by decide)
        refine q_il (pc := 74) (i := 5) (x := h) rfl rfl ?_
        refine q_al (pc := 75) (i := 0) (x := 183) rfl rfl ?_
        refine q_gf (pc := 76) (m := 12012) (t := 2) (c := 1) rfl (ttKc kT (a := 183) (κ := 12) (len := 0) ⟨rfl, rfl⟩ (by decide) (by decide)).1 rfl rfl ?_
        rw [show K.1 183 1 = 184 from ttFx kT (by decide) (by decide) rfl rfl rfl]
        refine q_ic (pc := 77) (v := 7) rfl ?_
        refine q_ai (pc := 78) rfl (ttKc kT (a := 184) (κ := 20) (len := 196) ⟨rfl, rfl⟩ (by decide) (by decide)).1 (by omega) (by rw [(ttKc kT (a := 184) (κ := 20) (len := 196) ⟨rfl, rfl⟩ (by decide) (by decide)).2]; omega) ?_
        refine q_i2 (pc := 79) rfl (fun h79 => ?_) (fun h79 => ?_)
        · replace h79 : (K.1 184 7) < h := h79
          refine q_ii (pc := 97) (i := 4) (c := 1) (x := p) (L' := [(2, 183), (0, ru), (0, t), (0, w), (0, (p + 1)), (0, h), x6]) rfl rfl rfl (by omega) (by omega) rfl ?_
          refine q_go (pc := 98) rfl ?_
          exact hk K _ _ kT kX kF (yyV_p kV h79 rfl)
        · replace h79 : h ≤ (K.1 184 7) := h79
          omega
      | succ n ih =>
        intro K h x6 h0 h1 hn2 kT kX kF kV
        have z60 : 0 ≤ K.1 184 7 ∧ K.1 184 7 ≤ 60 := ttMc kT (a := 184) (j := 7) (by decide) (by decide) (by decide) (by decide)
        refine q_il (pc := 74) (i := 5) (x := h) rfl rfl ?_
        refine q_al (pc := 75) (i := 0) (x := 183) rfl rfl ?_
        refine q_gf (pc := 76) (m := 12012) (t := 2) (c := 1) rfl (ttKc kT (a := 183) (κ := 12) (len := 0) ⟨rfl, rfl⟩ (by decide) (by decide)).1 rfl rfl ?_
        rw [show K.1 183 1 = 184 from ttFx kT (by decide) (by decide) rfl rfl rfl]
        refine q_ic (pc := 77) (v := 7) rfl ?_
        refine q_ai (pc := 78) rfl (ttKc kT (a := 184) (κ := 20) (len := 196) ⟨rfl, rfl⟩ (by decide) (by decide)).1 (by omega) (by rw [(ttKc kT (a := 184) (κ := 20) (len := 196) ⟨rfl, rfl⟩ (by decide) (by decide)).2]; omega) ?_
        refine q_i2 (pc := 79) rfl (fun h79 => ?_) (fun h79 => ?_)
        · replace h79 : (K.1 184 7) < h := h79
          refine q_ii (pc := 97) (i := 4) (c := 1) (x := p) (L' := [(2, 183), (0, ru), (0, t), (0, w), (0, (p + 1)), (0, h), x6]) rfl rfl rfl (by omega) (by omega) rfl ?_
          refine q_go (pc := 98) rfl ?_
          exact hk K _ _ kT kX kF (yyV_p kV h79 rfl)
        · replace h79 : h ≤ (K.1 184 7) := h79
          refine q_ic (pc := 80) (v := 0) rfl ?_
          refine q_is (pc := 81) (i := 6) (L' := [(2, 183), (0, ru), (0, t), (0, w), (0, p), (0, h), (0, 0)]) rfl rfl rfl ?_
          refine q_il (pc := 82) (i := 6) (x := 0) rfl rfl ?_
          refine q_ic (pc := 83) (v := 2) rfl ?_
          refine q_i2 (pc := 84) rfl (fun h84 => ?_) (fun h84 => ?_)
          · replace h84 : 2 ≤ (0 : Int) := h84
            omega
          · replace h84 : (0 : Int) < 2 := h84
            refine q_al (pc := 85) (i := 0) (x := 183) rfl rfl ?_
            refine q_il (pc := 86) (i := 1) (x := ru) rfl rfl ?_
            refine q_il (pc := 87) (i := 4) (x := p) rfl rfl ?_
            refine q_il (pc := 88) (i := 5) (x := h) rfl rfl ?_
            refine q_il (pc := 89) (i := 2) (x := t) rfl rfl ?_
            refine q_il (pc := 90) (i := 6) (x := 0) rfl rfl ?_
            refine q_il (pc := 91) (i := 3) (x := w) rfl rfl ?_
            refine q_iv (pc := 92) (q := 2176991) rfl rfl rfl (ttKc kT (a := 183) (κ := 12) (len := 0) ⟨rfl, rfl⟩ (by decide) (by decide)).1 ?_
            refine lf_looks (by omega) kT kX ((kk K kF 22).trans gf) p0 p1 h0 (by omega) (by omega) t0 t1 (by decide) (by decide) w0 w1 (fun ujK1 ujzT1 ujzX1 ujzF1 ujzo1 => ?_)
            have ujhc1 : ujK1.1 184 7 = K.1 184 7 := fr_no ujzF1 184 (by have := kT.1; omega) rfl rfl
            have ujzV1 : yyV ujK1.1 t w p h 1 := yyV_s kV ujzF1 (by have := kT.1; omega) p0 p1 h0 (by omega) t0 t1 (by decide) (by decide) w0 w1 ujzo1 rfl
            replace ujzF1 := ttFr_tr kF ujzF1 (fun _ => rfl) (yyEL_S (by unfold yyX; omega) (by unfold yyX; omega))
            refine q_ii (pc := 93) (i := 6) (c := 1) (x := 0) (L' := [(2, 183), (0, ru), (0, t), (0, w), (0, p), (0, h), (0, (0 + 1))]) rfl rfl rfl (by omega) (by omega) rfl ?_
            refine q_go (pc := 94) rfl ?_
            show xW e cd_274 Q (82, [(2, 183), (0, ru), (0, t), (0, w), (0, p), (0, h), (0, 1)], [], ujK1)
            refine q_il (pc := 82) (i := 6) (x := 1) rfl rfl ?_
            refine q_ic (pc := 83) (v := 2) rfl ?_
            refine q_i2 (pc := 84) rfl (fun h84 => ?_) (fun h84 => ?_)
            · replace h84 : 2 ≤ (1 : Int) := h84
              omega
            · replace h84 : (1 : Int) < 2 := h84
              refine q_al (pc := 85) (i := 0) (x := 183) rfl rfl ?_
              refine q_il (pc := 86) (i := 1) (x := ru) rfl rfl ?_
              refine q_il (pc := 87) (i := 4) (x := p) rfl rfl ?_
              refine q_il (pc := 88) (i := 5) (x := h) rfl rfl ?_
              refine q_il (pc := 89) (i := 2) (x := t) rfl rfl ?_
              refine q_il (pc := 90) (i := 6) (x := 1) rfl rfl ?_
              refine q_il (pc := 91) (i := 3) (x := w) rfl rfl ?_
              refine q_iv (pc := 92) (q := 2176991) rfl rfl rfl (ttKc ujzT1 (a := 183) (κ := 12) (len := 0) ⟨rfl, rfl⟩ (by decide) (by decide)).1 ?_
              refine lf_looks (by omega) ujzT1 ujzX1 ((kk ujK1 ujzF1 22).trans gf) p0 p1 h0 (by omega) (by rw [ujhc1]; omega) t0 t1 (by decide) (by decide) w0 w1 (fun ujK2 ujzT2 ujzX2 ujzF2 ujzo2 => ?_)
              have ujhc2 : ujK2.1 184 7 = K.1 184 7 := (fr_no ujzF2 184 (by have := ujzT1.1; omega) rfl rfl).trans ujhc1
              have ujzV2 : yyV ujK2.1 t w p h 2 := yyV_s ujzV1 ujzF2 (by have := ujzT1.1; omega) p0 p1 h0 (by omega) t0 t1 (by decide) (by decide) w0 w1 ujzo2 rfl
              replace ujzF2 := ttFr_tr ujzF1 ujzF2 (fun _ => rfl) (yyEL_S (by unfold yyX; omega) (by unfold yyX; omega))
              refine q_ii (pc := 93) (i := 6) (c := 1) (x := 1) (L' := [(2, 183), (0, ru), (0, t), (0, w), (0, p), (0, h), (0, (1 + 1))]) rfl rfl rfl (by omega) (by omega) rfl ?_
              refine q_go (pc := 94) rfl ?_
              show xW e cd_274 Q (82, [(2, 183), (0, ru), (0, t), (0, w), (0, p), (0, h), (0, 2)], [], ujK2)
              refine q_il (pc := 82) (i := 6) (x := 2) rfl rfl ?_
              refine q_ic (pc := 83) (v := 2) rfl ?_
              refine q_i2 (pc := 84) rfl (fun h84 => ?_) (fun h84 => ?_)
              · replace h84 : 2 ≤ (2 : Int) := h84
                refine q_ii (pc := 95) (i := 5) (c := 1) (x := h) (L' := [(2, 183), (0, ru), (0, t), (0, w), (0, p), (0, (h + 1)), (0, 2)]) rfl rfl rfl (by omega) (by omega) rfl ?_
                refine q_go (pc := 96) rfl ?_
                exact ih ujK2 (h + 1) _ (by omega) (by omega) (by omega) ujzT2 ujzX2 ujzF2 (yyV_h ujzV2 rfl)
              · replace h84 : (2 : Int) < 2 := h84
                omega
    have hP : ∀ t w : Int, 0 ≤ t → t ≤ 47 → 0 ≤ w → w ≤ 1 → (∀ (K : xH) (x4 x5 x6 : xV), ttTI K → ttXX YY K → ttFr yyES G K → yyV K.1 t (w + 1) 0 0 0 → xW e cd_274 Q (51, [(2, 183), (0, ru), (0, t), (0, (w + 1)), x4, x5, x6], [], K)) → ∀ n : Nat, ∀ (K : xH) (p : Int) (x5 x6 : xV), 0 ≤ p → p ≤ 8 → 8 - p ≤ (n : Int) → ttTI K → ttXX YY K → ttFr yyES G K → yyV K.1 t w p 0 0 → xW e cd_274 Q (63, [(2, 183), (0, ru), (0, t), (0, w), (0, p), x5, x6], [], K) := by
      intro t w t0 t1 w0 w1 hk n
      induction n with
      | zero =>
        intro K p x5 x6 p0 p1 hn2 kT kX kF kV
        have z8 : 0 ≤ K.1 184 1 ∧ K.1 184 1 ≤ 8 := ttMc kT (a := 184) (j := 1) (by decide) (by decide) (by decide) (by decide)
        refine q_il (pc := 63) (i := 4) (x := p) rfl rfl ?_
        refine q_al (pc := 64) (i := 0) (x := 183) rfl rfl ?_
        refine q_gf (pc := 65) (m := 12012) (t := 2) (c := 1) rfl (ttKc kT (a := 183) (κ := 12) (len := 0) ⟨rfl, rfl⟩ (by decide) (by decide)).1 rfl rfl ?_
        rw [show K.1 183 1 = 184 from ttFx kT (by decide) (by decide) rfl rfl rfl]
        refine q_ic (pc := 66) (v := 1) rfl ?_
        refine q_ai (pc := 67) rfl (ttKc kT (a := 184) (κ := 20) (len := 196) ⟨rfl, rfl⟩ (by decide) (by decide)).1 (by omega) (by rw [(ttKc kT (a := 184) (κ := 20) (len := 196) ⟨rfl, rfl⟩ (by decide) (by decide)).2]; omega) ?_
        refine q_i2 (pc := 68) rfl (fun h68 => ?_) (fun h68 => ?_)
        · replace h68 : (K.1 184 1) ≤ p := h68
          refine q_ii (pc := 99) (i := 3) (c := 1) (x := w) (L' := [(2, 183), (0, ru), (0, t), (0, (w + 1)), (0, p), x5, x6]) rfl rfl rfl (by omega) (by omega) rfl ?_
          refine q_go (pc := 100) rfl ?_
          exact hk K _ _ _ kT kX kF (yyV_w kV h68 rfl)
        · replace h68 : p < (K.1 184 1) := h68
          omega
      | succ n ih =>
        intro K p x5 x6 p0 p1 hn2 kT kX kF kV
        have z8 : 0 ≤ K.1 184 1 ∧ K.1 184 1 ≤ 8 := ttMc kT (a := 184) (j := 1) (by decide) (by decide) (by decide) (by decide)
        refine q_il (pc := 63) (i := 4) (x := p) rfl rfl ?_
        refine q_al (pc := 64) (i := 0) (x := 183) rfl rfl ?_
        refine q_gf (pc := 65) (m := 12012) (t := 2) (c := 1) rfl (ttKc kT (a := 183) (κ := 12) (len := 0) ⟨rfl, rfl⟩ (by decide) (by decide)).1 rfl rfl ?_
        rw [show K.1 183 1 = 184 from ttFx kT (by decide) (by decide) rfl rfl rfl]
        refine q_ic (pc := 66) (v := 1) rfl ?_
        refine q_ai (pc := 67) rfl (ttKc kT (a := 184) (κ := 20) (len := 196) ⟨rfl, rfl⟩ (by decide) (by decide)).1 (by omega) (by rw [(ttKc kT (a := 184) (κ := 20) (len := 196) ⟨rfl, rfl⟩ (by decide) (by decide)).2]; omega) ?_
        refine q_i2 (pc := 68) rfl (fun h68 => ?_) (fun h68 => ?_)
        · replace h68 : (K.1 184 1) ≤ p := h68
          refine q_ii (pc := 99) (i := 3) (c := 1) (x := w) (L' := [(2, 183), (0, ru), (0, t), (0, (w + 1)), (0, p), x5, x6]) rfl rfl rfl (by omega) (by omega) rfl ?_
          refine q_go (pc := 100) rfl ?_
          exact hk K _ _ _ kT kX kF (yyV_w kV h68 rfl)
        · replace h68 : p < (K.1 184 1) := h68
          refine q_al (pc := 69) (i := 0) (x := 183) rfl rfl ?_
          refine q_il (pc := 70) (i := 4) (x := p) rfl rfl ?_
          refine q_ic (pc := 71) (v := 0) rfl ?_
          refine q_iv (pc := 72) (q := 1664972) rfl rfl rfl (ttKc kT (a := 183) (κ := 12) (len := 0) ⟨rfl, rfl⟩ (by decide) (by decide)).1 ?_
          refine lf_ofPlace (j := (20 + 8 * p)) (by omega) (by omega) kT (by omega) (by omega) (by omega) (by omega) ?_
          refine q_is (pc := 73) (i := 5) (L' := [(2, 183), (0, ru), (0, t), (0, w), (0, p), (0, (K.1 184 (20 + 8 * p))), x6]) rfl rfl rfl ?_
          have zg := pl_ty kT p0 (by omega : p ≤ 7)
          exact hH t w p t0 t1 w0 w1 p0 (by omega) (fun K x5 x6 a b c d => ih K (p + 1) x5 x6 (by omega) (by omega) (by omega) a b c d) 61 K _ _ (by omega) (by omega) (by omega) kT kX kF (yyV_g kV rfl)
    have hW : ∀ t : Int, 0 ≤ t → t ≤ 47 → (∀ (K : xH) (x3 x4 x5 x6 : xV), ttTI K → ttXX YY K → ttFr yyES G K → yyV K.1 (t - 1) 0 0 0 0 → xW e cd_274 Q (47, [(2, 183), (0, ru), (0, (t - 1)), x3, x4, x5, x6], [], K)) → ∀ n : Nat, ∀ (K : xH) (w : Int) (x4 x5 x6 : xV), 0 ≤ w → w ≤ 2 → 2 - w ≤ (n : Int) → ttTI K → ttXX YY K → ttFr yyES G K → yyV K.1 t w 0 0 0 → xW e cd_274 Q (51, [(2, 183), (0, ru), (0, t), (0, w), x4, x5, x6], [], K) := by
      intro t t0 t1 hk n
      induction n with
      | zero =>
        intro K w x4 x5 x6 w0 w1 hn2 kT kX kF kV
        have z6 : 0 ≤ K.1 184 6 ∧ K.1 184 6 ≤ 50 := ttMc kT (a := 184) (j := 6) (by decide) (by decide) (by decide) (by decide)
        refine q_il (pc := 51) (i := 3) (x := w) rfl rfl ?_
        refine q_al (pc := 52) (i := 0) (x := 183) rfl rfl ?_
        refine q_gf (pc := 53) (m := 12012) (t := 2) (c := 1) rfl (ttKc kT (a := 183) (κ := 12) (len := 0) ⟨rfl, rfl⟩ (by decide) (by decide)).1 rfl rfl ?_
        rw [show K.1 183 1 = 184 from ttFx kT (by decide) (by decide) rfl rfl rfl]
        refine q_ic (pc := 54) (v := 6) rfl ?_
        refine q_ai (pc := 55) rfl (ttKc kT (a := 184) (κ := 20) (len := 196) ⟨rfl, rfl⟩ (by decide) (by decide)).1 (by omega) (by rw [(ttKc kT (a := 184) (κ := 20) (len := 196) ⟨rfl, rfl⟩ (by decide) (by decide)).2]; omega) ?_
        refine q_if (pc := 56) rfl (fun h56 => ?_) (fun h56 => ?_)
        · replace h56 : (K.1 184 6) ≤ 0 := h56
          refine q_ic (pc := 59) (v := 0) rfl ?_
          refine q_i2 (pc := 60) rfl (fun h60 => ?_) (fun h60 => ?_)
          · replace h60 : 0 < w := h60
            refine q_ii (pc := 101) (i := 2) (c := (-1)) (x := t) (L' := [(2, 183), (0, ru), (0, (t + (-1))), (0, w), x4, x5, x6]) rfl rfl rfl (by omega) (by omega) rfl ?_
            refine q_go (pc := 102) rfl ?_
            exact hk K _ _ _ _ kT kX kF (yyV_t kV (by omega) rfl)
          · replace h60 : w ≤ 0 := h60
            omega
        · replace h56 : 0 < (K.1 184 6) := h56
          refine q_ic (pc := 57) (v := 1) rfl ?_
          refine q_go (pc := 58) rfl ?_
          refine q_i2 (pc := 60) rfl (fun h60 => ?_) (fun h60 => ?_)
          · replace h60 : 1 < w := h60
            refine q_ii (pc := 101) (i := 2) (c := (-1)) (x := t) (L' := [(2, 183), (0, ru), (0, (t + (-1))), (0, w), x4, x5, x6]) rfl rfl rfl (by omega) (by omega) rfl ?_
            refine q_go (pc := 102) rfl ?_
            exact hk K _ _ _ _ kT kX kF (yyV_t kV (by omega) rfl)
          · replace h60 : w ≤ 1 := h60
            omega
      | succ n ih =>
        intro K w x4 x5 x6 w0 w1 hn2 kT kX kF kV
        have z6 : 0 ≤ K.1 184 6 ∧ K.1 184 6 ≤ 50 := ttMc kT (a := 184) (j := 6) (by decide) (by decide) (by decide) (by decide)
        refine q_il (pc := 51) (i := 3) (x := w) rfl rfl ?_
        refine q_al (pc := 52) (i := 0) (x := 183) rfl rfl ?_
        refine q_gf (pc := 53) (m := 12012) (t := 2) (c := 1) rfl (ttKc kT (a := 183) (κ := 12) (len := 0) ⟨rfl, rfl⟩ (by decide) (by decide)).1 rfl rfl ?_
        rw [show K.1 183 1 = 184 from ttFx kT (by decide) (by decide) rfl rfl rfl]
        refine q_ic (pc := 54) (v := 6) rfl ?_
        refine q_ai (pc := 55) rfl (ttKc kT (a := 184) (κ := 20) (len := 196) ⟨rfl, rfl⟩ (by decide) (by decide)).1 (by omega) (by rw [(ttKc kT (a := 184) (κ := 20) (len := 196) ⟨rfl, rfl⟩ (by decide) (by decide)).2]; omega) ?_
        refine q_if (pc := 56) rfl (fun h56 => ?_) (fun h56 => ?_)
        · replace h56 : (K.1 184 6) ≤ 0 := h56
          refine q_ic (pc := 59) (v := 0) rfl ?_
          refine q_i2 (pc := 60) rfl (fun h60 => ?_) (fun h60 => ?_)
          · replace h60 : 0 < w := h60
            refine q_ii (pc := 101) (i := 2) (c := (-1)) (x := t) (L' := [(2, 183), (0, ru), (0, (t + (-1))), (0, w), x4, x5, x6]) rfl rfl rfl (by omega) (by omega) rfl ?_
            refine q_go (pc := 102) rfl ?_
            exact hk K _ _ _ _ kT kX kF (yyV_t kV (by omega) rfl)
          · replace h60 : w ≤ 0 := h60
            refine q_ic (pc := 61) (v := 0) rfl ?_
            refine q_is (pc := 62) (i := 4) (L' := [(2, 183), (0, ru), (0, t), (0, w), (0, 0), x5, x6]) rfl rfl rfl ?_
            exact hP t w t0 t1 w0 (by omega) (fun K x4 x5 x6 a b c d => ih K (w + 1) x4 x5 x6 (by omega) (by omega) (by omega) a b c d) 8 K 0 _ _ (by decide) (by decide) (by decide) kT kX kF kV
        · replace h56 : 0 < (K.1 184 6) := h56
          refine q_ic (pc := 57) (v := 1) rfl ?_
          refine q_go (pc := 58) rfl ?_
          refine q_i2 (pc := 60) rfl (fun h60 => ?_) (fun h60 => ?_)
          · replace h60 : 1 < w := h60
            refine q_ii (pc := 101) (i := 2) (c := (-1)) (x := t) (L' := [(2, 183), (0, ru), (0, (t + (-1))), (0, w), x4, x5, x6]) rfl rfl rfl (by omega) (by omega) rfl ?_
            refine q_go (pc := 102) rfl ?_
            exact hk K _ _ _ _ kT kX kF (yyV_t kV (by omega) rfl)
          · replace h60 : w ≤ 1 := h60
            refine q_ic (pc := 61) (v := 0) rfl ?_
            refine q_is (pc := 62) (i := 4) (L' := [(2, 183), (0, ru), (0, t), (0, w), (0, 0), x5, x6]) rfl rfl rfl ?_
            exact hP t w t0 t1 w0 (by omega) (fun K x4 x5 x6 a b c d => ih K (w + 1) x4 x5 x6 (by omega) (by omega) (by omega) a b c d) 8 K 0 _ _ (by decide) (by decide) (by decide) kT kX kF kV
    have hU : ∀ n : Nat, ∀ (K : xH) (t : Int) (x3 x4 x5 x6 : xV), -1 ≤ t → t ≤ 47 → t + 1 ≤ (n : Int) → ttTI K → ttXX YY K → ttFr yyES G K → yyV K.1 t 0 0 0 0 → xW e cd_274 Q (47, [(2, 183), (0, ru), (0, t), x3, x4, x5, x6], [], K) := by
      intro n
      induction n with
      | zero =>
        intro K t x3 x4 x5 x6 t0 t1 hn2 kT kX kF kV
        refine q_il (pc := 47) (i := 2) (x := t) rfl rfl ?_
        refine q_if (pc := 48) rfl (fun h48 => ?_) (fun h48 => ?_)
        · replace h48 : t < 0 := h48
          refine q_al (pc := 103) (i := 0) (x := 183) rfl rfl ?_
          refine q_il (pc := 104) (i := 1) (x := ru) rfl rfl ?_
          have kl := yyV_L kV h48
          have kf : K.1 183 22 = 1 := (kk K kF 22).trans gf
          have zc := ttPuT kT (ttFr_rf (true, [(183, 29, 29)]) K) (a := 183) (j := 29) (x := ru) (by decide) (fun _ _ => show (-2147483648 : Int) ≤ ru ∧ ru ≤ 2147483647 from ⟨ra, rb⟩) ⟨(183, 29, 29), by simp, ⟨⟨by decide, rfl⟩, by decide, by decide⟩⟩
          have zy : ttXX YY (xUp K.1 183 29 ru, K.2) := ⟨rm_fr zc.2 rfl kX.2.1 (by decide) kX.1, yySol kX.2 kf kl⟩
          have zz : ttFr (true, [(190, 0, 15), (191, 0, 4799), (192, 0, 7), (193, 0, 975), (195, 0, 93695), (196, 0, 93695), (197, 0, 93695), (198, 0, 7), (183, 22, 22), (183, 29, 29)]) H (xUp K.1 183 29 ru, K.2) := ttFr_tr (ttFr_tr gF kF (fun _ => rfl) (by decide)) zc.2 (fun _ => rfl) (by decide)
          refine q_pf (pc := 105) (m := 12290) (c := 29) rfl (show xPt 0 0 _ _ from (ttKc kT (a := 183) (κ := 12) (len := 0) ⟨rfl, rfl⟩ (by decide) (by decide)).1) rfl ?_
          refine q_rv (pc := 106) rfl ?_
          exact hQ _ zc.1 zy zz (show xUp K.1 183 29 ru 183 29 = ru from up_eq)
        · replace h48 : 0 ≤ t := h48
          omega
      | succ n ih =>
        intro K t x3 x4 x5 x6 t0 t1 hn2 kT kX kF kV
        refine q_il (pc := 47) (i := 2) (x := t) rfl rfl ?_
        refine q_if (pc := 48) rfl (fun h48 => ?_) (fun h48 => ?_)
        · replace h48 : t < 0 := h48
          refine q_al (pc := 103) (i := 0) (x := 183) rfl rfl ?_
          refine q_il (pc := 104) (i := 1) (x := ru) rfl rfl ?_
          have kl := yyV_L kV h48
          have kf : K.1 183 22 = 1 := (kk K kF 22).trans gf
          have zc := ttPuT kT (ttFr_rf (true, [(183, 29, 29)]) K) (a := 183) (j := 29) (x := ru) (by decide) (fun _ _ => show (-2147483648 : Int) ≤ ru ∧ ru ≤ 2147483647 from ⟨ra, rb⟩) ⟨(183, 29, 29), by simp, ⟨⟨by decide, rfl⟩, by decide, by decide⟩⟩
          have zy : ttXX YY (xUp K.1 183 29 ru, K.2) := ⟨rm_fr zc.2 rfl kX.2.1 (by decide) kX.1, yySol kX.2 kf kl⟩
          have zz : ttFr (true, [(190, 0, 15), (191, 0, 4799), (192, 0, 7), (193, 0, 975), (195, 0, 93695), (196, 0, 93695), (197, 0, 93695), (198, 0, 7), (183, 22, 22), (183, 29, 29)]) H (xUp K.1 183 29 ru, K.2) := ttFr_tr (ttFr_tr gF kF (fun _ => rfl) (by decide)) zc.2 (fun _ => rfl) (by decide)
          refine q_pf (pc := 105) (m := 12290) (c := 29) rfl (show xPt 0 0 _ _ from (ttKc kT (a := 183) (κ := 12) (len := 0) ⟨rfl, rfl⟩ (by decide) (by decide)).1) rfl ?_
          refine q_rv (pc := 106) rfl ?_
          exact hQ _ zc.1 zy zz (show xUp K.1 183 29 ru 183 29 = ru from up_eq)
        · replace h48 : 0 ≤ t := h48
          refine q_ic (pc := 49) (v := 0) rfl ?_
          refine q_is (pc := 50) (i := 3) (L' := [(2, 183), (0, ru), (0, t), (0, 0), x4, x5, x6]) rfl rfl rfl ?_
          exact hW t (by omega) (by omega) (fun K x3 x4 x5 x6 a b c d => ih K (t - 1) x3 x4 x5 x6 (by omega) (by omega) (by omega) a b c d) 2 K 0 _ _ _ (by decide) (by decide) (by decide) kT kX kF kV
    have hF : ∀ n : Nat, ∀ (K : xH) (p : Int) (x3 x4 x5 x6 : xV), 0 ≤ p → p ≤ 8 → 8 - p ≤ (n : Int) → ttTI K → ttXX YY K → ttFr yyES G K → xW e cd_274 Q (9, [(2, 183), (0, ru), (0, p), x3, x4, x5, x6], [], K) := by
      intro n
      induction n with
      | zero =>
        intro K p x3 x4 x5 x6 p0 p1 hn2 kT kX kF
        have z8 : 0 ≤ K.1 184 1 ∧ K.1 184 1 ≤ 8 := ttMc kT (a := 184) (j := 1) (by decide) (by decide) (by decide) (by decide)
        have z47 : 0 ≤ K.1 184 8 ∧ K.1 184 8 ≤ 47 := ttMc kT (a := 184) (j := 8) (by decide) (by decide) (by decide) (by decide)
        refine q_il (pc := 9) (i := 2) (x := p) rfl rfl ?_
        refine q_al (pc := 10) (i := 0) (x := 183) rfl rfl ?_
        refine q_gf (pc := 11) (m := 12012) (t := 2) (c := 1) rfl (ttKc kT (a := 183) (κ := 12) (len := 0) ⟨rfl, rfl⟩ (by decide) (by decide)).1 rfl rfl ?_
        rw [show K.1 183 1 = 184 from ttFx kT (by decide) (by decide) rfl rfl rfl]
        refine q_ic (pc := 12) (v := 1) rfl ?_
        refine q_ai (pc := 13) rfl (ttKc kT (a := 184) (κ := 20) (len := 196) ⟨rfl, rfl⟩ (by decide) (by decide)).1 (by omega) (by rw [(ttKc kT (a := 184) (κ := 20) (len := 196) ⟨rfl, rfl⟩ (by decide) (by decide)).2]; omega) ?_
        refine q_i2 (pc := 14) rfl (fun h14 => ?_) (fun h14 => ?_)
        · replace h14 : (K.1 184 1) ≤ p := h14
          refine q_al (pc := 42) (i := 0) (x := 183) rfl rfl ?_
          refine q_gf (pc := 43) (m := 12012) (t := 2) (c := 1) rfl (ttKc kT (a := 183) (κ := 12) (len := 0) ⟨rfl, rfl⟩ (by decide) (by decide)).1 rfl rfl ?_
          rw [show K.1 183 1 = 184 from ttFx kT (by decide) (by decide) rfl rfl rfl]
          refine q_ic (pc := 44) (v := 8) rfl ?_
          refine q_ai (pc := 45) rfl (ttKc kT (a := 184) (κ := 20) (len := 196) ⟨rfl, rfl⟩ (by decide) (by decide)).1 (by omega) (by rw [(ttKc kT (a := 184) (κ := 20) (len := 196) ⟨rfl, rfl⟩ (by decide) (by decide)).2]; omega) ?_
          refine q_is (pc := 46) (i := 2) (L' := [(2, 183), (0, ru), (0, (K.1 184 8)), x3, x4, x5, x6]) rfl rfl rfl ?_
          exact hU 48 K _ _ _ _ _ (by omega) (by omega) (by omega) kT kX kF (yyV_0 (Int.le_refl _))
        · replace h14 : p < (K.1 184 1) := h14
          omega
      | succ n ih =>
        intro K p x3 x4 x5 x6 p0 p1 hn2 kT kX kF
        have z8 : 0 ≤ K.1 184 1 ∧ K.1 184 1 ≤ 8 := ttMc kT (a := 184) (j := 1) (by decide) (by decide) (by decide) (by decide)
        have z47 : 0 ≤ K.1 184 8 ∧ K.1 184 8 ≤ 47 := ttMc kT (a := 184) (j := 8) (by decide) (by decide) (by decide) (by decide)
        refine q_il (pc := 9) (i := 2) (x := p) rfl rfl ?_
        refine q_al (pc := 10) (i := 0) (x := 183) rfl rfl ?_
        refine q_gf (pc := 11) (m := 12012) (t := 2) (c := 1) rfl (ttKc kT (a := 183) (κ := 12) (len := 0) ⟨rfl, rfl⟩ (by decide) (by decide)).1 rfl rfl ?_
        rw [show K.1 183 1 = 184 from ttFx kT (by decide) (by decide) rfl rfl rfl]
        refine q_ic (pc := 12) (v := 1) rfl ?_
        refine q_ai (pc := 13) rfl (ttKc kT (a := 184) (κ := 20) (len := 196) ⟨rfl, rfl⟩ (by decide) (by decide)).1 (by omega) (by rw [(ttKc kT (a := 184) (κ := 20) (len := 196) ⟨rfl, rfl⟩ (by decide) (by decide)).2]; omega) ?_
        refine q_i2 (pc := 14) rfl (fun h14 => ?_) (fun h14 => ?_)
        · replace h14 : (K.1 184 1) ≤ p := h14
          refine q_al (pc := 42) (i := 0) (x := 183) rfl rfl ?_
          refine q_gf (pc := 43) (m := 12012) (t := 2) (c := 1) rfl (ttKc kT (a := 183) (κ := 12) (len := 0) ⟨rfl, rfl⟩ (by decide) (by decide)).1 rfl rfl ?_
          rw [show K.1 183 1 = 184 from ttFx kT (by decide) (by decide) rfl rfl rfl]
          refine q_ic (pc := 44) (v := 8) rfl ?_
          refine q_ai (pc := 45) rfl (ttKc kT (a := 184) (κ := 20) (len := 196) ⟨rfl, rfl⟩ (by decide) (by decide)).1 (by omega) (by rw [(ttKc kT (a := 184) (κ := 20) (len := 196) ⟨rfl, rfl⟩ (by decide) (by decide)).2]; omega) ?_
          refine q_is (pc := 46) (i := 2) (L' := [(2, 183), (0, ru), (0, (K.1 184 8)), x3, x4, x5, x6]) rfl rfl rfl ?_
          exact hU 48 K _ _ _ _ _ (by omega) (by omega) (by omega) kT kX kF (yyV_0 (Int.le_refl _))
        · replace h14 : p < (K.1 184 1) := h14
          refine q_al (pc := 15) (i := 0) (x := 183) rfl rfl ?_
          refine q_gf (pc := 16) (m := 12302) (t := 2) (c := 30) rfl (ttKc kT (a := 183) (κ := 12) (len := 0) ⟨rfl, rfl⟩ (by decide) (by decide)).1 rfl rfl ?_
          rw [show K.1 183 30 = 198 from ttFx kT (by decide) (by decide) rfl rfl rfl]
          refine q_il (pc := 17) (i := 2) (x := p) rfl rfl ?_
          refine q_al (pc := 18) (i := 0) (x := 183) rfl rfl ?_
          refine q_al (pc := 19) (i := 0) (x := 183) rfl rfl ?_
          refine q_il (pc := 20) (i := 2) (x := p) rfl rfl ?_
          refine q_ic (pc := 21) (v := 3) rfl ?_
          have zp := pl_ty kT p0 (by omega : p ≤ 7)
          have zu := pu_ty kT p0 (by omega : p ≤ 7)
          have zn : 0 ≤ K.1 184 5 ∧ K.1 184 5 ≤ 999 := ttMc kT (a := 184) (j := 5) (by decide) (by decide) (by decide) (by decide)
          refine q_iv (pc := 22) (q := 1664972) rfl rfl rfl (ttKc kT (a := 183) (κ := 12) (len := 0) ⟨rfl, rfl⟩ (by decide) (by decide)).1 ?_
          refine lf_ofPlace (j := (23 + 8 * p)) (by omega) (by omega) kT (by omega) (by omega) (by omega) (by omega) ?_
          refine q_ic (pc := 23) (v := 1) rfl ?_
          refine q_i2 (pc := 24) rfl (fun h24 => ?_) (fun h24 => ?_)
          · replace h24 : (K.1 184 (23 + 8 * p)) ≠ 1 := h24
            refine q_ic (pc := 37) (v := 100) rfl ?_
            refine q_iv (pc := 38) (q := 2088968) rfl rfl rfl (ttKc kT (a := 183) (κ := 12) (len := 0) ⟨rfl, rfl⟩ (by decide) (by decide)).1 ?_
            refine hw_fastOf (ttXX_out yyStab (fun _ _ => trivial)) e (by show 1 ≤ e; omega) [(2, 183), (0, 100)] K kT kX ⟨⟨rfl, ttPk_of rfl⟩, ⟨rfl, ttPi_of (by omega) (by omega)⟩, trivial⟩ (fun _ hq => absurd hq List.not_mem_nil) _ (fun s G2 zT zX zF zr _ => ?_)
            replace zr : -1 ≤ s ∧ s ≤ 5 := by obtain ⟨p, hp, hr⟩ := zr; rw [List.mem_singleton.mp hp] at hr; exact ttPi hr
            replace zF := ttFr_tr kF zF (fun _ => rfl) rfl
            have zc := ttPut (ttXX_out yyStab (fun _ _ => trivial)) zT zX zF (a := 198) (j := p) (x := s) (by decide) (fun _ _ => ttTyr rfl (by omega) (by omega)) ⟨(198, 0, 7), by simp [yyES], ⟨⟨by decide, rfl⟩, by show (0 : Int) ≤ p; omega, by show p ≤ 7; omega⟩⟩ (ttMay_no (r := 198) rfl (by decide))
            refine q_si (pc := 39) rfl (by decide) (ttKc zT (a := 198) (κ := 20) (len := 8) ⟨rfl, rfl⟩ (by decide) (by decide)).1 (by omega) (by rw [(ttKc zT (a := 198) (κ := 20) (len := 8) ⟨rfl, rfl⟩ (by decide) (by decide)).2]; omega) ?_
            refine q_ii (pc := 40) (i := 2) (c := 1) (x := p) (L' := [(2, 183), (0, ru), (0, (p + 1)), x3, x4, x5, x6]) rfl rfl rfl (by omega) (by omega) rfl ?_
            refine q_go (pc := 41) rfl ?_
            exact ih _ (p + 1) _ _ _ _ (by omega) (by omega) (by omega) zc.1 zc.2.1 zc.2.2
          · replace h24 : (K.1 184 (23 + 8 * p)) = 1 := h24
            refine q_ic (pc := 25) (v := 1) rfl ?_
            refine q_al (pc := 26) (i := 0) (x := 183) rfl rfl ?_
            refine q_il (pc := 27) (i := 2) (x := p) rfl rfl ?_
            refine q_ic (pc := 28) (v := 5) rfl ?_
            refine q_iv (pc := 29) (q := 1664972) rfl rfl rfl (ttKc kT (a := 183) (κ := 12) (len := 0) ⟨rfl, rfl⟩ (by decide) (by decide)).1 ?_
            refine lf_ofPlace (j := (25 + 8 * p)) (by omega) (by omega) kT (by omega) (by omega) (by omega) (by omega) ?_
            refine q_al (pc := 30) (i := 0) (x := 183) rfl rfl ?_
            refine q_gf (pc := 31) (m := 12012) (t := 2) (c := 1) rfl (ttKc kT (a := 183) (κ := 12) (len := 0) ⟨rfl, rfl⟩ (by decide) (by decide)).1 rfl rfl ?_
            rw [show K.1 183 1 = 184 from ttFx kT (by decide) (by decide) rfl rfl rfl]
            refine q_ic (pc := 32) (v := 5) rfl ?_
            refine q_ai (pc := 33) rfl (ttKc kT (a := 184) (κ := 20) (len := 196) ⟨rfl, rfl⟩ (by decide) (by decide)).1 (by omega) (by rw [(ttKc kT (a := 184) (κ := 20) (len := 196) ⟨rfl, rfl⟩ (by decide) (by decide)).2]; omega) ?_
            refine q_ib (pc := 34) rfl (by omega) (by omega) ?_
            refine q_mx (pc := 35) rfl rfl (by omega) ?_
            refine q_go (pc := 36) rfl ?_
            refine q_iv (pc := 38) (q := 2088968) rfl rfl rfl (ttKc kT (a := 183) (κ := 12) (len := 0) ⟨rfl, rfl⟩ (by decide) (by decide)).1 ?_
            refine hw_fastOf (ttXX_out yyStab (fun _ _ => trivial)) e (by show 1 ≤ e; omega) [(2, 183), (0, (max 1 ((K.1 184 (25 + 8 * p)) - (K.1 184 5))))] K kT kX ⟨⟨rfl, ttPk_of rfl⟩, ⟨rfl, ttPi_of (by omega) (by omega)⟩, trivial⟩ (fun _ hq => absurd hq List.not_mem_nil) _ (fun s G2 zT zX zF zr _ => ?_)
            replace zr : -1 ≤ s ∧ s ≤ 5 := by obtain ⟨p, hp, hr⟩ := zr; rw [List.mem_singleton.mp hp] at hr; exact ttPi hr
            replace zF := ttFr_tr kF zF (fun _ => rfl) rfl
            have zc := ttPut (ttXX_out yyStab (fun _ _ => trivial)) zT zX zF (a := 198) (j := p) (x := s) (by decide) (fun _ _ => ttTyr rfl (by omega) (by omega)) ⟨(198, 0, 7), by simp [yyES], ⟨⟨by decide, rfl⟩, by show (0 : Int) ≤ p; omega, by show p ≤ 7; omega⟩⟩ (ttMay_no (r := 198) rfl (by decide))
            refine q_si (pc := 39) rfl (by decide) (ttKc zT (a := 198) (κ := 20) (len := 8) ⟨rfl, rfl⟩ (by decide) (by decide)).1 (by omega) (by rw [(ttKc zT (a := 198) (κ := 20) (len := 8) ⟨rfl, rfl⟩ (by decide) (by decide)).2]; omega) ?_
            refine q_ii (pc := 40) (i := 2) (c := 1) (x := p) (L' := [(2, 183), (0, ru), (0, (p + 1)), x3, x4, x5, x6]) rfl rfl rfl (by omega) (by omega) rfl ?_
            refine q_go (pc := 41) rfl ?_
            exact ih _ (p + 1) _ _ _ _ (by omega) (by omega) (by omega) zc.1 zc.2.1 zc.2.2
    intro K kT kX kF
    exact hF 8 K 0 _ _ _ _ (by decide) (by decide) (by decide) kT kX kF
  refine xC_of (L := [(2, 183), (0, ru), (9, 0), (9, 0), (9, 0), (9, 0), (9, 0)]) (cd := cd_274) rfl rfl rfl ?_
  refine q_al (pc := 0) (i := 0) (x := 183) rfl rfl ?_
  refine q_gf (pc := 1) (m := 12290) (t := 0) (c := 29) rfl (ttKc hT (a := 183) (κ := 12) (len := 0) ⟨rfl, rfl⟩ (by decide) (by decide)).1 rfl rfl ?_
  refine q_il (pc := 2) (i := 1) (x := ru) rfl rfl ?_
  refine q_i2 (pc := 3) rfl (fun h3 => ?_) (fun h3 => ?_)
  · replace h3 : (H.1 183 29) ≠ ru := h3
    refine q_al (pc := 5) (i := 0) (x := 183) rfl rfl ?_
    refine q_iv (pc := 6) (q := 2000967) rfl rfl rfl (ttKc hT (a := 183) (κ := 12) (len := 0) ⟨rfl, rfl⟩ (by decide) (by decide)).1 ?_
    refine lf_laysWays (by omega) hT hX (fun G gT gX gF gf _ => ?_)
    refine q_ic (pc := 7) (v := 0) rfl ?_
    refine q_is (pc := 8) (i := 2) (L' := [(2, 183), (0, ru), (0, 0), (9, 0), (9, 0), (9, 0), (9, 0)]) rfl rfl rfl ?_
    exact hG G (by have := gT.1; omega) (ttFr_tr (ttFr_rf _ H) gF (fun _ => rfl) (by decide)) gf G gT gX (ttFr_rf _ G)
  · replace h3 : (H.1 183 29) = ru := h3
    refine q_rv (pc := 4) rfl ?_
    exact hQ H hT hX (ttFr_rf _ H) h3
theorem hm_solves : ttHas (ttXX YY) m_solves := by
  intro dd hdd vs H hT hX ha _ Q hQ
  obtain ⟨x1, vs, rfl, e1, ha⟩ := ttV1 ha
  obtain ⟨x2, vs, rfl, e2, ha⟩ := ttV1 ha
  cases ttV0 ha
  cases ttPk e1
  have e2 := ttPi e2
  exact lf_solves (Nat.le_trans (by decide) hdd) hT hX e2.1 e2.2 (fun K kT kX kF _ => hQ 0 K kT kX kF ⟨_, List.mem_cons_self, ttPk_of rfl⟩ (fun q hq => absurd hq List.not_mem_nil))
