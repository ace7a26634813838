/-! two runs of one call; how a text ends -/
def xBo (call : xCallT) : Prop := ∀ j as H F G, call j as H F → call j as H G → ∃ r K, F r K ∧ G r K
theorem xWp_both {d : Nat} {call : xCallT} (hb : xBo call) {code : List Instr} {Q1 Q2 : Int → xH → Prop} : ∀ (n n2 pc : Nat) (L st : List xV) (H : xH), xWp d call code Q1 n pc L st H → xWp d call code Q2 n2 pc L st H → ∃ r K, Q1 r K ∧ Q2 r K := by
  intro n
  induction n with
  | zero => intro n2 pc L st H h _; exact absurd h id
  | succ n ih =>
    intro n2 pc L st H h g
    cases n2 with
    | zero => exact absurd g id
    | succ n2 =>
      have step : ∀ o : xO, xGo call (fun s => xWp d call code Q1 n s.1 s.2.1 s.2.2.1 s.2.2.2) Q1 o → xGo call (fun s => xWp d call code Q2 n2 s.1 s.2.1 s.2.2.1 s.2.2.2) Q2 o → ∃ r K, Q1 r K ∧ Q2 r K := by
        intro o h g
        match o, h, g with
        | .inl s, h, g => exact ih _ _ _ _ _ h g
        | .inr (.inl (p, s)), h, g => exact ih _ _ _ _ _ h.2 g.2
        | .inr (.inr (.inl (c, x, y, s, t))), h, g =>
          rcases xT_or c x y with q | q
          · exact ih _ _ _ _ _ (h.1 q) (g.1 q)
          · exact ih _ _ _ _ _ (h.2 q) (g.2 q)
        | .inr (.inr (.inr (.inl (p, j, as, H1, f)))), h, g =>
          have h4 : call j as H1 (fun x H2 => xWp d call code Q1 n (f x H2).1 (f x H2).2.1 (f x H2).2.2.1 (f x H2).2.2.2) := h.2
          have g4 : call j as H1 (fun x H2 => xWp d call code Q2 n2 (f x H2).1 (f x H2).2.1 (f x H2).2.2.1 (f x H2).2.2.2) := g.2
          obtain ⟨r, K, q1, q2⟩ := hb j as H1 _ _ h4 g4
          exact ih _ _ _ _ _ q1 q2
        | .inr (.inr (.inr (.inr (.inl (p, x, H1))))), h, g => exact ⟨x, H1, h.2, g.2⟩
        | .inr (.inr (.inr (.inr (.inr (x, lo, ts, t))))), h, g =>
          by_cases q : x < lo ∨ lo + (ts.length : Int) ≤ x
          · exact ih _ _ _ _ _ (h.2 q) (g.2 q)
          · have hl : (x - lo).toNat < ts.length := by omega
            have hu : ts[(x - lo).toNat]? = some (ts[(x - lo).toNat]) := List.getElem?_eq_getElem hl
            exact ih _ _ _ _ _ (xSw_get _ _ hu (by omega) h.1) (xSw_get _ _ hu (by omega) g.1)
      exact step _ h g
theorem xCall_both : ∀ d : Nat, xBo (xCall d)
  | 0 => fun _ _ _ _ _ h _ => absurd h id
  | d + 1 => fun j as H F G h g => by
    obtain ⟨_, n, h⟩ := h
    obtain ⟨_, m, g⟩ := g
    exact xWp_both (xCall_both d) n m _ _ _ _ h g
theorem xCall_and {d j : Nat} {as : List xV} {H : xH} {F G Q : Int → xH → Prop} (h : xCall d j as H F) (g : xCall d j as H G) (hq : ∀ r K, F r K → G r K → Q r K) : xCall d j as H Q := by
  obtain ⟨r, K, k1, -, k3⟩ := (xCall_md d).2 _ _ _ _ h
  obtain ⟨ujr2, ujK2, ⟨rfl, rfl⟩, k4⟩ := xCall_both d _ _ _ _ _ k3 g
  exact (xCall_md d).1 _ _ _ _ _ (fun x M z => by rw [z.1, z.2]; exact hq _ _ k1 k4) k3
theorem sNx_m {T : tSm} {i : Int} : i ≤ sNx T i := by unfold sNx; split <;> omega
theorem sEr_m {T : tSm} {S : tSa} {k : Int} : S.1 ≤ (sEr T S k).1 := by rw [sEr_at]; exact Int.le_refl _
theorem sNd_m {T : tSm} {S : tSa} {s : Int} : S.1 ≤ (sNd T S s).1 := by
  unfold sNd
  (repeat' split)
  · exact sNx_m
  · exact sEr_m
  · exact Int.le_refl _
theorem sNm_m {T : tSm} {S : tSa} {l h : Int} : S.1 ≤ (sNm T S l h).2.1 := by
  unfold sNm
  (repeat' split)
  · exact sNx_m
  · exact sEr_m
  · exact sEr_m
  · exact Int.le_refl _
theorem sTk_m {T : tSm} {S : tSa} {s : Int} : S.1 ≤ (sTk T S s).2.1 := by
  unfold sTk
  split
  · exact sNx_m
  · exact Int.le_refl _
theorem sSg_m {T : tSm} {S : tSa} {h : Int} : S.1 ≤ (sSg T S h).2.1 := by
  unfold sSg
  split
  · exact Int.le_trans sNm_m sTk_m
  · exact sNm_m
theorem zPn_m {T : tSm} {l h k : Int} {Z : tZ} : Z.1.1 ≤ (zPn T l h k Z).1.1 := sNm_m (T := T) (S := Z.1)
theorem zPt_m {T : tSm} {s l h k : Int} {Z : tZ} : Z.1.1 ≤ (zPt T s l h k Z).1.1 := Int.le_trans (sNd_m (T := T) (S := Z.1) (s := s)) sNm_m
theorem zPs_m {T : tSm} {h k : Int} {Z : tZ} : Z.1.1 ≤ (zPs T h k Z).1.1 := sSg_m (T := T) (S := Z.1)
theorem zNd_m {T : tSm} {s : Int} {Z : tZ} : Z.1.1 ≤ (zNd T s Z).1.1 := sNd_m (T := T) (S := Z.1)
theorem zTk_m {T : tSm} {s : Int} {Z : tZ} : Z.1.1 ≤ (zTk T s Z).1.1 := sTk_m (T := T) (S := Z.1)
theorem zNm_m {T : tSm} {l h : Int} {Z : tZ} : Z.1.1 ≤ (zNm T l h Z).1.1 := sNm_m (T := T) (S := Z.1)
theorem zTd_m {T : tSm} {s l h : Int} {Z : tZ} : Z.1.1 ≤ (zTd T s l h Z).1.1 := Int.le_trans (zNd_m (s := s)) zNm_m
theorem zPl1_m {T : tSm} {Z : tZ} : Z.1.1 ≤ (zPl1 T Z).1.1 := Int.le_trans (sNd_m (T := T) (S := Z.1) (s := -13)) sNm_m
theorem zPl2_m {T : tSm} {k : Int} {Z : tZ} : Z.1.1 ≤ (zPl2 T k Z).1.1 := sNm_m (T := T) (S := Z.1)
theorem zHm_m {T : tSm} {Z : tZ} : Z.1.1 ≤ (zHm T Z).1.1 := by
  unfold zHm
  split
  · exact Int.le_refl _
  · exact sEr_m (T := T) (S := Z.1)
theorem zGo_m {T : tSm} {Z : tZ} : Z.1.1 ≤ (zGo T Z).1.1 := by
  unfold zGo
  split
  · exact sNx_m (T := T)
  · exact Int.le_refl _
theorem zPl_m {T : tSm} {Z : tZ} : Z.1.1 ≤ (zPl T Z).1.1 := by
  unfold zPl
  split
  · exact Int.le_trans zPl1_m (Int.le_trans (zTk_m (s := -15)) zPl2_m)
  · split
    · exact Int.le_trans zPl1_m (Int.le_trans zHm_m zGo_m)
    · exact zPl1_m
theorem zBl_m {T : tSm} {k : Int} {Z : tZ} : Z.1.1 ≤ (zBl T k Z).1.1 := by
  unfold zBl
  split
  · exact sEr_m (T := T) (S := Z.1)
  · exact Int.le_refl _
theorem zLa_m {T : tSm} {k : Int} {Z : tZ} : Z.1.1 ≤ (zLa T k Z).1.1 := Int.le_trans (zPn_m (T := T) (l := 0) (h := Z.2.1 1 - 1) (k := k + 1)) (Int.le_trans (zNd_m (s := -16)) (Int.le_trans (zPn_m (l := 1) (h := 60) (k := k + 2)) (Int.le_trans (zNd_m (s := -17)) zPs_m)))
theorem zLb_m {T : tSm} {k : Int} {Z : tZ} : Z.1.1 ≤ (zLb T k Z).1.1 := Int.le_trans (zNd_m (T := T) (s := -19)) zPs_m
theorem zLc_m {T : tSm} {k : Int} {Z : tZ} : Z.1.1 ≤ (zLc T k Z).1.1 := by
  unfold zLc
  split
  · exact Int.le_trans (zTk_m (s := -20)) zPn_m
  · exact Int.le_refl _
theorem zLe_m {T : tSm} {Z : tZ} : Z.1.1 ≤ (zLe T Z).1.1 := Int.le_trans (zPn_m (T := T) (l := 0) (h := Z.2.1 1 - 1) (k := 84 + 6 * Z.2.1 2)) (Int.le_trans (zBl_m (k := 84 + 6 * Z.2.1 2)) (Int.le_trans (zLa_m (k := 84 + 6 * Z.2.1 2)) (Int.le_trans (zLb_m (k := 84 + 6 * Z.2.1 2)) zLc_m)))
theorem zBf_m {T : tSm} {Z : tZ} : Z.1.1 ≤ (zBf T Z).1.1 := by
  unfold zBf
  split
  · exact sEr_m (T := T) (S := Z.1)
  · exact Int.le_refl _
theorem zLi1_m {T : tSm} {q c u : Int} {Z : tZ} : Z.1.1 ≤ (zLi1 T q c u Z).1.1 := by
  unfold zLi1 zLi2
  (repeat' split)
  · exact Int.le_trans (sTk_m (T := T) (S := Z.1) (s := -23)) (Int.le_trans sNm_m sNm_m)
  · exact Int.le_refl _
  · exact Int.le_refl _
theorem zPq_m {T : tSm} {Z : tZ} : Z.1.1 ≤ (zPq T Z).1.1 := zNm_m (T := T)
theorem zLi_m {T : tSm} {Z : tZ} : Z.1.1 ≤ (zLi T Z).1.1 := Int.le_trans zBf_m (Int.le_trans zPq_m (Int.le_trans (zTd_m (s := -21) (l := 0) (h := 100)) (Int.le_trans (zTd_m (s := -22) (l := 0) (h := 2000)) zLi1_m)))
theorem zBp_m {T : tSm} {Z : tZ} : Z.1.1 ≤ (zBp T Z).1.1 := by
  unfold zBp
  split
  · exact sEr_m (T := T) (S := Z.1)
  · exact Int.le_refl _
theorem zPo1_m {p : Int} {Z : tZ} : Z.1.1 ≤ (zPo1 p Z).1.1 := by
  unfold zPo1
  split <;> exact Int.le_refl _
theorem zPo_m {T : tSm} {Z : tZ} : Z.1.1 ≤ (zPo T Z).1.1 := Int.le_trans zBp_m (Int.le_trans zPq_m zPo1_m)
theorem zSt1_m {p h : Int} {Z : tZ} : Z.1.1 ≤ (zSt1 p h Z).1.1 := by
  unfold zSt1
  split <;> exact Int.le_refl _
theorem zSt_m {T : tSm} {Z : tZ} : Z.1.1 ≤ (zSt T Z).1.1 := Int.le_trans zPq_m (Int.le_trans (zTd_m (s := -27) (l := 0) (h := 60)) (Int.le_trans (zTk_m (s := -28)) zSt1_m))
theorem zSp_m {T : tSm} {Z : tZ} : Z.1.1 ≤ (zSp T Z).1.1 := Int.le_trans (zPn_m (T := T) (l := 20) (h := 150) (k := 144 + 2 * Z.2.1 3)) (zPt_m (s := -24) (l := 1) (h := 999) (k := 144 + 2 * Z.2.1 3 + 1))
theorem zOn_m {T : tSm} {k : Int} {Z : tZ} : (zOn0 T k Z).1.1 ≤ (zOn T k Z).1.1 := by
  unfold zOn
  (repeat' split)
  · exact zPn_m
  · exact zPn_m
  · exact zPn_m
  · exact zPn_m
  · exact Int.le_trans zPt_m (Int.le_trans zPt_m zPt_m)
  · exact zSt_m
theorem zE1_2 {T : tSm} {Z : tZ} : (zE1 T Z).2 = Z.2 ∧ (zE1 T Z).1.1 = Z.1.1 := by
  unfold zE1
  split
  · exact ⟨rfl, sEr_at⟩
  · exact ⟨rfl, rfl⟩
theorem zGo_2 {T : tSm} {Z : tZ} : (zGo T Z).2 = Z.2 := by unfold zGo; split <;> rfl
theorem zEd_r {T : tSm} {Z : tZ} : (zEd T Z).2.1 = sUp Z.2.1 0 (Z.2.1 0 + 1) := by
  have e : (zGo T (zE1 T Z)).2 = Z.2 := zGo_2.trans zE1_2.1
  show sUp (zGo T (zE1 T Z)).2.1 0 ((zGo T (zE1 T Z)).2.1 0 + 1) = _
  rw [e]
theorem zEd_m {T : tSm} {Z : tZ} : Z.1.1 ≤ (zEd T Z).1.1 := Int.le_trans (Int.le_of_eq zE1_2.2.symm) (zGo_m (T := T) (Z := zE1 T Z))
theorem sNx_s {T : tSm} {n i : Int} (hO : sOk T n) (i1 : i < T.2.2.2.2) (h : T.2.1 i ≠ 0) : sNx T i = i + 1 := by
  have w : T.2.1 (T.2.2.2.2 - 1) = 0 := hO.2.2.2
  have u : i ≠ T.2.2.2.2 - 1 := fun z => h (by rw [z]; exact w)
  exact if_pos (by omega)
theorem zBd_m {T : tSm} {n : Int} {Z : tZ} (hO : sOk T n) (i1 : Z.1.1 < T.2.2.2.2) (h : T.2.1 Z.1.1 ≠ 0) : Z.1.1 + 1 ≤ (zBd T Z).1.1 := by
  have e := sNx_s hO i1 h
  have t : ∀ {s : Int}, (sTk T Z.1 s).1 = true → Z.1.1 + 1 ≤ (zTk T s Z).1.1 := fun {s} u => by
    show Z.1.1 + 1 ≤ (sTk T Z.1 s).2.1
    rw [sTk_tt (sTk_t u)]
    exact Int.le_of_eq e.symm
  unfold zBd
  split
  · exact Int.le_trans (show Z.1.1 + 1 ≤ (zOn0 T (oH T Z) Z).1.1 from Int.le_of_eq e.symm) zOn_m
  · split
    · rename_i u; exact Int.le_trans (t u) zPl_m
    · split
      · rename_i u; exact Int.le_trans (t u) zLe_m
      · split
        · rename_i u; exact Int.le_trans (t u) zLi_m
        · split
          · rename_i u; exact Int.le_trans (t u) zSp_m
          · exact Int.le_trans (show Z.1.1 + 1 ≤ (zNx T Z).1.1 from Int.le_of_eq e.symm) zPo_m
/-- lines go on at Z -/
def zGng (T : tSm) (Z : tZ) : Prop := Z.1.2.1 = 0 ∧ T.2.1 Z.1.1 ≠ 0
noncomputable def zIt (T : tSm) : Nat → tZ → tZ
  | 0, Z => Z
  | k + 1, Z => zIt T k (zLn T Z)
/-- the lines from Z on end at E -/
def zEnd (T : tSm) (Z E : tZ) : Prop := ∃ k : Nat, E = zIt T k Z ∧ (∀ i : Nat, i < k → zGng T (zIt T i Z)) ∧ ¬ zGng T E
theorem zEnd_0 {T : tSm} {Z : tZ} (h : ¬ zGng T Z) : zEnd T Z Z := ⟨0, rfl, fun i z => absurd z (Nat.not_lt_zero i), h⟩
theorem zEnd_s {T : tSm} {Z E : tZ} (g : zGng T Z) (h : zEnd T (zLn T Z) E) : zEnd T Z E := by
  obtain ⟨k, k1, k2, k3⟩ := h
  refine ⟨k + 1, k1, fun i hi => ?_, k3⟩
  cases i with
  | zero => exact g
  | succ i => exact k2 i (by omega)
theorem zEnd_u {T : tSm} {Z E E2 : tZ} (h : zEnd T Z E) (h2 : zEnd T Z E2) : E = E2 := by
  obtain ⟨k, k1, k2, k3⟩ := h
  obtain ⟨m, m1, m2, m3⟩ := h2
  have e : k = m := by
    rcases Nat.lt_trichotomy k m with z | z | z
    · exact absurd (m2 k z) (by rw [← k1]; exact k3)
    · exact z
    · exact absurd (k2 m z) (by rw [← m1]; exact m3)
  rw [k1, m1, e]
theorem zLn_ok {T : tSm} {Z : tZ} (hf : (zLn T Z).1.2.1 = 0) : zKn T Z ∧ ¬ zTw T Z ∧ ¬ zFu T Z ∧ zLn T Z = zEd T (zBd T Z) := by
  by_cases k : zKn T Z
  · by_cases t : zTw T Z
    · have e : zLn T Z = zEr T 2 Z := (if_neg (fun z => z k)).trans (if_pos t)
      rw [e] at hf
      exact absurd hf (sEr_k (by decide))
    · by_cases f : zFu T Z
      · have e : zLn T Z = zEr T 3 Z := (if_neg (fun z => z k)).trans ((if_neg t).trans (if_pos f))
        rw [e] at hf
        exact absurd hf (sEr_k (by decide))
      · exact ⟨k, t, f, (if_neg (fun z => z k)).trans ((if_neg t).trans (if_neg f))⟩
  · have e : zLn T Z = zEr T 1 Z := if_pos k
    rw [e] at hf
    exact absurd hf (sEr_k (by decide))
theorem zLn_m {T : tSm} {n : Int} {Z : tZ} (hO : sOk T n) (i1 : Z.1.1 < T.2.2.2.2) (h : T.2.1 Z.1.1 ≠ 0) (hf : (zLn T Z).1.2.1 = 0) : Z.1.1 + 1 ≤ (zLn T Z).1.1 := by
  rw [(zLn_ok hf).2.2.2]
  exact Int.le_trans (zBd_m hO i1 h) zEd_m
theorem zKn_c {T : tSm} {Z : tZ} (hg : Z.1.2.1 = 0) (hk : zKn T Z) : ∃ c : Int, (0 ≤ c ∧ c ≤ 10) ∧ sW T Z.1.1 (-2 - c) = true := by
  refine Classical.byContradiction (fun no => ?_)
  have nn : ∀ s : Int, -12 ≤ s → s ≤ -2 → ¬ sI T Z s := fun s s0 s1 z => no ⟨-2 - s, ⟨by omega, by omega⟩, by rw [show -2 - (-2 - s) = s from by omega]; exact z.2⟩
  have eo : oH T Z = -1 := (if_neg (nn (-7) (by decide) (by decide))).trans ((if_neg (nn (-8) (by decide) (by decide))).trans ((if_neg (nn (-9) (by decide) (by decide))).trans ((if_neg (nn (-10) (by decide) (by decide))).trans ((if_neg (nn (-11) (by decide) (by decide))).trans (if_neg (nn (-12) (by decide) (by decide)))))))
  rcases hk eo with u | u | u | u | u
  · exact nn _ (by decide) (by decide) u
  · exact nn _ (by decide) (by decide) u
  · exact nn _ (by decide) (by decide) u
  · exact nn _ (by decide) (by decide) u
  · exact nn _ (by decide) (by decide) u
theorem zPo_15b {T : tSm} {Z : tZ} (h8 : Z.2.1 1 ≤ 8) : (zPo T Z).2.1 15 = Z.2.1 15 ∨ ∃ p : Int, (0 ≤ p ∧ p ≤ 7) ∧ (zPo T Z).2.1 15 = xOr (Z.2.1 15) (xShl 1 p) := by
  have e : (zBp T Z).2.1 = Z.2.1 := by unfold zBp; split <;> rfl
  have v : 0 ≤ vPq T (zBp T Z) ∧ vPq T (zBp T Z) ≤ 7 := by
    have w := sNm_v (T := T) (S := (zBp T Z).1) (lo := 0) (hi := (zBp T Z).2.1 1 - 1)
    rw [e] at w
    unfold vPq
    rw [e]
    omega
  unfold zPo zPo1
  split
  · refine Or.inr ⟨_, v, ?_⟩
    show sUp (zBp T Z).2.1 15 (xOr ((zBp T Z).2.1 15) _) 15 = _
    rw [sUp_eq, e]
  · exact Or.inl (by show (zBp T Z).2.1 15 = _; rw [e])
theorem zRw_ln {T : tSm} {Z : tZ} (hw : zRw Z) (hg : Z.1.2.1 = 0) (hf : (zLn T Z).1.2.1 = 0) (h1 : 0 ≤ (zLn T Z).2.1 1 ∧ (zLn T Z).2.1 1 ≤ 8) (h2 : 0 ≤ (zLn T Z).2.1 2 ∧ (zLn T Z).2.1 2 ≤ 10) (h3 : 0 ≤ (zLn T Z).2.1 3 ∧ (zLn T Z).2.1 3 ≤ 6) : zRw (zLn T Z) := by
  obtain ⟨k1, k2, k3, k4⟩ := zLn_ok hf
  have er : (zLn T Z).2.1 = sUp (zBd T Z).2.1 0 ((zBd T Z).2.1 0 + 1) := by rw [k4]; exact zEd_r
  have w6 := hw.2.2.2.2.2
  have w5 := hw.2.2.2.2.1
  have hb : (zBd T Z).2.1 0 = Z.2.1 0 ∧ ((0 ≤ (zBd T Z).2.1 15 ∧ (zBd T Z).2.1 15 ≤ 255) ∧ yyP ((zBd T Z).2.1 15) ≤ 3) ∧ (0 ≤ (zBd T Z).2.1 16 ∧ (zBd T Z).2.1 16 ≤ 63) := by
    obtain ⟨c, ⟨c0, c1⟩, hc⟩ := zKn_c hg k1
    obtain rfl | rfl | rfl | rfl | rfl | rfl | rfl | rfl | rfl | rfl | rfl : c = 0 ∨ c = 1 ∨ c = 2 ∨ c = 3 ∨ c = 4 ∨ c = 5 ∨ c = 6 ∨ c = 7 ∨ c = 8 ∨ c = 9 ∨ c = 10 := by omega
    · have z := zk_0 hg hc
      rw [z.2.1]
      rw [show (zPl T (zNx T Z)).2.1 0 = Z.2.1 0 from zPl_0, show (zPl T (zNx T Z)).2.1 15 = Z.2.1 15 from zPl_15, show (zPl T (zNx T Z)).2.1 16 = Z.2.1 16 from zPl_16]
      exact ⟨rfl, w5, w6⟩
    · have z := zk_1 hg hc
      rw [z.2.1]
      rw [show (zLe T (zNx T Z)).2.1 0 = Z.2.1 0 from zLe_0 (T := T) (Z := zNx T Z) hw.2.2.1.1, show (zLe T (zNx T Z)).2.1 15 = Z.2.1 15 from zLe_15 (T := T) (Z := zNx T Z) hw.2.2.1.1, show (zLe T (zNx T Z)).2.1 16 = Z.2.1 16 from zLe_16 (T := T) (Z := zNx T Z) hw.2.2.1.1]
      exact ⟨rfl, w5, w6⟩
    · have z := zk_2 hg hc
      rw [z.2.1]
      rw [show (zLi T (zNx T Z)).2.1 0 = Z.2.1 0 from zLi_0, show (zLi T (zNx T Z)).2.1 15 = Z.2.1 15 from zLi_15, show (zLi T (zNx T Z)).2.1 16 = Z.2.1 16 from zLi_16]
      exact ⟨rfl, w5, w6⟩
    · have z := zk_3 hg hc
      rw [z.2.1]
      rw [show (zSp T (zNx T Z)).2.1 0 = Z.2.1 0 from zSp_0 (T := T) (Z := zNx T Z) hw.2.2.2.1.1, show (zSp T (zNx T Z)).2.1 15 = Z.2.1 15 from zSp_15 (T := T) (Z := zNx T Z) hw.2.2.2.1.1, show (zSp T (zNx T Z)).2.1 16 = Z.2.1 16 from zSp_16 (T := T) (Z := zNx T Z) hw.2.2.2.1.1]
      exact ⟨rfl, w5, w6⟩
    · have z := zk_4 hg hc
      rw [z.2.1]
      rw [show (zPo T (zNx T Z)).2.1 0 = Z.2.1 0 from zPo_0, show (zPo T (zNx T Z)).2.1 16 = Z.2.1 16 from zPo_16]
      refine ⟨rfl, ?_, w6⟩
      have p3 : yyP (Z.2.1 15) ≠ 3 := fun u => k3 (z.2.2.mpr (Or.inr (Or.inr (Or.inr (Or.inr ⟨rfl, u⟩)))))
      rcases zPo_15b (T := T) (Z := zNx T Z) hw.2.1.2 with u | ⟨p, ⟨p0, p1⟩, u⟩
      · rw [u]; exact w5
      · have o2 := pt_or2 w5.1.1 w5.1.2 p0 p1
        rw [u]
        show (0 ≤ xOr (Z.2.1 15) (xShl 1 p) ∧ xOr (Z.2.1 15) (xShl 1 p) ≤ 255) ∧ yyP (xOr (Z.2.1 15) (xShl 1 p)) ≤ 3
        have w53 := w5.2
        exact ⟨⟨o2.1, o2.2.1⟩, by omega⟩
    · have z := zk_5 hg hc
      rw [z.2.1]
      have e16 : (zOn T 0 Z).2.1 16 = xOr (Z.2.1 16) (xShl 1 0) := (show (zPn T 0 999 5 (zOn0 T 0 Z)).2.1 16 = _ from (zPn_16 (by decide)).trans (show sUp Z.2.1 16 (xOr (Z.2.1 16) (xShl 1 0)) 16 = _ from sUp_eq))
      rw [show (zOn T 0 Z).2.1 0 = Z.2.1 0 from zOn_0 (by decide), show (zOn T 0 Z).2.1 15 = Z.2.1 15 from zOn_15 (by decide), e16]
      exact ⟨rfl, w5, od_or2 w6.1 w6.2 (by decide) (by decide)⟩
    · have z := zk_6 hg hc
      rw [z.2.1]
      have e16 : (zOn T 1 Z).2.1 16 = xOr (Z.2.1 16) (xShl 1 1) := (show (zPn T 0 50 6 (zOn0 T 1 Z)).2.1 16 = _ from (zPn_16 (by decide)).trans (show sUp Z.2.1 16 (xOr (Z.2.1 16) (xShl 1 1)) 16 = _ from sUp_eq))
      rw [show (zOn T 1 Z).2.1 0 = Z.2.1 0 from zOn_0 (by decide), show (zOn T 1 Z).2.1 15 = Z.2.1 15 from zOn_15 (by decide), e16]
      exact ⟨rfl, w5, od_or2 w6.1 w6.2 (by decide) (by decide)⟩
    · have z := zk_7 hg hc
      rw [z.2.1]
      have e16 : (zOn T 2 Z).2.1 16 = xOr (Z.2.1 16) (xShl 1 2) := (show (zPn T 31 60 7 (zOn0 T 2 Z)).2.1 16 = _ from (zPn_16 (by decide)).trans (show sUp Z.2.1 16 (xOr (Z.2.1 16) (xShl 1 2)) 16 = _ from sUp_eq))
      rw [show (zOn T 2 Z).2.1 0 = Z.2.1 0 from zOn_0 (by decide), show (zOn T 2 Z).2.1 15 = Z.2.1 15 from zOn_15 (by decide), e16]
      exact ⟨rfl, w5, od_or2 w6.1 w6.2 (by decide) (by decide)⟩
    · have z := zk_8 hg hc
      rw [z.2.1]
      have e16 : (zOn T 3 Z).2.1 16 = xOr (Z.2.1 16) (xShl 1 3) := (show (zPn T 1 47 8 (zOn0 T 3 Z)).2.1 16 = _ from (zPn_16 (by decide)).trans (show sUp Z.2.1 16 (xOr (Z.2.1 16) (xShl 1 3)) 16 = _ from sUp_eq))
      rw [show (zOn T 3 Z).2.1 0 = Z.2.1 0 from zOn_0 (by decide), show (zOn T 3 Z).2.1 15 = Z.2.1 15 from zOn_15 (by decide), e16]
      exact ⟨rfl, w5, od_or2 w6.1 w6.2 (by decide) (by decide)⟩
    · have z := zk_9 hg hc
      rw [z.2.1]
      have e16 : (zOn T 4 Z).2.1 16 = xOr (Z.2.1 16) (xShl 1 4) := (show (zPt T (-26) 0 9999 11 (zPt T (-25) 0 99 10 (zPt T (-14) 0 9999 9 (zOn0 T 4 Z)))).2.1 16 = _ from ((zPt_16 (by decide)).trans ((zPt_16 (by decide)).trans (zPt_16 (by decide)))).trans (show sUp Z.2.1 16 (xOr (Z.2.1 16) (xShl 1 4)) 16 = _ from sUp_eq))
      rw [show (zOn T 4 Z).2.1 0 = Z.2.1 0 from zOn_0 (by decide), show (zOn T 4 Z).2.1 15 = Z.2.1 15 from zOn_15 (by decide), e16]
      exact ⟨rfl, w5, od_or2 w6.1 w6.2 (by decide) (by decide)⟩
    · have z := zk_10 hg hc
      rw [z.2.1]
      have e16 : (zOn T 5 Z).2.1 16 = xOr (Z.2.1 16) (xShl 1 5) := (show (zSt T (zOn0 T 5 Z)).2.1 16 = _ from (zSt_16).trans (show sUp Z.2.1 16 (xOr (Z.2.1 16) (xShl 1 5)) 16 = _ from sUp_eq))
      rw [show (zOn T 5 Z).2.1 0 = Z.2.1 0 from zOn_0 (by decide), show (zOn T 5 Z).2.1 15 = Z.2.1 15 from zOn_15 (by decide), e16]
      exact ⟨rfl, w5, od_or2 w6.1 w6.2 (by decide) (by decide)⟩
  have n60 : Z.2.1 0 ≠ 60 := fun z => k3 (Or.inl z)
  have w0 := hw.1
  refine ⟨?_, h1, h2, h3, ?_, ?_⟩
  · rw [er, sUp_eq, hb.1]; omega
  · rw [er, sUp_ne (by decide)]; exact hb.2.1
  · rw [er, sUp_ne (by decide)]; exact hb.2.2
