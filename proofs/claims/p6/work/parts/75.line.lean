/-! the reference reads a line -/
def yyOn (x : Int) : Nat → Int
  | 0 => 0
  | k + 1 => yyOn x k + yyHb x (k : Int)
theorem yyOn_in (x : Int) : ∀ k : Nat, 0 ≤ yyOn x k ∧ yyOn x k ≤ (k : Int)
  | 0 => ⟨by show (0 : Int) ≤ 0; decide, by show (0 : Int) ≤ 0; decide⟩
  | k + 1 => by
    show 0 ≤ yyOn x k + yyHb x (k : Int) ∧ yyOn x k + yyHb x (k : Int) ≤ ((k + 1 : Nat) : Int)
    have := yyOn_in x k
    have := yyHb_in x (k : Int)
    omega
theorem yyOn_P : ∀ R : Nat, R < 256 → yyOn (R : Int) 31 = yyP (R : Int) := by decide +kernel
theorem lf_onceHere {dd : Nat} (hd : 7 ≤ dd) {H : xH} (hT : ttTI H) {Q : Int → xH → Prop} (hQ : ∀ r, -1 ≤ r → r ≤ 5 → Q r H) : xCall dd 230 [(2, 183)] H Q := by
  obtain ⟨e, rfl, he⟩ := ttRun0 (n := 6) hd
  have he : 6 ≤ e := he
  have hn0 : 210 ≤ (H.2.2.2.1 : Int) := by have := hT.1; omega
  refine xC_of (L := [(2, 183)]) (cd := cd_230) rfl rfl rfl ?_
  refine q_al (pc := 0) (i := 0) (x := 183) rfl rfl ?_
  refine q_sc (pc := 1) (j := 5) rfl ?_
  refine q_iv (pc := 2) (q := 1728968) rfl rfl rfl ⟨by omega, (ttKc hT (a := 183) (κ := 12) (len := 0) ⟨rfl, rfl⟩ (by decide) (by decide)).1⟩ ?_
  refine lf_is (by decide) (by decide) (by omega) hT (fun ji2 => ?_) (fun ji2 => ?_)
  · skip
    refine q_if (pc := 3) rfl (fun h3 => ?_) (fun h3 => ?_)
    · replace h3 : (1 : Int) = 0 := h3
      omega
    · replace h3 : (1 : Int) ≠ 0 := h3
      refine q_ic (pc := 4) (v := 0) rfl ?_
      refine q_go (pc := 5) rfl ?_
      refine q_ri (pc := 37) rfl ?_
      exact hQ _ (by decide) (by decide)
  · skip
    refine q_if (pc := 3) rfl (fun h3 => ?_) (fun h3 => ?_)
    · replace h3 : (0 : Int) = 0 := h3
      refine q_al (pc := 6) (i := 0) (x := 183) rfl rfl ?_
      refine q_sc (pc := 7) (j := 6) rfl ?_
      refine q_iv (pc := 8) (q := 1728968) rfl rfl rfl ⟨by omega, (ttKc hT (a := 183) (κ := 12) (len := 0) ⟨rfl, rfl⟩ (by decide) (by decide)).1⟩ ?_
      refine lf_is (by decide) (by decide) (by omega) hT (fun ji8 => ?_) (fun ji8 => ?_)
      · skip
        refine q_if (pc := 9) rfl (fun h9 => ?_) (fun h9 => ?_)
        · replace h9 : (1 : Int) = 0 := h9
          omega
        · replace h9 : (1 : Int) ≠ 0 := h9
          refine q_ic (pc := 10) (v := 1) rfl ?_
          refine q_go (pc := 11) rfl ?_
          refine q_ri (pc := 37) rfl ?_
          exact hQ _ (by decide) (by decide)
      · skip
        refine q_if (pc := 9) rfl (fun h9 => ?_) (fun h9 => ?_)
        · replace h9 : (0 : Int) = 0 := h9
          refine q_al (pc := 12) (i := 0) (x := 183) rfl rfl ?_
          refine q_sc (pc := 13) (j := 7) rfl ?_
          refine q_iv (pc := 14) (q := 1728968) rfl rfl rfl ⟨by omega, (ttKc hT (a := 183) (κ := 12) (len := 0) ⟨rfl, rfl⟩ (by decide) (by decide)).1⟩ ?_
          refine lf_is (by decide) (by decide) (by omega) hT (fun ji14 => ?_) (fun ji14 => ?_)
          · skip
            refine q_if (pc := 15) rfl (fun h15 => ?_) (fun h15 => ?_)
            · replace h15 : (1 : Int) = 0 := h15
              omega
            · replace h15 : (1 : Int) ≠ 0 := h15
              refine q_ic (pc := 16) (v := 2) rfl ?_
              refine q_go (pc := 17) rfl ?_
              refine q_ri (pc := 37) rfl ?_
              exact hQ _ (by decide) (by decide)
          · skip
            refine q_if (pc := 15) rfl (fun h15 => ?_) (fun h15 => ?_)
            · replace h15 : (0 : Int) = 0 := h15
              refine q_al (pc := 18) (i := 0) (x := 183) rfl rfl ?_
              refine q_sc (pc := 19) (j := 8) rfl ?_
              refine q_iv (pc := 20) (q := 1728968) rfl rfl rfl ⟨by omega, (ttKc hT (a := 183) (κ := 12) (len := 0) ⟨rfl, rfl⟩ (by decide) (by decide)).1⟩ ?_
              refine lf_is (by decide) (by decide) (by omega) hT (fun ji20 => ?_) (fun ji20 => ?_)
              · skip
                refine q_if (pc := 21) rfl (fun h21 => ?_) (fun h21 => ?_)
                · replace h21 : (1 : Int) = 0 := h21
                  omega
                · replace h21 : (1 : Int) ≠ 0 := h21
                  refine q_ic (pc := 22) (v := 3) rfl ?_
                  refine q_go (pc := 23) rfl ?_
                  refine q_ri (pc := 37) rfl ?_
                  exact hQ _ (by decide) (by decide)
              · skip
                refine q_if (pc := 21) rfl (fun h21 => ?_) (fun h21 => ?_)
                · replace h21 : (0 : Int) = 0 := h21
                  refine q_al (pc := 24) (i := 0) (x := 183) rfl rfl ?_
                  refine q_sc (pc := 25) (j := 9) rfl ?_
                  refine q_iv (pc := 26) (q := 1728968) rfl rfl rfl ⟨by omega, (ttKc hT (a := 183) (κ := 12) (len := 0) ⟨rfl, rfl⟩ (by decide) (by decide)).1⟩ ?_
                  refine lf_is (by decide) (by decide) (by omega) hT (fun ji26 => ?_) (fun ji26 => ?_)
                  · skip
                    refine q_if (pc := 27) rfl (fun h27 => ?_) (fun h27 => ?_)
                    · replace h27 : (1 : Int) = 0 := h27
                      omega
                    · replace h27 : (1 : Int) ≠ 0 := h27
                      refine q_ic (pc := 28) (v := 4) rfl ?_
                      refine q_go (pc := 29) rfl ?_
                      refine q_ri (pc := 37) rfl ?_
                      exact hQ _ (by decide) (by decide)
                  · skip
                    refine q_if (pc := 27) rfl (fun h27 => ?_) (fun h27 => ?_)
                    · replace h27 : (0 : Int) = 0 := h27
                      refine q_al (pc := 30) (i := 0) (x := 183) rfl rfl ?_
                      refine q_sc (pc := 31) (j := 10) rfl ?_
                      refine q_iv (pc := 32) (q := 1728968) rfl rfl rfl ⟨by omega, (ttKc hT (a := 183) (κ := 12) (len := 0) ⟨rfl, rfl⟩ (by decide) (by decide)).1⟩ ?_
                      refine lf_is (by decide) (by decide) (by omega) hT (fun ji32 => ?_) (fun ji32 => ?_)
                      · skip
                        refine q_if (pc := 33) rfl (fun h33 => ?_) (fun h33 => ?_)
                        · replace h33 : (1 : Int) = 0 := h33
                          omega
                        · replace h33 : (1 : Int) ≠ 0 := h33
                          refine q_ic (pc := 34) (v := 5) rfl ?_
                          refine q_go (pc := 35) rfl ?_
                          refine q_ri (pc := 37) rfl ?_
                          exact hQ _ (by decide) (by decide)
                      · skip
                        refine q_if (pc := 33) rfl (fun h33 => ?_) (fun h33 => ?_)
                        · replace h33 : (0 : Int) = 0 := h33
                          refine q_ic (pc := 36) (v := (-1)) rfl ?_
                          refine q_ri (pc := 37) rfl ?_
                          exact hQ _ (by decide) (by decide)
                        · replace h33 : (0 : Int) ≠ 0 := h33
                          omega
                    · replace h27 : (0 : Int) ≠ 0 := h27
                      omega
                · replace h21 : (0 : Int) ≠ 0 := h21
                  omega
            · replace h15 : (0 : Int) ≠ 0 := h15
              omega
        · replace h9 : (0 : Int) ≠ 0 := h9
          omega
    · replace h3 : (0 : Int) ≠ 0 := h3
      omega
theorem lf_ones {dd : Nat} {x : Int} (hd : 1 ≤ dd) {H : xH} (x0 : 0 ≤ x) (x1 : x ≤ 255) {Q : Int → xH → Prop} (hQ : Q (yyP x) H) : xCall dd 229 [(0, x)] H Q := by
  obtain ⟨e, rfl, he⟩ := ttRun0 (n := 0) hd
  have hl : ∀ n : Nat, ∀ k : Nat, (k : Int) ≤ 31 → 31 - (k : Int) ≤ (n : Int) → xW e cd_229 Q (4, [(0, x), (0, yyOn x k), (0, (k : Int))], [], H) := by
    intro n
    induction n with
    | zero =>
      intro m m1 hn2
      have zy := yyOn_in x m
      obtain ⟨p, hp⟩ : ∃ p : Int, p = (m : Int) := ⟨_, rfl⟩
      obtain ⟨l, hl⟩ : ∃ l, l = yyOn x m := ⟨_, rfl⟩
      have zb := yyHb_in x p
      rw [← hl, ← hp] at zy
      rw [← hp, ← hl]
      refine q_il (pc := 4) (i := 2) (x := p) rfl rfl ?_
      refine q_ic (pc := 5) (v := 31) rfl ?_
      refine q_i2 (pc := 6) rfl (fun h6 => ?_) (fun h6 => ?_)
      · replace h6 : 31 ≤ p := h6
        refine q_il (pc := 17) (i := 1) (x := l) rfl rfl ?_
        refine q_ri (pc := 18) rfl ?_
        have k := yyOn_P x.toNat (by omega)
        rw [Int.toNat_of_nonneg x0, show 31 = m from by omega, ← hl] at k
        rw [k]
        exact hQ
      · replace h6 : p < 31 := h6
        omega
    | succ n ih =>
      intro m m1 hn2
      have zy := yyOn_in x m
      obtain ⟨p, hp⟩ : ∃ p : Int, p = (m : Int) := ⟨_, rfl⟩
      obtain ⟨l, hl⟩ : ∃ l, l = yyOn x m := ⟨_, rfl⟩
      have zb := yyHb_in x p
      rw [← hl, ← hp] at zy
      rw [← hp, ← hl]
      refine q_il (pc := 4) (i := 2) (x := p) rfl rfl ?_
      refine q_ic (pc := 5) (v := 31) rfl ?_
      refine q_i2 (pc := 6) rfl (fun h6 => ?_) (fun h6 => ?_)
      · replace h6 : 31 ≤ p := h6
        refine q_il (pc := 17) (i := 1) (x := l) rfl rfl ?_
        refine q_ri (pc := 18) rfl ?_
        have k := yyOn_P x.toNat (by omega)
        rw [Int.toNat_of_nonneg x0, show 31 = m from by omega, ← hl] at k
        rw [k]
        exact hQ
      · replace h6 : p < 31 := h6
        refine q_il (pc := 7) (i := 1) (x := l) rfl rfl ?_
        refine q_il (pc := 8) (i := 0) (x := x) rfl rfl ?_
        refine q_il (pc := 9) (i := 2) (x := p) rfl rfl ?_
        refine q_sr (pc := 10) rfl ?_
        refine q_ic (pc := 11) (v := 1) rfl ?_
        refine q_an (pc := 12) rfl ?_
        rw [show xAnd (xShr x p) 1 = yyHb x p from rfl]
        refine q_ia (pc := 13) rfl (by omega) (by omega) ?_
        refine q_is (pc := 14) (i := 1) (L' := [(0, x), (0, (l + (yyHb x p))), (0, p)]) rfl rfl rfl ?_
        refine q_ii (pc := 15) (i := 2) (c := 1) (x := p) (L' := [(0, x), (0, (l + (yyHb x p))), (0, (p + 1))]) rfl rfl rfl (by omega) (by omega) rfl ?_
        refine q_go (pc := 16) rfl ?_
        have z2 := ih (m + 1) (by omega) (by omega)
        rw [show yyOn x (m + 1) = (l + (yyHb x p)) from by show yyOn x m + yyHb x (m : Int) = _; rw [← hl, ← hp], show ((m + 1 : Nat) : Int) = p + 1 from by omega] at z2
        exact z2
  refine xC_of (L := [(0, x), (9, 0), (9, 0)]) (cd := cd_229) rfl rfl rfl ?_
  refine q_ic (pc := 0) (v := 0) rfl ?_
  refine q_is (pc := 1) (i := 1) (L' := [(0, x), (0, 0), (9, 0)]) rfl rfl rfl ?_
  refine q_ic (pc := 2) (v := 0) rfl ?_
  refine q_is (pc := 3) (i := 2) (L' := [(0, x), (0, 0), (0, 0)]) rfl rfl rfl ?_
  exact hl 31 0 (by decide) (by decide)
def yyE0 : ttEf := (true, [(183, 8, 13), (183, 15, 15), (189, 0, 195)])
theorem lf_readLine {dd : Nat} (hd : 12 ≤ dd) {H : xH} (hT : ttTI H) (hX : ttXX YY H) (hg : H.1 183 12 = 0) (hI : yyI H.1) {Q : Int → xH → Prop} (hQ : ∀ K, ttTI K → ttFr yyE0 H K → (K.1 183 12 = 0 → yyI K.1 ∧ K.1 189 0 = H.1 189 0 + 1) → Q 0 K) : xCall dd 232 [(2, 183)] H Q := by
  obtain ⟨e, rfl, he⟩ := ttRun0 (n := 11) hd
  have he : 11 ≤ e := he
  have hn : 210 ≤ (H.2.2.2.1 : Int) := by have := hT.1; omega
  have zl : 0 ≤ H.1 189 0 ∧ H.1 189 0 ≤ 60 := ttMc hT (a := 189) (j := 0) (by decide) (by decide) (by decide) (by decide)
  have zm : 0 ≤ H.1 189 1 ∧ H.1 189 1 ≤ 8 := ttMc hT (a := 189) (j := 1) (by decide) (by decide) (by decide) (by decide)
  have zr : 0 ≤ H.1 189 15 ∧ H.1 189 15 ≤ 255 := ttMc hT (a := 189) (j := 15) (by decide) (by decide) (by decide) (by decide)
  have zt : 0 ≤ H.1 189 16 ∧ H.1 189 16 ≤ 63 := ttMc hT (a := 189) (j := 16) (by decide) (by decide) (by decide) (by decide)
  have z2 : 0 ≤ H.1 189 2 ∧ H.1 189 2 ≤ 10 := ttMc hT (a := 189) (j := 2) (by decide) (by decide) (by decide) (by decide)
  have z3 : 0 ≤ H.1 189 3 ∧ H.1 189 3 ≤ 6 := ttMc hT (a := 189) (j := 3) (by decide) (by decide) (by decide) (by decide)
  have n98 : ∀ (K : xH) (x1 x2 : xV), ttTI K → ttFr (true, [(183, 8, 13)]) H K → K.1 183 12 ≠ 0 → xW e cd_232 Q (98, [(2, 183), x1, x2], [], K) := by
    intro K x1 x2 kT kF kn
    refine q_al (pc := 98) (i := 0) (x := 183) rfl rfl ?_
    refine q_iv (pc := 99) (q := 1712964) rfl rfl rfl (ttKc kT (a := 183) (κ := 12) (len := 0) ⟨rfl, rfl⟩ (by decide) (by decide)).1 ?_
    refine lf_good (by omega) kT (fun jg99 => ?_) (fun jg99 => ?_)
    · skip
      refine q_if (pc := 100) rfl (fun h100 => ?_) (fun h100 => ?_)
      · replace h100 : (1 : Int) ≠ 0 := h100
        exact absurd jg99 kn
      · replace h100 : (1 : Int) = 0 := h100
        omega
    · skip
      refine q_if (pc := 100) rfl (fun h100 => ?_) (fun h100 => ?_)
      · replace h100 : (0 : Int) ≠ 0 := h100
        omega
      · replace h100 : (0 : Int) = 0 := h100
        refine q_rv (pc := 101) rfl ?_
        exact hQ K kT (ttFr_tr (ttFr_rf yyE0 H) kF (fun _ => rfl) (by decide)) (fun z => absurd z kn)
  have n95 : ∀ (K : xH) (x1 x2 : xV), ttTI K → ttFr (true, [(183, 8, 13)]) H K → xW e cd_232 Q (95, [(2, 183), x1, x2], [], K) := by
    intro K x1 x2 kT kF
    refine q_al (pc := 95) (i := 0) (x := 183) rfl rfl ?_
    refine q_ic (pc := 96) (v := 3) rfl ?_
    refine q_iv (pc := 97) (q := 1720971) rfl rfl rfl (ttKc kT (a := 183) (κ := 12) (len := 0) ⟨rfl, rfl⟩ (by decide) (by decide)).1 ?_
    refine lf_errs (by omega) kT (by decide) (by decide) (fun J jT jF jn => ?_)
    replace jF := ttFr_tr kF jF (fun _ => rfl) (by decide)
    exact n98 J _ _ jT jF jn
  have n48 : ∀ (K : xH) (x1 x2 : xV), ttTI K → ttFr (true, [(183, 8, 13)]) H K → K.1 183 12 ≠ 0 → xW e cd_232 Q (48, [(2, 183), x1, x2], [], K) := by
    intro K x1 x2 kT kF kn
    refine q_al (pc := 48) (i := 0) (x := 183) rfl rfl ?_
    refine q_gf (pc := 49) (m := 12142) (t := 2) (c := 14) rfl (ttKc kT (a := 183) (κ := 12) (len := 0) ⟨rfl, rfl⟩ (by decide) (by decide)).1 rfl rfl ?_
    rw [show K.1 183 14 = 189 from ttFx kT (by decide) (by decide) rfl rfl rfl]
    refine q_ic (pc := 50) (v := 0) rfl ?_
    refine q_ai (pc := 51) rfl (ttKc kT (a := 189) (κ := 20) (len := 196) ⟨rfl, rfl⟩ (by decide) (by decide)).1 (by omega) (by rw [(ttKc kT (a := 189) (κ := 20) (len := 196) ⟨rfl, rfl⟩ (by decide) (by decide)).2]; omega) ?_
    refine q_ic (pc := 52) (v := 60) rfl ?_
    refine q_i2 (pc := 53) rfl (fun h53 => ?_) (fun h53 => ?_)
    · replace h53 : (K.1 189 0) = 60 := h53
      exact n95 K _ _ kT kF
    · replace h53 : (K.1 189 0) ≠ 60 := h53
      refine q_al (pc := 54) (i := 0) (x := 183) rfl rfl ?_
      refine q_sc (pc := 55) (j := 0) rfl ?_
      refine q_iv (pc := 56) (q := 1728968) rfl rfl rfl ⟨by omega, (ttKc kT (a := 183) (κ := 12) (len := 0) ⟨rfl, rfl⟩ (by decide) (by decide)).1⟩ ?_
      refine lf_is (by decide) (by decide) (by omega) kT (fun ji56 => ?_) (fun ji56 => ?_)
      · exact absurd ji56.1 kn
      · skip
        refine q_if (pc := 57) rfl (fun h57 => ?_) (fun h57 => ?_)
        · replace h57 : (0 : Int) = 0 := h57
          refine q_al (pc := 64) (i := 0) (x := 183) rfl rfl ?_
          refine q_sc (pc := 65) (j := 1) rfl ?_
          refine q_iv (pc := 66) (q := 1728968) rfl rfl rfl ⟨by omega, (ttKc kT (a := 183) (κ := 12) (len := 0) ⟨rfl, rfl⟩ (by decide) (by decide)).1⟩ ?_
          refine lf_is (by decide) (by decide) (by omega) kT (fun ji66 => ?_) (fun ji66 => ?_)
          · exact absurd ji66.1 kn
          · skip
            refine q_if (pc := 67) rfl (fun h67 => ?_) (fun h67 => ?_)
            · replace h67 : (0 : Int) = 0 := h67
              refine q_al (pc := 74) (i := 0) (x := 183) rfl rfl ?_
              refine q_sc (pc := 75) (j := 3) rfl ?_
              refine q_iv (pc := 76) (q := 1728968) rfl rfl rfl ⟨by omega, (ttKc kT (a := 183) (κ := 12) (len := 0) ⟨rfl, rfl⟩ (by decide) (by decide)).1⟩ ?_
              refine lf_is (by decide) (by decide) (by omega) kT (fun ji76 => ?_) (fun ji76 => ?_)
              · exact absurd ji76.1 kn
              · skip
                refine q_if (pc := 77) rfl (fun h77 => ?_) (fun h77 => ?_)
                · replace h77 : (0 : Int) = 0 := h77
                  refine q_al (pc := 84) (i := 0) (x := 183) rfl rfl ?_
                  refine q_sc (pc := 85) (j := 4) rfl ?_
                  refine q_iv (pc := 86) (q := 1728968) rfl rfl rfl ⟨by omega, (ttKc kT (a := 183) (κ := 12) (len := 0) ⟨rfl, rfl⟩ (by decide) (by decide)).1⟩ ?_
                  refine lf_is (by decide) (by decide) (by omega) kT (fun ji86 => ?_) (fun ji86 => ?_)
                  · exact absurd ji86.1 kn
                  · skip
                    refine q_if (pc := 87) rfl (fun h87 => ?_) (fun h87 => ?_)
                    · replace h87 : (0 : Int) = 0 := h87
                      exact n98 K _ _ kT kF kn
                    · replace h87 : (0 : Int) ≠ 0 := h87
                      omega
                · replace h77 : (0 : Int) ≠ 0 := h77
                  omega
            · replace h67 : (0 : Int) ≠ 0 := h67
              omega
        · replace h57 : (0 : Int) ≠ 0 := h57
          omega
  have n35 : ∀ (K : xH) (c : Int) (x2 : xV), ttTI K → ttFr (true, [(183, 8, 13)]) H K → K.1 183 12 ≠ 0 → xW e cd_232 Q (35, [(2, 183), (0, c), x2], [], K) := by
    intro K c x2 kT kF kn
    refine q_il (pc := 35) (i := 1) (x := c) rfl rfl ?_
    refine q_ic (pc := 36) (v := (-1)) rfl ?_
    refine q_i2 (pc := 37) rfl (fun h37 => ?_) (fun h37 => ?_)
    · replace h37 : c = (-1) := h37
      exact n48 K _ _ kT kF kn
    · replace h37 : c ≠ (-1) := h37
      refine q_al (pc := 38) (i := 0) (x := 183) rfl rfl ?_
      refine q_gf (pc := 39) (m := 12142) (t := 2) (c := 14) rfl (ttKc kT (a := 183) (κ := 12) (len := 0) ⟨rfl, rfl⟩ (by decide) (by decide)).1 rfl rfl ?_
      rw [show K.1 183 14 = 189 from ttFx kT (by decide) (by decide) rfl rfl rfl]
      refine q_ic (pc := 40) (v := 16) rfl ?_
      refine q_ai (pc := 41) rfl (ttKc kT (a := 189) (κ := 20) (len := 196) ⟨rfl, rfl⟩ (by decide) (by decide)).1 (by omega) (by rw [(ttKc kT (a := 189) (κ := 20) (len := 196) ⟨rfl, rfl⟩ (by decide) (by decide)).2]; omega) ?_
      refine q_il (pc := 42) (i := 1) (x := c) rfl rfl ?_
      refine q_ij (pc := 43) (q := 1623928) rfl rfl rfl trivial ?_
      refine lf_holds (by omega) (fun _ => ?_) (fun _ => ?_)
      · skip
        refine q_if (pc := 44) rfl (fun h44 => ?_) (fun h44 => ?_)
        · replace h44 : (1 : Int) = 0 := h44
          omega
        · replace h44 : (1 : Int) ≠ 0 := h44
          refine q_al (pc := 45) (i := 0) (x := 183) rfl rfl ?_
          refine q_ic (pc := 46) (v := 2) rfl ?_
          refine q_iv (pc := 47) (q := 1720971) rfl rfl rfl (ttKc kT (a := 183) (κ := 12) (len := 0) ⟨rfl, rfl⟩ (by decide) (by decide)).1 ?_
          refine lf_errs (by omega) kT (by decide) (by decide) (fun J jT jF jn => ?_)
          replace jF := ttFr_tr kF jF (fun _ => rfl) (by decide)
          exact n48 J _ _ jT jF jn
      · skip
        refine q_if (pc := 44) rfl (fun h44 => ?_) (fun h44 => ?_)
        · replace h44 : (0 : Int) = 0 := h44
          exact n48 K _ _ kT kF kn
        · replace h44 : (0 : Int) ≠ 0 := h44
          omega
  have h195 : ∀ (K : xH) (x1 x2 : xV), ttTI K → ttFr yyEF H K → H.1 189 0 ≤ 59 → (K.1 183 12 = 0 → yyI K.1) → xW e cd_232 Q (195, [(2, 183), x1, x2], [], K) := by
    intro K x1 x2 kT kF l9 kI
    have k0 : K.1 189 0 = H.1 189 0 := kF.2.2.2 189 0 (by omega) (fun q hq hh => by
      obtain ⟨⟨-, c1⟩, c2, c3⟩ := hh
      simp only [yyEF, List.mem_cons, List.not_mem_nil, or_false] at hq
      rcases hq with rfl | rfl | rfl
      · exact absurd c1 (by decide)
      · exact absurd c1 (by decide)
      · exact absurd c2 (by decide))
    refine q_al (pc := 195) (i := 0) (x := 183) rfl rfl ?_
    refine q_gf (pc := 196) (m := 12142) (t := 2) (c := 14) rfl (ttKc kT (a := 183) (κ := 12) (len := 0) ⟨rfl, rfl⟩ (by decide) (by decide)).1 rfl rfl ?_
    rw [show K.1 183 14 = 189 from ttFx kT (by decide) (by decide) rfl rfl rfl]
    refine q_ic (pc := 197) (v := 0) rfl ?_
    refine q_dd (pc := 198) rfl ?_
    refine q_ai (pc := 199) rfl (ttKc kT (a := 189) (κ := 20) (len := 196) ⟨rfl, rfl⟩ (by decide) (by decide)).1 (by omega) (by rw [(ttKc kT (a := 189) (κ := 20) (len := 196) ⟨rfl, rfl⟩ (by decide) (by decide)).2]; omega) ?_
    rw [k0]
    refine q_ic (pc := 200) (v := 1) rfl ?_
    refine q_ia (pc := 201) rfl (by omega) (by omega) ?_
    refine q_si (pc := 202) rfl (by decide) (ttKc kT (a := 189) (κ := 20) (len := 196) ⟨rfl, rfl⟩ (by decide) (by decide)).1 (by omega) (by rw [(ttKc kT (a := 189) (κ := 20) (len := 196) ⟨rfl, rfl⟩ (by decide) (by decide)).2]; omega) ?_
    have zc := ttPuT kT (ttFr_tr (ttFr_rf yyE0 H) kF (fun _ => rfl) (by decide)) (a := 189) (j := 0) (x := ((H.1 189 0) + 1)) (by decide) (fun _ _ => show (0 : Int) ≤ ((H.1 189 0) + 1) ∧ ((H.1 189 0) + 1) ≤ 60 from ⟨by omega, by omega⟩) ⟨(189, 0, 195), by simp [yyE0], ⟨⟨by decide, rfl⟩, by decide, by decide⟩⟩
    obtain ⟨Y, jY⟩ : ∃ X : xH, X = (xUp K.1 189 0 ((H.1 189 0) + 1), K.2) := ⟨_, rfl⟩
    rw [← jY] at zc ⊢
    refine q_rv (pc := 203) rfl ?_
    refine hQ Y zc.1 zc.2 (fun zz => ⟨?_, by rw [jY]; exact up_eq (D := K.1) (a := 189) (j := 0) (x := ((H.1 189 0) + 1))⟩)
    have yk := kI ((show Y.1 183 12 = K.1 183 12 from by rw [jY]; exact up_12 K.1 0 ((H.1 189 0) + 1)).symm.trans zz)
    have e : ∀ j : Int, j ≠ 0 → Y.1 189 j = K.1 189 j := fun j hj => by rw [jY]; exact (show xUp K.1 189 0 ((H.1 189 0) + 1) 189 j = _ from up_ne (by omega))
    obtain ⟨y1, y2, y3, y4⟩ := yk
    refine ⟨fun l l0 l1 l2 => ?_, by rw [e 15 (by decide)]; exact y2, by rw [e 12 (by decide), e 1 (by decide)]; exact y3, by rw [e 7 (by decide)]; exact y4⟩
    rw [e 2 (by decide)] at l2
    rw [e (84 + 6 * l) (by omega), e (85 + 6 * l) (by omega), e 1 (by decide)]
    exact y1 l l0 l1 l2
  have h190 : ∀ (K : xH) (x1 x2 : xV), ttTI K → ttFr yyEF H K → H.1 189 0 ≤ 59 → (K.1 183 12 = 0 → yyI K.1) → xW e cd_232 Q (190, [(2, 183), x1, x2], [], K) := by
    intro K x1 x2 kT kF l9 kI
    refine q_al (pc := 190) (i := 0) (x := 183) rfl rfl ?_
    refine q_iv (pc := 191) (q := 1712964) rfl rfl rfl (ttKc kT (a := 183) (κ := 12) (len := 0) ⟨rfl, rfl⟩ (by decide) (by decide)).1 ?_
    refine lf_good (by omega) kT (fun jg191 => ?_) (fun jg191 => ?_)
    · skip
      refine q_if (pc := 192) rfl (fun h192 => ?_) (fun h192 => ?_)
      · replace h192 : (1 : Int) = 0 := h192
        omega
      · replace h192 : (1 : Int) ≠ 0 := h192
        refine q_al (pc := 193) (i := 0) (x := 183) rfl rfl ?_
        refine q_iv (pc := 194) (q := 1704967) rfl rfl rfl (ttKc kT (a := 183) (κ := 12) (len := 0) ⟨rfl, rfl⟩ (by decide) (by decide)).1 ?_
        refine lf_advance (by omega) kT (fun J jT jA => ?_)
        exact h195 J _ _ jT (ttFr_tr kF jA (fun _ => rfl) (by decide)) l9 (fun z => yyI_eq (fun j _ _ _ => fr_no jA 189 (by have := kT.1; omega) rfl rfl) (kI jg191))
    · skip
      refine q_if (pc := 192) rfl (fun h192 => ?_) (fun h192 => ?_)
      · replace h192 : (0 : Int) = 0 := h192
        exact h195 K _ _ kT kF l9 kI
      · replace h192 : (0 : Int) ≠ 0 := h192
        omega
  have h180 : ∀ (K : xH) (x1 x2 : xV), ttTI K → ttFr yyEF H K → H.1 189 0 ≤ 59 → (K.1 183 12 = 0 → yyI K.1) → xW e cd_232 Q (180, [(2, 183), x1, x2], [], K) := by
    intro K x1 x2 kT kF l9 kI
    refine q_al (pc := 180) (i := 0) (x := 183) rfl rfl ?_
    refine q_iv (pc := 181) (q := 1712964) rfl rfl rfl (ttKc kT (a := 183) (κ := 12) (len := 0) ⟨rfl, rfl⟩ (by decide) (by decide)).1 ?_
    refine lf_good (by omega) kT (fun jg181 => ?_) (fun jg181 => ?_)
    · skip
      refine q_if (pc := 182) rfl (fun h182 => ?_) (fun h182 => ?_)
      · replace h182 : (1 : Int) = 0 := h182
        omega
      · replace h182 : (1 : Int) ≠ 0 := h182
        refine q_al (pc := 183) (i := 0) (x := 183) rfl rfl ?_
        refine q_gf (pc := 184) (m := 12100) (t := 0) (c := 10) rfl (ttKc kT (a := 183) (κ := 12) (len := 0) ⟨rfl, rfl⟩ (by decide) (by decide)).1 rfl rfl ?_
        refine q_ic (pc := 185) (v := 3) rfl ?_
        refine q_i2 (pc := 186) rfl (fun h186 => ?_) (fun h186 => ?_)
        · replace h186 : (K.1 183 10) = 3 := h186
          exact h190 K _ _ kT kF l9 kI
        · replace h186 : (K.1 183 10) ≠ 3 := h186
          refine q_al (pc := 187) (i := 0) (x := 183) rfl rfl ?_
          refine q_ic (pc := 188) (v := 1) rfl ?_
          refine q_iv (pc := 189) (q := 1720971) rfl rfl rfl (ttKc kT (a := 183) (κ := 12) (len := 0) ⟨rfl, rfl⟩ (by decide) (by decide)).1 ?_
          refine lf_errs (by omega) kT (by decide) (by decide) (fun J jT jF jn => ?_)
          replace jF := ttFr_tr kF jF (fun _ => rfl) (by decide)
          exact h190 J _ _ jT jF l9 (fun z => absurd z jn)
    · skip
      refine q_if (pc := 182) rfl (fun h182 => ?_) (fun h182 => ?_)
      · replace h182 : (0 : Int) = 0 := h182
        exact h190 K _ _ kT kF l9 kI
      · replace h182 : (0 : Int) ≠ 0 := h182
        omega
  have h134 : ∀ (K : xH) (x1 x2 : xV), ttTI K → ttFr yyEF H K → yyI K.1 → (∀ j : Int, K.1 189 j = H.1 189 j) → H.1 189 3 ≠ 6 → H.1 189 0 ≤ 59 → xW e cd_232 Q (134, [(2, 183), x1, x2], [], K) := by
    intro K x1 x2 kT kF kI k9 s6 l9
    obtain ⟨s, js⟩ : ∃ s, s = H.1 189 3 := ⟨_, rfl⟩
    rw [← js] at s6 z3
    have s0 : 0 ≤ s := z3.1
    have s1 : s ≤ 5 := by omega
    have kO : ∀ j : Int, (j = 1 ∨ j = 2 ∨ j = 3 ∨ j = 7 ∨ j = 12 ∨ j = 15 ∨ 84 ≤ j ∧ j ≤ 143) → K.1 189 j = H.1 189 j := fun j _ => k9 j
    refine q_al (pc := 134) (i := 0) (x := 183) rfl rfl ?_
    refine q_gf (pc := 135) (m := 12142) (t := 2) (c := 14) rfl (ttKc kT (a := 183) (κ := 12) (len := 0) ⟨rfl, rfl⟩ (by decide) (by decide)).1 rfl rfl ?_
    rw [show K.1 183 14 = 189 from ttFx kT (by decide) (by decide) rfl rfl rfl]
    refine q_ic (pc := 136) (v := 144) rfl ?_
    refine q_ic (pc := 137) (v := 2) rfl ?_
    refine q_al (pc := 138) (i := 0) (x := 183) rfl rfl ?_
    refine q_gf (pc := 139) (m := 12142) (t := 2) (c := 14) rfl (ttKc kT (a := 183) (κ := 12) (len := 0) ⟨rfl, rfl⟩ (by decide) (by decide)).1 rfl rfl ?_
    rw [show K.1 183 14 = 189 from ttFx kT (by decide) (by decide) rfl rfl rfl]
    refine q_ic (pc := 140) (v := 3) rfl ?_
    refine q_ai (pc := 141) rfl (ttKc kT (a := 189) (κ := 20) (len := 196) ⟨rfl, rfl⟩ (by decide) (by decide)).1 (by omega) (by rw [(ttKc kT (a := 189) (κ := 20) (len := 196) ⟨rfl, rfl⟩ (by decide) (by decide)).2]; omega) ?_
    rw [show K.1 189 3 = s from (kO 3 (by omega)).trans js.symm]
    refine q_im (pc := 142) rfl (by omega) (by omega) ?_
    refine q_ia (pc := 143) rfl (by omega) (by omega) ?_
    refine q_al (pc := 144) (i := 0) (x := 183) rfl rfl ?_
    refine q_ic (pc := 145) (v := 20) rfl ?_
    refine q_ic (pc := 146) (v := 150) rfl ?_
    refine q_iv (pc := 147) (q := 1752972) rfl rfl rfl (ttKc kT (a := 183) (κ := 12) (len := 0) ⟨rfl, rfl⟩ (by decide) (by decide)).1 ?_
    refine lf_number (by omega) kT (xx_fr kF rfl (by decide) (by decide) hX) (fun ujr1 ujK1 ujzT1 ujzF1 ujzg1 ujzr1 => ?_)
    have ujzo1 : (∀ j : Int, (j = 1 ∨ j = 2 ∨ j = 3 ∨ j = 7 ∨ j = 12 ∨ j = 15 ∨ 84 ≤ j ∧ j ≤ 143) → ujK1.1 189 j = H.1 189 j) := fun j hj => (fr_no ujzF1 189 (by have := kT.1; omega) rfl rfl).trans (kO j hj)
    replace ujzF1 := ttFr_tr kF ujzF1 (fun _ => rfl) (by decide)
    refine q_si (pc := 148) rfl (by decide) (ttKc ujzT1 (a := 189) (κ := 20) (len := 196) ⟨rfl, rfl⟩ (by decide) (by decide)).1 (by omega) (by rw [(ttKc ujzT1 (a := 189) (κ := 20) (len := 196) ⟨rfl, rfl⟩ (by decide) (by decide)).2]; omega) ?_
    have ujzc2 := ttPuT ujzT1 ujzF1 (a := 189) (j := (144 + (2 * s))) (x := ujr1) (by decide) (fun _ _ => by rw [show ttRo 189 = 189 from rfl, show (144 + (2 * s)) = 144 + 2 * s + ((0 : Nat) : Int) from by omega, ty_fs s0 s1 0 (by decide)]; exact (show (0 : Int) ≤ ujr1 ∧ ujr1 ≤ 150 from ⟨by omega, by omega⟩)) ⟨(189, 1, 195), by simp [yyEF], ⟨⟨by decide, rfl⟩, by show (1 : Int) ≤ (144 + (2 * s)); omega, by show (144 + (2 * s)) ≤ (195 : Int); omega⟩⟩
    obtain ⟨ujZ2, ujzk2⟩ : ∃ X : xH, X = (xUp ujK1.1 189 (144 + (2 * s)) ujr1, ujK1.2) := ⟨_, rfl⟩
    rw [← ujzk2] at ujzc2 ⊢
    have ujzo2 : (∀ j : Int, (j = 1 ∨ j = 2 ∨ j = 3 ∨ j = 7 ∨ j = 12 ∨ j = 15 ∨ 84 ≤ j ∧ j ≤ 143) → ujZ2.1 189 j = H.1 189 j) := fun j hj => by rw [ujzk2]; exact (show xUp ujK1.1 189 (144 + (2 * s)) ujr1 189 j = _ from up_ne (by omega)).trans (ujzo1 j hj)
    refine q_al (pc := 149) (i := 0) (x := 183) rfl rfl ?_
    refine q_gf (pc := 150) (m := 12142) (t := 2) (c := 14) rfl (ttKc ujzc2.1 (a := 183) (κ := 12) (len := 0) ⟨rfl, rfl⟩ (by decide) (by decide)).1 rfl rfl ?_
    rw [show ujZ2.1 183 14 = 189 from ttFx ujzc2.1 (by decide) (by decide) rfl rfl rfl]
    refine q_ic (pc := 151) (v := 144) rfl ?_
    refine q_ic (pc := 152) (v := 2) rfl ?_
    refine q_al (pc := 153) (i := 0) (x := 183) rfl rfl ?_
    refine q_gf (pc := 154) (m := 12142) (t := 2) (c := 14) rfl (ttKc ujzc2.1 (a := 183) (κ := 12) (len := 0) ⟨rfl, rfl⟩ (by decide) (by decide)).1 rfl rfl ?_
    rw [show ujZ2.1 183 14 = 189 from ttFx ujzc2.1 (by decide) (by decide) rfl rfl rfl]
    refine q_ic (pc := 155) (v := 3) rfl ?_
    refine q_ai (pc := 156) rfl (ttKc ujzc2.1 (a := 189) (κ := 20) (len := 196) ⟨rfl, rfl⟩ (by decide) (by decide)).1 (by omega) (by rw [(ttKc ujzc2.1 (a := 189) (κ := 20) (len := 196) ⟨rfl, rfl⟩ (by decide) (by decide)).2]; omega) ?_
    rw [show ujZ2.1 189 3 = s from (ujzo2 3 (by omega)).trans js.symm]
    refine q_im (pc := 157) rfl (by omega) (by omega) ?_
    refine q_ia (pc := 158) rfl (by omega) (by omega) ?_
    refine q_ic (pc := 159) (v := 1) rfl ?_
    refine q_ia (pc := 160) rfl (by omega) (by omega) ?_
    refine q_al (pc := 161) (i := 0) (x := 183) rfl rfl ?_
    refine q_sc (pc := 162) (j := 22) rfl ?_
    refine q_ic (pc := 163) (v := 1) rfl ?_
    refine q_ic (pc := 164) (v := 999) rfl ?_
    refine q_iv (pc := 165) (q := 1760976) rfl rfl rfl ⟨by omega, (ttKc ujzc2.1 (a := 183) (κ := 12) (len := 0) ⟨rfl, rfl⟩ (by decide) (by decide)).1⟩ ?_
    refine lf_told (by decide) (by decide) (by omega) ujzc2.1 (xx_fr ujzc2.2 rfl (by decide) (by decide) hX) (fun ujr3 ujK3 ujzT3 ujzF3 ujzg3 ujzr3 => ?_)
    have ujzo3 : (∀ j : Int, (j = 1 ∨ j = 2 ∨ j = 3 ∨ j = 7 ∨ j = 12 ∨ j = 15 ∨ 84 ≤ j ∧ j ≤ 143) → ujK3.1 189 j = H.1 189 j) := fun j hj => (fr_no ujzF3 189 (by have := ujzc2.1.1; omega) rfl rfl).trans (ujzo2 j hj)
    replace ujzF3 := ttFr_tr ujzc2.2 ujzF3 (fun _ => rfl) (by decide)
    refine q_si (pc := 166) rfl (by decide) (ttKc ujzT3 (a := 189) (κ := 20) (len := 196) ⟨rfl, rfl⟩ (by decide) (by decide)).1 (by omega) (by rw [(ttKc ujzT3 (a := 189) (κ := 20) (len := 196) ⟨rfl, rfl⟩ (by decide) (by decide)).2]; omega) ?_
    have ujzc4 := ttPuT ujzT3 ujzF3 (a := 189) (j := ((144 + (2 * s)) + 1)) (x := ujr3) (by decide) (fun _ _ => by rw [show ttRo 189 = 189 from rfl, show ((144 + (2 * s)) + 1) = 144 + 2 * s + ((1 : Nat) : Int) from by omega, ty_fs s0 s1 1 (by decide)]; exact (show (0 : Int) ≤ ujr3 ∧ ujr3 ≤ 999 from ⟨by omega, by omega⟩)) ⟨(189, 1, 195), by simp [yyEF], ⟨⟨by decide, rfl⟩, by show (1 : Int) ≤ ((144 + (2 * s)) + 1); omega, by show ((144 + (2 * s)) + 1) ≤ (195 : Int); omega⟩⟩
    obtain ⟨ujZ4, ujzk4⟩ : ∃ X : xH, X = (xUp ujK3.1 189 ((144 + (2 * s)) + 1) ujr3, ujK3.2) := ⟨_, rfl⟩
    rw [← ujzk4] at ujzc4 ⊢
    have ujzo4 : (∀ j : Int, (j = 1 ∨ j = 2 ∨ j = 3 ∨ j = 7 ∨ j = 12 ∨ j = 15 ∨ 84 ≤ j ∧ j ≤ 143) → ujZ4.1 189 j = H.1 189 j) := fun j hj => by rw [ujzk4]; exact (show xUp ujK3.1 189 ((144 + (2 * s)) + 1) ujr3 189 j = _ from up_ne (by omega)).trans (ujzo3 j hj)
    refine q_al (pc := 167) (i := 0) (x := 183) rfl rfl ?_
    refine q_gf (pc := 168) (m := 12142) (t := 2) (c := 14) rfl (ttKc ujzc4.1 (a := 183) (κ := 12) (len := 0) ⟨rfl, rfl⟩ (by decide) (by decide)).1 rfl rfl ?_
    rw [show ujZ4.1 183 14 = 189 from ttFx ujzc4.1 (by decide) (by decide) rfl rfl rfl]
    refine q_ic (pc := 169) (v := 3) rfl ?_
    refine q_dd (pc := 170) rfl ?_
    refine q_ai (pc := 171) rfl (ttKc ujzc4.1 (a := 189) (κ := 20) (len := 196) ⟨rfl, rfl⟩ (by decide) (by decide)).1 (by omega) (by rw [(ttKc ujzc4.1 (a := 189) (κ := 20) (len := 196) ⟨rfl, rfl⟩ (by decide) (by decide)).2]; omega) ?_
    rw [show ujZ4.1 189 3 = s from (ujzo4 3 (by omega)).trans js.symm]
    refine q_ic (pc := 172) (v := 1) rfl ?_
    refine q_ia (pc := 173) rfl (by omega) (by omega) ?_
    refine q_si (pc := 174) rfl (by decide) (ttKc ujzc4.1 (a := 189) (κ := 20) (len := 196) ⟨rfl, rfl⟩ (by decide) (by decide)).1 (by omega) (by rw [(ttKc ujzc4.1 (a := 189) (κ := 20) (len := 196) ⟨rfl, rfl⟩ (by decide) (by decide)).2]; omega) ?_
    have ujzc5 := ttPuT ujzc4.1 ujzc4.2 (a := 189) (j := 3) (x := (s + 1)) (by decide) (fun _ _ => show (0 : Int) ≤ (s + 1) ∧ (s + 1) ≤ 6 from ⟨by omega, by omega⟩) ⟨(189, 1, 195), by simp [yyEF], ⟨⟨by decide, rfl⟩, by show (1 : Int) ≤ 3; omega, by show 3 ≤ (195 : Int); omega⟩⟩
    obtain ⟨ujZ5, ujzk5⟩ : ∃ X : xH, X = (xUp ujZ4.1 189 3 (s + 1), ujZ4.2) := ⟨_, rfl⟩
    rw [← ujzk5] at ujzc5 ⊢
    refine q_go (pc := 175) rfl ?_
    have e : ∀ j : Int, (j = 1 ∨ j = 2 ∨ j = 7 ∨ j = 12 ∨ j = 15 ∨ 84 ≤ j ∧ j ≤ 143) → ujZ5.1 189 j = K.1 189 j := fun j hj => by rw [ujzk5, k9 j]; exact (show xUp ujZ4.1 189 3 (s + 1) 189 j = _ from up_ne (by omega)).trans (ujzo4 j (by omega))
    refine h180 ujZ5 _ _ ujzc5.1 ujzc5.2 l9 (fun _ => ?_)
    obtain ⟨y1, y2, y3, y4⟩ := kI
    refine ⟨fun l l0 l1 l2 => ?_, by rw [e 15 (by decide)]; exact y2, by rw [e 12 (by decide), e 1 (by decide)]; exact y3, by rw [e 7 (by decide)]; exact y4⟩
    rw [e 2 (by decide)] at l2
    rw [e (84 + 6 * l) (by omega), e (85 + 6 * l) (by omega), e 1 (by decide)]
    exact y1 l l0 l1 l2
  have h98 : ∀ (c : Int) (x2 : xV), -1 ≤ c → c ≤ 5 → (c = -1 → yyIs H.1 (-2) ∨ yyIs H.1 (-3) ∨ yyIs H.1 (-4) ∨ yyIs H.1 (-5) ∨ yyIs H.1 (-6)) → H.1 189 0 ≠ 60 → (yyIs H.1 (-2) → H.1 189 1 ≠ 8) → (yyIs H.1 (-3) → H.1 189 2 ≠ 10) → (yyIs H.1 (-5) → H.1 189 3 ≠ 6) → (yyIs H.1 (-6) → yyP (H.1 189 15) ≠ 3) → xW e cd_232 Q (98, [(2, 183), (0, c), x2], [], H) := by
    intro c x2 c0 c5 ck cl c1 c2 c3 c4
    refine q_al (pc := 98) (i := 0) (x := 183) rfl rfl ?_
    refine q_iv (pc := 99) (q := 1712964) rfl rfl rfl (ttKc hT (a := 183) (κ := 12) (len := 0) ⟨rfl, rfl⟩ (by decide) (by decide)).1 ?_
    refine lf_good (by omega) hT (fun jg99 => ?_) (fun jg99 => ?_)
    · skip
      refine q_if (pc := 100) rfl (fun h100 => ?_) (fun h100 => ?_)
      · replace h100 : (1 : Int) ≠ 0 := h100
        refine q_il (pc := 102) (i := 1) (x := c) rfl rfl ?_
        refine q_ic (pc := 103) (v := (-1)) rfl ?_
        refine q_i2 (pc := 104) rfl (fun h104 => ?_) (fun h104 => ?_)
        · replace h104 : c = (-1) := h104
          refine q_al (pc := 109) (i := 0) (x := 183) rfl rfl ?_
          refine q_sc (pc := 110) (j := 0) rfl ?_
          refine q_iv (pc := 111) (q := 1736968) rfl rfl rfl ⟨by omega, (ttKc hT (a := 183) (κ := 12) (len := 0) ⟨rfl, rfl⟩ (by decide) (by decide)).1⟩ ?_
          refine lf_takes (by decide) (by decide) (by omega) hT hX (fun ji111 K kT kA kg => ?_) (fun ji111 => ?_)
          · have k9 : ∀ j : Int, K.1 189 j = H.1 189 j := fun j => fr_no kA 189 (by omega) rfl rfl
            have kF : ttFr yyEF H K := ttFr_tr (ttFr_rf yyEF H) kA (fun _ => rfl) (by decide)
            have kI : yyI K.1 := yyI_eq (fun j _ _ _ => k9 j) hI
            refine q_if (pc := 112) rfl (fun h112 => ?_) (fun h112 => ?_)
            · replace h112 : (1 : Int) = 0 := h112
              omega
            · replace h112 : (1 : Int) ≠ 0 := h112
              refine q_al (pc := 113) (i := 0) (x := 183) rfl rfl ?_
              refine q_iv (pc := 114) (q := 1792967) rfl rfl rfl (ttKc kT (a := 183) (κ := 12) (len := 0) ⟨rfl, rfl⟩ (by decide) (by decide)).1 ?_
              refine lf_readPlace (by omega) kT (xx_fr kF rfl (by decide) (by decide) hX) (by rw [k9 1]; have := c1 ji111; omega) (fun J jT jF jI => ?_)
              refine q_go (pc := 115) rfl ?_
              exact h180 J _ _ jT (ttFr_tr kF jF (fun _ => rfl) (by decide)) (by omega) (fun z => jI z kI)
          · skip
            refine q_if (pc := 112) rfl (fun h112 => ?_) (fun h112 => ?_)
            · replace h112 : (0 : Int) = 0 := h112
              refine q_al (pc := 116) (i := 0) (x := 183) rfl rfl ?_
              refine q_sc (pc := 117) (j := 1) rfl ?_
              refine q_iv (pc := 118) (q := 1736968) rfl rfl rfl ⟨by omega, (ttKc hT (a := 183) (κ := 12) (len := 0) ⟨rfl, rfl⟩ (by decide) (by decide)).1⟩ ?_
              refine lf_takes (by decide) (by decide) (by omega) hT hX (fun ji118 K kT kA kg => ?_) (fun ji118 => ?_)
              · have k9 : ∀ j : Int, K.1 189 j = H.1 189 j := fun j => fr_no kA 189 (by omega) rfl rfl
                have kF : ttFr yyEF H K := ttFr_tr (ttFr_rf yyEF H) kA (fun _ => rfl) (by decide)
                have kI : yyI K.1 := yyI_eq (fun j _ _ _ => k9 j) hI
                refine q_if (pc := 119) rfl (fun h119 => ?_) (fun h119 => ?_)
                · replace h119 : (1 : Int) = 0 := h119
                  omega
                · replace h119 : (1 : Int) ≠ 0 := h119
                  refine q_al (pc := 120) (i := 0) (x := 183) rfl rfl ?_
                  refine q_iv (pc := 121) (q := 1800967) rfl rfl rfl (ttKc kT (a := 183) (κ := 12) (len := 0) ⟨rfl, rfl⟩ (by decide) (by decide)).1 ?_
                  refine lf_readLeg (by omega) kT (xx_fr kF rfl (by decide) (by decide) hX) (by rw [k9 2]; have := c2 ji118; omega) (fun J jT jF jI => ?_)
                  refine q_go (pc := 122) rfl ?_
                  exact h180 J _ _ jT (ttFr_tr kF jF (fun _ => rfl) (by decide)) (by omega) (fun z => jI z kI)
              · skip
                refine q_if (pc := 119) rfl (fun h119 => ?_) (fun h119 => ?_)
                · replace h119 : (0 : Int) = 0 := h119
                  refine q_al (pc := 123) (i := 0) (x := 183) rfl rfl ?_
                  refine q_sc (pc := 124) (j := 2) rfl ?_
                  refine q_iv (pc := 125) (q := 1736968) rfl rfl rfl ⟨by omega, (ttKc hT (a := 183) (κ := 12) (len := 0) ⟨rfl, rfl⟩ (by decide) (by decide)).1⟩ ?_
                  refine lf_takes (by decide) (by decide) (by omega) hT hX (fun ji125 K kT kA kg => ?_) (fun ji125 => ?_)
                  · have k9 : ∀ j : Int, K.1 189 j = H.1 189 j := fun j => fr_no kA 189 (by omega) rfl rfl
                    have kF : ttFr yyEF H K := ttFr_tr (ttFr_rf yyEF H) kA (fun _ => rfl) (by decide)
                    have kI : yyI K.1 := yyI_eq (fun j _ _ _ => k9 j) hI
                    refine q_if (pc := 126) rfl (fun h126 => ?_) (fun h126 => ?_)
                    · replace h126 : (1 : Int) = 0 := h126
                      omega
                    · replace h126 : (1 : Int) ≠ 0 := h126
                      refine q_al (pc := 127) (i := 0) (x := 183) rfl rfl ?_
                      refine q_iv (pc := 128) (q := 1808967) rfl rfl rfl (ttKc kT (a := 183) (κ := 12) (len := 0) ⟨rfl, rfl⟩ (by decide) (by decide)).1 ?_
                      refine lf_readLift (by omega) kT (xx_fr kF rfl (by decide) (by decide) hX) (fun J jT jF jI => ?_)
                      refine q_go (pc := 129) rfl ?_
                      exact h180 J _ _ jT (ttFr_tr kF jF (fun _ => rfl) (by decide)) (by omega) (fun z => jI z kI)
                  · skip
                    refine q_if (pc := 126) rfl (fun h126 => ?_) (fun h126 => ?_)
                    · replace h126 : (0 : Int) = 0 := h126
                      refine q_al (pc := 130) (i := 0) (x := 183) rfl rfl ?_
                      refine q_sc (pc := 131) (j := 3) rfl ?_
                      refine q_iv (pc := 132) (q := 1736968) rfl rfl rfl ⟨by omega, (ttKc hT (a := 183) (κ := 12) (len := 0) ⟨rfl, rfl⟩ (by decide) (by decide)).1⟩ ?_
                      refine lf_takes (by decide) (by decide) (by omega) hT hX (fun ji132 K kT kA kg => ?_) (fun ji132 => ?_)
                      · have k9 : ∀ j : Int, K.1 189 j = H.1 189 j := fun j => fr_no kA 189 (by omega) rfl rfl
                        have kF : ttFr yyEF H K := ttFr_tr (ttFr_rf yyEF H) kA (fun _ => rfl) (by decide)
                        have kI : yyI K.1 := yyI_eq (fun j _ _ _ => k9 j) hI
                        refine q_if (pc := 133) rfl (fun h133 => ?_) (fun h133 => ?_)
                        · replace h133 : (1 : Int) = 0 := h133
                          omega
                        · replace h133 : (1 : Int) ≠ 0 := h133
                          exact h134 K _ _ kT kF kI k9 (c3 ji132) (by omega)
                      · skip
                        refine q_if (pc := 133) rfl (fun h133 => ?_) (fun h133 => ?_)
                        · replace h133 : (0 : Int) = 0 := h133
                          refine q_al (pc := 176) (i := 0) (x := 183) rfl rfl ?_
                          refine q_iv (pc := 177) (q := 1704967) rfl rfl rfl (ttKc hT (a := 183) (κ := 12) (len := 0) ⟨rfl, rfl⟩ (by decide) (by decide)).1 ?_
                          refine lf_advance (by omega) hT (fun K kT kA => ?_)
                          have k9 : ∀ j : Int, K.1 189 j = H.1 189 j := fun j => fr_no kA 189 (by omega) rfl rfl
                          have kF : ttFr yyEF H K := ttFr_tr (ttFr_rf yyEF H) kA (fun _ => rfl) (by decide)
                          have kI : yyI K.1 := yyI_eq (fun j _ _ _ => k9 j) hI
                          refine q_al (pc := 178) (i := 0) (x := 183) rfl rfl ?_
                          refine q_iv (pc := 179) (q := 1816967) rfl rfl rfl (ttKc kT (a := 183) (κ := 12) (len := 0) ⟨rfl, rfl⟩ (by decide) (by decide)).1 ?_
                          refine lf_readPoint (by omega) kT (xx_fr kF rfl (by decide) (by decide) hX) (by rw [k9 15]; have := c4 ((((ck h104).resolve_left ji111).resolve_left ji118).resolve_left ji125 |>.resolve_left ji132); have := hI.2.1; omega) (fun J jT jF jI => ?_)
                          exact h180 J _ _ jT (ttFr_tr kF jF (fun _ => rfl) (by decide)) (by omega) (fun z => jI z kI)
                        · replace h133 : (0 : Int) ≠ 0 := h133
                          omega
                    · replace h126 : (0 : Int) ≠ 0 := h126
                      omega
                · replace h119 : (0 : Int) ≠ 0 := h119
                  omega
            · replace h112 : (0 : Int) ≠ 0 := h112
              omega
        · replace h104 : c ≠ (-1) := h104
          refine q_al (pc := 105) (i := 0) (x := 183) rfl rfl ?_
          refine q_il (pc := 106) (i := 1) (x := c) rfl rfl ?_
          refine q_iv (pc := 107) (q := 1848971) rfl rfl rfl (ttKc hT (a := 183) (κ := 12) (len := 0) ⟨rfl, rfl⟩ (by decide) (by decide)).1 ?_
          refine lf_readOnce (by omega) hT hX (by omega) c5 (fun K kT kF kI => ?_)
          refine q_go (pc := 108) rfl ?_
          exact h180 K _ _ kT kF (by omega) (fun z => kI z hI)
      · replace h100 : (1 : Int) = 0 := h100
        omega
    · skip
      refine q_if (pc := 100) rfl (fun h100 => ?_) (fun h100 => ?_)
      · replace h100 : (0 : Int) ≠ 0 := h100
        omega
      · replace h100 : (0 : Int) = 0 := h100
        refine q_rv (pc := 101) rfl ?_
        exact absurd hg jg99
  have h48 : ∀ (c : Int) (x2 : xV), -1 ≤ c → c ≤ 5 → (c = -1 → yyIs H.1 (-2) ∨ yyIs H.1 (-3) ∨ yyIs H.1 (-4) ∨ yyIs H.1 (-5) ∨ yyIs H.1 (-6)) → xW e cd_232 Q (48, [(2, 183), (0, c), x2], [], H) := by
    intro c x2 c0 c5 ck
    refine q_al (pc := 48) (i := 0) (x := 183) rfl rfl ?_
    refine q_gf (pc := 49) (m := 12142) (t := 2) (c := 14) rfl (ttKc hT (a := 183) (κ := 12) (len := 0) ⟨rfl, rfl⟩ (by decide) (by decide)).1 rfl rfl ?_
    rw [show H.1 183 14 = 189 from ttFx hT (by decide) (by decide) rfl rfl rfl]
    refine q_ic (pc := 50) (v := 0) rfl ?_
    refine q_ai (pc := 51) rfl (ttKc hT (a := 189) (κ := 20) (len := 196) ⟨rfl, rfl⟩ (by decide) (by decide)).1 (by omega) (by rw [(ttKc hT (a := 189) (κ := 20) (len := 196) ⟨rfl, rfl⟩ (by decide) (by decide)).2]; omega) ?_
    refine q_ic (pc := 52) (v := 60) rfl ?_
    refine q_i2 (pc := 53) rfl (fun h53 => ?_) (fun h53 => ?_)
    · replace h53 : (H.1 189 0) = 60 := h53
      exact n95 H _ _ hT (ttFr_rf _ H)
    · replace h53 : (H.1 189 0) ≠ 60 := h53
      refine q_al (pc := 54) (i := 0) (x := 183) rfl rfl ?_
      refine q_sc (pc := 55) (j := 0) rfl ?_
      refine q_iv (pc := 56) (q := 1728968) rfl rfl rfl ⟨by omega, (ttKc hT (a := 183) (κ := 12) (len := 0) ⟨rfl, rfl⟩ (by decide) (by decide)).1⟩ ?_
      refine lf_is (by decide) (by decide) (by omega) hT (fun ji56 => ?_) (fun ji56 => ?_)
      · skip
        refine q_if (pc := 57) rfl (fun h57 => ?_) (fun h57 => ?_)
        · replace h57 : (1 : Int) = 0 := h57
          omega
        · replace h57 : (1 : Int) ≠ 0 := h57
          refine q_al (pc := 58) (i := 0) (x := 183) rfl rfl ?_
          refine q_gf (pc := 59) (m := 12142) (t := 2) (c := 14) rfl (ttKc hT (a := 183) (κ := 12) (len := 0) ⟨rfl, rfl⟩ (by decide) (by decide)).1 rfl rfl ?_
          rw [show H.1 183 14 = 189 from ttFx hT (by decide) (by decide) rfl rfl rfl]
          refine q_ic (pc := 60) (v := 1) rfl ?_
          refine q_ai (pc := 61) rfl (ttKc hT (a := 189) (κ := 20) (len := 196) ⟨rfl, rfl⟩ (by decide) (by decide)).1 (by omega) (by rw [(ttKc hT (a := 189) (κ := 20) (len := 196) ⟨rfl, rfl⟩ (by decide) (by decide)).2]; omega) ?_
          refine q_ic (pc := 62) (v := 8) rfl ?_
          refine q_i2 (pc := 63) rfl (fun h63 => ?_) (fun h63 => ?_)
          · replace h63 : (H.1 189 1) = 8 := h63
            exact n95 H _ _ hT (ttFr_rf _ H)
          · replace h63 : (H.1 189 1) ≠ 8 := h63
            refine q_al (pc := 64) (i := 0) (x := 183) rfl rfl ?_
            refine q_sc (pc := 65) (j := 1) rfl ?_
            refine q_iv (pc := 66) (q := 1728968) rfl rfl rfl ⟨by omega, (ttKc hT (a := 183) (κ := 12) (len := 0) ⟨rfl, rfl⟩ (by decide) (by decide)).1⟩ ?_
            refine lf_is (by decide) (by decide) (by omega) hT (fun ji66 => ?_) (fun ji66 => ?_)
            · skip
              refine q_if (pc := 67) rfl (fun h67 => ?_) (fun h67 => ?_)
              · replace h67 : (1 : Int) = 0 := h67
                omega
              · replace h67 : (1 : Int) ≠ 0 := h67
                refine q_al (pc := 68) (i := 0) (x := 183) rfl rfl ?_
                refine q_gf (pc := 69) (m := 12142) (t := 2) (c := 14) rfl (ttKc hT (a := 183) (κ := 12) (len := 0) ⟨rfl, rfl⟩ (by decide) (by decide)).1 rfl rfl ?_
                rw [show H.1 183 14 = 189 from ttFx hT (by decide) (by decide) rfl rfl rfl]
                refine q_ic (pc := 70) (v := 2) rfl ?_
                refine q_ai (pc := 71) rfl (ttKc hT (a := 189) (κ := 20) (len := 196) ⟨rfl, rfl⟩ (by decide) (by decide)).1 (by omega) (by rw [(ttKc hT (a := 189) (κ := 20) (len := 196) ⟨rfl, rfl⟩ (by decide) (by decide)).2]; omega) ?_
                refine q_ic (pc := 72) (v := 10) rfl ?_
                refine q_i2 (pc := 73) rfl (fun h73 => ?_) (fun h73 => ?_)
                · replace h73 : (H.1 189 2) = 10 := h73
                  exact n95 H _ _ hT (ttFr_rf _ H)
                · replace h73 : (H.1 189 2) ≠ 10 := h73
                  refine q_al (pc := 74) (i := 0) (x := 183) rfl rfl ?_
                  refine q_sc (pc := 75) (j := 3) rfl ?_
                  refine q_iv (pc := 76) (q := 1728968) rfl rfl rfl ⟨by omega, (ttKc hT (a := 183) (κ := 12) (len := 0) ⟨rfl, rfl⟩ (by decide) (by decide)).1⟩ ?_
                  refine lf_is (by decide) (by decide) (by omega) hT (fun ji76 => ?_) (fun ji76 => ?_)
                  · skip
                    refine q_if (pc := 77) rfl (fun h77 => ?_) (fun h77 => ?_)
                    · replace h77 : (1 : Int) = 0 := h77
                      omega
                    · replace h77 : (1 : Int) ≠ 0 := h77
                      refine q_al (pc := 78) (i := 0) (x := 183) rfl rfl ?_
                      refine q_gf (pc := 79) (m := 12142) (t := 2) (c := 14) rfl (ttKc hT (a := 183) (κ := 12) (len := 0) ⟨rfl, rfl⟩ (by decide) (by decide)).1 rfl rfl ?_
                      rw [show H.1 183 14 = 189 from ttFx hT (by decide) (by decide) rfl rfl rfl]
                      refine q_ic (pc := 80) (v := 3) rfl ?_
                      refine q_ai (pc := 81) rfl (ttKc hT (a := 189) (κ := 20) (len := 196) ⟨rfl, rfl⟩ (by decide) (by decide)).1 (by omega) (by rw [(ttKc hT (a := 189) (κ := 20) (len := 196) ⟨rfl, rfl⟩ (by decide) (by decide)).2]; omega) ?_
                      refine q_ic (pc := 82) (v := 6) rfl ?_
                      refine q_i2 (pc := 83) rfl (fun h83 => ?_) (fun h83 => ?_)
                      · replace h83 : (H.1 189 3) = 6 := h83
                        exact n95 H _ _ hT (ttFr_rf _ H)
                      · replace h83 : (H.1 189 3) ≠ 6 := h83
                        refine q_al (pc := 84) (i := 0) (x := 183) rfl rfl ?_
                        refine q_sc (pc := 85) (j := 4) rfl ?_
                        refine q_iv (pc := 86) (q := 1728968) rfl rfl rfl ⟨by omega, (ttKc hT (a := 183) (κ := 12) (len := 0) ⟨rfl, rfl⟩ (by decide) (by decide)).1⟩ ?_
                        refine lf_is (by decide) (by decide) (by omega) hT (fun ji86 => ?_) (fun ji86 => ?_)
                        · skip
                          refine q_if (pc := 87) rfl (fun h87 => ?_) (fun h87 => ?_)
                          · replace h87 : (1 : Int) = 0 := h87
                            omega
                          · replace h87 : (1 : Int) ≠ 0 := h87
                            refine q_al (pc := 88) (i := 0) (x := 183) rfl rfl ?_
                            refine q_gf (pc := 89) (m := 12142) (t := 2) (c := 14) rfl (ttKc hT (a := 183) (κ := 12) (len := 0) ⟨rfl, rfl⟩ (by decide) (by decide)).1 rfl rfl ?_
                            rw [show H.1 183 14 = 189 from ttFx hT (by decide) (by decide) rfl rfl rfl]
                            refine q_ic (pc := 90) (v := 15) rfl ?_
                            refine q_ai (pc := 91) rfl (ttKc hT (a := 189) (κ := 20) (len := 196) ⟨rfl, rfl⟩ (by decide) (by decide)).1 (by omega) (by rw [(ttKc hT (a := 189) (κ := 20) (len := 196) ⟨rfl, rfl⟩ (by decide) (by decide)).2]; omega) ?_
                            refine q_ij (pc := 92) (q := 1839924) rfl rfl rfl trivial ?_
                            refine lf_ones (by omega) zr.1 zr.2 ?_
                            refine q_ic (pc := 93) (v := 3) rfl ?_
                            refine q_i2 (pc := 94) rfl (fun h94 => ?_) (fun h94 => ?_)
                            · replace h94 : (yyP (H.1 189 15)) ≠ 3 := h94
                              exact h98 c _ c0 c5 ck h53 (fun z => by first | exact absurd z ji56 | exact h63) (fun z => by first | exact absurd z ji66 | exact h73) (fun z => by first | exact absurd z ji76 | exact h83) (fun z => by first | exact absurd z ji86 | exact h94)
                            · replace h94 : (yyP (H.1 189 15)) = 3 := h94
                              exact n95 H _ _ hT (ttFr_rf _ H)
                        · skip
                          refine q_if (pc := 87) rfl (fun h87 => ?_) (fun h87 => ?_)
                          · replace h87 : (0 : Int) = 0 := h87
                            exact h98 c _ c0 c5 ck h53 (fun z => by first | exact absurd z ji56 | exact h63) (fun z => by first | exact absurd z ji66 | exact h73) (fun z => by first | exact absurd z ji76 | exact h83) (fun z => by first | exact absurd z ji86 | exact h94)
                          · replace h87 : (0 : Int) ≠ 0 := h87
                            omega
                  · skip
                    refine q_if (pc := 77) rfl (fun h77 => ?_) (fun h77 => ?_)
                    · replace h77 : (0 : Int) = 0 := h77
                      refine q_al (pc := 84) (i := 0) (x := 183) rfl rfl ?_
                      refine q_sc (pc := 85) (j := 4) rfl ?_
                      refine q_iv (pc := 86) (q := 1728968) rfl rfl rfl ⟨by omega, (ttKc hT (a := 183) (κ := 12) (len := 0) ⟨rfl, rfl⟩ (by decide) (by decide)).1⟩ ?_
                      refine lf_is (by decide) (by decide) (by omega) hT (fun ji86 => ?_) (fun ji86 => ?_)
                      · skip
                        refine q_if (pc := 87) rfl (fun h87 => ?_) (fun h87 => ?_)
                        · replace h87 : (1 : Int) = 0 := h87
                          omega
                        · replace h87 : (1 : Int) ≠ 0 := h87
                          refine q_al (pc := 88) (i := 0) (x := 183) rfl rfl ?_
                          refine q_gf (pc := 89) (m := 12142) (t := 2) (c := 14) rfl (ttKc hT (a := 183) (κ := 12) (len := 0) ⟨rfl, rfl⟩ (by decide) (by decide)).1 rfl rfl ?_
                          rw [show H.1 183 14 = 189 from ttFx hT (by decide) (by decide) rfl rfl rfl]
                          refine q_ic (pc := 90) (v := 15) rfl ?_
                          refine q_ai (pc := 91) rfl (ttKc hT (a := 189) (κ := 20) (len := 196) ⟨rfl, rfl⟩ (by decide) (by decide)).1 (by omega) (by rw [(ttKc hT (a := 189) (κ := 20) (len := 196) ⟨rfl, rfl⟩ (by decide) (by decide)).2]; omega) ?_
                          refine q_ij (pc := 92) (q := 1839924) rfl rfl rfl trivial ?_
                          refine lf_ones (by omega) zr.1 zr.2 ?_
                          refine q_ic (pc := 93) (v := 3) rfl ?_
                          refine q_i2 (pc := 94) rfl (fun h94 => ?_) (fun h94 => ?_)
                          · replace h94 : (yyP (H.1 189 15)) ≠ 3 := h94
                            exact h98 c _ c0 c5 ck h53 (fun z => by first | exact absurd z ji56 | exact h63) (fun z => by first | exact absurd z ji66 | exact h73) (fun z => by first | exact absurd z ji76 | exact h83) (fun z => by first | exact absurd z ji86 | exact h94)
                          · replace h94 : (yyP (H.1 189 15)) = 3 := h94
                            exact n95 H _ _ hT (ttFr_rf _ H)
                      · skip
                        refine q_if (pc := 87) rfl (fun h87 => ?_) (fun h87 => ?_)
                        · replace h87 : (0 : Int) = 0 := h87
                          exact h98 c _ c0 c5 ck h53 (fun z => by first | exact absurd z ji56 | exact h63) (fun z => by first | exact absurd z ji66 | exact h73) (fun z => by first | exact absurd z ji76 | exact h83) (fun z => by first | exact absurd z ji86 | exact h94)
                        · replace h87 : (0 : Int) ≠ 0 := h87
                          omega
                    · replace h77 : (0 : Int) ≠ 0 := h77
                      omega
            · skip
              refine q_if (pc := 67) rfl (fun h67 => ?_) (fun h67 => ?_)
              · replace h67 : (0 : Int) = 0 := h67
                refine q_al (pc := 74) (i := 0) (x := 183) rfl rfl ?_
                refine q_sc (pc := 75) (j := 3) rfl ?_
                refine q_iv (pc := 76) (q := 1728968) rfl rfl rfl ⟨by omega, (ttKc hT (a := 183) (κ := 12) (len := 0) ⟨rfl, rfl⟩ (by decide) (by decide)).1⟩ ?_
                refine lf_is (by decide) (by decide) (by omega) hT (fun ji76 => ?_) (fun ji76 => ?_)
                · skip
                  refine q_if (pc := 77) rfl (fun h77 => ?_) (fun h77 => ?_)
                  · replace h77 : (1 : Int) = 0 := h77
                    omega
                  · replace h77 : (1 : Int) ≠ 0 := h77
                    refine q_al (pc := 78) (i := 0) (x := 183) rfl rfl ?_
                    refine q_gf (pc := 79) (m := 12142) (t := 2) (c := 14) rfl (ttKc hT (a := 183) (κ := 12) (len := 0) ⟨rfl, rfl⟩ (by decide) (by decide)).1 rfl rfl ?_
                    rw [show H.1 183 14 = 189 from ttFx hT (by decide) (by decide) rfl rfl rfl]
                    refine q_ic (pc := 80) (v := 3) rfl ?_
                    refine q_ai (pc := 81) rfl (ttKc hT (a := 189) (κ := 20) (len := 196) ⟨rfl, rfl⟩ (by decide) (by decide)).1 (by omega) (by rw [(ttKc hT (a := 189) (κ := 20) (len := 196) ⟨rfl, rfl⟩ (by decide) (by decide)).2]; omega) ?_
                    refine q_ic (pc := 82) (v := 6) rfl ?_
                    refine q_i2 (pc := 83) rfl (fun h83 => ?_) (fun h83 => ?_)
                    · replace h83 : (H.1 189 3) = 6 := h83
                      exact n95 H _ _ hT (ttFr_rf _ H)
                    · replace h83 : (H.1 189 3) ≠ 6 := h83
                      refine q_al (pc := 84) (i := 0) (x := 183) rfl rfl ?_
                      refine q_sc (pc := 85) (j := 4) rfl ?_
                      refine q_iv (pc := 86) (q := 1728968) rfl rfl rfl ⟨by omega, (ttKc hT (a := 183) (κ := 12) (len := 0) ⟨rfl, rfl⟩ (by decide) (by decide)).1⟩ ?_
                      refine lf_is (by decide) (by decide) (by omega) hT (fun ji86 => ?_) (fun ji86 => ?_)
                      · skip
                        refine q_if (pc := 87) rfl (fun h87 => ?_) (fun h87 => ?_)
                        · replace h87 : (1 : Int) = 0 := h87
                          omega
                        · replace h87 : (1 : Int) ≠ 0 := h87
                          refine q_al (pc := 88) (i := 0) (x := 183) rfl rfl ?_
                          refine q_gf (pc := 89) (m := 12142) (t := 2) (c := 14) rfl (ttKc hT (a := 183) (κ := 12) (len := 0) ⟨rfl, rfl⟩ (by decide) (by decide)).1 rfl rfl ?_
                          rw [show H.1 183 14 = 189 from ttFx hT (by decide) (by decide) rfl rfl rfl]
                          refine q_ic (pc := 90) (v := 15) rfl ?_
                          refine q_ai (pc := 91) rfl (ttKc hT (a := 189) (κ := 20) (len := 196) ⟨rfl, rfl⟩ (by decide) (by decide)).1 (by omega) (by rw [(ttKc hT (a := 189) (κ := 20) (len := 196) ⟨rfl, rfl⟩ (by decide) (by decide)).2]; omega) ?_
                          refine q_ij (pc := 92) (q := 1839924) rfl rfl rfl trivial ?_
                          refine lf_ones (by omega) zr.1 zr.2 ?_
                          refine q_ic (pc := 93) (v := 3) rfl ?_
                          refine q_i2 (pc := 94) rfl (fun h94 => ?_) (fun h94 => ?_)
                          · replace h94 : (yyP (H.1 189 15)) ≠ 3 := h94
                            exact h98 c _ c0 c5 ck h53 (fun z => by first | exact absurd z ji56 | exact h63) (fun z => by first | exact absurd z ji66 | exact h73) (fun z => by first | exact absurd z ji76 | exact h83) (fun z => by first | exact absurd z ji86 | exact h94)
                          · replace h94 : (yyP (H.1 189 15)) = 3 := h94
                            exact n95 H _ _ hT (ttFr_rf _ H)
                      · skip
                        refine q_if (pc := 87) rfl (fun h87 => ?_) (fun h87 => ?_)
                        · replace h87 : (0 : Int) = 0 := h87
                          exact h98 c _ c0 c5 ck h53 (fun z => by first | exact absurd z ji56 | exact h63) (fun z => by first | exact absurd z ji66 | exact h73) (fun z => by first | exact absurd z ji76 | exact h83) (fun z => by first | exact absurd z ji86 | exact h94)
                        · replace h87 : (0 : Int) ≠ 0 := h87
                          omega
                · skip
                  refine q_if (pc := 77) rfl (fun h77 => ?_) (fun h77 => ?_)
                  · replace h77 : (0 : Int) = 0 := h77
                    refine q_al (pc := 84) (i := 0) (x := 183) rfl rfl ?_
                    refine q_sc (pc := 85) (j := 4) rfl ?_
                    refine q_iv (pc := 86) (q := 1728968) rfl rfl rfl ⟨by omega, (ttKc hT (a := 183) (κ := 12) (len := 0) ⟨rfl, rfl⟩ (by decide) (by decide)).1⟩ ?_
                    refine lf_is (by decide) (by decide) (by omega) hT (fun ji86 => ?_) (fun ji86 => ?_)
                    · skip
                      refine q_if (pc := 87) rfl (fun h87 => ?_) (fun h87 => ?_)
                      · replace h87 : (1 : Int) = 0 := h87
                        omega
                      · replace h87 : (1 : Int) ≠ 0 := h87
                        refine q_al (pc := 88) (i := 0) (x := 183) rfl rfl ?_
                        refine q_gf (pc := 89) (m := 12142) (t := 2) (c := 14) rfl (ttKc hT (a := 183) (κ := 12) (len := 0) ⟨rfl, rfl⟩ (by decide) (by decide)).1 rfl rfl ?_
                        rw [show H.1 183 14 = 189 from ttFx hT (by decide) (by decide) rfl rfl rfl]
                        refine q_ic (pc := 90) (v := 15) rfl ?_
                        refine q_ai (pc := 91) rfl (ttKc hT (a := 189) (κ := 20) (len := 196) ⟨rfl, rfl⟩ (by decide) (by decide)).1 (by omega) (by rw [(ttKc hT (a := 189) (κ := 20) (len := 196) ⟨rfl, rfl⟩ (by decide) (by decide)).2]; omega) ?_
                        refine q_ij (pc := 92) (q := 1839924) rfl rfl rfl trivial ?_
                        refine lf_ones (by omega) zr.1 zr.2 ?_
                        refine q_ic (pc := 93) (v := 3) rfl ?_
                        refine q_i2 (pc := 94) rfl (fun h94 => ?_) (fun h94 => ?_)
                        · replace h94 : (yyP (H.1 189 15)) ≠ 3 := h94
                          exact h98 c _ c0 c5 ck h53 (fun z => by first | exact absurd z ji56 | exact h63) (fun z => by first | exact absurd z ji66 | exact h73) (fun z => by first | exact absurd z ji76 | exact h83) (fun z => by first | exact absurd z ji86 | exact h94)
                        · replace h94 : (yyP (H.1 189 15)) = 3 := h94
                          exact n95 H _ _ hT (ttFr_rf _ H)
                    · skip
                      refine q_if (pc := 87) rfl (fun h87 => ?_) (fun h87 => ?_)
                      · replace h87 : (0 : Int) = 0 := h87
                        exact h98 c _ c0 c5 ck h53 (fun z => by first | exact absurd z ji56 | exact h63) (fun z => by first | exact absurd z ji66 | exact h73) (fun z => by first | exact absurd z ji76 | exact h83) (fun z => by first | exact absurd z ji86 | exact h94)
                      · replace h87 : (0 : Int) ≠ 0 := h87
                        omega
                  · replace h77 : (0 : Int) ≠ 0 := h77
                    omega
              · replace h67 : (0 : Int) ≠ 0 := h67
                omega
      · skip
        refine q_if (pc := 57) rfl (fun h57 => ?_) (fun h57 => ?_)
        · replace h57 : (0 : Int) = 0 := h57
          refine q_al (pc := 64) (i := 0) (x := 183) rfl rfl ?_
          refine q_sc (pc := 65) (j := 1) rfl ?_
          refine q_iv (pc := 66) (q := 1728968) rfl rfl rfl ⟨by omega, (ttKc hT (a := 183) (κ := 12) (len := 0) ⟨rfl, rfl⟩ (by decide) (by decide)).1⟩ ?_
          refine lf_is (by decide) (by decide) (by omega) hT (fun ji66 => ?_) (fun ji66 => ?_)
          · skip
            refine q_if (pc := 67) rfl (fun h67 => ?_) (fun h67 => ?_)
            · replace h67 : (1 : Int) = 0 := h67
              omega
            · replace h67 : (1 : Int) ≠ 0 := h67
              refine q_al (pc := 68) (i := 0) (x := 183) rfl rfl ?_
              refine q_gf (pc := 69) (m := 12142) (t := 2) (c := 14) rfl (ttKc hT (a := 183) (κ := 12) (len := 0) ⟨rfl, rfl⟩ (by decide) (by decide)).1 rfl rfl ?_
              rw [show H.1 183 14 = 189 from ttFx hT (by decide) (by decide) rfl rfl rfl]
              refine q_ic (pc := 70) (v := 2) rfl ?_
              refine q_ai (pc := 71) rfl (ttKc hT (a := 189) (κ := 20) (len := 196) ⟨rfl, rfl⟩ (by decide) (by decide)).1 (by omega) (by rw [(ttKc hT (a := 189) (κ := 20) (len := 196) ⟨rfl, rfl⟩ (by decide) (by decide)).2]; omega) ?_
              refine q_ic (pc := 72) (v := 10) rfl ?_
              refine q_i2 (pc := 73) rfl (fun h73 => ?_) (fun h73 => ?_)
              · replace h73 : (H.1 189 2) = 10 := h73
                exact n95 H _ _ hT (ttFr_rf _ H)
              · replace h73 : (H.1 189 2) ≠ 10 := h73
                refine q_al (pc := 74) (i := 0) (x := 183) rfl rfl ?_
                refine q_sc (pc := 75) (j := 3) rfl ?_
                refine q_iv (pc := 76) (q := 1728968) rfl rfl rfl ⟨by omega, (ttKc hT (a := 183) (κ := 12) (len := 0) ⟨rfl, rfl⟩ (by decide) (by decide)).1⟩ ?_
                refine lf_is (by decide) (by decide) (by omega) hT (fun ji76 => ?_) (fun ji76 => ?_)
                · skip
                  refine q_if (pc := 77) rfl (fun h77 => ?_) (fun h77 => ?_)
                  · replace h77 : (1 : Int) = 0 := h77
                    omega
                  · replace h77 : (1 : Int) ≠ 0 := h77
                    refine q_al (pc := 78) (i := 0) (x := 183) rfl rfl ?_
                    refine q_gf (pc := 79) (m := 12142) (t := 2) (c := 14) rfl (ttKc hT (a := 183) (κ := 12) (len := 0) ⟨rfl, rfl⟩ (by decide) (by decide)).1 rfl rfl ?_
                    rw [show H.1 183 14 = 189 from ttFx hT (by decide) (by decide) rfl rfl rfl]
                    refine q_ic (pc := 80) (v := 3) rfl ?_
                    refine q_ai (pc := 81) rfl (ttKc hT (a := 189) (κ := 20) (len := 196) ⟨rfl, rfl⟩ (by decide) (by decide)).1 (by omega) (by rw [(ttKc hT (a := 189) (κ := 20) (len := 196) ⟨rfl, rfl⟩ (by decide) (by decide)).2]; omega) ?_
                    refine q_ic (pc := 82) (v := 6) rfl ?_
                    refine q_i2 (pc := 83) rfl (fun h83 => ?_) (fun h83 => ?_)
                    · replace h83 : (H.1 189 3) = 6 := h83
                      exact n95 H _ _ hT (ttFr_rf _ H)
                    · replace h83 : (H.1 189 3) ≠ 6 := h83
                      refine q_al (pc := 84) (i := 0) (x := 183) rfl rfl ?_
                      refine q_sc (pc := 85) (j := 4) rfl ?_
                      refine q_iv (pc := 86) (q := 1728968) rfl rfl rfl ⟨by omega, (ttKc hT (a := 183) (κ := 12) (len := 0) ⟨rfl, rfl⟩ (by decide) (by decide)).1⟩ ?_
                      refine lf_is (by decide) (by decide) (by omega) hT (fun ji86 => ?_) (fun ji86 => ?_)
                      · skip
                        refine q_if (pc := 87) rfl (fun h87 => ?_) (fun h87 => ?_)
                        · replace h87 : (1 : Int) = 0 := h87
                          omega
                        · replace h87 : (1 : Int) ≠ 0 := h87
                          refine q_al (pc := 88) (i := 0) (x := 183) rfl rfl ?_
                          refine q_gf (pc := 89) (m := 12142) (t := 2) (c := 14) rfl (ttKc hT (a := 183) (κ := 12) (len := 0) ⟨rfl, rfl⟩ (by decide) (by decide)).1 rfl rfl ?_
                          rw [show H.1 183 14 = 189 from ttFx hT (by decide) (by decide) rfl rfl rfl]
                          refine q_ic (pc := 90) (v := 15) rfl ?_
                          refine q_ai (pc := 91) rfl (ttKc hT (a := 189) (κ := 20) (len := 196) ⟨rfl, rfl⟩ (by decide) (by decide)).1 (by omega) (by rw [(ttKc hT (a := 189) (κ := 20) (len := 196) ⟨rfl, rfl⟩ (by decide) (by decide)).2]; omega) ?_
                          refine q_ij (pc := 92) (q := 1839924) rfl rfl rfl trivial ?_
                          refine lf_ones (by omega) zr.1 zr.2 ?_
                          refine q_ic (pc := 93) (v := 3) rfl ?_
                          refine q_i2 (pc := 94) rfl (fun h94 => ?_) (fun h94 => ?_)
                          · replace h94 : (yyP (H.1 189 15)) ≠ 3 := h94
                            exact h98 c _ c0 c5 ck h53 (fun z => by first | exact absurd z ji56 | exact h63) (fun z => by first | exact absurd z ji66 | exact h73) (fun z => by first | exact absurd z ji76 | exact h83) (fun z => by first | exact absurd z ji86 | exact h94)
                          · replace h94 : (yyP (H.1 189 15)) = 3 := h94
                            exact n95 H _ _ hT (ttFr_rf _ H)
                      · skip
                        refine q_if (pc := 87) rfl (fun h87 => ?_) (fun h87 => ?_)
                        · replace h87 : (0 : Int) = 0 := h87
                          exact h98 c _ c0 c5 ck h53 (fun z => by first | exact absurd z ji56 | exact h63) (fun z => by first | exact absurd z ji66 | exact h73) (fun z => by first | exact absurd z ji76 | exact h83) (fun z => by first | exact absurd z ji86 | exact h94)
                        · replace h87 : (0 : Int) ≠ 0 := h87
                          omega
                · skip
                  refine q_if (pc := 77) rfl (fun h77 => ?_) (fun h77 => ?_)
                  · replace h77 : (0 : Int) = 0 := h77
                    refine q_al (pc := 84) (i := 0) (x := 183) rfl rfl ?_
                    refine q_sc (pc := 85) (j := 4) rfl ?_
                    refine q_iv (pc := 86) (q := 1728968) rfl rfl rfl ⟨by omega, (ttKc hT (a := 183) (κ := 12) (len := 0) ⟨rfl, rfl⟩ (by decide) (by decide)).1⟩ ?_
                    refine lf_is (by decide) (by decide) (by omega) hT (fun ji86 => ?_) (fun ji86 => ?_)
                    · skip
                      refine q_if (pc := 87) rfl (fun h87 => ?_) (fun h87 => ?_)
                      · replace h87 : (1 : Int) = 0 := h87
                        omega
                      · replace h87 : (1 : Int) ≠ 0 := h87
                        refine q_al (pc := 88) (i := 0) (x := 183) rfl rfl ?_
                        refine q_gf (pc := 89) (m := 12142) (t := 2) (c := 14) rfl (ttKc hT (a := 183) (κ := 12) (len := 0) ⟨rfl, rfl⟩ (by decide) (by decide)).1 rfl rfl ?_
                        rw [show H.1 183 14 = 189 from ttFx hT (by decide) (by decide) rfl rfl rfl]
                        refine q_ic (pc := 90) (v := 15) rfl ?_
                        refine q_ai (pc := 91) rfl (ttKc hT (a := 189) (κ := 20) (len := 196) ⟨rfl, rfl⟩ (by decide) (by decide)).1 (by omega) (by rw [(ttKc hT (a := 189) (κ := 20) (len := 196) ⟨rfl, rfl⟩ (by decide) (by decide)).2]; omega) ?_
                        refine q_ij (pc := 92) (q := 1839924) rfl rfl rfl trivial ?_
                        refine lf_ones (by omega) zr.1 zr.2 ?_
                        refine q_ic (pc := 93) (v := 3) rfl ?_
                        refine q_i2 (pc := 94) rfl (fun h94 => ?_) (fun h94 => ?_)
                        · replace h94 : (yyP (H.1 189 15)) ≠ 3 := h94
                          exact h98 c _ c0 c5 ck h53 (fun z => by first | exact absurd z ji56 | exact h63) (fun z => by first | exact absurd z ji66 | exact h73) (fun z => by first | exact absurd z ji76 | exact h83) (fun z => by first | exact absurd z ji86 | exact h94)
                        · replace h94 : (yyP (H.1 189 15)) = 3 := h94
                          exact n95 H _ _ hT (ttFr_rf _ H)
                    · skip
                      refine q_if (pc := 87) rfl (fun h87 => ?_) (fun h87 => ?_)
                      · replace h87 : (0 : Int) = 0 := h87
                        exact h98 c _ c0 c5 ck h53 (fun z => by first | exact absurd z ji56 | exact h63) (fun z => by first | exact absurd z ji66 | exact h73) (fun z => by first | exact absurd z ji76 | exact h83) (fun z => by first | exact absurd z ji86 | exact h94)
                      · replace h87 : (0 : Int) ≠ 0 := h87
                        omega
                  · replace h77 : (0 : Int) ≠ 0 := h77
                    omega
          · skip
            refine q_if (pc := 67) rfl (fun h67 => ?_) (fun h67 => ?_)
            · replace h67 : (0 : Int) = 0 := h67
              refine q_al (pc := 74) (i := 0) (x := 183) rfl rfl ?_
              refine q_sc (pc := 75) (j := 3) rfl ?_
              refine q_iv (pc := 76) (q := 1728968) rfl rfl rfl ⟨by omega, (ttKc hT (a := 183) (κ := 12) (len := 0) ⟨rfl, rfl⟩ (by decide) (by decide)).1⟩ ?_
              refine lf_is (by decide) (by decide) (by omega) hT (fun ji76 => ?_) (fun ji76 => ?_)
              · skip
                refine q_if (pc := 77) rfl (fun h77 => ?_) (fun h77 => ?_)
                · replace h77 : (1 : Int) = 0 := h77
                  omega
                · replace h77 : (1 : Int) ≠ 0 := h77
                  refine q_al (pc := 78) (i := 0) (x := 183) rfl rfl ?_
                  refine q_gf (pc := 79) (m := 12142) (t := 2) (c := 14) rfl (ttKc hT (a := 183) (κ := 12) (len := 0) ⟨rfl, rfl⟩ (by decide) (by decide)).1 rfl rfl ?_
                  rw [show H.1 183 14 = 189 from ttFx hT (by decide) (by decide) rfl rfl rfl]
                  refine q_ic (pc := 80) (v := 3) rfl ?_
                  refine q_ai (pc := 81) rfl (ttKc hT (a := 189) (κ := 20) (len := 196) ⟨rfl, rfl⟩ (by decide) (by decide)).1 (by omega) (by rw [(ttKc hT (a := 189) (κ := 20) (len := 196) ⟨rfl, rfl⟩ (by decide) (by decide)).2]; omega) ?_
                  refine q_ic (pc := 82) (v := 6) rfl ?_
                  refine q_i2 (pc := 83) rfl (fun h83 => ?_) (fun h83 => ?_)
                  · replace h83 : (H.1 189 3) = 6 := h83
                    exact n95 H _ _ hT (ttFr_rf _ H)
                  · replace h83 : (H.1 189 3) ≠ 6 := h83
                    refine q_al (pc := 84) (i := 0) (x := 183) rfl rfl ?_
                    refine q_sc (pc := 85) (j := 4) rfl ?_
                    refine q_iv (pc := 86) (q := 1728968) rfl rfl rfl ⟨by omega, (ttKc hT (a := 183) (κ := 12) (len := 0) ⟨rfl, rfl⟩ (by decide) (by decide)).1⟩ ?_
                    refine lf_is (by decide) (by decide) (by omega) hT (fun ji86 => ?_) (fun ji86 => ?_)
                    · skip
                      refine q_if (pc := 87) rfl (fun h87 => ?_) (fun h87 => ?_)
                      · replace h87 : (1 : Int) = 0 := h87
                        omega
                      · replace h87 : (1 : Int) ≠ 0 := h87
                        refine q_al (pc := 88) (i := 0) (x := 183) rfl rfl ?_
                        refine q_gf (pc := 89) (m := 12142) (t := 2) (c := 14) rfl (ttKc hT (a := 183) (κ := 12) (len := 0) ⟨rfl, rfl⟩ (by decide) (by decide)).1 rfl rfl ?_
                        rw [show H.1 183 14 = 189 from ttFx hT (by decide) (by decide) rfl rfl rfl]
                        refine q_ic (pc := 90) (v := 15) rfl ?_
                        refine q_ai (pc := 91) rfl (ttKc hT (a := 189) (κ := 20) (len := 196) ⟨rfl, rfl⟩ (by decide) (by decide)).1 (by omega) (by rw [(ttKc hT (a := 189) (κ := 20) (len := 196) ⟨rfl, rfl⟩ (by decide) (by decide)).2]; omega) ?_
                        refine q_ij (pc := 92) (q := 1839924) rfl rfl rfl trivial ?_
                        refine lf_ones (by omega) zr.1 zr.2 ?_
                        refine q_ic (pc := 93) (v := 3) rfl ?_
                        refine q_i2 (pc := 94) rfl (fun h94 => ?_) (fun h94 => ?_)
                        · replace h94 : (yyP (H.1 189 15)) ≠ 3 := h94
                          exact h98 c _ c0 c5 ck h53 (fun z => by first | exact absurd z ji56 | exact h63) (fun z => by first | exact absurd z ji66 | exact h73) (fun z => by first | exact absurd z ji76 | exact h83) (fun z => by first | exact absurd z ji86 | exact h94)
                        · replace h94 : (yyP (H.1 189 15)) = 3 := h94
                          exact n95 H _ _ hT (ttFr_rf _ H)
                    · skip
                      refine q_if (pc := 87) rfl (fun h87 => ?_) (fun h87 => ?_)
                      · replace h87 : (0 : Int) = 0 := h87
                        exact h98 c _ c0 c5 ck h53 (fun z => by first | exact absurd z ji56 | exact h63) (fun z => by first | exact absurd z ji66 | exact h73) (fun z => by first | exact absurd z ji76 | exact h83) (fun z => by first | exact absurd z ji86 | exact h94)
                      · replace h87 : (0 : Int) ≠ 0 := h87
                        omega
              · skip
                refine q_if (pc := 77) rfl (fun h77 => ?_) (fun h77 => ?_)
                · replace h77 : (0 : Int) = 0 := h77
                  refine q_al (pc := 84) (i := 0) (x := 183) rfl rfl ?_
                  refine q_sc (pc := 85) (j := 4) rfl ?_
                  refine q_iv (pc := 86) (q := 1728968) rfl rfl rfl ⟨by omega, (ttKc hT (a := 183) (κ := 12) (len := 0) ⟨rfl, rfl⟩ (by decide) (by decide)).1⟩ ?_
                  refine lf_is (by decide) (by decide) (by omega) hT (fun ji86 => ?_) (fun ji86 => ?_)
                  · skip
                    refine q_if (pc := 87) rfl (fun h87 => ?_) (fun h87 => ?_)
                    · replace h87 : (1 : Int) = 0 := h87
                      omega
                    · replace h87 : (1 : Int) ≠ 0 := h87
                      refine q_al (pc := 88) (i := 0) (x := 183) rfl rfl ?_
                      refine q_gf (pc := 89) (m := 12142) (t := 2) (c := 14) rfl (ttKc hT (a := 183) (κ := 12) (len := 0) ⟨rfl, rfl⟩ (by decide) (by decide)).1 rfl rfl ?_
                      rw [show H.1 183 14 = 189 from ttFx hT (by decide) (by decide) rfl rfl rfl]
                      refine q_ic (pc := 90) (v := 15) rfl ?_
                      refine q_ai (pc := 91) rfl (ttKc hT (a := 189) (κ := 20) (len := 196) ⟨rfl, rfl⟩ (by decide) (by decide)).1 (by omega) (by rw [(ttKc hT (a := 189) (κ := 20) (len := 196) ⟨rfl, rfl⟩ (by decide) (by decide)).2]; omega) ?_
                      refine q_ij (pc := 92) (q := 1839924) rfl rfl rfl trivial ?_
                      refine lf_ones (by omega) zr.1 zr.2 ?_
                      refine q_ic (pc := 93) (v := 3) rfl ?_
                      refine q_i2 (pc := 94) rfl (fun h94 => ?_) (fun h94 => ?_)
                      · replace h94 : (yyP (H.1 189 15)) ≠ 3 := h94
                        exact h98 c _ c0 c5 ck h53 (fun z => by first | exact absurd z ji56 | exact h63) (fun z => by first | exact absurd z ji66 | exact h73) (fun z => by first | exact absurd z ji76 | exact h83) (fun z => by first | exact absurd z ji86 | exact h94)
                      · replace h94 : (yyP (H.1 189 15)) = 3 := h94
                        exact n95 H _ _ hT (ttFr_rf _ H)
                  · skip
                    refine q_if (pc := 87) rfl (fun h87 => ?_) (fun h87 => ?_)
                    · replace h87 : (0 : Int) = 0 := h87
                      exact h98 c _ c0 c5 ck h53 (fun z => by first | exact absurd z ji56 | exact h63) (fun z => by first | exact absurd z ji66 | exact h73) (fun z => by first | exact absurd z ji76 | exact h83) (fun z => by first | exact absurd z ji86 | exact h94)
                    · replace h87 : (0 : Int) ≠ 0 := h87
                      omega
                · replace h77 : (0 : Int) ≠ 0 := h77
                  omega
            · replace h67 : (0 : Int) ≠ 0 := h67
              omega
        · replace h57 : (0 : Int) ≠ 0 := h57
          omega
  have h35 : ∀ (c : Int) (x2 : xV), -1 ≤ c → c ≤ 5 → (c = -1 → yyIs H.1 (-2) ∨ yyIs H.1 (-3) ∨ yyIs H.1 (-4) ∨ yyIs H.1 (-5) ∨ yyIs H.1 (-6)) → xW e cd_232 Q (35, [(2, 183), (0, c), x2], [], H) := by
    intro c x2 c0 c5 ck
    refine q_il (pc := 35) (i := 1) (x := c) rfl rfl ?_
    refine q_ic (pc := 36) (v := (-1)) rfl ?_
    refine q_i2 (pc := 37) rfl (fun h37 => ?_) (fun h37 => ?_)
    · replace h37 : c = (-1) := h37
      exact h48 c _ c0 c5 ck
    · replace h37 : c ≠ (-1) := h37
      refine q_al (pc := 38) (i := 0) (x := 183) rfl rfl ?_
      refine q_gf (pc := 39) (m := 12142) (t := 2) (c := 14) rfl (ttKc hT (a := 183) (κ := 12) (len := 0) ⟨rfl, rfl⟩ (by decide) (by decide)).1 rfl rfl ?_
      rw [show H.1 183 14 = 189 from ttFx hT (by decide) (by decide) rfl rfl rfl]
      refine q_ic (pc := 40) (v := 16) rfl ?_
      refine q_ai (pc := 41) rfl (ttKc hT (a := 189) (κ := 20) (len := 196) ⟨rfl, rfl⟩ (by decide) (by decide)).1 (by omega) (by rw [(ttKc hT (a := 189) (κ := 20) (len := 196) ⟨rfl, rfl⟩ (by decide) (by decide)).2]; omega) ?_
      refine q_il (pc := 42) (i := 1) (x := c) rfl rfl ?_
      refine q_ij (pc := 43) (q := 1623928) rfl rfl rfl trivial ?_
      refine lf_holds (by omega) (fun _ => ?_) (fun _ => ?_)
      · skip
        refine q_if (pc := 44) rfl (fun h44 => ?_) (fun h44 => ?_)
        · replace h44 : (1 : Int) = 0 := h44
          omega
        · replace h44 : (1 : Int) ≠ 0 := h44
          refine q_al (pc := 45) (i := 0) (x := 183) rfl rfl ?_
          refine q_ic (pc := 46) (v := 2) rfl ?_
          refine q_iv (pc := 47) (q := 1720971) rfl rfl rfl (ttKc hT (a := 183) (κ := 12) (len := 0) ⟨rfl, rfl⟩ (by decide) (by decide)).1 ?_
          refine lf_errs (by omega) hT (by decide) (by decide) (fun J jT jF jn => ?_)
          replace jF := ttFr_tr (ttFr_rf (true, [(183, 8, 13)]) H) jF (fun _ => rfl) (by decide)
          exact n48 J _ _ jT jF jn
      · skip
        refine q_if (pc := 44) rfl (fun h44 => ?_) (fun h44 => ?_)
        · replace h44 : (0 : Int) = 0 := h44
          exact h48 c _ c0 c5 ck
        · replace h44 : (0 : Int) ≠ 0 := h44
          omega
  refine xC_of (L := [(2, 183), (9, 0), (9, 0)]) (cd := cd_232) rfl rfl rfl ?_
  refine q_al (pc := 0) (i := 0) (x := 183) rfl rfl ?_
  refine q_iv (pc := 1) (q := 1840964) rfl rfl rfl (ttKc hT (a := 183) (κ := 12) (len := 0) ⟨rfl, rfl⟩ (by decide) (by decide)).1 ?_
  refine lf_onceHere (by omega) hT (fun c c0 c5 => ?_)
  refine q_is (pc := 2) (i := 1) (L' := [(2, 183), (0, c), (9, 0)]) rfl rfl rfl ?_
  refine q_il (pc := 3) (i := 1) (x := c) rfl rfl ?_
  refine q_ic (pc := 4) (v := (-1)) rfl ?_
  refine q_i2 (pc := 5) rfl (fun h5 => ?_) (fun h5 => ?_)
  · replace h5 : c ≠ (-1) := h5
    refine q_ic (pc := 26) (v := 1) rfl ?_
    refine q_go (pc := 27) rfl ?_
    refine q_is (pc := 29) (i := 2) (L' := [(2, 183), (0, c), (0, 1)]) rfl rfl rfl ?_
    refine q_il (pc := 30) (i := 2) (x := 1) rfl rfl ?_
    refine q_if (pc := 31) rfl (fun h31 => ?_) (fun h31 => ?_)
    · replace h31 : (1 : Int) ≠ 0 := h31
      refine h35 c _ c0 c5 (fun z => ?_)
      first | exact absurd z h5 | exact Or.inl ji8 | exact Or.inr (Or.inl ji12) | exact Or.inr (Or.inr (Or.inl ji16)) | exact Or.inr (Or.inr (Or.inr (Or.inl ji20))) | exact Or.inr (Or.inr (Or.inr (Or.inr ji24)))
    · replace h31 : (1 : Int) = 0 := h31
      omega
  · replace h5 : c = (-1) := h5
    refine q_al (pc := 6) (i := 0) (x := 183) rfl rfl ?_
    refine q_sc (pc := 7) (j := 0) rfl ?_
    refine q_iv (pc := 8) (q := 1728968) rfl rfl rfl ⟨by omega, (ttKc hT (a := 183) (κ := 12) (len := 0) ⟨rfl, rfl⟩ (by decide) (by decide)).1⟩ ?_
    refine lf_is (by decide) (by decide) (by omega) hT (fun ji8 => ?_) (fun ji8 => ?_)
    · skip
      refine q_if (pc := 9) rfl (fun h9 => ?_) (fun h9 => ?_)
      · replace h9 : (1 : Int) ≠ 0 := h9
        refine q_ic (pc := 26) (v := 1) rfl ?_
        refine q_go (pc := 27) rfl ?_
        refine q_is (pc := 29) (i := 2) (L' := [(2, 183), (0, c), (0, 1)]) rfl rfl rfl ?_
        refine q_il (pc := 30) (i := 2) (x := 1) rfl rfl ?_
        refine q_if (pc := 31) rfl (fun h31 => ?_) (fun h31 => ?_)
        · replace h31 : (1 : Int) ≠ 0 := h31
          refine h35 c _ c0 c5 (fun z => ?_)
          first | exact absurd z h5 | exact Or.inl ji8 | exact Or.inr (Or.inl ji12) | exact Or.inr (Or.inr (Or.inl ji16)) | exact Or.inr (Or.inr (Or.inr (Or.inl ji20))) | exact Or.inr (Or.inr (Or.inr (Or.inr ji24)))
        · replace h31 : (1 : Int) = 0 := h31
          omega
      · replace h9 : (1 : Int) = 0 := h9
        omega
    · skip
      refine q_if (pc := 9) rfl (fun h9 => ?_) (fun h9 => ?_)
      · replace h9 : (0 : Int) ≠ 0 := h9
        omega
      · replace h9 : (0 : Int) = 0 := h9
        refine q_al (pc := 10) (i := 0) (x := 183) rfl rfl ?_
        refine q_sc (pc := 11) (j := 1) rfl ?_
        refine q_iv (pc := 12) (q := 1728968) rfl rfl rfl ⟨by omega, (ttKc hT (a := 183) (κ := 12) (len := 0) ⟨rfl, rfl⟩ (by decide) (by decide)).1⟩ ?_
        refine lf_is (by decide) (by decide) (by omega) hT (fun ji12 => ?_) (fun ji12 => ?_)
        · skip
          refine q_if (pc := 13) rfl (fun h13 => ?_) (fun h13 => ?_)
          · replace h13 : (1 : Int) ≠ 0 := h13
            refine q_ic (pc := 26) (v := 1) rfl ?_
            refine q_go (pc := 27) rfl ?_
            refine q_is (pc := 29) (i := 2) (L' := [(2, 183), (0, c), (0, 1)]) rfl rfl rfl ?_
            refine q_il (pc := 30) (i := 2) (x := 1) rfl rfl ?_
            refine q_if (pc := 31) rfl (fun h31 => ?_) (fun h31 => ?_)
            · replace h31 : (1 : Int) ≠ 0 := h31
              refine h35 c _ c0 c5 (fun z => ?_)
              first | exact absurd z h5 | exact Or.inl ji8 | exact Or.inr (Or.inl ji12) | exact Or.inr (Or.inr (Or.inl ji16)) | exact Or.inr (Or.inr (Or.inr (Or.inl ji20))) | exact Or.inr (Or.inr (Or.inr (Or.inr ji24)))
            · replace h31 : (1 : Int) = 0 := h31
              omega
          · replace h13 : (1 : Int) = 0 := h13
            omega
        · skip
          refine q_if (pc := 13) rfl (fun h13 => ?_) (fun h13 => ?_)
          · replace h13 : (0 : Int) ≠ 0 := h13
            omega
          · replace h13 : (0 : Int) = 0 := h13
            refine q_al (pc := 14) (i := 0) (x := 183) rfl rfl ?_
            refine q_sc (pc := 15) (j := 2) rfl ?_
            refine q_iv (pc := 16) (q := 1728968) rfl rfl rfl ⟨by omega, (ttKc hT (a := 183) (κ := 12) (len := 0) ⟨rfl, rfl⟩ (by decide) (by decide)).1⟩ ?_
            refine lf_is (by decide) (by decide) (by omega) hT (fun ji16 => ?_) (fun ji16 => ?_)
            · skip
              refine q_if (pc := 17) rfl (fun h17 => ?_) (fun h17 => ?_)
              · replace h17 : (1 : Int) ≠ 0 := h17
                refine q_ic (pc := 26) (v := 1) rfl ?_
                refine q_go (pc := 27) rfl ?_
                refine q_is (pc := 29) (i := 2) (L' := [(2, 183), (0, c), (0, 1)]) rfl rfl rfl ?_
                refine q_il (pc := 30) (i := 2) (x := 1) rfl rfl ?_
                refine q_if (pc := 31) rfl (fun h31 => ?_) (fun h31 => ?_)
                · replace h31 : (1 : Int) ≠ 0 := h31
                  refine h35 c _ c0 c5 (fun z => ?_)
                  first | exact absurd z h5 | exact Or.inl ji8 | exact Or.inr (Or.inl ji12) | exact Or.inr (Or.inr (Or.inl ji16)) | exact Or.inr (Or.inr (Or.inr (Or.inl ji20))) | exact Or.inr (Or.inr (Or.inr (Or.inr ji24)))
                · replace h31 : (1 : Int) = 0 := h31
                  omega
              · replace h17 : (1 : Int) = 0 := h17
                omega
            · skip
              refine q_if (pc := 17) rfl (fun h17 => ?_) (fun h17 => ?_)
              · replace h17 : (0 : Int) ≠ 0 := h17
                omega
              · replace h17 : (0 : Int) = 0 := h17
                refine q_al (pc := 18) (i := 0) (x := 183) rfl rfl ?_
                refine q_sc (pc := 19) (j := 3) rfl ?_
                refine q_iv (pc := 20) (q := 1728968) rfl rfl rfl ⟨by omega, (ttKc hT (a := 183) (κ := 12) (len := 0) ⟨rfl, rfl⟩ (by decide) (by decide)).1⟩ ?_
                refine lf_is (by decide) (by decide) (by omega) hT (fun ji20 => ?_) (fun ji20 => ?_)
                · skip
                  refine q_if (pc := 21) rfl (fun h21 => ?_) (fun h21 => ?_)
                  · replace h21 : (1 : Int) ≠ 0 := h21
                    refine q_ic (pc := 26) (v := 1) rfl ?_
                    refine q_go (pc := 27) rfl ?_
                    refine q_is (pc := 29) (i := 2) (L' := [(2, 183), (0, c), (0, 1)]) rfl rfl rfl ?_
                    refine q_il (pc := 30) (i := 2) (x := 1) rfl rfl ?_
                    refine q_if (pc := 31) rfl (fun h31 => ?_) (fun h31 => ?_)
                    · replace h31 : (1 : Int) ≠ 0 := h31
                      refine h35 c _ c0 c5 (fun z => ?_)
                      first | exact absurd z h5 | exact Or.inl ji8 | exact Or.inr (Or.inl ji12) | exact Or.inr (Or.inr (Or.inl ji16)) | exact Or.inr (Or.inr (Or.inr (Or.inl ji20))) | exact Or.inr (Or.inr (Or.inr (Or.inr ji24)))
                    · replace h31 : (1 : Int) = 0 := h31
                      omega
                  · replace h21 : (1 : Int) = 0 := h21
                    omega
                · skip
                  refine q_if (pc := 21) rfl (fun h21 => ?_) (fun h21 => ?_)
                  · replace h21 : (0 : Int) ≠ 0 := h21
                    omega
                  · replace h21 : (0 : Int) = 0 := h21
                    refine q_al (pc := 22) (i := 0) (x := 183) rfl rfl ?_
                    refine q_sc (pc := 23) (j := 4) rfl ?_
                    refine q_iv (pc := 24) (q := 1728968) rfl rfl rfl ⟨by omega, (ttKc hT (a := 183) (κ := 12) (len := 0) ⟨rfl, rfl⟩ (by decide) (by decide)).1⟩ ?_
                    refine lf_is (by decide) (by decide) (by omega) hT (fun ji24 => ?_) (fun ji24 => ?_)
                    · skip
                      refine q_if (pc := 25) rfl (fun h25 => ?_) (fun h25 => ?_)
                      · replace h25 : (1 : Int) = 0 := h25
                        omega
                      · replace h25 : (1 : Int) ≠ 0 := h25
                        refine q_ic (pc := 26) (v := 1) rfl ?_
                        refine q_go (pc := 27) rfl ?_
                        refine q_is (pc := 29) (i := 2) (L' := [(2, 183), (0, c), (0, 1)]) rfl rfl rfl ?_
                        refine q_il (pc := 30) (i := 2) (x := 1) rfl rfl ?_
                        refine q_if (pc := 31) rfl (fun h31 => ?_) (fun h31 => ?_)
                        · replace h31 : (1 : Int) ≠ 0 := h31
                          refine h35 c _ c0 c5 (fun z => ?_)
                          first | exact absurd z h5 | exact Or.inl ji8 | exact Or.inr (Or.inl ji12) | exact Or.inr (Or.inr (Or.inl ji16)) | exact Or.inr (Or.inr (Or.inr (Or.inl ji20))) | exact Or.inr (Or.inr (Or.inr (Or.inr ji24)))
                        · replace h31 : (1 : Int) = 0 := h31
                          omega
                    · skip
                      refine q_if (pc := 25) rfl (fun h25 => ?_) (fun h25 => ?_)
                      · replace h25 : (0 : Int) = 0 := h25
                        refine q_ic (pc := 28) (v := 0) rfl ?_
                        refine q_is (pc := 29) (i := 2) (L' := [(2, 183), (0, c), (0, 0)]) rfl rfl rfl ?_
                        refine q_il (pc := 30) (i := 2) (x := 0) rfl rfl ?_
                        refine q_if (pc := 31) rfl (fun h31 => ?_) (fun h31 => ?_)
                        · replace h31 : (0 : Int) ≠ 0 := h31
                          omega
                        · replace h31 : (0 : Int) = 0 := h31
                          refine q_al (pc := 32) (i := 0) (x := 183) rfl rfl ?_
                          refine q_ic (pc := 33) (v := 1) rfl ?_
                          refine q_iv (pc := 34) (q := 1720971) rfl rfl rfl (ttKc hT (a := 183) (κ := 12) (len := 0) ⟨rfl, rfl⟩ (by decide) (by decide)).1 ?_
                          refine lf_errs (by omega) hT (by decide) (by decide) (fun J jT jF jn => ?_)
                          replace jF := ttFr_tr (ttFr_rf (true, [(183, 8, 13)]) H) jF (fun _ => rfl) (by decide)
                          exact n35 J _ _ jT jF jn
                      · replace h25 : (0 : Int) ≠ 0 := h25
                        omega
