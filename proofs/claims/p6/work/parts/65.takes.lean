/-! one state takes over from another -/
theorem lf_takesOver {dd : Nat} {a b d : Int} (hd : 1 ≤ dd) {H : xH} (hT : ttTI H) (a0 : 0 ≤ a) (a1 : a ≤ 93695) (b0 : 0 ≤ b) (b1 : b ≤ 93695) (d0 : -2147483648 ≤ d) (d1 : d ≤ 2147483647) {Q : Int → xH → Prop} (hQ : ∀ K, ttTI K → ttFr (true, [(195, 0, 93695), (196, a, a), (197, 0, 93695)]) H K → (K.1 196 a = H.1 196 a ∨ K.1 196 a = d) → Q 0 K) : xCall dd 273 [(2, 183), (0, a), (0, b), (0, d)] H Q := by
  obtain ⟨e, rfl, he⟩ := ttRun0 (n := 0) hd
  refine xC_of (L := [(2, 183), (0, a), (0, b), (0, d)]) (cd := cd_273) rfl rfl rfl ?_
  refine q_al (pc := 0) (i := 0) (x := 183) rfl rfl ?_
  refine q_gf (pc := 1) (m := 12262) (t := 2) (c := 26) rfl (ttKc hT (a := 183) (κ := 12) (len := 0) ⟨rfl, rfl⟩ (by decide) (by decide)).1 rfl rfl ?_
  rw [show H.1 183 26 = 195 from ttFx hT (by decide) (by decide) rfl rfl rfl]
  refine q_il (pc := 2) (i := 2) (x := b) rfl rfl ?_
  refine q_ai (pc := 3) rfl (ttKc hT (a := 195) (κ := 20) (len := 93696) ⟨rfl, rfl⟩ (by decide) (by decide)).1 (by omega) (by rw [(ttKc hT (a := 195) (κ := 20) (len := 93696) ⟨rfl, rfl⟩ (by decide) (by decide)).2]; omega) ?_
  refine q_al (pc := 4) (i := 0) (x := 183) rfl rfl ?_
  refine q_gf (pc := 5) (m := 12262) (t := 2) (c := 26) rfl (ttKc hT (a := 183) (κ := 12) (len := 0) ⟨rfl, rfl⟩ (by decide) (by decide)).1 rfl rfl ?_
  rw [show H.1 183 26 = 195 from ttFx hT (by decide) (by decide) rfl rfl rfl]
  refine q_il (pc := 6) (i := 1) (x := a) rfl rfl ?_
  refine q_ai (pc := 7) rfl (ttKc hT (a := 195) (κ := 20) (len := 93696) ⟨rfl, rfl⟩ (by decide) (by decide)).1 (by omega) (by rw [(ttKc hT (a := 195) (κ := 20) (len := 93696) ⟨rfl, rfl⟩ (by decide) (by decide)).2]; omega) ?_
  refine q_i2 (pc := 8) rfl (fun h8 => ?_) (fun h8 => ?_)
  · replace h8 : (H.1 195 a) < (H.1 195 b) := h8
    refine q_al (pc := 10) (i := 0) (x := 183) rfl rfl ?_
    refine q_gf (pc := 11) (m := 12262) (t := 2) (c := 26) rfl (ttKc hT (a := 183) (κ := 12) (len := 0) ⟨rfl, rfl⟩ (by decide) (by decide)).1 rfl rfl ?_
    rw [show H.1 183 26 = 195 from ttFx hT (by decide) (by decide) rfl rfl rfl]
    refine q_il (pc := 12) (i := 1) (x := a) rfl rfl ?_
    refine q_al (pc := 13) (i := 0) (x := 183) rfl rfl ?_
    refine q_gf (pc := 14) (m := 12262) (t := 2) (c := 26) rfl (ttKc hT (a := 183) (κ := 12) (len := 0) ⟨rfl, rfl⟩ (by decide) (by decide)).1 rfl rfl ?_
    rw [show H.1 183 26 = 195 from ttFx hT (by decide) (by decide) rfl rfl rfl]
    refine q_il (pc := 15) (i := 2) (x := b) rfl rfl ?_
    refine q_ai (pc := 16) rfl (ttKc hT (a := 195) (κ := 20) (len := 93696) ⟨rfl, rfl⟩ (by decide) (by decide)).1 (by omega) (by rw [(ttKc hT (a := 195) (κ := 20) (len := 93696) ⟨rfl, rfl⟩ (by decide) (by decide)).2]; omega) ?_
    refine q_si (pc := 17) rfl (by decide) (ttKc hT (a := 195) (κ := 20) (len := 93696) ⟨rfl, rfl⟩ (by decide) (by decide)).1 (by omega) (by rw [(ttKc hT (a := 195) (κ := 20) (len := 93696) ⟨rfl, rfl⟩ (by decide) (by decide)).2]; omega) ?_
    have zr1 := ttRw hT (a := 195) (κ := 20) (len := 93696) (sz := 93696) (lo := -2147483648) (hi := 2147483647) (by decide) (by decide) rfl b (by omega) (by omega)
    have zc1 := ttPuT hT (ttFr_rf (true, [(195, 0, 93695), (196, a, a), (197, 0, 93695)]) H) (a := 195) (j := a) (x := (H.1 195 b)) (by decide) (fun _ _ => ttTyr rfl zr1.1 zr1.2) ⟨(195, 0, 93695), by simp, ⟨⟨by decide, rfl⟩, by show (0 : Int) ≤ a; omega, by show a ≤ 93695; omega⟩⟩
    obtain ⟨Z1, zk1⟩ : ∃ X : xH, X = (xUp H.1 195 a (H.1 195 b), H.2) := ⟨_, rfl⟩
    rw [← zk1] at zc1 ⊢
    refine q_al (pc := 18) (i := 0) (x := 183) rfl rfl ?_
    refine q_gf (pc := 19) (m := 12272) (t := 2) (c := 27) rfl (ttKc zc1.1 (a := 183) (κ := 12) (len := 0) ⟨rfl, rfl⟩ (by decide) (by decide)).1 rfl rfl ?_
    rw [show Z1.1 183 27 = 196 from ttFx zc1.1 (by decide) (by decide) rfl rfl rfl]
    refine q_il (pc := 20) (i := 1) (x := a) rfl rfl ?_
    refine q_il (pc := 21) (i := 3) (x := d) rfl rfl ?_
    refine q_si (pc := 22) rfl (by decide) (ttKc zc1.1 (a := 196) (κ := 20) (len := 93696) ⟨rfl, rfl⟩ (by decide) (by decide)).1 (by omega) (by rw [(ttKc zc1.1 (a := 196) (κ := 20) (len := 93696) ⟨rfl, rfl⟩ (by decide) (by decide)).2]; omega) ?_
    have zc2 := ttPuT zc1.1 zc1.2 (a := 196) (j := a) (x := d) (by decide) (fun _ _ => ttTyr rfl d0 d1) ⟨(196, a, a), by simp, ⟨⟨by decide, rfl⟩, by show a ≤ a; omega, by show a ≤ a; omega⟩⟩
    obtain ⟨Z2, zk2⟩ : ∃ X : xH, X = (xUp Z1.1 196 a d, Z1.2) := ⟨_, rfl⟩
    rw [← zk2] at zc2 ⊢
    have ze : Z2.1 196 a = d := by rw [zk2]; exact up_eq
    refine q_al (pc := 23) (i := 0) (x := 183) rfl rfl ?_
    refine q_gf (pc := 24) (m := 12282) (t := 2) (c := 28) rfl (ttKc zc2.1 (a := 183) (κ := 12) (len := 0) ⟨rfl, rfl⟩ (by decide) (by decide)).1 rfl rfl ?_
    rw [show Z2.1 183 28 = 197 from ttFx zc2.1 (by decide) (by decide) rfl rfl rfl]
    refine q_il (pc := 25) (i := 1) (x := a) rfl rfl ?_
    refine q_al (pc := 26) (i := 0) (x := 183) rfl rfl ?_
    refine q_gf (pc := 27) (m := 12282) (t := 2) (c := 28) rfl (ttKc zc2.1 (a := 183) (κ := 12) (len := 0) ⟨rfl, rfl⟩ (by decide) (by decide)).1 rfl rfl ?_
    rw [show Z2.1 183 28 = 197 from ttFx zc2.1 (by decide) (by decide) rfl rfl rfl]
    refine q_il (pc := 28) (i := 2) (x := b) rfl rfl ?_
    refine q_ai (pc := 29) rfl (ttKc zc2.1 (a := 197) (κ := 20) (len := 93696) ⟨rfl, rfl⟩ (by decide) (by decide)).1 (by omega) (by rw [(ttKc zc2.1 (a := 197) (κ := 20) (len := 93696) ⟨rfl, rfl⟩ (by decide) (by decide)).2]; omega) ?_
    refine q_si (pc := 30) rfl (by decide) (ttKc zc2.1 (a := 197) (κ := 20) (len := 93696) ⟨rfl, rfl⟩ (by decide) (by decide)).1 (by omega) (by rw [(ttKc zc2.1 (a := 197) (κ := 20) (len := 93696) ⟨rfl, rfl⟩ (by decide) (by decide)).2]; omega) ?_
    have zr3 := ttRw zc2.1 (a := 197) (κ := 20) (len := 93696) (sz := 93696) (lo := -2147483648) (hi := 2147483647) (by decide) (by decide) rfl b (by omega) (by omega)
    have zc3 := ttPuT zc2.1 zc2.2 (a := 197) (j := a) (x := (Z2.1 197 b)) (by decide) (fun _ _ => ttTyr rfl zr3.1 zr3.2) ⟨(197, 0, 93695), by simp, ⟨⟨by decide, rfl⟩, by show (0 : Int) ≤ a; omega, by show a ≤ 93695; omega⟩⟩
    obtain ⟨Z3, zk3⟩ : ∃ X : xH, X = (xUp Z2.1 197 a (Z2.1 197 b), Z2.2) := ⟨_, rfl⟩
    rw [← zk3] at zc3 ⊢
    have zf : Z3.1 196 a = d := by rw [zk3]; exact (show xUp Z2.1 197 a (Z2.1 197 b) 196 a = _ from up_na (by decide)).trans ze
    refine q_rv (pc := 31) rfl ?_
    exact hQ Z3 zc3.1 zc3.2 (Or.inr zf)
  · replace h8 : (H.1 195 b) ≤ (H.1 195 a) := h8
    refine q_rv (pc := 9) rfl ?_
    exact hQ H hT (ttFr_rf _ _) (Or.inl rfl)
