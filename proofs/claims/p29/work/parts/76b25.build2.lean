/-! the class's tables, kept and built -/
theorem hpB_D {D D' : xD} {R : Int → Int} (y : hpB D R) (e : ∀ a j : Int, 64 ≤ a → a ≤ 70 → D' a j = D a j) : hpB D' R := by
  obtain ⟨⟨y1, y2⟩, y3⟩ := y
  refine ⟨⟨fun g g1 => (e 64 _ (by decide) (by decide)).trans (y1 g g1), fun p w p0 p1 ww => hpT_c (y2 p w p0 p1 ww) (fun a j a0 a1 _ _ => e a j (by omega) (by omega))⟩, fun w ww => ?_⟩
  rw [show hpEd D' w = hpEd D w from funext (fun q => e 70 _ (by decide) (by decide))]
  exact y3 w ww
theorem fr_64 {ef : ttEf} {H K : xH} (hF : ttFr ef H K) (hn : 210 ≤ (H.2.2.2.1 : Int)) (c : ef.2.all (fun q => decide (q.1 < 64) || decide (70 < q.1)) = true) {a j : Int} (a0 : 64 ≤ a) (a1 : a ≤ 70) : K.1 a j = H.1 a j := by
  have k : ∀ n : Nat, 64 ≤ n → n ≤ 70 → ef.2.all (fun q => decide (q.1 ≠ n)) = true := fun n n0 n1 => List.all_eq_true.mpr (fun q hq => by
    have z : (decide (q.1 < 64) || decide (70 < q.1)) = true := List.all_eq_true.mp c q hq
    rw [Bool.or_eq_true, decide_eq_true_eq, decide_eq_true_eq] at z
    exact decide_eq_true (by omega))
  have hj : a = 64 ∨ a = 65 ∨ a = 66 ∨ a = 67 ∨ a = 68 ∨ a = 69 ∨ a = 70 := by omega
  rcases hj with rfl | rfl | rfl | rfl | rfl | rfl | rfl
  · exact fr_no hF 64 (by omega) rfl (k 64 (by decide) (by decide))
  · exact fr_no hF 65 (by omega) rfl (k 65 (by decide) (by decide))
  · exact fr_no hF 66 (by omega) rfl (k 66 (by decide) (by decide))
  · exact fr_no hF 67 (by omega) rfl (k 67 (by decide) (by decide))
  · exact fr_no hF 68 (by omega) rfl (k 68 (by decide) (by decide))
  · exact fr_no hF 69 (by omega) rfl (k 69 (by decide) (by decide))
  · exact fr_no hF 70 (by omega) rfl (k 70 (by decide) (by decide))
theorem hpB_f {ef : ttEf} {H K : xH} (hF : ttFr ef H K) (hn : 210 ≤ (H.2.2.2.1 : Int)) (c : ef.2.all (fun q => decide (q.1 < 64) || decide (70 < q.1)) = true) {R : Int → Int} (y : hpB H.1 R) : hpB K.1 R := hpB_D y (fun a j a0 a1 => fr_64 hF hn c a0 a1)
theorem wsM_c {R R' : Int → Int} (h : ∀ j : Int, 0 ≤ j → j ≤ 155 → j ≠ 4 → R' j = R j) (hw : wsR R) {p w l s : Int} (p0 : 0 ≤ p) (p1 : p ≤ 7) (l0 : 0 ≤ l ∧ l ≤ 9) (s0 : 0 ≤ s ∧ s ≤ 5) (u : wsU R p w l s) : wsM R' p w l s = wsM R p w l s := by
  have d := (wsD_in hw l0.1 l0.2 u).1
  unfold wsM
  rw [wsX_c h l0.1 l0.2 s0.1 s0.2, wsD_c h l0.1 l0.2, h (84 + 6 * l + 5) (by omega) (by omega) (by omega), h (20 + 8 * wsD R p l) (by omega) (by omega) (by omega), h (20 + 8 * p) (by omega) (by omega) (by omega)]
theorem wsF_c {R R' : Int → Int} (h : ∀ j : Int, 0 ≤ j → j ≤ 155 → j ≠ 4 → R' j = R j) : ∀ n : Nat, wsF R' n = wsF R n := by
  intro n
  induction n with
  | zero => rfl
  | succ n ih =>
    show wsF R' n + (if ((n % 8 : Nat) : Int) < R' 1 then (wsW R' ((n % 8 : Nat) : Int) ((n / 8 : Nat) : Int) 60).1 else 0) = wsF R n + (if ((n % 8 : Nat) : Int) < R 1 then (wsW R ((n % 8 : Nat) : Int) ((n / 8 : Nat) : Int) 60).1 else 0)
    rw [ih, h 1 (by decide) (by decide) (by decide), wsW_c h 60 (by decide)]
theorem hpB_R {D : xD} {R R' : Int → Int} (h : ∀ j : Int, 0 ≤ j → j ≤ 155 → j ≠ 4 → R' j = R j) (hw : wsR R) (y : hpB D R) : hpB D R' := by
  obtain ⟨⟨y1, y2⟩, y3⟩ := y
  have e1 := h 1 (by decide) (by decide) (by decide)
  have n8 := hw.1.2
  refine ⟨⟨fun g g1 => (y1 g g1).trans (wsF_c h g).symm, fun p w p0 p1 ww => ?_⟩, fun w ww => ?_⟩
  · rw [e1] at p1
    rw [wsF_c h, wsW_c h 60 (by decide)]
    intro i i0 i1
    obtain ⟨l, s, l0, s0, z1, u, z2⟩ := y2 p w p0 p1 ww i i0 i1
    refine ⟨l, s, l0, s0, z1, (wsU_c h l0.1 l0.2 s0.1 s0.2).2 u, ?_⟩
    unfold hpE at z2 ⊢
    rw [wsD_c h l0.1 l0.2, wsP_c h l0.1 l0.2 s0.1 s0.2, wsX_c h l0.1 l0.2 s0.1 s0.2, wsM_c h hw p0 (by omega) l0 s0 u]
    exact z2
  · obtain ⟨a1, a2, a3, a4⟩ := y3 w ww
    have eT := gsT_c h hw (w := w)
    have eg : ∀ p : Int, 0 ≤ p → p < R 1 → R' (20 + 8 * p) = R (20 + 8 * p) ∧ R' (20 + 8 * p + 1) = R (20 + 8 * p + 1) := fun p p0 p1 => ⟨h _ (by omega) (by omega) (by omega), h _ (by omega) (by omega) (by omega)⟩
    have e7 := h 7 (by decide) (by decide) (by decide)
    refine ⟨fun p p0 p1 => ?_, fun p a p0 p1 l g1 g2 => ?_, fun p p0 p1 l => ?_, fun p a q b t => ?_⟩
    · rw [e1] at p1
      rw [(eg p p0 p1).1, e7]
      exact a1 p p0 p1
    · rw [e1] at p1
      rw [(eg p p0 p1).1] at g1
      rw [e7] at g2
      obtain ⟨q, b, y, k⟩ := a2 p a p0 p1 l g1 g2
      have i := gsP_in hw ⟨⟨p0, p1⟩, g1, g2⟩ y
      exact ⟨q, b, by rw [eT]; exact y, by rw [(eg q i.1.1 i.1.2).2]; exact k⟩
    · rw [e1] at p1
      rw [(eg p p0 p1).2] at l
      rw [(eg p p0 p1).1]
      exact a3 p p0 p1 l
    · rw [eT] at t
      exact a4 p a q b t
theorem hz_build {dd : Nat} (hd : 6 ≤ dd) {H : xH} (hT : ttTI H) (hX : ttXX YY H) {b : Int} (hB : skB b) (hW : skW H.1 b) {S : tSa} {R : Int → Int} {h : Int} (hR : skR H.1 b (S, R, h)) {Q : Int → xH → Prop} (hq : ∀ r K, ttTI K → ttXX YY K → ttFr (true, [(63, 6, 6), (64, 0, 16), (65, 0, 239), (66, 0, 239), (67, 0, 239), (68, 0, 239), (69, 0, 239), (70, 0, 15)]) H K → (wsR R → hpB K.1 R) → Q r K) : xCall dd 17 [(2, 63), (2, b)] H Q := by
  have bi := skB_in hB
  have hn : 210 ≤ (H.2.2.2.1 : Int) := by have := hT.1; omega
  have c : ∀ {F : Int → xH → Prop}, (∀ r K, ttTI K → ttXX YY K → ttFr (true, [(63, 6, 6), (64, 0, 16), (65, 0, 239), (66, 0, 239), (67, 0, 239), (68, 0, 239), (69, 0, 239), (70, 0, 15)]) H K → F r K) → xCall dd 17 [(2, 63), (2, b)] H F := fun hf => hc_11 (ttXX_out yyStab (fun _ _ => trivial)) dd hd [(2, 63), (2, b)] H hT hX ⟨⟨rfl, ttPk_of rfl⟩, ⟨rfl, ⟨b, by show b = 1 * b + 0; omega, ⟨⟨by omega, by omega⟩, sk_rb hB⟩⟩⟩, trivial⟩ (fun _ hq => absurd hq List.not_mem_nil) _ (fun r K t x f _ _ => hf r K t x f)
  by_cases hw : wsR R
  · exact xCall_and (c (F := fun _ K => ttTI K ∧ ttXX YY K ∧ ttFr (true, [(63, 6, 6), (64, 0, 16), (65, 0, 239), (66, 0, 239), (67, 0, 239), (68, 0, 239), (69, 0, 239), (70, 0, 15)]) H K) (fun _ _ a b c => ⟨a, b, c⟩)) (hp_build hd hT hB hW hR hw (Q := fun _ K => hpB K.1 R) (fun _ _ _ y => y)) (fun r K f g => hq r K f.1 f.2.1 f.2.2 (fun _ => g))
  · exact c (fun r K t x f => hq r K t x f (fun z => absurd z hw))
