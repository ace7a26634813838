/-! soundness of the run: one instruction -/
section TTS
variable {XX : xH → Prop} {ev : ttEv} {ih : ttG} {ct : ttCt} {k : ttKo} {d dd : Nat} {cd rs : List Instr} {pc : Nat} {L st : List ttV} {X : ttX} {ρ : Nat → Int} {H0 H : xH} {L2 st2 : List xV} {Q : Int → xH → Prop}
theorem ttN_ok {r : List ttV} {r2 : List xV} {t : Nat} {x : Int} {pc' : Nat} (hG : ttGd XX ev ih) (hd : d ≤ dd) (hp : cd.drop pc' = rs) (hJ : ttJ XX ev H0 H) (hL : ttF (ttQ ρ X.1) L L2) (hr : ttF (ttR ρ X.1) r r2) (hE : ttEn2 XX ev H0 dd cd ct k Q X.1 ρ) (h : ttRs H X ρ (fun X' v => ih ct k d cd rs pc' L ((t, v) :: r) X') x) : xW dd cd Q (pc', L2, (t, x) :: r2, H) := by
  obtain ⟨X', ρ', v, h1, n1, g1, S1, w1, e1⟩ := h
  exact hG _ _ _ _ _ _ _ _ _ h1 dd ρ' H0 H L2 _ Q hd hp hJ S1 (ttF_imp (fun _ _ z => ttQ_up n1 g1 z) hL) ⟨⟨rfl, w1, e1⟩, ttF_imp (fun _ _ z => ttR_up n1 g1 z) hr⟩ (ttEn2_up n1 g1 hE)
theorem ttO_ok {r : List ttV} {r2 : List xV} {H' : xH} {pc' : Nat} {X' : ttX} (hG : ttGd XX ev ih) (hd : d ≤ dd) (hp : cd.drop pc' = rs) (hJ : ttJ XX ev H0 H') (hL : ttF (ttQ ρ X.1) L L2) (hr : ttF (ttR ρ X.1) r r2) (hE : ttEn2 XX ev H0 dd cd ct k Q X.1 ρ) (hn : X'.1 = X.1) (hS : ttSat H' X' ρ) (h : ih ct k d cd rs pc' L r X' = true) : xW dd cd Q (pc', L2, r2, H') :=
  hG _ _ _ _ _ _ _ _ _ h dd ρ H0 H' L2 _ Q hd hp hJ hS (by rw [hn]; exact hL) (by rw [hn]; exact hr) (by rw [hn]; exact hE)
theorem ttGo_ok {r : List ttV} {r2 : List xV} {pc' : Nat} (hG : ttGd XX ev ih) (hd : d ≤ dd) (hp : cd.drop pc' = rs) (hJ : ttJ XX ev H0 H) (hL : ttF (ttQ ρ X.1) L L2) (hr : ttF (ttR ρ X.1) r r2) (hE : ttEn2 XX ev H0 dd cd ct k Q X.1 ρ) (h : ttGo H X ρ (fun X' => ih ct k d cd rs pc' L r X')) : xW dd cd Q (pc', L2, r2, H) := by
  obtain ⟨X', h1, n1, S1⟩ := h
  exact ttO_ok hG hd hp hJ hL hr hE n1 S1 h1
theorem ttGn_ok {r : List ttV} {r2 : List xV} {pc' : Nat} (hG : ttGd XX ev ih) (hd : d ≤ dd) (hp : cd.drop pc' = rs) (hJ : ttJ XX ev H0 H) (hL : ttF (ttQ ρ X.1) L L2) (hr : ttF (ttR ρ X.1) r r2) (hE : ttEn2 XX ev H0 dd cd ct k Q X.1 ρ) (h : ttGn H X ρ (fun X' => ih ct k d cd rs pc' L r X')) : xW dd cd Q (pc', L2, r2, H) := by
  obtain ⟨X', ρ', h1, n1, g1, S1⟩ := h
  exact hG _ _ _ _ _ _ _ _ _ h1 dd ρ' H0 H L2 _ Q hd hp hJ S1 (ttF_imp (fun _ _ z => ttQ_up n1 g1 z) hL) (ttF_imp (fun _ _ z => ttR_up n1 g1 z) hr) (ttEn2_up n1 g1 hE)
theorem ttB1_ok {n : Nat} {call : xCallT} {kk : xS → Prop} {QQ : Int → xH → Prop} {s : xS} {f : yyN → List ttV → Bool} {g : Int → List xV → xO} (h : ttB1 st f = true) (hs : ttF (ttR ρ n) st st2) (hf : ∀ x r r2, f x r = true → ttW n x → ttF (ttR ρ n) r r2 → xGo call kk QQ (g (yyG ρ x) r2)) : xGo call kk QQ (xB1 s st2 g) := by
  unfold ttB1 at h
  split at h
  · match st2, hs with
    | (_, a) :: r2, hs =>
      obtain ⟨⟨e, w, e2⟩, hr⟩ := hs
      cases e
      cases e2
      exact hf _ _ _ h w hr
  · cases h
theorem ttB2_ok {n : Nat} {call : xCallT} {kk : xS → Prop} {QQ : Int → xH → Prop} {s : xS} {f : yyN → yyN → List ttV → Bool} {g : Int → Int → List xV → xO} (h : ttB2 st f = true) (hs : ttF (ttR ρ n) st st2) (hf : ∀ x y r r2, f x y r = true → ttW n x → ttW n y → ttF (ttR ρ n) r r2 → xGo call kk QQ (g (yyG ρ x) (yyG ρ y) r2)) : xGo call kk QQ (xB2 s st2 g) := by
  unfold ttB2 at h
  split at h
  · match st2, hs with
    | (_, b) :: (_, a) :: r2, hs =>
      obtain ⟨⟨e, w, e2⟩, ⟨e3, w2, e4⟩, hr⟩ := hs
      cases e
      cases e2
      cases e3
      cases e4
      exact hf _ _ _ _ h w2 w hr
  · cases h
theorem ttJ1_ok {n : Nat} {call : xCallT} {kk : xS → Prop} {QQ : Int → xH → Prop} {s : xS} {f : yyN → List ttV → Bool} {g : Int → List xV → xO} (h : ttJ1 st f = true) (hs : ttF (ttR ρ n) st st2) (hf : ∀ x r r2, f x r = true → ttW n x → ttF (ttR ρ n) r r2 → xGo call kk QQ (g (yyG ρ x) r2)) : xGo call kk QQ (xJ1 s st2 g) := by
  unfold ttJ1 at h
  split at h
  · match st2, hs with
    | (_, a) :: r2, hs =>
      obtain ⟨⟨e, w, e2⟩, hr⟩ := hs
      cases e
      cases e2
      exact hf _ _ _ h w hr
  · cases h
theorem ttJ2_ok {n : Nat} {call : xCallT} {kk : xS → Prop} {QQ : Int → xH → Prop} {s : xS} {f : yyN → yyN → List ttV → Bool} {g : Int → Int → List xV → xO} (h : ttJ2 st f = true) (hs : ttF (ttR ρ n) st st2) (hf : ∀ x y r r2, f x y r = true → ttW n x → ttW n y → ttF (ttR ρ n) r r2 → xGo call kk QQ (g (yyG ρ x) (yyG ρ y) r2)) : xGo call kk QQ (xJ2 s st2 g) := by
  unfold ttJ2 at h
  split at h
  · match st2, hs with
    | (_, b) :: (_, a) :: r2, hs =>
      obtain ⟨⟨e, w, e2⟩, ⟨e3, w2, e4⟩, hr⟩ := hs
      cases e
      cases e2
      cases e3
      cases e4
      exact hf _ _ _ _ h w2 w hr
  · cases h
theorem ttJi_ok {n : Nat} {call : xCallT} {kk : xS → Prop} {QQ : Int → xH → Prop} {s : xS} {f : yyN → yyN → List ttV → Bool} {g : Int → Int → List xV → xO} (h : ttJi st f = true) (hs : ttF (ttR ρ n) st st2) (hf : ∀ x y r r2, f x y r = true → ttW n x → ttW n y → ttF (ttR ρ n) r r2 → xGo call kk QQ (g (yyG ρ x) (yyG ρ y) r2)) : xGo call kk QQ (xJi s st2 g) := by
  unfold ttJi at h
  split at h
  · match st2, hs with
    | (_, b) :: (_, a) :: r2, hs =>
      obtain ⟨⟨e, w, e2⟩, ⟨e3, w2, e4⟩, hr⟩ := hs
      cases e
      cases e2
      cases e3
      cases e4
      exact hf _ _ _ _ h w2 w hr
  · cases h
theorem ttR1_ok {n : Nat} {call : xCallT} {kk : xS → Prop} {QQ : Int → xH → Prop} {s : xS} {f : yyN → List ttV → Bool} {g : Int → List xV → xO} (h : ttR1 st f = true) (hs : ttF (ttR ρ n) st st2) (hf : ∀ x r r2, f x r = true → ttW n x → ttF (ttR ρ n) r r2 → xGo call kk QQ (g (yyG ρ x) r2)) : xGo call kk QQ (xR1 s st2 g) := by
  unfold ttR1 at h
  split at h
  · match st2, hs with
    | (_, a) :: r2, hs =>
      obtain ⟨⟨e, w, e2⟩, hr⟩ := hs
      cases e
      cases e2
      exact hf _ _ _ h w hr
  · cases h
theorem ttA2_ok {n : Nat} {call : xCallT} {kk : xS → Prop} {QQ : Int → xH → Prop} {s : xS} {f : yyN → yyN → List ttV → Bool} {g : Int → Int → List xV → xO} (h : ttA2 st f = true) (hs : ttF (ttR ρ n) st st2) (hf : ∀ a i r r2, f a i r = true → ttW n a → ttW n i → ttF (ttR ρ n) r r2 → xGo call kk QQ (g (yyG ρ a) (yyG ρ i) r2)) : xGo call kk QQ (xA2 s st2 g) := by
  unfold ttA2 at h
  split at h
  · match st2, hs with
    | (_, b) :: (_, a) :: r2, hs =>
      obtain ⟨⟨e, w, e2⟩, ⟨e3, w2, e4⟩, hr⟩ := hs
      cases e
      cases e2
      cases e3
      cases e4
      exact hf _ _ _ _ h w2 w hr
  · cases h
theorem ttA3_ok {n t : Nat} {call : xCallT} {kk : xS → Prop} {QQ : Int → xH → Prop} {s : xS} {f : yyN → yyN → yyN → List ttV → Bool} {g : Int → Int → Int → List xV → xO} (h : ttA3 t st f = true) (hs : ttF (ttR ρ n) st st2) (hf : ∀ a i x r r2, f a i x r = true → ttW n a → ttW n i → ttW n x → ttF (ttR ρ n) r r2 → xGo call kk QQ (g (yyG ρ a) (yyG ρ i) (yyG ρ x) r2)) : xGo call kk QQ (xA3 s t st2 g) := by
  unfold ttA3 at h
  split at h
  · match st2, hs with
    | (u, x) :: (_, b) :: (_, a) :: r2, hs =>
      obtain ⟨⟨e5, w3, e6⟩, ⟨e, w, e2⟩, ⟨e3, w2, e4⟩, hr⟩ := hs
      cases e
      cases e2
      cases e3
      cases e4
      cases e5
      cases e6
      obtain ⟨h1, h2⟩ := zz_and h
      unfold xA3
      simp only []
      rw [if_pos (Nat.eq_of_beq_eq_true h1)]
      exact hf _ _ _ _ _ h2 w2 w w3 hr
  · cases h
theorem ttLd_ok {n i t : Nat} (ht : t ≤ 2) {call : xCallT} {kk : xS → Prop} {QQ : Int → xH → Prop} {s : xS} {f : ttV → Bool} {g : xV → xO} (h : ttLd L i t f = true) (hL : ttF (ttQ ρ n) L L2) (hf : ∀ v : yyN, f (t, v) = true → ttW n v → xGo call kk QQ (g (t, yyG ρ v))) : xGo call kk QQ (xLo L2 i t s g) := by
  have r := ttF_getD (a0 := ((9, (0, 0, 0)) : ttV)) (b0 := ((9, 0) : xV)) (Or.inl rfl) hL i
  unfold ttLd at h
  unfold xLo
  generalize L.getD i (9, (0, 0, 0)) = a at h r
  generalize L2.getD i (9, 0) = b at r
  obtain ⟨u, x⟩ := a
  obtain ⟨u2, y⟩ := b
  simp only [] at h
  obtain ⟨h1, h2⟩ := zz_and h
  have e := Nat.eq_of_beq_eq_true h1
  subst e
  rcases r with r | ⟨r1, r2, r3⟩
  · have r : u = 9 := r
    omega
  · have r1 : u = u2 := r1
    have r3 : yyG ρ x = y := r3
    subst r1
    subst r3
    simp only []
    rw [if_pos trivial]
    exact hf x h2 r2
theorem ttBr_ok {c : ClassFile.Cond} {x y : yyN} {r : List ttV} {r2 : List xV} {rs2 : List Instr} {pc' t : Nat} (hG : ttGd XX ev ih) (hd : d ≤ dd) (hp : cd.drop pc' = rs2) (hJ : ttJ XX ev H0 H) (hS : ttSat H X ρ) (hL : ttF (ttQ ρ X.1) L L2) (hr : ttF (ttR ρ X.1) r r2) (hE : ttEn2 XX ev H0 dd cd ct k Q X.1 ρ) (hx : ttW X.1 x) (hy : ttW X.1 y) (h : (ttA2s c X x y (fun X' => ih ct k d cd (cd.drop t) t L r X') && ttA2s (zzNot c) X x y (fun X' => ih ct k d cd rs2 pc' L r X')) = true) : (xT c (yyG ρ x) (yyG ρ y) → xW dd cd Q (t, L2, r2, H)) ∧ (xN c (yyG ρ x) (yyG ρ y) → xW dd cd Q (pc', L2, r2, H)) := by
  obtain ⟨h1, h2⟩ := zz_and h
  exact ⟨fun z => ttGn_ok hG hd rfl hJ hL hr hE (ttA2s_ok hS hx hy h1 z), fun z => ttGn_ok hG hd hp hJ hL hr hE (ttA2s_ok hS hx hy h2 (zzNot_ok z))⟩
theorem xT_lcmp {c : ClassFile.Cond} {x y : Int} : (xT c (xLcmp x y) 0 → xT c x y) ∧ (xN c (xLcmp x y) 0 → xN c x y) := by
  have hl : (xLcmp x y = -1 ∧ x < y) ∨ (xLcmp x y = 0 ∧ x = y) ∨ (xLcmp x y = 1 ∧ y < x) := by
    unfold xLcmp
    split
    · left; omega
    · split
      · right; left; omega
      · right; right; omega
  cases c <;> simp only [xT, xN] <;> constructor <;> intro z <;> omega
theorem ttSw_ok {f : Int → Nat → Bool} {kk : xS → Prop} {x : Int} {g : Nat → xS} (hf : ∀ v u, f v u = true → x = v → kk (g u)) : ∀ {ts : List Int} {v : Int}, ttSw f v ts = true → xSw kk x v (ts.map fun u => g u.toNat)
  | [], _, _ => trivial
  | t :: ts, v, h => by
    obtain ⟨h1, h2⟩ := zz_and h
    exact ⟨fun z => hf v t.toNat h1 z, ttSw_ok hf h2⟩
theorem ttIv_ok {j rt : Nat} {as r : List ttV} {vs r2 : List xV} {pc' : Nat} (hC : ∀ c ∈ ev.1, ttHas XX c) (hG : ttGd XX ev ih) (hd : d ≤ dd) (hp : cd.drop pc' = rs) (hJ : ttJ XX ev H0 H) (hS : ttSat H X ρ) (hL : ttF (ttQ ρ X.1) L L2) (hv : ttF (ttR ρ X.1) as vs) (hr : ttF (ttR ρ X.1) r r2) (hE : ttEn2 XX ev H0 dd cd ct k Q X.1 ρ) (h : ttIv ev ih ct k d cd rs pc' L X j as rt r = true) : xCall dd j vs H (fun x H2 => xW dd cd Q (pc', L2, xPush rt x r2, H2)) := by
  have hK : ∀ (d2 : Nat), d2 ≤ dd → ∀ X' ρ' v x H', ih ct k d2 cd rs pc' L (ttPush rt v r) X' = true → X.1 ≤ X'.1 → ttAg X.1 ρ ρ' → ttSat H' X' ρ' → ttJ XX ev H0 H' → ttW X'.1 v → yyG ρ' v = x → xW dd cd Q (pc', L2, xPush rt x r2, H') := fun d2 hd2 X' ρ' v x H' h1 n1 g1 S1 J1 w1 e1 =>
    hG _ _ _ _ _ _ _ _ _ h1 dd ρ' H0 H' L2 _ Q hd2 hp J1 S1 (ttF_imp (fun _ _ z => ttQ_up n1 g1 z) hL) (ttPush_ok rt w1 e1 (ttF_imp (fun _ _ z => ttR_up n1 g1 z) hr)) (ttEn2_up n1 g1 hE)
  unfold ttIv at h
  cases e : ttFnd j as X ev.1 with
  | some c =>
    rw [e] at h
    obtain ⟨m, e1, a1, a2⟩ := ttFnd_ok e
    subst e1
    exact ttCl_ok (hC c m) hd hJ hS hv a1 a2 h (fun X' ρ' v x H' h1 n1 g1 S1 J1 w1 e1 => hK d hd X' ρ' v x H' h1 n1 g1 S1 J1 w1 e1)
  | none =>
    rw [e] at h
    match d, dd, hd, h, hK, hE with
    | 0, _, _, h, _, _ => cases h
    | e + 1, 0, hd, _, _, _ => omega
    | e + 1, e' + 1, hd, h, hK, hE =>
      obtain ⟨h1, h2⟩ := zz_and h
      refine xC_of (L := xEntry (xM j).2.2.1 vs) (cd := xCode j) (by rw [← ttF_len (ttFl_ok hv)]; exact h1) rfl rfl ?_
      refine hG _ _ _ _ _ _ _ _ _ h2 e' ρ H0 H _ _ _ (by omega) rfl hJ hS (ttEn_ok _ hv) trivial ⟨fun X' v ρ' H' z n1 g1 J1 S1 w1 => ?_, fun q hq => absurd hq List.not_mem_nil⟩
      exact hK (e + 1) hd X' ρ' v _ H' z n1 g1 S1 J1 w1 rfl
end TTS
