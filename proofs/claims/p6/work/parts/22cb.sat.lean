/-! what an instruction's outcome must give -/
def zzSr (cd : List Instr) (s : zzS) (pc : Nat) (L st : List xV) : Prop := cd.drop pc = s.1 ∧ zzL s.2.1 L ∧ zzL s.2.2 st
noncomputable def zzAct (p : zzP) (m : zzMm) : zzMm := match p with
  | .inl none => m
  | .inl (some (k, v)) => (zzSet (0, 0) 20 m.1 k v, m.2)
  | .inr (.inl (κ, n, ns)) => (m.1, zzSet (-1, 0) 8 m.2.1 m.2.2.1 (κ, n), m.2.2.1 + 1, m.2.2.2 + ns)
  | .inr (.inr m2) => m2
def zzSat (call : xCallT) (k : xS → Prop) (Q : Int → xH → Prop) (cd : List Instr) (S : zzQ) (m : zzMm) : zzO → Prop
  | .inl (s, p) => ∀ pc L st H, zzSr cd s pc L st → zzW S (zzAct p m) H → k (pc, L, st, H)
  | .inr (.inl (a, b, s, t)) => (a = true → ∀ pc L st H, zzSr cd s pc L st → zzW S m H → k (pc, L, st, H)) ∧ (b = true → ∀ pc L st H, zzSr cd t pc L st → zzW S m H → k (pc, L, st, H))
  | .inr (.inr (.inl (j, as, rt, s))) => ∀ vs pc L st H, zzL as vs → zzSr cd s pc L st → zzW S m H → call j vs H (fun x H2 => k (pc, L, xPush rt x st, H2))
  | .inr (.inr (.inr (.inl v))) => ∀ x H, zzM v x → zzW S m H → Q x H
  | .inr (.inr (.inr (.inr _))) => False
section ZZ
variable {call : xCallT} {k : xS → Prop} {Q : Int → xH → Prop} {cd : List Instr} {S : zzQ} {m : zzMm}
theorem zzIf_ok {b : Bool} {o : zzO} (h : zzSat call k Q cd S m (zzIf b o)) : b = true ∧ zzSat call k Q cd S m o := by
  cases b
  · exact h.elim
  · exact ⟨rfl, h⟩
theorem zzNx_ok {rs : List Instr} {L st : List zzV} {pc : Nat} {L2 st2 : List xV} {H : xH} (h : zzSat call k Q cd S m (zzNx (rs, L, st))) (hp : cd.drop pc = rs) (hL : zzL L L2) (hs : zzL st st2) (hW : zzW S m H) : k (pc, L2, st2, H) := h pc L2 st2 H ⟨hp, hL, hs⟩ hW
theorem zzBr_ok {c : ClassFile.Cond} {x y : zzI} {a b : Int} {s t : zzS} {pc pc2 : Nat} {L st L2 st2 : List xV} {H : xH} {s1 t1 : xS} (h : zzSat call k Q cd S m (zzBr c x y s t)) (hx : zzM x a) (hy : zzM y b) (h1 : zzSr cd s pc L st) (h2 : zzSr cd t pc2 L2 st2) (hW : zzW S m H) (e1 : s1 = (pc, L, st, H)) (e2 : t1 = (pc2, L2, st2, H)) : xGo call k Q (xBr c a b s1 t1) := by
  subst e1; subst e2
  exact ⟨fun q => h.1 (zzTest_ok hx hy q) _ _ _ _ h1 hW, fun q => h.2 (zzTest_ok hx hy (zzNot_ok q)) _ _ _ _ h2 hW⟩
theorem zzB1_ok {s : xS} {st : List zzV} {st2 : List xV} {f : zzI → List zzV → zzO} {g : Int → List xV → xO} (h : zzSat call k Q cd S m (zzB1 st f)) (hs : zzL st st2) (hf : ∀ x r a r2, zzM x a → zzL r r2 → zzSat call k Q cd S m (f x r) → xGo call k Q (g a r2)) : xGo call k Q (xB1 s st2 g) := by
  unfold zzB1 at h
  split at h
  · match st2, hs with
    | (_, a) :: r2, hs =>
      obtain ⟨⟨e, hm⟩, hr⟩ := hs
      cases e
      exact hf _ _ _ _ hm hr h
  · exact h.elim
theorem zzB2_ok {s : xS} {st : List zzV} {st2 : List xV} {f : zzI → zzI → List zzV → zzO} {g : Int → Int → List xV → xO} (h : zzSat call k Q cd S m (zzB2 st f)) (hs : zzL st st2) (hf : ∀ x y r a b r2, zzM x a → zzM y b → zzL r r2 → zzSat call k Q cd S m (f x y r) → xGo call k Q (g a b r2)) : xGo call k Q (xB2 s st2 g) := by
  unfold zzB2 at h
  split at h
  · match st2, hs with
    | (_, b) :: (_, a) :: r2, hs =>
      obtain ⟨⟨e, hm⟩, ⟨e2, hm2⟩, hr⟩ := hs
      cases e; cases e2
      exact hf _ _ _ _ _ _ hm2 hm hr h
  · exact h.elim
theorem zzJ1_ok {s : xS} {st : List zzV} {st2 : List xV} {f : zzI → List zzV → zzO} {g : Int → List xV → xO} (h : zzSat call k Q cd S m (zzJ1 st f)) (hs : zzL st st2) (hf : ∀ x r a r2, zzM x a → zzL r r2 → zzSat call k Q cd S m (f x r) → xGo call k Q (g a r2)) : xGo call k Q (xJ1 s st2 g) := by
  unfold zzJ1 at h
  split at h
  · match st2, hs with
    | (_, a) :: r2, hs =>
      obtain ⟨⟨e, hm⟩, hr⟩ := hs
      cases e
      exact hf _ _ _ _ hm hr h
  · exact h.elim
theorem zzJ2_ok {s : xS} {st : List zzV} {st2 : List xV} {f : zzI → zzI → List zzV → zzO} {g : Int → Int → List xV → xO} (h : zzSat call k Q cd S m (zzJ2 st f)) (hs : zzL st st2) (hf : ∀ x y r a b r2, zzM x a → zzM y b → zzL r r2 → zzSat call k Q cd S m (f x y r) → xGo call k Q (g a b r2)) : xGo call k Q (xJ2 s st2 g) := by
  unfold zzJ2 at h
  split at h
  · match st2, hs with
    | (_, b) :: (_, a) :: r2, hs =>
      obtain ⟨⟨e, hm⟩, ⟨e2, hm2⟩, hr⟩ := hs
      cases e; cases e2
      exact hf _ _ _ _ _ _ hm2 hm hr h
  · exact h.elim
theorem zzJi_ok {s : xS} {st : List zzV} {st2 : List xV} {f : zzI → zzI → List zzV → zzO} {g : Int → Int → List xV → xO} (h : zzSat call k Q cd S m (zzJi st f)) (hs : zzL st st2) (hf : ∀ x y r a b r2, zzM x a → zzM y b → zzL r r2 → zzSat call k Q cd S m (f x y r) → xGo call k Q (g a b r2)) : xGo call k Q (xJi s st2 g) := by
  unfold zzJi at h
  split at h
  · match st2, hs with
    | (_, b) :: (_, a) :: r2, hs =>
      obtain ⟨⟨e, hm⟩, ⟨e2, hm2⟩, hr⟩ := hs
      cases e; cases e2
      exact hf _ _ _ _ _ _ hm2 hm hr h
  · exact h.elim
theorem zzR1_ok {s : xS} {st : List zzV} {st2 : List xV} {f : Int → List zzV → zzO} {g : Int → List xV → xO} (h : zzSat call k Q cd S m (zzR1 st f)) (hs : zzL st st2) (hf : ∀ a r r2, zzL r r2 → zzSat call k Q cd S m (f a r) → xGo call k Q (g a r2)) : xGo call k Q (xR1 s st2 g) := by
  unfold zzR1 at h
  split at h
  · match st2, hs with
    | (_, a) :: r2, hs =>
      obtain ⟨⟨e, hm⟩, hr⟩ := hs
      cases e
      obtain ⟨h1, h2⟩ := zzIf_ok h
      have := zzM_s hm h1
      subst this
      exact hf _ _ _ hr h2
  · exact h.elim
theorem zzA2_ok {s : xS} {st : List zzV} {st2 : List xV} {f : Int → Int → List zzV → zzO} {g : Int → Int → List xV → xO} (h : zzSat call k Q cd S m (zzA2 st f)) (hs : zzL st st2) (hf : ∀ a i r r2, zzL r r2 → zzSat call k Q cd S m (f a i r) → xGo call k Q (g a i r2)) : xGo call k Q (xA2 s st2 g) := by
  unfold zzA2 at h
  split at h
  · match st2, hs with
    | (_, b) :: (_, a) :: r2, hs =>
      obtain ⟨⟨e, hm⟩, ⟨e2, hm2⟩, hr⟩ := hs
      cases e; cases e2
      obtain ⟨h1, h2⟩ := zzIf_ok h
      rw [Bool.and_eq_true] at h1
      have := zzM_s hm h1.1
      subst this
      have := zzM_s hm2 h1.2
      subst this
      exact hf _ _ _ _ hr h2
  · exact h.elim
theorem zzA3_ok {t : Nat} {s : xS} {st : List zzV} {st2 : List xV} {f : Int → Int → zzI → List zzV → zzO} {g : Int → Int → Int → List xV → xO} (h : zzSat call k Q cd S m (zzA3 t st f)) (hs : zzL st st2) (hf : ∀ a i x r v r2, zzM x v → zzL r r2 → zzSat call k Q cd S m (f a i x r) → xGo call k Q (g a i v r2)) : xGo call k Q (xA3 s t st2 g) := by
  unfold zzA3 at h
  split at h
  · match st2, hs with
    | (u, v) :: (_, b) :: (_, a) :: r2, hs =>
      obtain ⟨⟨e0, hm0⟩, ⟨e, hm⟩, ⟨e2, hm2⟩, hr⟩ := hs
      cases e; cases e2; cases e0
      obtain ⟨h1, h2⟩ := zzIf_ok h
      rw [Bool.and_eq_true, Bool.and_eq_true] at h1
      have := zzM_s hm h1.2.1
      subst this
      have := zzM_s hm2 h1.2.2
      subst this
      unfold xA3
      simp only []
      rw [if_pos (Nat.eq_of_beq_eq_true h1.1)]
      exact hf _ _ _ _ _ _ hm0 hr h2
  · exact h.elim
theorem zzLo_ok {i t : Nat} {s : xS} {L : List zzV} {L2 : List xV} {f : zzV → zzO} {g : xV → xO} (h : zzSat call k Q cd S m (zzLo L i t f)) (hL : zzL L L2) (hf : ∀ v w, zzR v w → zzSat call k Q cd S m (f v) → xGo call k Q (g w)) : xGo call k Q (xLo L2 i t s g) := by
  have r := zzL_getD hL i
  unfold zzLo at h
  unfold xLo
  generalize L.getD i (9, (0, 0)) = a at h r
  generalize L2.getD i (9, 0) = b at r
  obtain ⟨u, x⟩ := a
  obtain ⟨u2, y⟩ := b
  obtain ⟨h1, h2⟩ := zzIf_ok h
  have e : u = u2 := r.1
  simp only []
  rw [if_pos (e.symm.trans (Nat.eq_of_beq_eq_true h1))]
  exact hf _ _ r h2
theorem zzSt_ok {rs : List Instr} {L st : List zzV} {pc : Nat} {L2 st2 : List xV} {H : xH} {a i x : Int} {v : zzI} (h : zzSat call k Q cd S m (zzSt (rs, L, st) (zzKey a i) v)) (hp : cd.drop pc = rs) (hL : zzL L L2) (hs : zzL st st2) (hW : zzW S m H) (ha : 1 ≤ a) (ha2 : a < (m.2.2.1 : Int)) (hi : 0 ≤ i) (hi2 : i < 4096) (hv : zzM v x) : k (pc, L2, st2, (xUp H.1 a i x, H.2)) := h pc L2 st2 _ ⟨hp, hL, hs⟩ (zzW_st hW ha ha2 hi hi2 hv)
theorem zzNw_ok {rs : List Instr} {L st : List zzV} {pc : Nat} {L2 st2 : List xV} {H : xH} {κ n : Int} {ns : Nat} (h : zzSat call k Q cd S m (zzNw (rs, L, st) κ n ns)) (hp : cd.drop pc = rs) (hL : zzL L L2) (hs : zzL st st2) (hW : zzW S m H) (h1 : Nat.ble 1 m.2.2.1 = true) (h2 : Nat.ble (m.2.2.1 + 1) 255 = true) : k (pc, L2, st2, xNw H κ n ns) := h pc L2 st2 _ ⟨hp, hL, hs⟩ (zzW_nw hW (Nat.le_of_ble_eq_true h1) (Nat.le_of_ble_eq_true h2) κ n ns)
theorem zzNz_ok {p : Prop} (hp : p) : ∀ {as : List zzV} {vs : List xV}, zzL as vs → zzNz as = true → xNz p vs
  | [], [], _, _ => hp
  | (t, (x, y)) :: r, (t2, z) :: s, h, hn => by
    obtain ⟨⟨e, hm⟩, hr⟩ := h
    have e : t = t2 := e
    subst e
    by_cases h2 : t = 2
    · subst h2
      have hn : (zzEq x y && (!zzEq x 0 && zzNz r)) = true := hn
      rw [Bool.and_eq_true, Bool.and_eq_true] at hn
      have e := zzM_s hm hn.1
      have hz : zzEq x 0 = false := by cases e : zzEq x 0; rfl; rw [e] at hn; exact absurd hn.2.1 (by decide)
      have e : z = x := e
      exact ⟨by show z ≠ 0; rw [e]; exact zzEq_no hz, zzNz_ok hp hr hn.2.2⟩
    · match t, h2, hn with
      | 0, _, hn =>
        have hn : zzNz r = true := hn
        show xNz p s
        exact zzNz_ok hp hr hn
      | 1, _, hn =>
        have hn : zzNz r = true := hn
        show xNz p s
        exact zzNz_ok hp hr hn
      | 2, h2, _ => exact absurd rfl h2
      | n + 3, _, hn =>
        have hn : zzNz r = true := hn
        show xNz p s
        exact zzNz_ok hp hr hn
theorem zzPt_ok {ty t : Nat} {x : zzI} {a : Int} {p : Prop} (hp : p) (hx : zzM x a) (h : zzPt ty t x = true) : xPt ty t a p := by
  unfold zzPt at h
  split at h
  · exact hp
  · exact hp
  · exact hp
  · rw [Bool.and_eq_true] at h
    have h1 := zzLe_ok h.1
    have h2 := zzLe_ok h.2
    have h3 : x.1 ≤ a := hx.1
    have h4 : a ≤ x.2 := hx.2
    exact ⟨hp, by omega⟩
  · cases h
end ZZ
