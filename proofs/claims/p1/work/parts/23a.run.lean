/-! a run over bounds, with its callers -/
abbrev zzF : Type := Nat × List Instr × List Instr × List zzV × List zzV × Nat
noncomputable def zzDo (p : zzP) (m : zzMm) (c : zzMm → Bool) : Bool := match p with
  | .inl none => c m
  | .inl (some (k, v)) => zzSetK (0, 0) 27 m.1 k v (fun t => c (t, m.2))
  | .inr (.inl (κ, n, ns)) => zzSetK (-1, 0) 10 m.2.1 m.2.2.1 (κ, n) (fun t => c (m.1, t, m.2.2.1 + 1, m.2.2.2 + ns))
  | .inr (.inr m2) => c m2
theorem zzDo_eq (p : zzP) (m : zzMm) (c : zzMm → Bool) : zzDo p m c = c (zzAct p m) := by
  match p with
  | .inl none => rfl
  | .inl (some (k, v)) =>
    show zzSetK (0, 0) 27 m.1 k v (fun t => c (t, m.2)) = c (zzSet (0, 0) 27 m.1 k v, m.2)
    exact zzSetK_eq (0, 0) 27 m.1 k v (fun t => c (t, m.2))
  | .inr (.inl (κ, n, ns)) =>
    show zzSetK (-1, 0) 10 m.2.1 m.2.2.1 (κ, n) (fun t => c (m.1, t, m.2.2.1 + 1, m.2.2.2 + ns)) = c (m.1, zzSet (-1, 0) 10 m.2.1 m.2.2.1 (κ, n), m.2.2.1 + 1, m.2.2.2 + ns)
    exact zzSetK_eq (-1, 0) 10 m.2.1 m.2.2.1 (κ, n) (fun t => c (m.1, t, m.2.2.1 + 1, m.2.2.2 + ns))
  | .inr (.inr m2) => rfl
def zzOr (a b : Bool) : Bool := match a with
  | true => b
  | false => true
abbrev zzG : Type := Nat → List Instr → List Instr → List zzV → List zzV → zzMm → List zzF → Bool
noncomputable def zzEnd (B : Nat × Nat) (ih : zzG) (fs : List zzF) (v : zzI) (m : zzMm) : Bool := match fs with
  | [] => zzEq v.1 1 && (zzEq v.2 1 && (Nat.ble m.2.2.1 B.1 && Nat.ble m.2.2.2 B.2))
  | (e, cd2, rs2, L2, st2, rt) :: gs => ih e cd2 rs2 L2 (zzPush rt v st2) m gs
noncomputable def zzCal (ih : zzG) (d : Nat) (cd : List Instr) (j : Nat) (as : List zzV) (rt : Nat) (s : zzS) (m : zzMm) (fs : List zzF) : Bool := match d with
  | 0 => false
  | e + 1 => Nat.ble (zzFlat as).length (xM j).2.2.1 && ih e (xCode j) (xCode j) (zzEntry (xM j).2.2.1 as) [] m ((e + 1, cd, s.1, s.2.1, s.2.2, rt) :: fs)
noncomputable def zzHok (E : List zzV → List zzV → zzMm → Bool) (i : Instr) (L st : List zzV) (m : zzMm) (fs : List zzF) (b : Bool) : Bool := match b, fs, i with
  | true, [], .tableswitch _ _ _ _ => E L st m
  | _, _, _ => false
noncomputable def zzOut (B : Nat × Nat) (E : List zzV → List zzV → zzMm → Bool) (ih : zzG) (d : Nat) (cd : List Instr) (i : Instr) (L st : List zzV) (m : zzMm) (fs : List zzF) (o : zzO) : Bool := match o with
  | .inl (s, p) => zzDo p m (fun m2 => ih d cd s.1 s.2.1 s.2.2 m2 fs)
  | .inr (.inl (a, b, s, t)) => zzOr a (ih d cd s.1 s.2.1 s.2.2 m fs) && zzOr b (ih d cd t.1 t.2.1 t.2.2 m fs)
  | .inr (.inr (.inl (j, as, rt, s))) => zzCal ih d cd j as rt s m fs
  | .inr (.inr (.inr (.inl v))) => zzEnd B ih fs v m
  | .inr (.inr (.inr (.inr b))) => zzHok E i L st m fs b
noncomputable def zzBody (S : zzQ) (B : Nat × Nat) (E : List zzV → List zzV → zzMm → Bool) (ih : zzG) : zzG := fun d cd rs L st m fs => match rs with
  | [] => false
  | i :: rest => zzOut B E ih d cd i L st m fs (zzNext S d cd i rest L st m)
noncomputable def zzRun (S : zzQ) (B : Nat × Nat) (E : List zzV → List zzV → zzMm → Bool) (n : Nat) : zzG :=
  Nat.rec (motive := fun _ => zzG) (fun _ _ _ _ _ _ _ => false) (fun _ ih => zzBody S B E ih) n
noncomputable def zzRet (S : zzQ) (B : Nat × Nat) (E : List zzV → List zzV → zzMm → Bool) (n : Nat) (fs : List zzF) (v : zzI) (m : zzMm) : Bool := zzEnd B (zzRun S B E n) fs v m
def zzKs (S : zzQ) (B : Nat × Nat) (E : List zzV → List zzV → zzMm → Bool) (n : Nat) (fs : List zzF) (Q : Int → xH → Prop) : Prop := ∀ n2, n2 ≤ n → ∀ v m x H, zzRet S B E n2 fs v m = true → zzM v x → zzW S m H → Q x H
def zzHo (S : zzQ) (E : List zzV → List zzV → zzMm → Bool) (d : Nat) (cd : List Instr) (Q : Int → xH → Prop) : Prop := ∀ L st m pc L2 st2 H, E L st m = true → (∃ t lo hi ts r, cd.drop pc = .tableswitch t lo hi ts :: r) → zzL L L2 → zzL st st2 → zzW S m H → xW d cd Q (pc, L2, st2, H)
theorem zz_hd {cd : List Instr} {pc : Nat} {i : Instr} {r : List Instr} (h : cd.drop pc = i :: r) : cd.getD pc .nop = i ∧ cd.drop (pc + 1) = r := by
  have e : cd[pc]? = some i := by
    have := congrArg (fun l : List Instr => l[0]?) h
    simpa using this
  refine ⟨by rw [List.getD_eq_getElem?_getD, e]; rfl, ?_⟩
  have := congrArg (List.drop 1) h
  simpa [List.drop_drop, Nat.add_comm] using this
def zzPr1 (S : zzQ) (B : Nat × Nat) (E : List zzV → List zzV → zzMm → Bool) (n : Nat) : Prop := ∀ (d : Nat) (cd rs : List Instr) (L st : List zzV) (m : zzMm) (fs : List zzF), zzRun S B E n d cd rs L st m fs = true → ∀ (pc : Nat) (L2 st2 : List xV) (H : xH) (Q : Int → xH → Prop), zzSr cd (rs, L, st) pc L2 st2 → zzW S m H → zzKs S B E n fs Q → (fs = [] → zzHo S E d cd Q) → xW d cd Q (pc, L2, st2, H)
theorem zzRun_st {S : zzQ} {B : Nat × Nat} {E : List zzV → List zzV → zzMm → Bool} {n d : Nat} {cd rest : List Instr} {i : Instr} {L st : List zzV} {m : zzMm} {fs : List zzF} {pc : Nat} {L2 st2 : List xV} {H : xH} {Q : Int → xH → Prop} {o : zzO} (hH : fs = [] → zzHo S E d cd Q) (hK1 : zzKs S B E n fs Q) (hK : zzKs S B E (n + 1) fs Q) (IH : ∀ q, q < n + 1 → zzPr1 S B E q) (hp : cd.drop pc = i :: rest) (hL1 : zzL L L2) (hs1 : zzL st st2) (hW : zzW S m H) (h : zzOut B E (zzRun S B E n) d cd i L st m fs o = true) (go : zzSat (xCall d) (xW d cd Q) Q cd S m o → xW d cd Q (pc, L2, st2, H)) : xW d cd Q (pc, L2, st2, H) := by
  have ih := IH n (Nat.lt_succ_self n)
  match o, h, go with
  | .inl (s, p), h, go =>
    refine go (fun pc1 L1 st1 H1 hr1 hW1 => ?_)
    have h : zzDo p m (fun m2 => zzRun S B E n d cd s.1 s.2.1 s.2.2 m2 fs) = true := h
    rw [zzDo_eq] at h
    exact ih d cd s.1 s.2.1 s.2.2 _ fs h pc1 L1 st1 H1 Q hr1 hW1 hK1 hH
  | .inr (.inl (a, b, s, t)), h, go =>
    have h : (zzOr a (zzRun S B E n d cd s.1 s.2.1 s.2.2 m fs) && zzOr b (zzRun S B E n d cd t.1 t.2.1 t.2.2 m fs)) = true := h
    obtain ⟨h1, h2⟩ := zz_and h
    refine go ⟨fun ea pc1 L1 st1 H1 hr1 hW1 => ?_, fun eb pc1 L1 st1 H1 hr1 hW1 => ?_⟩
    · rw [ea] at h1
      exact ih d cd s.1 s.2.1 s.2.2 _ fs h1 pc1 L1 st1 H1 Q hr1 hW1 hK1 hH
    · rw [eb] at h2
      exact ih d cd t.1 t.2.1 t.2.2 _ fs h2 pc1 L1 st1 H1 Q hr1 hW1 hK1 hH
  | .inr (.inr (.inl (j, as, rt, s))), h, go =>
    have h : zzCal (zzRun S B E n) d cd j as rt s m fs = true := h
    match d, h, go, hH with
    | 0, h, _, _ => exact Bool.noConfusion (show false = true from h)
    | e + 1, h, go, hH =>
      have h : (Nat.ble (zzFlat as).length (xM j).2.2.1 && zzRun S B E n e (xCode j) (xCode j) (zzEntry (xM j).2.2.1 as) [] m ((e + 1, cd, s.1, s.2.1, s.2.2, rt) :: fs)) = true := h
      obtain ⟨h1, h2⟩ := zz_and h
      refine go (fun vs pc1 L1 st1 H1 hvs hr1 hW1 => ?_)
      refine xC_of (L := xEntry (xM j).2.2.1 vs) (cd := xCode j) (by rw [← zzL_len (zzFlat_ok hvs)]; exact h1) rfl rfl ?_
      refine ih e (xCode j) (xCode j) _ [] m _ h2 0 _ [] H1 _ ⟨rfl, zzEntry_ok _ hvs, trivial⟩ hW1 (fun n2 hn2 v m2 x H2 hret hv hW2 => ?_) (fun z => by cases z)
      have hret : zzRun S B E n2 (e + 1) cd s.1 s.2.1 (zzPush rt v s.2.2) m2 fs = true := hret
      exact IH n2 (Nat.lt_succ_of_le hn2) (e + 1) cd s.1 s.2.1 _ m2 fs hret pc1 L1 _ H2 Q ⟨hr1.1, hr1.2.1, zzPush_ok rt hv hr1.2.2⟩ hW2 (fun n3 h3 => hK n3 (Nat.le_trans h3 (Nat.le_succ_of_le hn2))) hH
  | .inr (.inr (.inr (.inl v))), h, go =>
    exact go (fun x H1 hv hW1 => hK1 n (Nat.le_refl _) v m x H1 h hv hW1)
  | .inr (.inr (.inr (.inr b))), h, go =>
    have h : zzHok E i L st m fs b = true := h
    unfold zzHok at h
    split at h
    · exact hH rfl _ _ _ _ _ _ _ h ⟨_, _, _, _, _, hp⟩ hL1 hs1 hW
    · cases h
theorem zzRun_ok {S : zzQ} {B : Nat × Nat} {E : List zzV → List zzV → zzMm → Bool} : ∀ n : Nat, zzPr1 S B E n := by
  intro n
  induction n using Nat.strongRecOn with
  | ind n IH =>
    intro d cd rs L st m fs h pc L2 st2 H Q hr hW hK hH
    match n, IH, h, hK with
    | 0, _, h, _ => exact Bool.noConfusion (show false = true from h)
    | n + 1, IH, h, hK =>
      have ih := IH n (Nat.lt_succ_self n)
      have hK1 : zzKs S B E n fs Q := fun n2 h2 => hK n2 (Nat.le_succ_of_le h2)
      obtain ⟨hp, hL, hs⟩ := hr
      match rs, hp, h with
      | [], _, h => exact Bool.noConfusion (show false = true from h)
      | i :: rest, hp, h =>
        obtain ⟨e1, e2⟩ := zz_hd hp
        have hs1 : zzL st st2 := hs
        have hL1 : zzL L L2 := hL
        have go : zzSat (xCall d) (xW d cd Q) Q cd S m (zzNext S d cd i rest L st m) → xW d cd Q (pc, L2, st2, H) := fun z => xW_step (by rw [e1]; exact zzNext_ok e2 hL1 hs1 hW z)
        have h : zzOut B E (zzRun S B E n) d cd i L st m fs (zzNext S d cd i rest L st m) = true := h
        revert h go
        generalize zzNext S d cd i rest L st m = o
        intro go h
        exact zzRun_st hH hK1 hK IH hp hL1 hs1 hW h go
