/-! the runs, joined -/
theorem zzEnd_and {B : Nat × Nat} {ih1 ih2 ih : zzG} {fs : List zzF} {v : zzI} {m : zzMm} (hi : ∀ d cd rs L st m fs, ih1 d cd rs L st m fs = true → ih2 d cd rs L st m fs = true → ih d cd rs L st m fs = true) (h1 : zzEnd B ih1 fs v m = true) (h2 : zzEnd B ih2 fs v m = true) : zzEnd B ih fs v m = true := by
  match fs, h1, h2 with
  | [], h1, _ => exact h1
  | (e, cd2, rs2, L2, st2, rt) :: gs, h1, h2 => exact hi _ _ _ _ _ _ _ h1 h2
theorem zzOr_and {a b1 b2 b : Bool} (hi : b1 = true → b2 = true → b = true) (h1 : zzOr a b1 = true) (h2 : zzOr a b2 = true) : zzOr a b = true := by
  cases a
  · rfl
  · exact hi h1 h2
theorem zzOut_and {B : Nat × Nat} {E1 E2 E : List zzV → List zzV → zzMm → Bool} (hE : ∀ L st m, E1 L st m = true → E2 L st m = true → E L st m = true) {ih1 ih2 ih : zzG} (hi : ∀ d cd rs L st m fs, ih1 d cd rs L st m fs = true → ih2 d cd rs L st m fs = true → ih d cd rs L st m fs = true) {d : Nat} {cd : List Instr} {i : Instr} {L st : List zzV} {m : zzMm} {fs : List zzF} {o : zzO} (h1 : zzOut B E1 ih1 d cd i L st m fs o = true) (h2 : zzOut B E2 ih2 d cd i L st m fs o = true) : zzOut B E ih d cd i L st m fs o = true := by
  match o, h1, h2 with
  | .inl ((r1, l1, s1), p), h1, h2 =>
    have h1 : zzDo p m (fun m2 => ih1 d cd r1 l1 s1 m2 fs) = true := h1
    have h2 : zzDo p m (fun m2 => ih2 d cd r1 l1 s1 m2 fs) = true := h2
    rw [zzDo_eq] at h1 h2
    show zzDo p m (fun m2 => ih d cd r1 l1 s1 m2 fs) = true
    rw [zzDo_eq]
    exact hi _ _ _ _ _ _ _ h1 h2
  | .inr (.inl (a, b, (r1, l1, s1), (r2, l2, s2))), h1, h2 =>
    have h1 : (zzOr a (ih1 d cd r1 l1 s1 m fs) && zzOr b (ih1 d cd r2 l2 s2 m fs)) = true := h1
    have h2 : (zzOr a (ih2 d cd r1 l1 s1 m fs) && zzOr b (ih2 d cd r2 l2 s2 m fs)) = true := h2
    obtain ⟨h3, h4⟩ := zz_and h1
    obtain ⟨h5, h6⟩ := zz_and h2
    show (zzOr a (ih d cd r1 l1 s1 m fs) && zzOr b (ih d cd r2 l2 s2 m fs)) = true
    rw [Bool.and_eq_true]
    exact ⟨zzOr_and (hi _ _ _ _ _ _ _) h3 h5, zzOr_and (hi _ _ _ _ _ _ _) h4 h6⟩
  | .inr (.inr (.inl (j, as, rt, (r1, l1, s1)))), h1, h2 =>
    match d, h1, h2 with
    | 0, h1, _ => exact Bool.noConfusion (show false = true from h1)
    | e + 1, h1, h2 =>
      have h1 : (Nat.ble (zzFlat as).length (xM j).2.2.1 && ih1 e (xCode j) (xCode j) (zzEntry (xM j).2.2.1 as) [] m ((e + 1, cd, r1, l1, s1, rt) :: fs)) = true := h1
      have h2 : (Nat.ble (zzFlat as).length (xM j).2.2.1 && ih2 e (xCode j) (xCode j) (zzEntry (xM j).2.2.1 as) [] m ((e + 1, cd, r1, l1, s1, rt) :: fs)) = true := h2
      show (Nat.ble (zzFlat as).length (xM j).2.2.1 && ih e (xCode j) (xCode j) (zzEntry (xM j).2.2.1 as) [] m ((e + 1, cd, r1, l1, s1, rt) :: fs)) = true
      rw [Bool.and_eq_true]
      exact ⟨(zz_and h1).1, hi _ _ _ _ _ _ _ (zz_and h1).2 (zz_and h2).2⟩
  | .inr (.inr (.inr (.inl v))), h1, h2 => exact zzEnd_and hi h1 h2
  | .inr (.inr (.inr (.inr b))), h1, h2 =>
    have h1 : zzHok E1 i L st m fs b = true := h1
    have h2 : zzHok E2 i L st m fs b = true := h2
    show zzHok E i L st m fs b = true
    unfold zzHok at h1 h2 ⊢
    split at h1
    · exact hE _ _ _ h1 h2
    · cases h1
theorem zzRun_and {S : zzQ} {B : Nat × Nat} {E1 E2 E : List zzV → List zzV → zzMm → Bool} (hE : ∀ L st m, E1 L st m = true → E2 L st m = true → E L st m = true) : ∀ (n d : Nat) (cd rs : List Instr) (L st : List zzV) (m : zzMm) (fs : List zzF), zzRun S B E1 n d cd rs L st m fs = true → zzRun S B E2 n d cd rs L st m fs = true → zzRun S B E n d cd rs L st m fs = true
  | 0, _, _, _, _, _, _, _, h, _ => Bool.noConfusion (show false = true from h)
  | n + 1, d, cd, [], L, st, m, fs, h, _ => Bool.noConfusion (show false = true from h)
  | n + 1, d, cd, i :: rest, L, st, m, fs, h1, h2 => zzOut_and hE (ih1 := zzRun S B E1 n) (ih2 := zzRun S B E2 n) (ih := zzRun S B E n) (fun d cd rs L st m fs => zzRun_and hE n d cd rs L st m fs) h1 h2
theorem zzEg_app {a b : List Nat} : ∀ L st m, zzEg a L st m = true → zzEg b L st m = true → zzEg (a ++ b) L st m = true := fun L st m h1 h2 => by
  unfold zzEg at h1 h2 ⊢
  split at h1
  · rename_i x
    have h2 : ((zzLe 0 x.1 && zzLe x.2 63) && b.all (zzOne L m)) = true := h2
    show ((zzLe 0 x.1 && zzLe x.2 63) && (a ++ b).all (zzOne L m)) = true
    rw [Bool.and_eq_true] at h1 h2 ⊢
    exact ⟨h1.1, by rw [List.all_append, Bool.and_eq_true]; exact ⟨h1.2, h2.2⟩⟩
  · cases h1
theorem zzEg_nil : ∀ L st m, zzEg [28] L st m = true → zzEg [28] L st m = true → zzEg [] L st m = true := fun L st m h h2 => by
  clear h2
  unfold zzEg at h ⊢
  split at h
  · rename_i x
    show ((zzLe 0 x.1 && zzLe x.2 63) && ([] : List Nat).all (zzOne L m)) = true
    rw [Bool.and_eq_true] at h ⊢
    exact ⟨h.1, rfl⟩
  · cases h
theorem zr_one : zzRun (List.replicate 7 zzTp, 7) zzLim zzE1 200000 15 cdLaw cdLaw zzL0 [] zzm0 [] = true :=
  zzRun_and zzEg_app _ _ _ _ _ _ _ _ zr_0 (zzRun_and zzEg_app _ _ _ _ _ _ _ _ zr_1 (zzRun_and zzEg_app _ _ _ _ _ _ _ _ zr_2 (zzRun_and zzEg_app _ _ _ _ _ _ _ _ zr_3 (zzRun_and zzEg_app _ _ _ _ _ _ _ _ zr_4 (zzRun_and zzEg_nil _ _ _ _ _ _ _ _ zr_0 zr_0)))))
theorem zl_wp (L : Nat) (hL : L ≤ 7) (xs : Nat → Int32) : xW 15 cdLaw zQ (0, [(2, -1), (9, 0), (9, 0), (9, 0)], [], zM0 L xs) := by
  have hr : zzSr cdLaw (cdLaw, zzL0, []) 0 [(2, -1), (9, 0), (9, 0), (9, 0)] [] := ⟨rfl, ⟨⟨rfl, zzM_1 _⟩, ⟨rfl, zzM_1 _⟩, ⟨rfl, zzM_1 _⟩, ⟨rfl, zzM_1 _⟩, trivial⟩, trivial⟩
  by_cases h : L = 7
  · subst h
    exact zzRun_ok 200000 15 cdLaw cdLaw zzL0 [] zzm0 [] zr_one 0 _ _ _ zQ hr (zW0 (S := (List.replicate 7 zzTp, 7)) (Int.le_refl _) (Int.le_refl _) (fun j hj => by
      have hj : j < 7 := hj
      rw [List.getD_eq_getElem?_getD, List.getElem?_replicate, if_pos hj]; rfl)) zzKs0 (fun _ => zHo1)
  · exact zzRun_ok 200000 15 cdLaw cdLaw zzL0 [] zzm0 [] zr_short 0 _ _ _ zQ hr (zW0 (S := ([], 6)) (by show (0 : Int) ≤ (L : Int); omega) (by show (L : Int) ≤ 6; omega) (fun j hj => absurd hj (Nat.not_lt_zero _))) zzKs0 (fun _ => zHo0)
