theorem xFlat_len {ad : Int → Nat} : ∀ {as : List xV}, (∀ v ∈ as, v.1 ≤ 2) → (lg_sl (as.map (xc ad))).length = (xFlat as).length
  | [], _ => rfl
  | (t, x) :: r, h => by
    have ih := xFlat_len (ad := ad) (as := r) (fun v hv => h v (List.mem_cons_of_mem _ hv))
    have ht : t ≤ 2 := h (t, x) List.mem_cons_self
    have hc := xc_cat ad (t, x) ht
    unfold lg_sl at ih ⊢
    rw [List.map_cons, List.flatMap_cons, List.length_append, ih, hc]
    match t, ht with
    | 0, _ => show 1 + _ = (xFlat r).length + 1; omega
    | 1, _ => show 2 + _ = (xFlat r).length + 1 + 1; omega
    | 2, _ => show 1 + _ = (xFlat r).length + 1; omega
theorem xFlat_at {ad : Int → Nat} : ∀ {as : List xV} (k : Nat), (∀ v ∈ as, v.1 ≤ 2) → ∀ (i : Nat) (v : xV), (xFlat as)[i]? = some v → v.1 ≠ 9 → (k + i, xc ad v) ∈ lv_args k (as.map (xc ad)) ∧ v ∈ as
  | [], k, _, i, v, hv, _ => by simp [xFlat] at hv
  | (t, x) :: r, k, h, i, v, hv, h9 => by
    have ht : t ≤ 2 := h (t, x) List.mem_cons_self
    have hc := xc_cat ad (t, x) ht
    have hr : ∀ v ∈ r, v.1 ≤ 2 := fun v hv => h v (List.mem_cons_of_mem _ hv)
    rw [List.map_cons]
    unfold lv_args
    rw [hc]
    match t, ht, hv with
    | 0, _, hv =>
      match i, hv with
      | 0, hv =>
        have e : ((0, x) : xV) = v := by simpa [xFlat] using hv
        subst e
        exact ⟨List.mem_cons_self, List.mem_cons_self⟩
      | i + 1, hv =>
        have z := xFlat_at (ad := ad) (k + 1) hr i v (by simpa [xFlat] using hv) h9
        have e : k + (i + 1) = k + 1 + i := by omega
        rw [e]
        exact ⟨List.mem_cons_of_mem _ z.1, List.mem_cons_of_mem _ z.2⟩
    | 1, _, hv =>
      match i, hv with
      | 0, hv =>
        have e : ((1, x) : xV) = v := by simpa [xFlat] using hv
        subst e
        exact ⟨List.mem_cons_self, List.mem_cons_self⟩
      | 1, hv =>
        have e : ((9, 0) : xV) = v := by simpa [xFlat] using hv
        subst e
        exact absurd rfl h9
      | i + 2, hv =>
        have z := xFlat_at (ad := ad) (k + 2) hr i v (by simpa [xFlat] using hv) h9
        have e : k + (i + 2) = k + 2 + i := by omega
        rw [e]
        exact ⟨List.mem_cons_of_mem _ z.1, List.mem_cons_of_mem _ z.2⟩
    | 2, _, hv =>
      match i, hv with
      | 0, hv =>
        have e : ((2, x) : xV) = v := by simpa [xFlat] using hv
        subst e
        exact ⟨List.mem_cons_self, List.mem_cons_self⟩
      | i + 1, hv =>
        have z := xFlat_at (ad := ad) (k + 1) hr i v (by simpa [xFlat] using hv) h9
        have e : k + (i + 1) = k + 1 + i := by omega
        rw [e]
        exact ⟨List.mem_cons_of_mem _ z.1, List.mem_cons_of_mem _ z.2⟩
theorem xEntry_at {n : Nat} {as : List xV} {i : Nat} {v : xV} (h : (xEntry n as)[i]? = some v) (h9 : v.1 ≠ 9) : (xFlat as)[i]? = some v := by
  unfold xEntry at h
  rw [List.getElem?_append] at h
  split at h
  · exact h
  · rw [List.getElem?_replicate] at h
    split at h
    · cases h; exact absurd rfl h9
    · cases h
theorem xEntry_fr {nL : Nat} {G : xG} {M : xH} {as : List xV} (hva : ∀ v ∈ as, xVk M.2.2.2.1 v ∧ (v.1 = 2 → v.2 ≠ 0)) (hb : (xFlat as).length ≤ nL) : xFr nL G M (xEntry nL as) [] ((lg_sl (as.map (xc G.1)) ++ List.replicate (nL - (lg_sl (as.map (xc G.1))).length) Slot.unset).toArray) := by
  have ht : ∀ v ∈ as, v.1 ≤ 2 := fun v hv => (hva v hv).1.1
  have hl := lv_entry (as.map (xc G.1)) (n := nL) (by rw [xFlat_len ht]; exact hb)
  refine ⟨xL_sub hl (fun q hq => ?_), ?_, fun v hv => ?_, fun v hv => absurd hv List.not_mem_nil⟩
  · obtain ⟨v, hv, h9, he⟩ := xLv_of hq
    have z := (xFlat_at (ad := G.1) 0 ht q.1 v (xEntry_at hv h9) h9).1
    rw [Nat.zero_add, ← he] at z
    exact z
  · unfold xEntry
    rw [List.length_append, List.length_replicate]
    omega
  · obtain ⟨i, hi⟩ := List.getElem?_of_mem hv
    by_cases h9 : v.1 = 9
    · exact Or.inl h9
    · exact Or.inr (hva v (xFlat_at (ad := G.1) 0 ht i v (xEntry_at hi h9) h9).2)
theorem xMo_at {j : Nat} (hj : j < 336) : xo (xMo.getD j 99) = (xM j).1.cls ∧ xMi.getD j false = ((xM j).1.name == "<init>") := by
  have h := List.all_eq_true.mp xMo_ok j (List.mem_range.mpr hj)
  simp only [Bool.and_eq_true, beq_iff_eq] at h
  exact h.1
theorem xSpec_ok : xCds.all (fun q => q.1.all (fun i => match i with | .invokespecial m => Nat.blt (m / 80 % 100) 13 | _ => true)) = true := by decide +kernel
theorem xSpec_at {j q : Nat} (h : Instr.invokespecial q ∈ xCode j) : q / 80 % 100 < 13 := by
  unfold xCode at h
  rw [List.getD_eq_getElem?_getD] at h
  cases e : xCds[j]? with
  | none => rw [e] at h; exact absurd h List.not_mem_nil
  | some z =>
    rw [e] at h
    have h1 := List.all_eq_true.mp xSpec_ok z (List.mem_of_getElem? e)
    exact xBlt (List.all_eq_true.mp h1 _ h)
set_option maxHeartbeats 4000000 in
theorem xSnd_succ {l : Launch} {d : Nat} (hS : xSnd l d) : xSnd l (d + 1) := by
  intro j as M M0 r0 hj hcall J G sz hok hGd hva
  obtain ⟨hb, n, hw⟩ := hcall
  obtain ⟨ho1, ho2⟩ := xMo_at hj
  obtain ⟨hpt, hp0⟩ := xPts_of (xCk_all j hj)
  refine Met.ofW (cc := (xM j).2.1) (maxL := (xM j).2.2.1) (ret := (xM j).2.2.2.1) (xMp hj).1 rfl ?_
  intro p e s m args below meth c s₁ B hml hv
  obtain ⟨rfl, hsz, hP, hD, hKn, hT, hO⟩ := hv
  subst hsz
  have hlocks := B.notSynchronized
  have hown : s.vm.findClass (xM j).1.cls = some m.cls := findClass_of_methodNamed B.named
  have C : xCtx p (xRm d (M0.2.2.2.1 - M.2.2.2.1) (M0.2.2.2.2 - M.2.2.2.2)) s m (as.map (xc G.1)).toArray c (xMo.getD j 99) (xM j).2.1 (xM j).2.2.1 d (xJw J G M) (va_A (xWs G M) s.heap.size) :=
    ⟨B.exec, B.bytes, hml, by rw [ho1]; exact hown, fun w hw => atoms_spec (ws := xWj j) B.pre w (List.mem_cons_of_mem _ hw), hT, hO, fun q h => Or.inr h, Nat.le_refl _, Nat.le_refl _⟩
  have hdet := xWp_det (xCall_md d).1 (xCall_md d).2 n _ _ _ _ hw
  have hle : xLe M M0 := by
    obtain ⟨r, H', ⟨-, e2⟩, q2, -⟩ := hdet
    rw [e2] at q2
    exact q2
  have hG2 : xGd (xJw J G M) G M := ⟨hGd.1, ⟨hGd.2.1.1, fun b _ => rfl⟩, Int.le_refl _, hGd.2.2.2⟩
  have hrun := xRun (e := e) (below := below) (meth := meth) (Z := MQ below (xPost J G M s.heap.size (xRc (xM j).2.2.2.1) r0 M0) (as.map (xc G.1)).toArray s (M0.2.2.2.1 - M.2.2.2.1) (M0.2.2.2.2 - M.2.2.2.2) (va_A (xWs G M) s.heap.size)) (c0 := M.2.2.2.1) (s0 := M.2.2.2.2) C hS hpt
    (fun h => by rw [(name_of_methodNamed B.named B.method).1]; rw [ho2] at h; exact eq_of_beq h) (fun q hq => xSpec_at hq) (by show M0.2.2.2.1 ≤ M.2.2.2.1 + (M0.2.2.2.1 - M.2.2.2.1); omega) (by show M0.2.2.2.2 ≤ M.2.2.2.2 + (M0.2.2.2.2 - M.2.2.2.2); omega)
    (fun pc L M' rt x hev hx => ?_) n 0 _ [] M hw
  · have hF := xEntry_fr (nL := (xM j).2.2.1) (G := G) (M := M) (as := as) hva (Nat.le_of_ble_eq_true hb)
    have hR : xRel (xJw J G M) s (va_A (xWs G M) s.heap.size) s.heap G M s.heap [] := ⟨hok, hP, ⟨hD.1, fun k q hq => Or.inl ⟨k, q.2, hq⟩⟩, va_S.rf, hKn, hG2⟩
    have k := hrun G s.heap [] _ hR hF (Nat.le_refl _) (Nat.le_refl _)
    have k : W p l e (xRm d (M0.2.2.2.1 - M.2.2.2.1) (M0.2.2.2.2 - M.2.2.2.2)) s m (as.map (xc G.1)).toArray below meth c s.heap [] (M.2.2.2.1 - M.2.2.2.1) (M.2.2.2.2 - M.2.2.2.2) (MQ below (xPost J G M s.heap.size (xRc (xM j).2.2.2.1) r0 M0) (as.map (xc G.1)).toArray s (M0.2.2.2.1 - M.2.2.2.1) (M0.2.2.2.2 - M.2.2.2.2) (va_A (xWs G M) s.heap.size)) (F0 m ((xPs j).getD 0 0) ((lg_sl (as.map (xc G.1)) ++ List.replicate ((xM j).2.2.1 - (lg_sl (as.map (xc G.1))).length) Slot.unset).toArray) []) := k
    rw [hp0, Nat.sub_self, Nat.sub_self] at k
    rw [lg_entry_eq]
    exact k
  · obtain ⟨rfl, rfl⟩ := hx
    intro G' H locs ls hR hF h1 h2
    replace hR : xRel (xJw J G M) s (va_A (xWs G M) s.heap.size) s.heap G' M' H locs := hR
    have hq : ∀ (t : State), t.heap = H → s.WarmedH t.vm → ∀ oc, (oc = .returned (if xRc (xM j).2.2.2.1 = 3 then none else some (xc G'.1 (xRc (xM j).2.2.2.1, x)))) → (xRc (xM j).2.2.2.1 ≠ 3 → xVk M'.2.2.2.1 (xRc (xM j).2.2.2.1, x)) → xPost J G M s.heap.size (xRc (xM j).2.2.2.1) x M' (as.map (xc G.1)).toArray s oc t := by
      intro t ht hW oc hoc hvk
      have hE : ∀ b : Int, b < (M.2.2.2.1 : Int) → G'.1 b = G.1 b := hR.2.2.2.2.2.2.1.2
      have hmid := hGd.2.2.1
      refine ⟨G', hoc, hvk, hR.1, by rw [ht]; exact hR.2.1, hR.2.2.1, xKn_moved hW.alike hR.2.2.2.2.1, ?_, hE, hR.2.2.2.1.F ht⟩
      exact ⟨hR.2.2.2.2.2.1, ⟨hR.2.2.2.2.2.2.1.1, fun b hb => by rw [hE b (by omega)]; exact hGd.2.1.2 b hb⟩, by have := hle.1; omega, hR.2.2.2.2.2.2.2.2⟩
    have hf : ∀ q ∈ locs, va_A (xWs G M) s.heap.size q.base := hR.2.2.2.1.2.2
    rcases hev with ⟨rfl, hd, hr⟩ | ⟨rfl, hd, hr⟩ | ⟨rfl, hd, hr⟩ | ⟨rfl, hd, hr, hx0⟩
    · have hvk : xVk M'.2.2.2.1 (0, x) := hF.2.2.2 (0, x) List.mem_cons_self
      rcases hr with hr | ⟨hr, hb1⟩
      · have hrc : xRc (xM j).2.2.2.1 = 0 := by rw [hr]; rfl
        refine W.iret (v := Int32.ofInt x) B.exec B.bytes (by rw [B.returns, hr]) (fun t ht hW => hq t ht hW _ (by rw [hrc]; rfl) (fun _ => by rw [hrc]; exact hvk)) hf hd
      · have hrc : xRc (xM j).2.2.2.1 = 0 := by rw [hr]; rfl
        refine W.zret (v := Int32.ofInt x) (ty := .boolean) B.exec B.bytes (by rw [B.returns, hr]) (by rcases hb1 with rfl | rfl <;> rfl) (fun t ht hW => hq t ht hW _ (by rw [hrc]; rfl) (fun _ => by rw [hrc]; exact hvk)) hf hd
    · have hvk : xVk M'.2.2.2.1 (1, x) := hF.2.2.2 (1, x) List.mem_cons_self
      have hrc : xRc (xM j).2.2.2.1 = 1 := by rw [hr]; rfl
      refine W.lret (v := Int64.ofInt x) B.exec B.bytes (by rw [B.returns, hr]) (fun t ht hW => hq t ht hW _ (by rw [hrc]; rfl) (fun _ => by rw [hrc]; exact hvk)) hf hd
    · have hvk : xVk M'.2.2.2.1 (2, x) := hF.2.2.2 (2, x) List.mem_cons_self
      have hrc : xRc (xM j).2.2.2.1 = 2 := by rcases hr with ⟨n, hr⟩ | ⟨n, hr⟩ <;> rw [hr] <;> rfl
      have hxx : xc G'.1 (2, x) = .null ∨ ∃ a, xc G'.1 (2, x) = .ref a := by
        by_cases h : x = 0
        · subst h; exact Or.inl rfl
        · exact Or.inr ⟨_, xc_ref h⟩
      rcases hr with ⟨n, hr⟩ | ⟨n, hr⟩
      · exact W.aret (v := xc G'.1 (2, x)) (rt := .object n) B.exec B.bytes (by rw [B.returns, hr]) (Or.inl ⟨_, rfl⟩) hxx (fun t ht hW => hq t ht hW _ (by rw [hrc]; rfl) (fun _ => by rw [hrc]; exact hvk)) hf hd
      · exact W.aret (v := xc G'.1 (2, x)) (rt := .array n) B.exec B.bytes (by rw [B.returns, hr]) (Or.inr ⟨_, rfl⟩) hxx (fun t ht hW => hq t ht hW _ (by rw [hrc]; rfl) (fun _ => by rw [hrc]; exact hvk)) hf hd
    · have hrc : xRc (xM j).2.2.2.1 = 3 := by rw [hr]; rfl
      exact W.vret B.exec B.bytes (by rw [B.returns, hr]) (fun t ht hW => hq t ht hW _ (by rw [hrc]; rfl) (fun h => absurd hrc h)) hf hd
theorem xSnd_all (l : Launch) : ∀ d : Nat, xSnd l d
  | 0 => fun _ _ _ _ _ _ h => absurd h id
  | d + 1 => xSnd_succ (xSnd_all l d)
