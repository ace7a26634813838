/-! a method's contract, out of the kernel's runs -/
def ttCts (old : Option (Int × List (Int × yyN))) (L0 : List ttV) (cuts : List (Nat × ttCtA)) : ttCt := cuts.map fun q => (q.1, ttArr old L0 q.2)
def ttX0 : ttX := (0, [], [], [])
noncomputable def ttEnt (ev : ttEv) (n : Nat) (cuts : List (Nat × ttCtA)) (c : ttCon) : Bool := match c with
  | (j, dep, ps, cc, res, rc, ef) => match dep with
    | 0 => false
    | d + 1 => ps.all (fun p => !Nat.beq p.1 9) && ttMkL ps ttX0 fun X as => ttAdC as (0, 0, 0) cc X fun X1 => (Nat.ble (ttFl as).length (xM j).2.2.1 && cuts.all (fun q => ttKpA q.2.2.2.2.2 (ttEn (xM j).2.2.1 as) as)) && ttRun ev n (ttCts none (ttEn (xM j).2.2.1 as) cuts) (ttRet (j, d + 1, ps, cc, res, rc, ef) as (List.range 20)) d (xCode j) (xCode j) 0 (ttEn (xM j).2.2.1 as) [] X1
noncomputable def ttCk (ev : ttEv) (n : Nat) (cuts : List (Nat × ttCtA)) (c : ttCon) (q : Nat × ttCtA) : Bool := match c with
  | (j, dep, ps, cc, res, rc, ef) => match dep with
    | 0 => false
    | d + 1 => match q with
      | (pc, ls, cs, m0, ms, ks) => cuts.all (fun z => z.2.2.2.2.2.all fun i => ks.contains i) && ttMkL ls ttX0 fun X L => ttAdC L (0, 0, 0) cs X fun X1 => ttMv X1 L ms fun ov => ks.all (fun i => !Nat.beq (L.getD i (9, (0, 0, 0))).1 9) && ttSp ev (ttRun ev n) (ttCts (some (m0, ov)) L cuts) (ttRet (j, d + 1, ps, cc, res, rc, ef) L ks) d (xCode j) ((xCode j).drop pc) pc L [] X1
theorem ttSat_0 (H : xH) (ρ : Nat → Int) : ttSat H ttX0 ρ := ⟨fun _ h => absurd h List.not_mem_nil, fun _ h => absurd h List.not_mem_nil, fun _ h => absurd h List.not_mem_nil⟩
theorem ttFam9 {N : Int} {ps : List (Nat × ttP)} {vs : List xV} (h : ttF (ttAm N) ps vs) : ttF (ttA9 N) ps vs := ttF_imp (fun _ _ z => Or.inr z) h
set_option maxHeartbeats 4000000 in
/-- from a cut on -/
theorem ttCut_ok {XX : xH → Prop} {ev : ttEv} {n : Nat} {cuts : List (Nat × ttCtA)} {j d e : Nat} {ps : List (Nat × ttP)} {cc : List ttC} {res : List ttP} {rc : List ttC} {ef : ttEf} (hC : ∀ c ∈ ev.1, ttHas XX c) (hO : ttOut XX ev.2.2) (he : ev.2.1 = ef) (h1 : cuts.all (ttCk ev n cuts (j, d + 1, ps, cc, res, rc, ef)) = true) (hde : d ≤ e) {vs : List xV} {H : xH} {Q : Int → xH → Prop} (hQ : ∀ r H', ttTI H' → XX H' → ttFr ef H H' → (∃ p ∈ res, ttPm (H'.2.2.2.1 : Int) p r) → (∀ q ∈ rc, ttCm H' vs r q) → Q r H') : ∀ m : Nat, ∀ q ∈ cuts, ∀ (L2 : List xV) (H' : xH), ttJ XX ev H H' → ttCtP H' q.2 L2 → (∀ i ∈ q.2.2.2.2.2, (L2.getD i (9, 0)).2 = (vs.getD i (9, 0)).2) → 0 ≤ ttCtM H' q.2 L2 → ttCtM H' q.2 L2 < (m : Int) → xW e (xCode j) Q (q.1, L2, [], H') := by
  have hR := ttRun_ok hC hO n
  intro m
  induction m with
  | zero =>
    intro q hq L2 H' _ _ _ z1 z2
    have z2 : ttCtM H' q.2 L2 < 0 := z2
    omega
  | succ m ih =>
    intro q hq L2 H' hJ hP hkp z1 z2
    have hk := List.all_eq_true.mp h1 q hq
    obtain ⟨pc, ls, cs, m0, ms, ks⟩ := q
    have hk : (cuts.all (fun z => z.2.2.2.2.2.all fun i => ks.contains i) && ttMkL ls ttX0 fun X L => ttAdC L (0, 0, 0) cs X fun X1 => ttMv X1 L ms fun ov => ks.all (fun i => !Nat.beq (L.getD i (9, (0, 0, 0))).1 9) && ttSp ev (ttRun ev n) (ttCts (some (m0, ov)) L cuts) (ttRet (j, d + 1, ps, cc, res, rc, ef) L ks) d (xCode j) ((xCode j).drop pc) pc L [] X1) = true := hk
    obtain ⟨hks, hk⟩ := zz_and hk
    obtain ⟨X', ρ', L, hk, n1, g1, S1, q1, q2⟩ := ttMkL_ok (ttSat_0 H' (fun _ => 0)) hP.1 hk
    obtain ⟨X1, ρ1, hk, n2, g2, S2⟩ := ttAdC_ok S1 q2 (Or.inl rfl) (yyG_c ρ' 0) hP.2 hk
    have q1 := ttF_imp (fun _ _ z => ttQ_up n2 g2 z) q1
    have q2 := ttF_imp (fun _ _ z => ttR_up n2 g2 z) q2
    obtain ⟨ov, hk, m1, m2⟩ := ttMv_ok S2 q2 hk
    obtain ⟨hk9, hk⟩ := zz_and hk
    refine ttSp_ok hC hO hR _ _ d (xCode j) _ pc L [] X1 hk e ρ1 H H' L2 [] Q hde rfl hJ S2 q1 trivial ⟨fun X2 v ρ2 H2 hr n3 g3 J2 S3 w3 => ?_, fun z hz L' X2 ρ2 H2 L2' hr n3 g3 J2 S3 hL' => ?_⟩
    · have hkk : ∀ i ∈ ks, ttW X2.1 (L.getD i (9, (0, 0, 0))).2 ∧ yyG ρ2 (L.getD i (9, (0, 0, 0))).2 = (vs.getD i (9, 0)).2 := fun i hi => by
        have k9 := List.all_eq_true.mp hk9 i hi
        have q := ttF_getD (a0 := ((9, (0, 0, 0)) : ttV)) (b0 := ((9, 0) : xV)) (Or.inl rfl) q1 i
        rcases q with q | ⟨-, q, q3⟩
        · rw [q] at k9; cases k9
        · exact ⟨ttW_up n3 q, (yyG_ag q g3).trans (q3.trans (hkp i hi))⟩
      obtain ⟨r1, r2⟩ := ttRet_ok (vs := vs) J2.1 S3 hkk w3 hr
      exact hQ _ _ J2.1 J2.2.1 (he ▸ J2.2.2) r1 r2
    · obtain ⟨y, hy, rfl⟩ := List.mem_map.mp hz
      have hr : ttArr (some (m0, ov)) L y.2 L' X2 = true := hr
      obtain ⟨a1, a2, a3, a4⟩ := ttArr_ok J2.1 S3 hL' (ttF_imp (fun _ _ z => ttQ_up n3 g3 z) q1) hr
      have a4 := a4 m0 ov rfl
      rw [ttLs_ag g3 m2, m1] at a4
      have a4 : ttCtM H2 y.2 L2' < m0 + ttMs H' (ttMsk ls L2) ms := a4
      have z2 : m0 + ttMs H' (ttMsk ls L2) ms < ((m + 1 : Nat) : Int) := z2
      refine ih y hy L2' H2 J2 a1 (fun i hi => (a2 i hi).trans (hkp i ?_)) a3 (by omega)
      have := List.all_eq_true.mp (List.all_eq_true.mp hks y hy) i hi
      exact List.contains_iff_mem.mp this
set_option maxHeartbeats 4000000 in
theorem ttMet_ok {XX : xH → Prop} {ev : ttEv} {n : Nat} {c : ttCon} {cuts : List (Nat × ttCtA)} (hC : ∀ c ∈ ev.1, ttHas XX c) (hO : ttOut XX ev.2.2) (he : ev.2.1 = c.2.2.2.2.2.2) (h0 : ttEnt ev n cuts c = true) (h1 : cuts.all (ttCk ev n cuts c) = true) : ttHas XX c := by
  intro dd hdd vs H hT hX hargs hcells Q hQ
  obtain ⟨j, dep, ps, cc, res, rc, ef⟩ := c
  have he : ev.2.1 = ef := he
  have hcells : ∀ q ∈ cc, ttCm H vs 0 q := hcells
  have hargs : ttF (ttAm (H.2.2.2.1 : Int)) ps vs := hargs
  have hQ : ∀ r H', ttTI H' → XX H' → ttFr ef H H' → (∃ p ∈ res, ttPm (H'.2.2.2.1 : Int) p r) → (∀ q ∈ rc, ttCm H' vs r q) → Q r H' := hQ
  have hdd : dep ≤ dd := hdd
  show xCall dd j vs H Q
  match dep, h0, h1, hdd with
  | 0, h0, _, _ => exact Bool.noConfusion (show false = true from h0)
  | d + 1, h0, h1, hdd =>
    match dd, hdd with
    | e + 1, hdd =>
      have hde : d ≤ e := by omega
      have J0 : ttJ XX ev H H := ⟨hT, hX, ttFr_rf _ _⟩
      have hR := ttRun_ok hC hO n
      have hin := ttCut_ok (vs := vs) (H := H) (cc := cc) (ps := ps) hC hO he h1 hde hQ
      have h0 : (ps.all (fun p => !Nat.beq p.1 9) && ttMkL ps ttX0 fun X as => ttAdC as (0, 0, 0) cc X fun X1 => (Nat.ble (ttFl as).length (xM j).2.2.1 && cuts.all (fun q => ttKpA q.2.2.2.2.2 (ttEn (xM j).2.2.1 as) as)) && ttRun ev n (ttCts none (ttEn (xM j).2.2.1 as) cuts) (ttRet (j, d + 1, ps, cc, res, rc, ef) as (List.range 20)) d (xCode j) (xCode j) 0 (ttEn (xM j).2.2.1 as) [] X1) = true := h0
      obtain ⟨h9, h0⟩ := zz_and h0
      obtain ⟨X', ρ', as, h0, n1, g1, S1, q1, q2⟩ := ttMkL_ok (ttSat_0 H (fun _ => 0)) (ttFam9 hargs) h0
      rw [ttMsk_id hargs h9] at q2
      obtain ⟨X1, ρ1, h0, n2, g2, S2⟩ := ttAdC_ok S1 q2 (Or.inl rfl) (yyG_c ρ' 0) hcells h0
      have q2 := ttF_imp (fun _ _ z => ttR_up n2 g2 z) q2
      obtain ⟨h2, h0⟩ := zz_and h0
      obtain ⟨h2, h3⟩ := zz_and h2
      have hEn := ttEn_ok (xM j).2.2.1 q2
      refine xC_of (L := xEntry (xM j).2.2.1 vs) (cd := xCode j) (by rw [← ttF_len (ttFl_ok q2)]; exact h2) rfl rfl ?_
      refine hR _ _ d (xCode j) (xCode j) 0 _ [] X1 h0 e ρ1 H H _ [] Q hde rfl J0 S2 hEn trivial ⟨fun X2 v ρ2 H2 hr n3 g3 J2 S3 w3 => ?_, fun z hz L' X2 ρ2 H2 L2' hr n3 g3 J2 S3 hL' => ?_⟩
      · have hkk : ∀ i ∈ List.range 20, ttW X2.1 (as.getD i (9, (0, 0, 0))).2 ∧ yyG ρ2 (as.getD i (9, (0, 0, 0))).2 = (vs.getD i (9, 0)).2 := fun i _ => by
          have q := ttF_R9 q2 i
          exact ⟨ttW_up n3 q.1, (yyG_ag q.1 g3).trans q.2⟩
        obtain ⟨r1, r2⟩ := ttRet_ok (vs := vs) J2.1 S3 hkk w3 hr
        exact hQ _ _ J2.1 J2.2.1 (he ▸ J2.2.2) r1 r2
      · obtain ⟨y, hy, rfl⟩ := List.mem_map.mp hz
        have hr : ttArr none (ttEn (xM j).2.2.1 as) y.2 L' X2 = true := hr
        obtain ⟨a1, a2, a3, -⟩ := ttArr_ok J2.1 S3 hL' (ttF_imp (fun _ _ z => ttQ_up n3 g3 z) hEn) hr
        have k3 := ttKpA_ok (List.all_eq_true.mp h3 y hy) hEn (ttF_imp (fun _ _ z => Or.inr z) q2)
        exact hin ((ttCtM H2 y.2 L2').toNat + 1) y hy L2' H2 J2 a1 (fun i hi => (a2 i hi).trans (k3 i hi)) a3 (by omega)
