/-! the run itself -/
noncomputable def ttIx (i : Instr) : (ttEv → ttG → ttG) × Unit := match i with
  | .iconst v => (fun _ ih ct k d cd rs pc L st X => ih ct k d cd rs (Nat.add pc 1) L ((0, (0, 0, v)) :: st) X, ())
  | .jsr v => (fun _ ih ct k d cd rs pc L st X => ih ct k d cd rs (Nat.add pc 1) L ((1, (0, 0, v)) :: st) X, ())
  | .ldc j => (fun _ ih ct k d cd rs pc L st X => ih ct k d cd rs (Nat.add pc 1) L ((2, (0, 0, -2 - (j : Int))) :: st) X, ())
  | .iload i => (fun _ ih ct k d cd rs pc L st X => ttLd L i 0 fun v => ih ct k d cd rs (Nat.add pc 1) L (v :: st) X, ())
  | .lload i => (fun _ ih ct k d cd rs pc L st X => ttLd L i 1 fun v => ih ct k d cd rs (Nat.add pc 1) L (v :: st) X, ())
  | .aload i => (fun _ ih ct k d cd rs pc L st X => ttLd L i 2 fun v => ih ct k d cd rs (Nat.add pc 1) L (v :: st) X, ())
  | .istore i => (fun _ ih ct k d cd rs pc L st X => ttB1 st fun x r => Nat.blt i L.length && ih ct k d cd rs (Nat.add pc 1) (ttSt1 L i (0, x)) r X, ())
  | .lstore i => (fun _ ih ct k d cd rs pc L st X => ttJ1 st fun x r => Nat.blt (i + 1) L.length && ih ct k d cd rs (Nat.add pc 1) (ttSt2 L i (1, x)) r X, ())
  | .astore i => (fun _ ih ct k d cd rs pc L st X => ttR1 st fun x r => (Nat.blt i L.length && ttNn X x) && ih ct k d cd rs (Nat.add pc 1) (ttSt1 L i (2, x)) r X, ())
  | .iinc i c => (fun _ ih ct k d cd rs pc L st X => ttLd L i 0 fun v => Nat.blt i L.length && ttAd false X v.2 (0, 0, c) fun X' w => ih ct k d cd rs (Nat.add pc 1) (ttSt1 L i (0, w)) st X', ())
  | .dup => (fun _ ih ct k d cd rs pc L st X => match st with
    | (t, x) :: r => (Nat.beq t 0 || Nat.beq t 2) && ih ct k d cd rs (Nat.add pc 1) L ((t, x) :: (t, x) :: r) X
    | _ => false, ())
  | .dup2 => (fun _ ih ct k d cd rs pc L st X => ttA2 st fun a i r => ih ct k d cd rs (Nat.add pc 1) L ((0, i) :: (2, a) :: (0, i) :: (2, a) :: r) X, ())
  | .pop => (fun _ ih ct k d cd rs pc L st X => match st with
    | (t, _) :: r => (Nat.beq t 0 || Nat.beq t 2) && ih ct k d cd rs (Nat.add pc 1) L r X
    | _ => false, ())
  | .iadd => (fun _ ih ct k d cd rs pc L st X => ttB2 st fun x y r => ttAd false X x y fun X' v => ih ct k d cd rs (Nat.add pc 1) L ((0, v) :: r) X', ())
  | .isub => (fun _ ih ct k d cd rs pc L st X => ttB2 st fun x y r => ttAd false X x (yyMul (-1) y) fun X' v => ih ct k d cd rs (Nat.add pc 1) L ((0, v) :: r) X', ())
  | .imul => (fun _ ih ct k d cd rs pc L st X => ttB2 st fun x y r => ttMu false X x y fun X' v => ih ct k d cd rs (Nat.add pc 1) L ((0, v) :: r) X', ())
  | .idiv => (fun _ ih ct k d cd rs pc L st X => ttB2 st fun x y r => ttDv false X x y fun X' v => ih ct k d cd rs (Nat.add pc 1) L ((0, v) :: r) X', ())
  | .irem => (fun _ ih ct k d cd rs pc L st X => ttB2 st fun x y r => ttRm X x y fun X' v => ih ct k d cd rs (Nat.add pc 1) L ((0, v) :: r) X', ())
  | .ineg => (fun _ ih ct k d cd rs pc L st X => ttB1 st fun x r => ttNg X x fun X' v => ih ct k d cd rs (Nat.add pc 1) L ((0, v) :: r) X', ())
  | .ishl => (fun _ ih ct k d cd rs pc L st X => ttB2 st fun x y r => ttSl X x y fun X' v => ih ct k d cd rs (Nat.add pc 1) L ((0, v) :: r) X', ())
  | .ishr => (fun _ ih ct k d cd rs pc L st X => ttB2 st fun _ _ r => ttNi X (-2147483648) 2147483647 fun X' v => ih ct k d cd rs (Nat.add pc 1) L ((0, v) :: r) X', ())
  | .iushr => (fun _ ih ct k d cd rs pc L st X => ttB2 st fun _ _ r => ttNi X (-2147483648) 2147483647 fun X' v => ih ct k d cd rs (Nat.add pc 1) L ((0, v) :: r) X', ())
  | .iand => (fun _ ih ct k d cd rs pc L st X => ttB2 st fun x y r => ttAn X x y fun X' v => ih ct k d cd rs (Nat.add pc 1) L ((0, v) :: r) X', ())
  | .ior => (fun _ ih ct k d cd rs pc L st X => ttB2 st fun x y r => ttOr X x y fun X' v => ih ct k d cd rs (Nat.add pc 1) L ((0, v) :: r) X', ())
  | .ixor => (fun _ ih ct k d cd rs pc L st X => ttB2 st fun _ _ r => ttNi X (-2147483648) 2147483647 fun X' v => ih ct k d cd rs (Nat.add pc 1) L ((0, v) :: r) X', ())
  | .i2l => (fun _ ih ct k d cd rs pc L st X => ttB1 st fun x r => ih ct k d cd rs (Nat.add pc 1) L ((1, x) :: r) X, ())
  | .l2i => (fun _ ih ct k d cd rs pc L st X => ttJ1 st fun x r => ttCs X x (-2147483648) 2147483647 fun X' v => ih ct k d cd rs (Nat.add pc 1) L ((0, v) :: r) X', ())
  | .i2b => (fun _ ih ct k d cd rs pc L st X => ttB1 st fun x r => ttCs X x (-128) 127 fun X' v => ih ct k d cd rs (Nat.add pc 1) L ((0, v) :: r) X', ())
  | .i2s => (fun _ ih ct k d cd rs pc L st X => ttB1 st fun x r => ttCs X x (-32768) 32767 fun X' v => ih ct k d cd rs (Nat.add pc 1) L ((0, v) :: r) X', ())
  | .ladd => (fun _ ih ct k d cd rs pc L st X => ttJ2 st fun x y r => ttAd true X x y fun X' v => ih ct k d cd rs (Nat.add pc 1) L ((1, v) :: r) X', ())
  | .lmul => (fun _ ih ct k d cd rs pc L st X => ttJ2 st fun x y r => ttMu true X x y fun X' v => ih ct k d cd rs (Nat.add pc 1) L ((1, v) :: r) X', ())
  | .ldiv => (fun _ ih ct k d cd rs pc L st X => ttJ2 st fun x y r => ttDv true X x y fun X' v => ih ct k d cd rs (Nat.add pc 1) L ((1, v) :: r) X', ())
  | .lrem => (fun _ ih ct k d cd rs pc L st X => ttJ2 st fun x y r => ttRm X x y fun X' v => ih ct k d cd rs (Nat.add pc 1) L ((1, v) :: r) X', ())
  | .land => (fun _ ih ct k d cd rs pc L st X => ttJ2 st fun _ _ r => ttNi X (-9223372036854775808) 9223372036854775807 fun X' v => ih ct k d cd rs (Nat.add pc 1) L ((1, v) :: r) X', ())
  | .lor => (fun _ ih ct k d cd rs pc L st X => ttJ2 st fun _ _ r => ttNi X (-9223372036854775808) 9223372036854775807 fun X' v => ih ct k d cd rs (Nat.add pc 1) L ((1, v) :: r) X', ())
  | .lshl => (fun _ ih ct k d cd rs pc L st X => ttJi st fun _ _ r => ttNi X (-9223372036854775808) 9223372036854775807 fun X' v => ih ct k d cd rs (Nat.add pc 1) L ((1, v) :: r) X', ())
  | .lshr => (fun _ ih ct k d cd rs pc L st X => ttJi st fun _ _ r => ttNi X (-9223372036854775808) 9223372036854775807 fun X' v => ih ct k d cd rs (Nat.add pc 1) L ((1, v) :: r) X', ())
  | .lcmp => (fun _ ih ct k d cd rs pc L st X => ttJ2 st fun x y r => match rs with
    | .ifCond c t :: rs2 => ttA2s c X x y (fun X' => ih ct k d cd (cd.drop t.toNat) t.toNat L r X') && ttA2s (zzNot c) X x y (fun X' => ih ct k d cd rs2 (Nat.add pc 2) L r X')
    | _ => false, ())
  | .ifCond c t => (fun _ ih ct k d cd rs pc L st X => ttB1 st fun x r => ttA2s c X x (0, 0, 0) (fun X' => ih ct k d cd (cd.drop t.toNat) t.toNat L r X') && ttA2s (zzNot c) X x (0, 0, 0) (fun X' => ih ct k d cd rs (Nat.add pc 1) L r X'), ())
  | .if_icmp c t => (fun _ ih ct k d cd rs pc L st X => ttB2 st fun x y r => ttA2s c X x y (fun X' => ih ct k d cd (cd.drop t.toNat) t.toNat L r X') && ttA2s (zzNot c) X x y (fun X' => ih ct k d cd rs (Nat.add pc 1) L r X'), ())
  | .ifnull t => (fun _ ih ct k d cd rs pc L st X => ttR1 st fun x r => ttNu X x (fun X' => ih ct k d cd (cd.drop t.toNat) t.toNat L r X') (fun X' => ih ct k d cd rs (Nat.add pc 1) L r X'), ())
  | .ifnonnull t => (fun _ ih ct k d cd rs pc L st X => ttR1 st fun x r => ttNu X x (fun X' => ih ct k d cd rs (Nat.add pc 1) L r X') (fun X' => ih ct k d cd (cd.drop t.toNat) t.toNat L r X'), ())
  | .goto t => (fun _ ih ct k d cd _ _ L st X => ih ct k d cd (cd.drop t.toNat) t.toNat L st X, ())
  | .tableswitch t lo _ ts => (fun _ ih ct k d cd _ _ L st X => ttB1 st fun x r => ttSw (fun v u => ttAs .eq X x (0, 0, v) (fun X' => ih ct k d cd (cd.drop u) u L r X')) lo ts.toList && (ttAs .lt X x (0, 0, lo) (fun X' => ih ct k d cd (cd.drop t.toNat) t.toNat L r X') && ttAs .ge X x (0, 0, lo + (ts.toList.length : Int)) (fun X' => ih ct k d cd (cd.drop t.toNat) t.toNat L r X')), ())
  | .iaload => (fun _ ih ct k d cd rs pc L st X => ttA2 st fun a i r => ttAl (fun κ => zzEq κ 20) X a i fun X' v => ih ct k d cd rs (Nat.add pc 1) L ((0, v) :: r) X', ())
  | .baload => (fun _ ih ct k d cd rs pc L st X => ttA2 st fun a i r => ttAl (fun κ => zzEq κ 21) X a i fun X' v => ih ct k d cd rs (Nat.add pc 1) L ((0, v) :: r) X', ())
  | .caload => (fun _ ih ct k d cd rs pc L st X => ttA2 st fun a i r => ttAl (fun κ => zzEq κ 22) X a i fun X' v => ih ct k d cd rs (Nat.add pc 1) L ((0, v) :: r) X', ())
  | .laload => (fun _ ih ct k d cd rs pc L st X => ttA2 st fun a i r => ttAl (fun κ => zzEq κ 23) X a i fun X' v => ih ct k d cd rs (Nat.add pc 1) L ((1, v) :: r) X', ())
  | .aaload => (fun _ ih ct k d cd rs pc L st X => ttA2 st fun a i r => ttAl (fun κ => zzLe 24 κ) X a i fun X' v => ih ct k d cd rs (Nat.add pc 1) L ((2, v) :: r) X', ())
  | .iastore => (fun ev ih ct k d cd rs pc L st X => ttA3 0 st fun a i x r => ttAt ev 20 X a i x fun X' => ih ct k d cd rs (Nat.add pc 1) L r X', ())
  | .bastore => (fun ev ih ct k d cd rs pc L st X => ttA3 0 st fun a i x r => ttCs X x (-128) 127 fun X1 v => ttAt ev 21 X1 a i v fun X' => ih ct k d cd rs (Nat.add pc 1) L r X', ())
  | .castore => (fun ev ih ct k d cd rs pc L st X => ttA3 0 st fun a i x r => ttBd X.2.1 x (fun l h => zzLe 0 l && zzLe h 1) && ttAt ev 22 X a i x fun X' => ih ct k d cd rs (Nat.add pc 1) L r X', ())
  | .lastore => (fun ev ih ct k d cd rs pc L st X => ttA3 1 st fun a i x r => ttAt ev 23 X a i x fun X' => ih ct k d cd rs (Nat.add pc 1) L r X', ())
  | .arraylength => (fun _ ih ct k d cd rs pc L st X => ttR1 st fun a r => ttRl X a fun ro => match ttTb ro with
    | (κ, len, _, _, _) => zzLe 20 κ && ih ct k d cd rs (Nat.add pc 1) L ((0, (0, 0, len)) :: r) X, ())
  | .getfield q => (fun _ ih ct k d cd rs pc L st X => ttR1 st fun a r => ttGf X q a fun X' v => ih ct k d cd rs (Nat.add pc 1) L ((q % 10, v) :: r) X', ())
  | .putfield q => (fun ev ih ct k d cd rs pc L st X => match st with
    | (t, x) :: (2, a) :: r => ttPt (q % 10) t X x && ttPf ev X q a x fun X' => ih ct k d cd rs (Nat.add pc 1) L r X'
    | _ => false, ())
  | .invokevirtual q => (fun ev ih ct k d cd rs pc L st X => match (st.take (q / 4 % 20)).reverse, (Nat.ble (ttCat (st.drop (q / 4 % 20))) 8 && Nat.ble (q / 4 % 20) st.length) with
    | (2, a) :: as, true => (ttRl X a (fun ro => zzEq (ttTb ro).1 ((q / 80 % 100 : Nat) : Int)) && ttNs X as) && ttIv ev ih ct k d cd rs (Nat.add pc 1) L X (q / 8000) ((2, a) :: as) (q % 4) (st.drop (q / 4 % 20))
    | _, _ => false, ())
  | .invokespecial q => (fun ev ih ct k d cd rs pc L st X => match (st.take (q / 4 % 20)).reverse, (Nat.ble (ttCat (st.drop (q / 4 % 20))) 8 && Nat.ble (q / 4 % 20) st.length) with
    | (2, a) :: as, true => (ttRl X a (fun ro => zzEq (ttTb ro).1 ((q / 80 % 100 : Nat) : Int)) && ttNs X as) && ttIv ev ih ct k d cd rs (Nat.add pc 1) L X (q / 8000) ((2, a) :: as) (q % 4) (st.drop (q / 4 % 20))
    | _, _ => false, ())
  | .invokestatic q => (fun ev ih ct k d cd rs pc L st X => ((Nat.ble (ttCat (st.drop (q / 4 % 20))) 8 && Nat.ble (q / 4 % 20) st.length) && ttNs X (st.take (q / 4 % 20)).reverse) && ttIv ev ih ct k d cd rs (Nat.add pc 1) L X (q / 8000) (st.take (q / 4 % 20)).reverse (q % 4) (st.drop (q / 4 % 20)), ())
  | .dadd => (fun _ ih ct k d cd rs pc L st X => ttB2 st fun x y r => (Nat.ble (ttCat r) 8 && Nat.blt 0 d) && ttMx X x y fun X' v => ih ct k d cd rs (Nat.add pc 1) L ((0, v) :: r) X', ())
  | .dsub => (fun _ ih ct k d cd rs pc L st X => ttB2 st fun x y r => (Nat.ble (ttCat r) 8 && Nat.blt 0 d) && ttMn X x y fun X' v => ih ct k d cd rs (Nat.add pc 1) L ((0, v) :: r) X', ())
  | .dmul => (fun ev ih ct k d cd rs pc L st X => match st with
    | (0, (c1, _, l)) :: (0, (c2, _, dp)) :: (2, b) :: (0, (c3, _, sp)) :: (2, a) :: r => (((zzEq c1 0 && zzEq c2 0) && (zzEq c3 0 && Nat.ble (ttCat r) 8)) && Nat.blt 0 d) && ttCy ev X a b sp dp l fun X' => ih ct k d cd rs (Nat.add pc 1) L r X'
    | _ => false, ())
  | .ireturn => (fun _ _ _ k _ _ _ _ _ st X => match st with
    | [(0, x)] => k X x
    | _ => false, ())
  | .freturn => (fun _ _ _ k _ _ _ _ _ st X => match st with
    | [(0, x)] => ttBd X.2.1 x (fun l h => zzLe 0 l && zzLe h 1) && k X x
    | _ => false, ())
  | .lreturn => (fun _ _ _ k _ _ _ _ _ st X => match st with
    | [(1, x)] => k X x
    | _ => false, ())
  | .areturn => (fun _ _ _ k _ _ _ _ _ st X => match st with
    | [(2, x)] => k X x
    | _ => false, ())
  | .return_ => (fun _ _ _ k _ _ _ _ _ st X => match st with
    | [] => k X (0, 0, 0)
    | _ => false, ())
  | _ => (fun _ _ _ _ _ _ _ _ _ _ _ => false, ())
def ttCu : ttCt → Nat → Option (List ttV → ttX → Bool)
  | [], _ => none
  | (p, g) :: r, pc => match Nat.beq p pc with
    | true => some g
    | false => ttCu r pc
noncomputable def ttSp (ev : ttEv) (ih : ttG) : ttG := fun ct k d cd rs pc L st X => match rs with
  | [] => false
  | i :: rest => (ttIx i).1 ev ih ct k d cd rest pc L st X
noncomputable def ttBo (ev : ttEv) (ih : ttG) : ttG := fun ct k d cd rs pc L st X => match ttCu ct pc with
  | some g => (match st with
    | [] => g L X
    | _ => false)
  | none => ttSp ev ih ct k d cd rs pc L st X
noncomputable def ttRun (ev : ttEv) (n : Nat) : ttG := Nat.rec (motive := fun _ => ttG) (fun _ _ _ _ _ _ _ _ _ => false) (fun _ ih => ttBo ev ih) n
/-! what it says -/
def ttJ (XX : xH → Prop) (ev : ttEv) (H0 H : xH) : Prop := ttTI H ∧ XX H ∧ ttFr ev.2.1 H0 H
/-- what a run's ends and cuts give -/
def ttEn2 (XX : xH → Prop) (ev : ttEv) (H0 : xH) (dd : Nat) (cd : List Instr) (ct : ttCt) (k : ttKo) (Q : Int → xH → Prop) (n : Nat) (ρ : Nat → Int) : Prop :=
  (∀ X' v ρ' H', k X' v = true → n ≤ X'.1 → ttAg n ρ ρ' → ttJ XX ev H0 H' → ttSat H' X' ρ' → ttW X'.1 v → Q (yyG ρ' v) H') ∧
  (∀ q ∈ ct, ∀ L' X' ρ' H' L2', q.2 L' X' = true → n ≤ X'.1 → ttAg n ρ ρ' → ttJ XX ev H0 H' → ttSat H' X' ρ' → ttF (ttQ ρ' X'.1) L' L2' → xW dd cd Q (q.1, L2', [], H'))
theorem ttEn2_up {XX : xH → Prop} {ev : ttEv} {H0 : xH} {dd : Nat} {cd : List Instr} {ct : ttCt} {k : ttKo} {Q : Int → xH → Prop} {n n' : Nat} {ρ ρ' : Nat → Int} (hn : n ≤ n') (hg : ttAg n ρ ρ') (h : ttEn2 XX ev H0 dd cd ct k Q n ρ) : ttEn2 XX ev H0 dd cd ct k Q n' ρ' :=
  ⟨fun X' v ρ'' H' a b c => h.1 X' v ρ'' H' a (Nat.le_trans hn b) (ttAg_tr hn hg c), fun q hq L' X' ρ'' H' L2' a b c => h.2 q hq L' X' ρ'' H' L2' a (Nat.le_trans hn b) (ttAg_tr hn hg c)⟩
def ttGd (XX : xH → Prop) (ev : ttEv) (g : ttG) : Prop := ∀ (ct : ttCt) (k : ttKo) (d : Nat) (cd rs : List Instr) (pc : Nat) (L st : List ttV) (X : ttX), g ct k d cd rs pc L st X = true → ∀ (dd : Nat) (ρ : Nat → Int) (H0 H : xH) (L2 st2 : List xV) (Q : Int → xH → Prop), d ≤ dd → cd.drop pc = rs → ttJ XX ev H0 H → ttSat H X ρ → ttF (ttQ ρ X.1) L L2 → ttF (ttR ρ X.1) st st2 → ttEn2 XX ev H0 dd cd ct k Q X.1 ρ → xW dd cd Q (pc, L2, st2, H)
/-- XX speaks of these places alone (and of the script, and of what is made), and bears these numbers there -/
def ttOut (XX : xH → Prop) (ff : ttE4) : Prop := ∀ (H : xH) (D : xD), XX H → (∀ a j : Int, a < 1 → D a j = H.1 a j) → (∀ q ∈ ff, ∀ a j : Int, ttHit q.1 a j → D a j = H.1 a j ∨ (q.2.1 = true ∧ D a j = q.2.2)) → XX (D, H.2)
