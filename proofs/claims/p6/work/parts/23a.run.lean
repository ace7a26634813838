/-! a run over bounds, with its callers -/
/-- the same, by the instruction alone: the kernel keeps what it has found of it -/
noncomputable def zzNxt (i : Instr) : (zzQ → Nat → List Instr → List Instr → List zzV → List zzV → zzMm → zzO) × Unit := match i with
  | .iconst v => (fun S d cd rs L st m => zzNx (rs, L, (0, (v, v)) :: st), ())
  | .jsr v => (fun S d cd rs L st m => zzNx (rs, L, (1, (v, v)) :: st), ())
  | .ldc j => (fun S d cd rs L st m => zzNx (rs, L, (2, (-2 - (j : Int), -2 - (j : Int))) :: st), ())
  | .iload i => (fun S d cd rs L st m => zzLo L i 0 fun v => zzNx (rs, L, v :: st), ())
  | .lload i => (fun S d cd rs L st m => zzLo L i 1 fun v => zzNx (rs, L, v :: st), ())
  | .aload i => (fun S d cd rs L st m => zzLo L i 2 fun v => zzNx (rs, L, v :: st), ())
  | .istore i => (fun S d cd rs L st m => zzB1 st fun x r => zzIf (Nat.blt i L.length) (zzNx (rs, zzSt1 L i (0, x), r)), ())
  | .lstore i => (fun S d cd rs L st m => zzJ1 st fun x r => zzIf (Nat.blt (i + 1) L.length) (zzNx (rs, zzSt2 L i (1, x), r)), ())
  | .astore i => (fun S d cd rs L st m => zzR1 st fun x r => zzIf (Nat.blt i L.length && !zzEq x 0) (zzNx (rs, zzSt1 L i (2, (x, x)), r)), ())
  | .iinc i c => (fun S d cd rs L st m => zzLo L i 0 fun v => zzIf (Nat.blt i L.length) (zzNx (rs, zzSt1 L i (0, zz1 (fun a => w32 (a + c)) v.2), st)), ())
  | .dup => (fun S d cd rs L st m => match st with
      | (0, x) :: r => zzNx (rs, L, (0, x) :: (0, x) :: r)
      | (2, x) :: r => zzNx (rs, L, (2, x) :: (2, x) :: r)
      | _ => zzNo, ())
  | .dup2 => (fun S d cd rs L st m => zzA2 st fun a i r => zzNx (rs, L, (0, (i, i)) :: (2, (a, a)) :: (0, (i, i)) :: (2, (a, a)) :: r), ())
  | .pop => (fun S d cd rs L st m => match st with
      | (0, _) :: r => zzNx (rs, L, r)
      | (2, _) :: r => zzNx (rs, L, r)
      | _ => zzNo, ())
  | .iadd => (fun S d cd rs L st m => zzB2 st fun x y r => zzNx (rs, L, (0, zzAd x y) :: r), ())
  | .isub => (fun S d cd rs L st m => zzB2 st fun x y r => zzNx (rs, L, (0, zzSb x y) :: r), ())
  | .imul => (fun S d cd rs L st m => zzB2 st fun x y r => zzNx (rs, L, (0, zz2 (fun a b => w32 (a * b)) x y) :: r), ())
  | .idiv => (fun S d cd rs L st m => zzB2 st fun x y r => zzIf (zzEq x.1 x.2 && (zzEq y.1 y.2 && !zzEq y.1 0)) (zzNx (rs, L, (0, (w32 (x.1.tdiv y.1), w32 (x.1.tdiv y.1))) :: r)), ())
  | .irem => (fun S d cd rs L st m => zzB2 st fun x y r => zzIf (zzEq x.1 x.2 && (zzEq y.1 y.2 && !zzEq y.1 0)) (zzNx (rs, L, (0, (x.1.tmod y.1, x.1.tmod y.1)) :: r)), ())
  | .ineg => (fun S d cd rs L st m => zzB1 st fun x r => zzNx (rs, L, (0, zz1 (fun a => w32 (-a)) x) :: r), ())
  | .ishl => (fun S d cd rs L st m => zzB2 st fun x y r => zzNx (rs, L, (0, zz2 xShl x y) :: r), ())
  | .ishr => (fun S d cd rs L st m => zzB2 st fun x y r => zzNx (rs, L, (0, zz2 xShr x y) :: r), ())
  | .iushr => (fun S d cd rs L st m => zzB2 st fun x y r => zzNx (rs, L, (0, zz2 xUsh x y) :: r), ())
  | .iand => (fun S d cd rs L st m => zzB2 st fun x y r => zzNx (rs, L, (0, zzAn x y) :: r), ())
  | .ior => (fun S d cd rs L st m => zzB2 st fun x y r => zzNx (rs, L, (0, zz2 xOr x y) :: r), ())
  | .ixor => (fun S d cd rs L st m => zzB2 st fun x y r => zzNx (rs, L, (0, zz2 xXor x y) :: r), ())
  | .i2l => (fun S d cd rs L st m => zzB1 st fun x r => zzNx (rs, L, (1, x) :: r), ())
  | .l2i => (fun S d cd rs L st m => zzJ1 st fun x r => zzNx (rs, L, (0, zz1 w32 x) :: r), ())
  | .i2b => (fun S d cd rs L st m => zzB1 st fun x r => zzNx (rs, L, (0, zz1 w8 x) :: r), ())
  | .i2s => (fun S d cd rs L st m => zzB1 st fun x r => zzNx (rs, L, (0, zz1 w16 x) :: r), ())
  | .ladd => (fun S d cd rs L st m => zzJ2 st fun x y r => zzNx (rs, L, (1, zz2j (fun a b => w64 (a + b)) x y) :: r), ())
  | .lmul => (fun S d cd rs L st m => zzJ2 st fun x y r => zzNx (rs, L, (1, zz2j (fun a b => w64 (a * b)) x y) :: r), ())
  | .land => (fun S d cd rs L st m => zzJ2 st fun x y r => zzNx (rs, L, (1, zz2j xLand x y) :: r), ())
  | .lor => (fun S d cd rs L st m => zzJ2 st fun x y r => zzNx (rs, L, (1, zz2j xLor x y) :: r), ())
  | .lshl => (fun S d cd rs L st m => zzJi st fun x y r => zzNx (rs, L, (1, zz2j xLshl x y) :: r), ())
  | .lshr => (fun S d cd rs L st m => zzJi st fun x y r => zzNx (rs, L, (1, zz2j xLshr x y) :: r), ())
  | .lcmp => (fun S d cd rs L st m => zzJ2 st fun x y r => zzNx (rs, L, (0, (xLcmp x.1 y.2, xLcmp x.2 y.1)) :: r), ())
  | .ifCond c t => (fun S d cd rs L st m => zzB1 st fun x r => zzBr c x (0, 0) (cd.drop t.toNat, L, r) (rs, L, r), ())
  | .if_icmp c t => (fun S d cd rs L st m => zzB2 st fun x y r => zzBr c x y (cd.drop t.toNat, L, r) (rs, L, r), ())
  | .ifnull t => (fun S d cd rs L st m => zzR1 st fun x r => zzBr .eq (x, x) (0, 0) (cd.drop t.toNat, L, r) (rs, L, r), ())
  | .ifnonnull t => (fun S d cd rs L st m => zzR1 st fun x r => zzBr .ne (x, x) (0, 0) (cd.drop t.toNat, L, r) (rs, L, r), ())
  | .goto t => (fun S d cd rs L st m => zzNx (cd.drop t.toNat, L, st), ())
  | .tableswitch t lo _ ts => (fun S d cd rs L st m => match st with
      | (0, (x, y)) :: r => (match zzEq x y with
        | true => zzNx (cd.drop (zzSw x lo ts.toList t), L, r)
        | false => (match zzLe (y + 1) lo || zzLe (lo + (ts.toList.length : Int)) x with
          | true => zzNx (cd.drop t.toNat, L, r)
          | false => zzHk))
      | _ => zzNo, ())
  | .iaload => (fun S d cd rs L st m => zzA2 st fun a i r => zzIf (zzOk S m 20 a i) (zzNx (rs, L, (0, zzLd S m a i) :: r)), ())
  | .baload => (fun S d cd rs L st m => zzA2 st fun a i r => zzIf (zzOk S m 21 a i) (zzNx (rs, L, (0, zzLd S m a i) :: r)), ())
  | .caload => (fun S d cd rs L st m => zzA2 st fun a i r => zzIf (zzOk S m 22 a i) (zzNx (rs, L, (0, zzLd S m a i) :: r)), ())
  | .laload => (fun S d cd rs L st m => zzA2 st fun a i r => zzIf (zzOk S m 23 a i) (zzNx (rs, L, (1, zzLd S m a i) :: r)), ())
  | .aaload => (fun S d cd rs L st m => zzA2 st fun a i r => zzIf (zzOk4 S m a i) (zzNx (rs, L, (2, zzLd S m a i) :: r)), ())
  | .iastore => (fun S d cd rs L st m => zzA3 0 st fun a i x r => zzIf (zzLe 1 a && zzOk S m 20 a i) (zzSt (rs, L, r) (zzKey a i) x), ())
  | .bastore => (fun S d cd rs L st m => zzA3 0 st fun a i x r => zzIf (zzLe 1 a && zzOk S m 21 a i) (zzSt (rs, L, r) (zzKey a i) (zz1 w8 x)), ())
  | .castore => (fun S d cd rs L st m => zzA3 0 st fun a i x r => zzIf (zzLe 1 a && (zzOk S m 22 a i && (zzLe 0 x.1 && zzLe x.2 1))) (zzSt (rs, L, r) (zzKey a i) x), ())
  | .lastore => (fun S d cd rs L st m => zzA3 1 st fun a i x r => zzIf (zzLe 1 a && zzOk S m 23 a i) (zzSt (rs, L, r) (zzKey a i) x), ())
  | .aastore => (fun S d cd rs L st m => zzA3 2 st fun a i x r => zzIf (zzLe 1 a && (zzOk4 S m a i && (zzEq x.1 x.2 && (zzLe 0 (zzKn S m x.1).1 && zzEq (xEl (zzKn S m a).1) (zzKn S m x.1).1)))) (zzSt (rs, L, r) (zzKey a i) x), ())
  | .arraylength => (fun S d cd rs L st m => zzR1 st fun a r => zzIf (zzLe 20 (zzKn S m a).1) (zzNx (rs, L, (0, zzAl S m a) :: r)), ())
  | .newarray t => (fun S d cd rs L st m => zzB1 st fun x r => zzIf (zzEq x.1 x.2 && (zzLe 0 x.1 && (zzLe x.1 1000000 && (Nat.ble 1 m.2.2.1 && Nat.ble (m.2.2.1 + 1) 255)))) (zzNw (rs, L, (2, ((m.2.2.1 : Int), (m.2.2.1 : Int))) :: r) (xAk t) x.1 x.1.toNat), ())
  | .anewarray κ => (fun S d cd rs L st m => zzB1 st fun x r => zzIf (zzEq x.1 x.2 && (zzLe 0 x.1 && (zzLe x.1 1000000 && (Nat.ble 1 m.2.2.1 && Nat.ble (m.2.2.1 + 1) 255)))) (zzNw (rs, L, (2, ((m.2.2.1 : Int), (m.2.2.1 : Int))) :: r) (κ : Int) x.1 x.1.toNat), ())
  | .multianewarray _ _ => (fun S d cd rs L st m => zzB2 st fun x y r => zzIf (zzEq x.1 x.2 && (zzEq y.1 y.2 && (zzLe 0 x.1 && (zzLe x.1 1000 && (zzLe 0 y.1 && (zzLe y.1 1000 && (Nat.ble 1 m.2.2.1 && Nat.ble (m.2.2.1 + 1 + x.1.toNat) 255))))))) (zzRp (rs, L, (2, ((m.2.2.1 : Int), (m.2.2.1 : Int))) :: r) (zzNm m x.1.toNat y.1)), ())
  | .new c => (fun S d cd rs L st m => zzIf (Nat.ble 1 m.2.2.1 && Nat.ble (m.2.2.1 + 1) 255) (zzNw (rs, L, (2, ((m.2.2.1 : Int), (m.2.2.1 : Int))) :: st) (c : Int) 0 (xNs.getD c 0)), ())
  | .getfield f => (fun S d cd rs L st m => zzR1 st fun a r => zzIf (zzLe 1 a && zzEq (zzKn S m a).1 ((f / 1000 : Nat) : Int)) (zzNx (rs, L, (f % 10, zzRd m a ((f / 10 % 100 : Nat) : Int)) :: r)), ())
  | .putfield f => (fun S d cd rs L st m => match st with
      | (t, x) :: (2, (a, a2)) :: r => zzIf (zzEq a a2 && (zzLe 1 a && (zzEq (zzKn S m a).1 ((f / 1000 : Nat) : Int) && zzPt (f % 10) t x))) (zzSt (rs, L, r) (zzKey a ((f / 10 % 100 : Nat) : Int)) x)
      | _ => zzNo, ())
  | .invokevirtual q => (fun S d cd rs L st m => match (st.take (q / 4 % 20)).reverse, (Nat.ble (zzCat (st.drop (q / 4 % 20))) 8 && Nat.ble (q / 4 % 20) st.length) with
      | (2, (a, a2)) :: as, true => zzIf (zzEq a a2 && (zzEq (zzKn S m a).1 ((q / 80 % 100 : Nat) : Int) && zzNz as)) (zzCl (q / 8000) ((2, (a, a2)) :: as) (q % 4) (rs, L, st.drop (q / 4 % 20)))
      | _, _ => zzNo, ())
  | .invokespecial q => (fun S d cd rs L st m => match (st.take (q / 4 % 20)).reverse, (Nat.ble (zzCat (st.drop (q / 4 % 20))) 8 && Nat.ble (q / 4 % 20) st.length) with
      | (2, (a, a2)) :: as, true => zzIf (zzEq a a2 && (zzEq (zzKn S m a).1 ((q / 80 % 100 : Nat) : Int) && zzNz as)) (zzCl (q / 8000) ((2, (a, a2)) :: as) (q % 4) (rs, L, st.drop (q / 4 % 20)))
      | _, _ => zzNo, ())
  | .invokestatic q => (fun S d cd rs L st m => zzIf ((Nat.ble (zzCat (st.drop (q / 4 % 20))) 8 && Nat.ble (q / 4 % 20) st.length) && zzNz (st.take (q / 4 % 20)).reverse) (zzCl (q / 8000) (st.take (q / 4 % 20)).reverse (q % 4) (rs, L, st.drop (q / 4 % 20))), ())
  | .dneg => (fun S d cd rs L st m => zzR1 st fun a r => zzIf (Nat.ble (zzCat r) 8 && (Nat.blt 0 d && zzLe 1 a)) (zzNx (rs, L, r)), ())
  | .dadd => (fun S d cd rs L st m => zzB2 st fun x y r => zzIf (Nat.ble (zzCat r) 8 && Nat.blt 0 d) (zzNx (rs, L, (0, (max x.1 y.1, max x.2 y.2)) :: r)), ())
  | .dsub => (fun S d cd rs L st m => zzB2 st fun x y r => zzIf (Nat.ble (zzCat r) 8 && Nat.blt 0 d) (zzNx (rs, L, (0, (min x.1 y.1, min x.2 y.2)) :: r)), ())
  | .dmul => (fun S d cd rs L st m => match st with
      | (0, (l, l2)) :: (0, (dp, dp2)) :: (2, (b, b2)) :: (0, (sp, sp2)) :: (2, (a, a2)) :: r => zzIf ((Nat.ble (zzCat r) 8 && (zzEq l l2 && (zzEq dp dp2 && (zzEq b b2 && (zzEq sp sp2 && zzEq a a2))))) && (Nat.blt 0 d && (zzLe 1 a && (zzLe 1 b && (zzEq (zzKn S m a).1 20 && (zzEq (zzKn S m b).1 20 && (zzLe 0 sp && (zzLe 0 dp && (zzLe 0 l && (zzLe (sp + l) (zzKn S m a).2 && (zzLe (dp + l) (zzKn S m b).2 && (zzLe (sp + l) 4096 && zzLe (dp + l) 4096)))))))))))) (zzRp (rs, L, r) (zzCpT m.1 m a sp b dp l.toNat, m.2))
      | _ => zzNo, ())
  | .ireturn => (fun S d cd rs L st m => match st with
      | [(0, x)] => zzRt x
      | _ => zzNo, ())
  | .freturn => (fun S d cd rs L st m => match st with
      | [(0, x)] => zzIf (zzLe 0 x.1 && zzLe x.2 1) (zzRt x)
      | _ => zzNo, ())
  | .lreturn => (fun S d cd rs L st m => match st with
      | [(1, x)] => zzRt x
      | _ => zzNo, ())
  | .areturn => (fun S d cd rs L st m => match st with
      | [(2, x)] => zzRt x
      | _ => zzNo, ())
  | .return_ => (fun S d cd rs L st m => match st with
      | [] => zzRt (0, 0)
      | _ => zzNo, ())
  | _ => (fun _ _ _ _ _ _ _ => zzNo, ())
theorem zzNxt_eq (S : zzQ) (d : Nat) (cd : List Instr) (i : Instr) (rs : List Instr) (L st : List zzV) (m : zzMm) : (zzNxt i).1 S d cd rs L st m = zzNext S d cd i rs L st m := by cases i <;> rfl
abbrev zzF : Type := Nat × List Instr × List Instr × List zzV × List zzV × Nat
noncomputable def zzDo (p : zzP) (m : zzMm) (c : zzMm → Bool) : Bool := match p, m with
  | .inl none, m => c m
  | .inl (some (k, v)), (t, o, nx, sl) => zzSetK (0, 0) 20 t k v (fun t2 => c (t2, o, nx, sl))
  | .inr (.inl (κ, n, ns)), (t, o, nx, sl) => zzSetK (-1, 0) 8 o nx (κ, n) (fun o2 => c (t, o2, Nat.add nx 1, Nat.add sl ns))
  | .inr (.inr m2), _ => c m2
theorem zzDo_eq (p : zzP) (m : zzMm) (c : zzMm → Bool) : zzDo p m c = c (zzAct p m) := by
  obtain ⟨t, o, nx, sl⟩ := m
  match p with
  | .inl none => rfl
  | .inl (some (k, v)) => exact zzSetK_eq (0, 0) 20 t k v (fun t2 => c (t2, o, nx, sl))
  | .inr (.inl (κ, n, ns)) => exact zzSetK_eq (-1, 0) 8 o nx (κ, n) (fun o2 => c (t, o2, Nat.add nx 1, Nat.add sl ns))
  | .inr (.inr m2) => rfl
def zzOr (a b : Bool) : Bool := match a with
  | true => b
  | false => true
abbrev zzG : Type := Nat → List Instr → List Instr → List zzV → List zzV → zzMm → List zzF → Bool
noncomputable def zzEnd (B : Nat × Nat) (ih : zzG) (fs : List zzF) (v : zzI) (m : zzMm) : Bool := match fs with
  | [] => zzEq v.1 1 && (zzEq v.2 1 && (Nat.ble m.2.2.1 B.1 && Nat.ble m.2.2.2 B.2))
  | (e, cd2, rs2, L2, st2, rt) :: gs => ih e cd2 rs2 L2 (zzPush rt v st2) m gs
noncomputable def zzCal (ih : zzG) (d : Nat) (cd : List Instr) (j : Nat) (as : List zzV) (rt : Nat) (r1 : List Instr) (l1 s1 : List zzV) (m : zzMm) (fs : List zzF) : Bool := match d with
  | 0 => false
  | e + 1 => Nat.ble (zzFlat as).length (xM j).2.2.1 && ih e (xCode j) (xCode j) (zzEntry (xM j).2.2.1 as) [] m ((e + 1, cd, r1, l1, s1, rt) :: fs)
noncomputable def zzHok (E : List zzV → List zzV → zzMm → Bool) (i : Instr) (L st : List zzV) (m : zzMm) (fs : List zzF) (b : Bool) : Bool := match b, fs, i with
  | true, [], .tableswitch _ _ _ _ => E L st m
  | _, _, _ => false
noncomputable def zzOut (B : Nat × Nat) (E : List zzV → List zzV → zzMm → Bool) (ih : zzG) (d : Nat) (cd : List Instr) (i : Instr) (L st : List zzV) (m : zzMm) (fs : List zzF) (o : zzO) : Bool := match o with
  | .inl ((r1, l1, s1), p) => zzDo p m (fun m2 => ih d cd r1 l1 s1 m2 fs)
  | .inr (.inl (a, b, (r1, l1, s1), (r2, l2, s2))) => zzOr a (ih d cd r1 l1 s1 m fs) && zzOr b (ih d cd r2 l2 s2 m fs)
  | .inr (.inr (.inl (j, as, rt, (r1, l1, s1)))) => zzCal ih d cd j as rt r1 l1 s1 m fs
  | .inr (.inr (.inr (.inl v))) => zzEnd B ih fs v m
  | .inr (.inr (.inr (.inr b))) => zzHok E i L st m fs b
noncomputable def zzBody (S : zzQ) (B : Nat × Nat) (E : List zzV → List zzV → zzMm → Bool) (ih : zzG) : zzG := fun d cd rs L st m fs => match rs with
  | [] => false
  | i :: rest => zzOut B E ih d cd i L st m fs ((zzNxt i).1 S d cd rest L st m)
noncomputable def zzRun (S : zzQ) (B : Nat × Nat) (E : List zzV → List zzV → zzMm → Bool) (n : Nat) : zzG :=
  Nat.rec (motive := fun _ => zzG) (fun _ _ _ _ _ _ _ => false) (fun _ ih => zzBody S B E ih) n
noncomputable def zzRet (S : zzQ) (B : Nat × Nat) (E : List zzV → List zzV → zzMm → Bool) (n : Nat) (fs : List zzF) (v : zzI) (m : zzMm) : Bool := zzEnd B (zzRun S B E n) fs v m
def zzKs (S : zzQ) (B : Nat × Nat) (E : List zzV → List zzV → zzMm → Bool) (n : Nat) (fs : List zzF) (Q : Int → xH → Prop) : Prop := ∀ n2, n2 ≤ n → ∀ v m x H, zzRet S B E n2 fs v m = true → zzM v x → zzW S m H → Q x H
def zzHo (S : zzQ) (E : List zzV → List zzV → zzMm → Bool) (d : Nat) (cd : List Instr) (Q : Int → xH → Prop) : Prop := ∀ L st m pc L2 st2 H, E L st m = true → (∃ t lo hi ts r, cd.drop pc = .tableswitch t lo hi ts :: r) → zzL L L2 → zzL st st2 → zzW S m H → xW d cd Q (pc, L2, st2, H)
theorem zz_hd {cd : List Instr} {pc : Nat} {i : Instr} {r : List Instr} (h : cd.drop pc = i :: r) : cd.getD pc .nop = i ∧ cd.drop (pc + 1) = r := by
  have e : cd[pc]? = some i := by
    have := congrArg (fun l : List Instr => l[0]?) h
    simpa using this
  refine ⟨by rw [List.getD_eq_getElem?_getD, e]; rfl, ?_⟩
  have := congrArg (List.drop 1) h
  simpa [List.drop_drop, Nat.add_comm] using this
def zzPr1 (S : zzQ) (B : Nat × Nat) (E : List zzV → List zzV → zzMm → Bool) (n : Nat) : Prop := ∀ (d : Nat) (cd rs : List Instr) (L st : List zzV) (m : zzMm) (fs : List zzF), zzRun S B E n d cd rs L st m fs = true → ∀ (pc : Nat) (L2 st2 : List xV) (H : xH) (Q : Int → xH → Prop), zzSr cd (rs, L, st) pc L2 st2 → zzW S m H → zzKs S B E n fs Q → (fs = [] → zzHo S E d cd Q) → xW d cd Q (pc, L2, st2, H)
theorem zzRun_st {S : zzQ} {B : Nat × Nat} {E : List zzV → List zzV → zzMm → Bool} {n d : Nat} {cd rest : List Instr} {i : Instr} {L st : List zzV} {m : zzMm} {fs : List zzF} {pc : Nat} {L2 st2 : List xV} {H : xH} {Q : Int → xH → Prop} {o : zzO} (hH : fs = [] → zzHo S E d cd Q) (hK1 : zzKs S B E n fs Q) (hK : zzKs S B E (n + 1) fs Q) (IH : ∀ q, q < n + 1 → zzPr1 S B E q) (hp : cd.drop pc = i :: rest) (hL1 : zzL L L2) (hs1 : zzL st st2) (hW : zzW S m H) (h : zzOut B E (zzRun S B E n) d cd i L st m fs o = true) (go : zzSat (xCall d) (xW d cd Q) Q cd S m o → xW d cd Q (pc, L2, st2, H)) : xW d cd Q (pc, L2, st2, H) := by
  have ih := IH n (Nat.lt_succ_self n)
  match o, h, go with
  | .inl ((r1, l1, s1), p), h, go =>
    refine go (fun pc1 L1 st1 H1 hr1 hW1 => ?_)
    have h : zzDo p m (fun m2 => zzRun S B E n d cd r1 l1 s1 m2 fs) = true := h
    rw [zzDo_eq] at h
    exact ih d cd r1 l1 s1 _ fs h pc1 L1 st1 H1 Q hr1 hW1 hK1 hH
  | .inr (.inl (a, b, (r1, l1, s1), (r2, l2, s2))), h, go =>
    have h : (zzOr a (zzRun S B E n d cd r1 l1 s1 m fs) && zzOr b (zzRun S B E n d cd r2 l2 s2 m fs)) = true := h
    obtain ⟨h1, h2⟩ := zz_and h
    refine go ⟨fun ea pc1 L1 st1 H1 hr1 hW1 => ?_, fun eb pc1 L1 st1 H1 hr1 hW1 => ?_⟩
    · rw [ea] at h1
      exact ih d cd r1 l1 s1 _ fs h1 pc1 L1 st1 H1 Q hr1 hW1 hK1 hH
    · rw [eb] at h2
      exact ih d cd r2 l2 s2 _ fs h2 pc1 L1 st1 H1 Q hr1 hW1 hK1 hH
  | .inr (.inr (.inl (j, as, rt, (r1, l1, s1)))), h, go =>
    have h : zzCal (zzRun S B E n) d cd j as rt r1 l1 s1 m fs = true := h
    match d, h, go, hH with
    | 0, h, _, _ => exact Bool.noConfusion (show false = true from h)
    | e + 1, h, go, hH =>
      have h : (Nat.ble (zzFlat as).length (xM j).2.2.1 && zzRun S B E n e (xCode j) (xCode j) (zzEntry (xM j).2.2.1 as) [] m ((e + 1, cd, r1, l1, s1, rt) :: fs)) = true := h
      obtain ⟨h1, h2⟩ := zz_and h
      refine go (fun vs pc1 L1 st1 H1 hvs hr1 hW1 => ?_)
      refine xC_of (L := xEntry (xM j).2.2.1 vs) (cd := xCode j) (by rw [← zzL_len (zzFlat_ok hvs)]; exact h1) rfl rfl ?_
      refine ih e (xCode j) (xCode j) _ [] m _ h2 0 _ [] H1 _ ⟨rfl, zzEntry_ok _ hvs, trivial⟩ hW1 (fun n2 hn2 v m2 x H2 hret hv hW2 => ?_) (fun z => by cases z)
      have hret : zzRun S B E n2 (e + 1) cd r1 l1 (zzPush rt v s1) m2 fs = true := hret
      exact IH n2 (Nat.lt_succ_of_le hn2) (e + 1) cd r1 l1 _ m2 fs hret pc1 L1 _ H2 Q ⟨hr1.1, hr1.2.1, zzPush_ok rt hv hr1.2.2⟩ hW2 (fun n3 h3 => hK n3 (Nat.le_trans h3 (Nat.le_succ_of_le hn2))) hH
  | .inr (.inr (.inr (.inl v))), h, go =>
    exact go (fun x H1 hv hW1 => hK1 n (Nat.le_refl _) v m x H1 h hv hW1)
  | .inr (.inr (.inr (.inr b))), h, go =>
    have h : zzHok E i L st m fs b = true := h
    unfold zzHok at h
    split at h
    · exact hH rfl _ _ _ _ _ _ _ h ⟨_, _, _, _, _, hp⟩ hL1 hs1 hW
    · cases h
theorem zzRun_ok {S : zzQ} {B : Nat × Nat} {E : List zzV → List zzV → zzMm → Bool} : ∀ n : Nat, zzPr1 S B E n := by
  intro n
  induction n using Nat.strongRecOn with
  | ind n IH =>
    intro d cd rs L st m fs h pc L2 st2 H Q hr hW hK hH
    match n, IH, h, hK with
    | 0, _, h, _ => exact Bool.noConfusion (show false = true from h)
    | n + 1, IH, h, hK =>
      have ih := IH n (Nat.lt_succ_self n)
      have hK1 : zzKs S B E n fs Q := fun n2 h2 => hK n2 (Nat.le_succ_of_le h2)
      obtain ⟨hp, hL, hs⟩ := hr
      match rs, hp, h with
      | [], _, h => exact Bool.noConfusion (show false = true from h)
      | i :: rest, hp, h =>
        obtain ⟨e1, e2⟩ := zz_hd hp
        have hs1 : zzL st st2 := hs
        have hL1 : zzL L L2 := hL
        have go : zzSat (xCall d) (xW d cd Q) Q cd S m (zzNext S d cd i rest L st m) → xW d cd Q (pc, L2, st2, H) := fun z => xW_step (by rw [e1]; exact zzNext_ok e2 hL1 hs1 hW z)
        have h : zzOut B E (zzRun S B E n) d cd i L st m fs ((zzNxt i).1 S d cd rest L st m) = true := h
        rw [zzNxt_eq] at h
        revert h go
        generalize zzNext S d cd i rest L st m = o
        intro go h
        exact zzRun_st hH hK1 hK IH hp hL1 hs1 hW h go
