noncomputable def zzNext (S : zzQ) (d : Nat) (cd : List Instr) (i : Instr) (rs : List Instr) (L st : List zzV) (m : zzMm) : zzO := match i with
  | .iconst v => zzNx (rs, L, (0, (v, v)) :: st)
  | .jsr v => zzNx (rs, L, (1, (v, v)) :: st)
  | .ldc j => zzNx (rs, L, (2, (-2 - (j : Int), -2 - (j : Int))) :: st)
  | .iload i => zzLo L i 0 fun v => zzNx (rs, L, v :: st)
  | .lload i => zzLo L i 1 fun v => zzNx (rs, L, v :: st)
  | .aload i => zzLo L i 2 fun v => zzNx (rs, L, v :: st)
  | .istore i => zzB1 st fun x r => zzIf (Nat.blt i L.length) (zzNx (rs, zzSt1 L i (0, x), r))
  | .lstore i => zzJ1 st fun x r => zzIf (Nat.blt (i + 1) L.length) (zzNx (rs, zzSt2 L i (1, x), r))
  | .astore i => zzR1 st fun x r => zzIf (Nat.blt i L.length && !zzEq x 0) (zzNx (rs, zzSt1 L i (2, (x, x)), r))
  | .iinc i c => zzLo L i 0 fun v => zzIf (Nat.blt i L.length) (zzNx (rs, zzSt1 L i (0, zz1 (fun a => w32 (a + c)) v.2), st))
  | .dup => match st with
    | (0, x) :: r => zzNx (rs, L, (0, x) :: (0, x) :: r)
    | (2, x) :: r => zzNx (rs, L, (2, x) :: (2, x) :: r)
    | _ => zzNo
  | .dup2 => zzA2 st fun a i r => zzNx (rs, L, (0, (i, i)) :: (2, (a, a)) :: (0, (i, i)) :: (2, (a, a)) :: r)
  | .pop => match st with
    | (0, _) :: r => zzNx (rs, L, r)
    | (2, _) :: r => zzNx (rs, L, r)
    | _ => zzNo
  | .iadd => zzB2 st fun x y r => zzNx (rs, L, (0, zzAd x y) :: r)
  | .isub => zzB2 st fun x y r => zzNx (rs, L, (0, zzSb x y) :: r)
  | .imul => zzB2 st fun x y r => zzNx (rs, L, (0, zz2 (fun a b => w32 (a * b)) x y) :: r)
  | .idiv => zzB2 st fun x y r => zzIf (zzEq x.1 x.2 && (zzEq y.1 y.2 && !zzEq y.1 0)) (zzNx (rs, L, (0, (w32 (x.1.tdiv y.1), w32 (x.1.tdiv y.1))) :: r))
  | .irem => zzB2 st fun x y r => zzIf (zzEq x.1 x.2 && (zzEq y.1 y.2 && !zzEq y.1 0)) (zzNx (rs, L, (0, (x.1.tmod y.1, x.1.tmod y.1)) :: r))
  | .ineg => zzB1 st fun x r => zzNx (rs, L, (0, zz1 (fun a => w32 (-a)) x) :: r)
  | .ishl => zzB2 st fun x y r => zzNx (rs, L, (0, zz2 xShl x y) :: r)
  | .ishr => zzB2 st fun x y r => zzNx (rs, L, (0, zz2 xShr x y) :: r)
  | .iushr => zzB2 st fun x y r => zzNx (rs, L, (0, zz2 xUsh x y) :: r)
  | .iand => zzB2 st fun x y r => zzNx (rs, L, (0, zzAn x y) :: r)
  | .ior => zzB2 st fun x y r => zzNx (rs, L, (0, zz2 xOr x y) :: r)
  | .ixor => zzB2 st fun x y r => zzNx (rs, L, (0, zz2 xXor x y) :: r)
  | .i2l => zzB1 st fun x r => zzNx (rs, L, (1, x) :: r)
  | .l2i => zzJ1 st fun x r => zzNx (rs, L, (0, zz1 w32 x) :: r)
  | .i2b => zzB1 st fun x r => zzNx (rs, L, (0, zz1 w8 x) :: r)
  | .i2s => zzB1 st fun x r => zzNx (rs, L, (0, zz1 w16 x) :: r)
  | .ladd => zzJ2 st fun x y r => zzNx (rs, L, (1, zz2j (fun a b => w64 (a + b)) x y) :: r)
  | .lmul => zzJ2 st fun x y r => zzNx (rs, L, (1, zz2j (fun a b => w64 (a * b)) x y) :: r)
  | .land => zzJ2 st fun x y r => zzNx (rs, L, (1, zz2j xLand x y) :: r)
  | .lor => zzJ2 st fun x y r => zzNx (rs, L, (1, zz2j xLor x y) :: r)
  | .lshl => zzJi st fun x y r => zzNx (rs, L, (1, zz2j xLshl x y) :: r)
  | .lshr => zzJi st fun x y r => zzNx (rs, L, (1, zz2j xLshr x y) :: r)
  | .lcmp => zzJ2 st fun x y r => zzNx (rs, L, (0, (xLcmp x.1 y.2, xLcmp x.2 y.1)) :: r)
  | .ifCond c t => zzB1 st fun x r => zzBr c x (0, 0) (cd.drop t.toNat, L, r) (rs, L, r)
  | .if_icmp c t => zzB2 st fun x y r => zzBr c x y (cd.drop t.toNat, L, r) (rs, L, r)
  | .ifnull t => zzR1 st fun x r => zzBr .eq (x, x) (0, 0) (cd.drop t.toNat, L, r) (rs, L, r)
  | .ifnonnull t => zzR1 st fun x r => zzBr .ne (x, x) (0, 0) (cd.drop t.toNat, L, r) (rs, L, r)
  | .goto t => zzNx (cd.drop t.toNat, L, st)
  | .tableswitch t lo _ ts => match st with
    | (0, (x, y)) :: r => (match zzEq x y with
      | true => zzNx (cd.drop (zzSw x lo ts.toList t), L, r)
      | false => (match zzLe (y + 1) lo || zzLe (lo + (ts.toList.length : Int)) x with
        | true => zzNx (cd.drop t.toNat, L, r)
        | false => zzHk))
    | _ => zzNo
  | .iaload => zzA2 st fun a i r => zzIf (zzOk S m 20 a i) (zzNx (rs, L, (0, zzLd S m a i) :: r))
  | .baload => zzA2 st fun a i r => zzIf (zzOk S m 21 a i) (zzNx (rs, L, (0, zzLd S m a i) :: r))
  | .caload => zzA2 st fun a i r => zzIf (zzOk S m 22 a i) (zzNx (rs, L, (0, zzLd S m a i) :: r))
  | .laload => zzA2 st fun a i r => zzIf (zzOk S m 23 a i) (zzNx (rs, L, (1, zzLd S m a i) :: r))
  | .aaload => zzA2 st fun a i r => zzIf (zzOk4 S m a i) (zzNx (rs, L, (2, zzLd S m a i) :: r))
  | .iastore => zzA3 0 st fun a i x r => zzIf (zzLe 1 a && zzOk S m 20 a i) (zzSt (rs, L, r) (zzKey a i) x)
  | .bastore => zzA3 0 st fun a i x r => zzIf (zzLe 1 a && zzOk S m 21 a i) (zzSt (rs, L, r) (zzKey a i) (zz1 w8 x))
  | .castore => zzA3 0 st fun a i x r => zzIf (zzLe 1 a && (zzOk S m 22 a i && (zzLe 0 x.1 && zzLe x.2 1))) (zzSt (rs, L, r) (zzKey a i) x)
  | .lastore => zzA3 1 st fun a i x r => zzIf (zzLe 1 a && zzOk S m 23 a i) (zzSt (rs, L, r) (zzKey a i) x)
  | .aastore => zzA3 2 st fun a i x r => zzIf (zzLe 1 a && (zzOk4 S m a i && (zzEq x.1 x.2 && (zzLe 0 (zzKn S m x.1).1 && zzEq (xEl (zzKn S m a).1) (zzKn S m x.1).1)))) (zzSt (rs, L, r) (zzKey a i) x)
  | .arraylength => zzR1 st fun a r => zzIf (zzLe 20 (zzKn S m a).1) (zzNx (rs, L, (0, zzAl S m a) :: r))
  | .newarray t => zzB1 st fun x r => zzIf (zzEq x.1 x.2 && (zzLe 0 x.1 && (zzLe x.1 1000000 && (Nat.ble 1 m.2.2.1 && Nat.ble (m.2.2.1 + 1) 255)))) (zzNw (rs, L, (2, ((m.2.2.1 : Int), (m.2.2.1 : Int))) :: r) (xAk t) x.1 x.1.toNat)
  | .anewarray κ => zzB1 st fun x r => zzIf (zzEq x.1 x.2 && (zzLe 0 x.1 && (zzLe x.1 1000000 && (Nat.ble 1 m.2.2.1 && Nat.ble (m.2.2.1 + 1) 255)))) (zzNw (rs, L, (2, ((m.2.2.1 : Int), (m.2.2.1 : Int))) :: r) (κ : Int) x.1 x.1.toNat)
  | .multianewarray _ _ => zzB2 st fun x y r => zzIf (zzEq x.1 x.2 && (zzEq y.1 y.2 && (zzLe 0 x.1 && (zzLe x.1 1000 && (zzLe 0 y.1 && (zzLe y.1 1000 && (Nat.ble 1 m.2.2.1 && Nat.ble (m.2.2.1 + 1 + x.1.toNat) 255))))))) (zzRp (rs, L, (2, ((m.2.2.1 : Int), (m.2.2.1 : Int))) :: r) (zzNm m x.1.toNat y.1))
  | .new c => zzIf (Nat.ble 1 m.2.2.1 && Nat.ble (m.2.2.1 + 1) 255) (zzNw (rs, L, (2, ((m.2.2.1 : Int), (m.2.2.1 : Int))) :: st) (c : Int) 0 (xNs.getD c 0))
  | .getfield f => zzR1 st fun a r => zzIf (zzLe 1 a && zzEq (zzKn S m a).1 ((f / 1000 : Nat) : Int)) (zzNx (rs, L, (f % 10, zzRd m a ((f / 10 % 100 : Nat) : Int)) :: r))
  | .putfield f => match st with
    | (t, x) :: (2, (a, a2)) :: r => zzIf (zzEq a a2 && (zzLe 1 a && (zzEq (zzKn S m a).1 ((f / 1000 : Nat) : Int) && zzPt (f % 10) t x))) (zzSt (rs, L, r) (zzKey a ((f / 10 % 100 : Nat) : Int)) x)
    | _ => zzNo
  | .invokevirtual q => match (st.take (q / 4 % 20)).reverse, (Nat.ble (zzCat (st.drop (q / 4 % 20))) 8 && Nat.ble (q / 4 % 20) st.length) with
    | (2, (a, a2)) :: as, true => zzIf (zzEq a a2 && (zzEq (zzKn S m a).1 ((q / 80 % 100 : Nat) : Int) && zzNz as)) (zzCl (q / 8000) ((2, (a, a2)) :: as) (q % 4) (rs, L, st.drop (q / 4 % 20)))
    | _, _ => zzNo
  | .invokespecial q => match (st.take (q / 4 % 20)).reverse, (Nat.ble (zzCat (st.drop (q / 4 % 20))) 8 && Nat.ble (q / 4 % 20) st.length) with
    | (2, (a, a2)) :: as, true => zzIf (zzEq a a2 && (zzEq (zzKn S m a).1 ((q / 80 % 100 : Nat) : Int) && zzNz as)) (zzCl (q / 8000) ((2, (a, a2)) :: as) (q % 4) (rs, L, st.drop (q / 4 % 20)))
    | _, _ => zzNo
  | .invokestatic q => zzIf ((Nat.ble (zzCat (st.drop (q / 4 % 20))) 8 && Nat.ble (q / 4 % 20) st.length) && zzNz (st.take (q / 4 % 20)).reverse) (zzCl (q / 8000) (st.take (q / 4 % 20)).reverse (q % 4) (rs, L, st.drop (q / 4 % 20)))
  | .dneg => zzR1 st fun a r => zzIf (Nat.ble (zzCat r) 8 && (Nat.blt 0 d && zzLe 1 a)) (zzNx (rs, L, r))
  | .dadd => zzB2 st fun x y r => zzIf (Nat.ble (zzCat r) 8 && Nat.blt 0 d) (zzNx (rs, L, (0, (max x.1 y.1, max x.2 y.2)) :: r))
  | .dsub => zzB2 st fun x y r => zzIf (Nat.ble (zzCat r) 8 && Nat.blt 0 d) (zzNx (rs, L, (0, (min x.1 y.1, min x.2 y.2)) :: r))
  | .dmul => match st with
    | (0, (l, l2)) :: (0, (dp, dp2)) :: (2, (b, b2)) :: (0, (sp, sp2)) :: (2, (a, a2)) :: r => zzIf ((Nat.ble (zzCat r) 8 && (zzEq l l2 && (zzEq dp dp2 && (zzEq b b2 && (zzEq sp sp2 && zzEq a a2))))) && (Nat.blt 0 d && (zzLe 1 a && (zzLe 1 b && (zzEq (zzKn S m a).1 20 && (zzEq (zzKn S m b).1 20 && (zzLe 0 sp && (zzLe 0 dp && (zzLe 0 l && (zzLe (sp + l) (zzKn S m a).2 && (zzLe (dp + l) (zzKn S m b).2 && (zzLe (sp + l) 4096 && zzLe (dp + l) 4096)))))))))))) (zzRp (rs, L, r) (zzCpT m.1 m a sp b dp l.toNat, m.2))
    | _ => zzNo
  | .ireturn => match st with
    | [(0, x)] => zzRt x
    | _ => zzNo
  | .freturn => match st with
    | [(0, x)] => zzIf (zzLe 0 x.1 && zzLe x.2 1) (zzRt x)
    | _ => zzNo
  | .lreturn => match st with
    | [(1, x)] => zzRt x
    | _ => zzNo
  | .areturn => match st with
    | [(2, x)] => zzRt x
    | _ => zzNo
  | .return_ => match st with
    | [] => zzRt (0, 0)
    | _ => zzNo
  | _ => zzNo
