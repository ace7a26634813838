/-! a machine over plain numbers: memory = what every place of every object holds, each object's kind (0 .. 12 a class of vwCl, 20 int[], 21 byte[], 22 boolean[], 23 long[], 24 long[][], 25 .. 28 arrays of Place, Leg, Sky, Plan), each array's length, the next object's number, the slots so far -/
abbrev xV : Type := Nat × Int
abbrev xD : Type := Int → Int → Int
abbrev xH : Type := xD × (Int → Int) × (Int → Int) × Nat × Nat
abbrev xS : Type := Nat × List xV × List xV × xH
abbrev xO : Type := xS ⊕ (Prop × xS) ⊕ (ClassFile.Cond × Int × Int × xS × xS) ⊕ (Prop × Nat × List xV × xH × (Int → xH → xS)) ⊕ (Prop × Int × xH) ⊕ (Int × Int × List xS × xS)
def w32 (x : Int) : Int := x.bmod 4294967296
def w64 (x : Int) : Int := x.bmod 18446744073709551616
def w16 (x : Int) : Int := x.bmod 65536
def w8 (x : Int) : Int := x.bmod 256
def xShl (x y : Int) : Int := (Int32.ofInt x <<< (Int32.ofInt y &&& 31)).toInt
def xShr (x y : Int) : Int := (Int32.ofInt x >>> (Int32.ofInt y &&& 31)).toInt
def xUsh (x y : Int) : Int := (((Int32.ofInt x).toUInt32 >>> ((Int32.ofInt y).toUInt32 &&& Int32.toUInt32 31)).toInt32).toInt
def xAnd (x y : Int) : Int := (Int32.ofInt x &&& Int32.ofInt y).toInt
def xOr (x y : Int) : Int := (Int32.ofInt x ||| Int32.ofInt y).toInt
def xXor (x y : Int) : Int := (Int32.ofInt x ^^^ Int32.ofInt y).toInt
def xLand (x y : Int) : Int := (Int64.ofInt x &&& Int64.ofInt y).toInt
def xLor (x y : Int) : Int := (Int64.ofInt x ||| Int64.ofInt y).toInt
def xLshl (x y : Int) : Int := (Int64.ofInt x <<< ((Int32.ofInt y).toInt64 &&& 63)).toInt
def xLshr (x y : Int) : Int := (Int64.ofInt x >>> ((Int32.ofInt y).toInt64 &&& 63)).toInt
def xLcmp (x y : Int) : Int := if x < y then -1 else if x = y then 0 else 1
def xUp (D : xD) (a i v : Int) : xD := fun b j => if b = a ∧ j = i then v else D b j
def xU1 (f : Int → Int) (a v : Int) : Int → Int := fun b => if b = a then v else f b
def xCpy (D : xD) (a sp b dp n : Int) : xD := fun c j => if c = b ∧ dp ≤ j ∧ j < dp + n then D a (sp + (j - dp)) else D c j
def xZr (D : xD) (a : Int) : xD := fun b j => if b = a then 0 else D b j
/-- a new object of class c, a new array of kind κ -/
def xNw (H : xH) (κ n : Int) (ns : Nat) : xH := (xZr H.1 (H.2.2.2.1 : Int), xU1 H.2.1 (H.2.2.2.1 : Int) κ, xU1 H.2.2.1 (H.2.2.2.1 : Int) n, H.2.2.2.1 + 1, H.2.2.2.2 + ns)
/-- new long[l][m] -/
def xNm (H : xH) (l m : Int) : xH :=
  (fun b j => if b = (H.2.2.2.1 : Int) then (if 0 ≤ j ∧ j < l then (H.2.2.2.1 : Int) + 1 + j else 0) else if (H.2.2.2.1 : Int) < b ∧ b ≤ (H.2.2.2.1 : Int) + l then 0 else H.1 b j,
   fun b => if b = (H.2.2.2.1 : Int) then 24 else if (H.2.2.2.1 : Int) < b ∧ b ≤ (H.2.2.2.1 : Int) + l then 23 else H.2.1 b,
   fun b => if b = (H.2.2.2.1 : Int) then l else if (H.2.2.2.1 : Int) < b ∧ b ≤ (H.2.2.2.1 : Int) + l then m else H.2.2.1 b,
   H.2.2.2.1 + 1 + l.toNat, H.2.2.2.2 + (l.toNat + l.toNat * m.toNat))
def xNs : List Nat := vwCl.map (fun q => q.2.2)
def xAk : ArrayType → Int
  | .int => 20
  | .byte => 21
  | .boolean => 22
  | .long => 23
  | _ => -1
def xEl (κ : Int) : Int := if κ = 25 then 4 else if κ = 26 then 2 else if κ = 27 then 10 else if κ = 28 then 5 else -1
def xT : ClassFile.Cond → Int → Int → Prop
  | .eq, x, y => x = y
  | .ne, x, y => x ≠ y
  | .lt, x, y => x < y
  | .ge, x, y => y ≤ x
  | .gt, x, y => y < x
  | .le, x, y => x ≤ y
def xN : ClassFile.Cond → Int → Int → Prop
  | .eq, x, y => x ≠ y
  | .ne, x, y => x = y
  | .lt, x, y => y ≤ x
  | .ge, x, y => x < y
  | .gt, x, y => x ≤ y
  | .le, x, y => y < x
theorem xT_or (c : ClassFile.Cond) (x y : Int) : xT c x y ∨ xN c x y := by
  cases c <;> simp only [xT, xN] <;> omega
theorem xT_not (c : ClassFile.Cond) (x y : Int) : ¬ (xT c x y ∧ xN c x y) := by
  cases c <;> simp only [xT, xN] <;> omega
/-- the constants' texts, as numbers -/
def xTx : List (List Int) := xStr.map (fun t => t.toList.map (fun c => (c.toNat : Int)))
def xTxt (s : Int) : List Int := xTx.getD (-2 - s).toNat []
def xLg (s : Int) : Int := ((xTxt s).length : Int)
def xCh (s i : Int) : Int := (xTxt s).getD i.toNat 0
def xBad (s : xS) : xO := .inr (.inl (False, s))
def xNx (s : xS) : xO := .inl s
def xCk (p : Prop) (s : xS) : xO := .inr (.inl (p, s))
def xBr (c : ClassFile.Cond) (x y : Int) (s t : xS) : xO := .inr (.inr (.inl (c, x, y, s, t)))
def xCl4 (p : Prop) (j : Nat) (as : List xV) (H : xH) (f : Int → xH → xS) : xO := .inr (.inr (.inr (.inl (p, j, as, H, f))))
def xRt (p : Prop) (x : Int) (H : xH) : xO := .inr (.inr (.inr (.inr (.inl (p, x, H)))))
def xSwt (x lo : Int) (ts : List xS) (t : xS) : xO := .inr (.inr (.inr (.inr (.inr (x, lo, ts, t)))))
def xSt1 (L : List xV) (i : Nat) (v : xV) : List xV := (match i with | 0 => L | k + 1 => match L.getD k (9, 0) with | (1, _) => L.set k (9, 0) | _ => L).set i v
def xSt2 (L : List xV) (i : Nat) (v : xV) : List xV := (xSt1 L i v).set (i + 1) (9, 0)
def xCat : List xV → Nat
  | [] => 0
  | (1, _) :: r => 2 + xCat r
  | _ :: r => 1 + xCat r
def xPush (rt : Nat) (x : Int) (r : List xV) : List xV := match rt with
  | 3 => r
  | t => (t, x) :: r
def xB1 (s : xS) (st : List xV) (f : Int → List xV → xO) : xO := match st with
  | (0, x) :: r => f x r
  | _ => xBad s
def xB2 (s : xS) (st : List xV) (f : Int → Int → List xV → xO) : xO := match st with
  | (0, y) :: (0, x) :: r => f x y r
  | _ => xBad s
def xJ1 (s : xS) (st : List xV) (f : Int → List xV → xO) : xO := match st with
  | (1, x) :: r => f x r
  | _ => xBad s
def xJ2 (s : xS) (st : List xV) (f : Int → Int → List xV → xO) : xO := match st with
  | (1, y) :: (1, x) :: r => f x y r
  | _ => xBad s
def xJi (s : xS) (st : List xV) (f : Int → Int → List xV → xO) : xO := match st with
  | (0, y) :: (1, x) :: r => f x y r
  | _ => xBad s
def xR1 (s : xS) (st : List xV) (f : Int → List xV → xO) : xO := match st with
  | (2, x) :: r => f x r
  | _ => xBad s
def xA2 (s : xS) (st : List xV) (f : Int → Int → List xV → xO) : xO := match st with
  | (0, i) :: (2, a) :: r => f a i r
  | _ => xBad s
def xA3 (s : xS) (t : Nat) (st : List xV) (f : Int → Int → Int → List xV → xO) : xO := match st with
  | (u, x) :: (0, i) :: (2, a) :: r => if u = t then f a i x r else xBad s
  | _ => xBad s
def xIf (b : Bool) (x y : xO) : xO := match b with
  | true => x
  | false => y
def xPt (ty t : Nat) (x : Int) (p : Prop) : Prop := match ty, t with
  | 0, 0 => p
  | 1, 1 => p
  | 2, 2 => p
  | 3, 0 => p ∧ (x = 0 ∨ x = 1)
  | _, _ => False
def xLo (L : List xV) (i t : Nat) (s : xS) (f : xV → xO) : xO := match L.getD i (9, 0) with
  | (u, x) => if u = t then f (u, x) else xBad s
/-- p, and no reference among these is null -/
def xNz (p : Prop) : List xV → Prop
  | [] => p
  | (2, x) :: r => x ≠ 0 ∧ xNz p r
  | _ :: r => xNz p r
/-- one instruction, the pc-th of its method: d frames are left -/
def xNext (d : Nat) (i : Instr) (pc : Nat) (L st : List xV) (H : xH) : xO := match i with
  | .iconst v => xNx (pc + 1, L, (0, v) :: st, H)
  | .jsr v => xNx (pc + 1, L, (1, v) :: st, H)
  | .ldc j => xNx (pc + 1, L, (2, -2 - (j : Int)) :: st, H)
  | .iload i => xLo L i 0 (pc, L, st, H) fun v => xNx (pc + 1, L, v :: st, H)
  | .lload i => xLo L i 1 (pc, L, st, H) fun v => xNx (pc + 1, L, v :: st, H)
  | .aload i => xLo L i 2 (pc, L, st, H) fun v => xNx (pc + 1, L, v :: st, H)
  | .istore i => xB1 (pc, L, st, H) st fun x r => xIf (Nat.blt i L.length) (xNx (pc + 1, xSt1 L i (0, x), r, H)) (xBad (pc, L, st, H))
  | .lstore i => xJ1 (pc, L, st, H) st fun x r => xIf (Nat.blt (i + 1) L.length) (xNx (pc + 1, xSt2 L i (1, x), r, H)) (xBad (pc, L, st, H))
  | .astore i => xR1 (pc, L, st, H) st fun x r => xIf (Nat.blt i L.length) (xCk (x ≠ 0) (pc + 1, xSt1 L i (2, x), r, H)) (xBad (pc, L, st, H))
  | .iinc i c => xLo L i 0 (pc, L, st, H) fun v => xIf (Nat.blt i L.length) (xNx (pc + 1, xSt1 L i (0, w32 (v.2 + c)), st, H)) (xBad (pc, L, st, H))
  | .dup => match st with
    | (0, x) :: r => xNx (pc + 1, L, (0, x) :: (0, x) :: r, H)
    | (2, x) :: r => xNx (pc + 1, L, (2, x) :: (2, x) :: r, H)
    | _ => xBad (pc, L, st, H)
  | .dup2 => xA2 (pc, L, st, H) st fun a i r => xNx (pc + 1, L, (0, i) :: (2, a) :: (0, i) :: (2, a) :: r, H)
  | .pop => match st with
    | (0, _) :: r => xNx (pc + 1, L, r, H)
    | (2, _) :: r => xNx (pc + 1, L, r, H)
    | _ => xBad (pc, L, st, H)
  | .iadd => xB2 (pc, L, st, H) st fun x y r => xNx (pc + 1, L, (0, w32 (x + y)) :: r, H)
  | .isub => xB2 (pc, L, st, H) st fun x y r => xNx (pc + 1, L, (0, w32 (x - y)) :: r, H)
  | .imul => xB2 (pc, L, st, H) st fun x y r => xNx (pc + 1, L, (0, w32 (x * y)) :: r, H)
  | .idiv => xB2 (pc, L, st, H) st fun x y r => xCk (y ≠ 0) (pc + 1, L, (0, w32 (x.tdiv y)) :: r, H)
  | .irem => xB2 (pc, L, st, H) st fun x y r => xCk (y ≠ 0) (pc + 1, L, (0, x.tmod y) :: r, H)
  | .ineg => xB1 (pc, L, st, H) st fun x r => xNx (pc + 1, L, (0, w32 (-x)) :: r, H)
  | .ishl => xB2 (pc, L, st, H) st fun x y r => xNx (pc + 1, L, (0, xShl x y) :: r, H)
  | .ishr => xB2 (pc, L, st, H) st fun x y r => xNx (pc + 1, L, (0, xShr x y) :: r, H)
  | .iushr => xB2 (pc, L, st, H) st fun x y r => xNx (pc + 1, L, (0, xUsh x y) :: r, H)
  | .iand => xB2 (pc, L, st, H) st fun x y r => xNx (pc + 1, L, (0, xAnd x y) :: r, H)
  | .ior => xB2 (pc, L, st, H) st fun x y r => xNx (pc + 1, L, (0, xOr x y) :: r, H)
  | .ixor => xB2 (pc, L, st, H) st fun x y r => xNx (pc + 1, L, (0, xXor x y) :: r, H)
  | .i2l => xB1 (pc, L, st, H) st fun x r => xNx (pc + 1, L, (1, x) :: r, H)
  | .l2i => xJ1 (pc, L, st, H) st fun x r => xNx (pc + 1, L, (0, w32 x) :: r, H)
  | .i2b => xB1 (pc, L, st, H) st fun x r => xNx (pc + 1, L, (0, w8 x) :: r, H)
  | .i2s => xB1 (pc, L, st, H) st fun x r => xNx (pc + 1, L, (0, w16 x) :: r, H)
  | .ladd => xJ2 (pc, L, st, H) st fun x y r => xNx (pc + 1, L, (1, w64 (x + y)) :: r, H)
  | .lmul => xJ2 (pc, L, st, H) st fun x y r => xNx (pc + 1, L, (1, w64 (x * y)) :: r, H)
  | .ldiv => xJ2 (pc, L, st, H) st fun x y r => xCk (y ≠ 0) (pc + 1, L, (1, w64 (x.tdiv y)) :: r, H)
  | .lrem => xJ2 (pc, L, st, H) st fun x y r => xCk (y ≠ 0) (pc + 1, L, (1, x.tmod y) :: r, H)
  | .land => xJ2 (pc, L, st, H) st fun x y r => xNx (pc + 1, L, (1, xLand x y) :: r, H)
  | .lor => xJ2 (pc, L, st, H) st fun x y r => xNx (pc + 1, L, (1, xLor x y) :: r, H)
  | .lshl => xJi (pc, L, st, H) st fun x y r => xNx (pc + 1, L, (1, xLshl x y) :: r, H)
  | .lshr => xJi (pc, L, st, H) st fun x y r => xNx (pc + 1, L, (1, xLshr x y) :: r, H)
  | .lcmp => xJ2 (pc, L, st, H) st fun x y r => xNx (pc + 1, L, (0, xLcmp x y) :: r, H)
  | .ifCond c t => xB1 (pc, L, st, H) st fun x r => xBr c x 0 (t.toNat, L, r, H) (pc + 1, L, r, H)
  | .if_icmp c t => xB2 (pc, L, st, H) st fun x y r => xBr c x y (t.toNat, L, r, H) (pc + 1, L, r, H)
  | .ifnull t => xR1 (pc, L, st, H) st fun x r => xBr .eq x 0 (t.toNat, L, r, H) (pc + 1, L, r, H)
  | .ifnonnull t => xR1 (pc, L, st, H) st fun x r => xBr .ne x 0 (t.toNat, L, r, H) (pc + 1, L, r, H)
  | .goto t => xNx (t.toNat, L, st, H)
  | .tableswitch t lo _ ts => xB1 (pc, L, st, H) st fun x r => xSwt x lo (ts.toList.map fun u => (u.toNat, L, r, H)) (t.toNat, L, r, H)
  | .iaload => xA2 (pc, L, st, H) st fun a i r => xCk (H.2.1 a = 20 ∧ 0 ≤ i ∧ i < H.2.2.1 a) (pc + 1, L, (0, H.1 a i) :: r, H)
  | .baload => xA2 (pc, L, st, H) st fun a i r => xCk (H.2.1 a = 21 ∧ 0 ≤ i ∧ i < H.2.2.1 a) (pc + 1, L, (0, H.1 a i) :: r, H)
  | .caload => xA2 (pc, L, st, H) st fun a i r => xCk (H.2.1 a = 22 ∧ 0 ≤ i ∧ i < H.2.2.1 a) (pc + 1, L, (0, H.1 a i) :: r, H)
  | .laload => xA2 (pc, L, st, H) st fun a i r => xCk (H.2.1 a = 23 ∧ 0 ≤ i ∧ i < H.2.2.1 a) (pc + 1, L, (1, H.1 a i) :: r, H)
  | .aaload => xA2 (pc, L, st, H) st fun a i r => xCk (24 ≤ H.2.1 a ∧ 0 ≤ i ∧ i < H.2.2.1 a) (pc + 1, L, (2, H.1 a i) :: r, H)
  | .iastore => xA3 (pc, L, st, H) 0 st fun a i x r => xCk (0 < a ∧ H.2.1 a = 20 ∧ 0 ≤ i ∧ i < H.2.2.1 a) (pc + 1, L, r, (xUp H.1 a i x, H.2))
  | .bastore => xA3 (pc, L, st, H) 0 st fun a i x r => xCk (0 < a ∧ H.2.1 a = 21 ∧ 0 ≤ i ∧ i < H.2.2.1 a) (pc + 1, L, r, (xUp H.1 a i (w8 x), H.2))
  | .castore => xA3 (pc, L, st, H) 0 st fun a i x r => xCk (0 < a ∧ H.2.1 a = 22 ∧ 0 ≤ i ∧ i < H.2.2.1 a ∧ (x = 0 ∨ x = 1)) (pc + 1, L, r, (xUp H.1 a i x, H.2))
  | .lastore => xA3 (pc, L, st, H) 1 st fun a i x r => xCk (0 < a ∧ H.2.1 a = 23 ∧ 0 ≤ i ∧ i < H.2.2.1 a) (pc + 1, L, r, (xUp H.1 a i x, H.2))
  | .aastore => xA3 (pc, L, st, H) 2 st fun a i x r => xCk (0 < a ∧ xEl (H.2.1 a) = H.2.1 x ∧ 0 ≤ H.2.1 x ∧ 0 ≤ i ∧ i < H.2.2.1 a) (pc + 1, L, r, (xUp H.1 a i x, H.2))
  | .arraylength => xR1 (pc, L, st, H) st fun a r => xCk (20 ≤ H.2.1 a) (pc + 1, L, (0, H.2.2.1 a) :: r, H)
  | .newarray t => xB1 (pc, L, st, H) st fun x r => xCk (0 ≤ x ∧ x ≤ 1000000) (pc + 1, L, (2, (H.2.2.2.1 : Int)) :: r, xNw H (xAk t) x x.toNat)
  | .anewarray κ => xB1 (pc, L, st, H) st fun x r => xCk (0 ≤ x ∧ x ≤ 1000000) (pc + 1, L, (2, (H.2.2.2.1 : Int)) :: r, xNw H (κ : Int) x x.toNat)
  | .multianewarray _ _ => xB2 (pc, L, st, H) st fun l m r => xCk (0 ≤ l ∧ l ≤ 1000 ∧ 0 ≤ m ∧ m ≤ 1000) (pc + 1, L, (2, (H.2.2.2.1 : Int)) :: r, xNm H l m)
  | .new c => xNx (pc + 1, L, (2, (H.2.2.2.1 : Int)) :: st, xNw H (c : Int) 0 (xNs.getD c 0))
  | .getfield m => xR1 (pc, L, st, H) st fun a r => xCk (H.2.1 a = ((m / 1000 : Nat) : Int)) (pc + 1, L, (m % 10, H.1 a ((m / 10 % 100 : Nat) : Int)) :: r, H)
  | .putfield m => match st with
    | (t, x) :: (2, a) :: r => xCk (xPt (m % 10) t x (H.2.1 a = ((m / 1000 : Nat) : Int))) (pc + 1, L, r, (xUp H.1 a ((m / 10 % 100 : Nat) : Int) x, H.2))
    | _ => xBad (pc, L, st, H)
  | .invokevirtual m => match (st.take (m / 4 % 20)).reverse, (Nat.ble (xCat (st.drop (m / 4 % 20))) 8 && Nat.ble (m / 4 % 20) st.length) with
    | (2, a) :: as, true => xCl4 (xNz (H.2.1 a = ((m / 80 % 100 : Nat) : Int)) as) (m / 8000) ((2, a) :: as) H fun x H2 => (pc + 1, L, xPush (m % 4) x (st.drop (m / 4 % 20)), H2)
    | _, _ => xBad (pc, L, st, H)
  | .invokespecial m => match (st.take (m / 4 % 20)).reverse, (Nat.ble (xCat (st.drop (m / 4 % 20))) 8 && Nat.ble (m / 4 % 20) st.length) with
    | (2, a) :: as, true => xCl4 (xNz (H.2.1 a = ((m / 80 % 100 : Nat) : Int)) as) (m / 8000) ((2, a) :: as) H fun x H2 => (pc + 1, L, xPush (m % 4) x (st.drop (m / 4 % 20)), H2)
    | _, _ => xBad (pc, L, st, H)
  | .invokestatic m => match (Nat.ble (xCat (st.drop (m / 4 % 20))) 8 && Nat.ble (m / 4 % 20) st.length) with
    | true => xCl4 (xNz True (st.take (m / 4 % 20)).reverse) (m / 8000) (st.take (m / 4 % 20)).reverse H fun x H2 => (pc + 1, L, xPush (m % 4) x (st.drop (m / 4 % 20)), H2)
    | _ => xBad (pc, L, st, H)
  | .dneg => xR1 (pc, L, st, H) st fun a r => xIf (Nat.ble (xCat r) 8) (xCk (0 < d ∧ 0 < a) (pc + 1, L, r, H)) (xBad (pc, L, st, H))
  | .dadd => xB2 (pc, L, st, H) st fun x y r => xIf (Nat.ble (xCat r) 8) (xCk (0 < d) (pc + 1, L, (0, max x y) :: r, H)) (xBad (pc, L, st, H))
  | .dsub => xB2 (pc, L, st, H) st fun x y r => xIf (Nat.ble (xCat r) 8) (xCk (0 < d) (pc + 1, L, (0, min x y) :: r, H)) (xBad (pc, L, st, H))
  | .dmul => match st with
    | (0, l) :: (0, dp) :: (2, b) :: (0, sp) :: (2, a) :: r => xIf (Nat.ble (xCat r) 8) (xCk (0 < d ∧ 0 < a ∧ 0 < b ∧ H.2.1 a = 20 ∧ H.2.1 b = 20 ∧ 0 ≤ sp ∧ 0 ≤ dp ∧ 0 ≤ l ∧ sp + l ≤ H.2.2.1 a ∧ dp + l ≤ H.2.2.1 b) (pc + 1, L, r, (xCpy H.1 a sp b dp l, H.2))) (xBad (pc, L, st, H))
    | _ => xBad (pc, L, st, H)
  | .ddiv => match st with
    | (0, l) :: (0, dp) :: (2, b) :: (0, sp) :: (2, a) :: r => xIf (Nat.ble (xCat r) 8) (xCk (0 < d ∧ 0 < a ∧ 0 < b ∧ H.2.1 a = 23 ∧ H.2.1 b = 23 ∧ 0 ≤ sp ∧ 0 ≤ dp ∧ 0 ≤ l ∧ sp + l ≤ H.2.2.1 a ∧ dp + l ≤ H.2.2.1 b) (pc + 1, L, r, (xCpy H.1 a sp b dp l, H.2))) (xBad (pc, L, st, H))
    | _ => xBad (pc, L, st, H)
  | .d2i => xR1 (pc, L, st, H) st fun s r => xIf (Nat.ble (xCat r) 8) (xCk (4 < d ∧ s ≤ -2 ∧ -29 < s) (pc + 1, L, (0, xLg s) :: r, H)) (xBad (pc, L, st, H))
  | .d2l => match st with
    | (0, i) :: (2, s) :: r => xIf (Nat.ble (xCat r) 8) (xCk (4 < d ∧ s ≤ -2 ∧ -29 < s ∧ 0 ≤ i ∧ i < xLg s) (pc + 1, L, (0, xCh s i) :: r, H)) (xBad (pc, L, st, H))
    | _ => xBad (pc, L, st, H)
  | .ireturn => match st with
    | [(0, x)] => xRt True x H
    | _ => xBad (pc, L, st, H)
  | .freturn => match st with
    | [(0, x)] => xRt (x = 0 ∨ x = 1) x H
    | _ => xBad (pc, L, st, H)
  | .lreturn => match st with
    | [(1, x)] => xRt True x H
    | _ => xBad (pc, L, st, H)
  | .areturn => match st with
    | [(2, x)] => xRt True x H
    | _ => xBad (pc, L, st, H)
  | .return_ => match st with
    | [] => xRt True 0 H
    | _ => xBad (pc, L, st, H)
  | _ => xBad (pc, L, st, H)
def xSw (k : xS → Prop) (x : Int) : Int → List xS → Prop
  | _, [] => True
  | v, t :: ts => (x = v → k t) ∧ xSw k x (v + 1) ts
abbrev xCallT : Type := Nat → List xV → xH → (Int → xH → Prop) → Prop
def xGo (call : xCallT) (k : xS → Prop) (Q : Int → xH → Prop) : xO → Prop
  | .inl s => k s
  | .inr (.inl (p, s)) => p ∧ k s
  | .inr (.inr (.inl (c, x, y, s, t))) => (xT c x y → k s) ∧ (xN c x y → k t)
  | .inr (.inr (.inr (.inl (p, j, as, H, f)))) => p ∧ call j as H (fun x H2 => k (f x H2))
  | .inr (.inr (.inr (.inr (.inl (p, x, H))))) => p ∧ Q x H
  | .inr (.inr (.inr (.inr (.inr (x, lo, ts, t))))) => xSw k x lo ts ∧ (x < lo ∨ lo + (ts.length : Int) ≤ x → k t)
/-- what must hold for n instructions at most, from here on, to end in Q -/
def xWp (d : Nat) (call : xCallT) (code : List Instr) (Q : Int → xH → Prop) : Nat → Nat → List xV → List xV → xH → Prop
  | 0, _, _, _, _ => False
  | n + 1, pc, L, st, H => xGo call (fun s => xWp d call code Q n s.1 s.2.1 s.2.2.1 s.2.2.2) Q (xNext d (code.getD pc .nop) pc L st H)
def xFlat : List xV → List xV
  | [] => []
  | (1, x) :: r => (1, x) :: (9, 0) :: xFlat r
  | v :: r => v :: xFlat r
def xEntry (n : Nat) (as : List xV) : List xV := xFlat as ++ List.replicate (n - (xFlat as).length) (9, 0)
