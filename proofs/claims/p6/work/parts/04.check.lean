/-! is this abstract code what the bytes say? -/
def xRc : Option FieldType → Nat
  | none => 3
  | some .int => 0
  | some .boolean => 0
  | some .long => 1
  | _ => 2
def xJmp (ps : List Nat) (pc : Nat) (off t : Int) : Bool := decide (0 ≤ t) && decide (t.toNat < ps.length) && ((ps.getD t.toNat 0 : Nat) : Int) == (pc : Int) + off
def xIn32 (v : Int) : Bool := decide (-2147483648 ≤ v) && decide (v < 2147483648)
def xIn64 (v : Int) : Bool := decide (-9223372036854775808 ≤ v) && decide (v < 9223372036854775808)
def xFldOk (own k m : Nat) : Bool := xFl.contains (own, k, m / 1000, m / 10 % 100) || xFn.contains (own, k, m / 1000, m / 10 % 100)
def xCalOk (own k m : Nat) : Bool := (xMl.contains (own, k, m / 8000) || xMn.contains (own, k, m / 8000)) && Nat.blt (m / 8000) xMt.length && (xM (m / 8000)).2.2.2.2.2 == m / 4 % 20 && xRc (xM (m / 8000)).2.2.2.1 == m % 4
def xChk1 (own : Nat) (ini : Bool) (ret : Option FieldType) (ps : List Nat) (pc : Nat) (i a : Instr) : Bool := match a with
  | .aload n => match i with | .aload k => k == n | .aload_n k => k.val == n | _ => false
  | .iload n => match i with | .iload k => k == n | .iload_n k => k.val == n | _ => false
  | .lload n => match i with | .lload k => k == n | .lload_n k => k.val == n | _ => false
  | .astore n => match i with | .astore k => k == n | .astore_n k => k.val == n | _ => false
  | .istore n => match i with | .istore k => k == n | .istore_n k => k.val == n | _ => false
  | .lstore n => match i with | .lstore k => k == n | .lstore_n k => k.val == n | _ => false
  | .iconst v => xIn32 v && (match i with | .iconst w => w == v | .bipush w => w == v && decide (-128 ≤ v) && decide (v < 128) | .sipush w => w == v && decide (-32768 ≤ v) && decide (v < 32768) | .ldc k => xKi.contains (own, k, v) | .ldc_w k => xKi.contains (own, k, v) | _ => false)
  | .jsr v => xIn64 v && (match i with | .lconst w => ((w.val : Nat) : Int) == v | .ldc2_w k => xKl.contains (own, k, v) | _ => false)
  | .ldc j => match i with | .ldc k => xKs.contains (own, k, j) | .ldc_w k => xKs.contains (own, k, j) | _ => false
  | .iinc n c => (match i with | .iinc k w => k == n && w == c | _ => false) && xIn32 c
  | .ifCond c t => match i with | .ifCond e off => e == c && xJmp ps pc off t | _ => false
  | .if_icmp c t => match i with | .if_icmp e off => e == c && xJmp ps pc off t | _ => false
  | .ifnull t => match i with | .ifnull off => xJmp ps pc off t | _ => false
  | .ifnonnull t => match i with | .ifnonnull off => xJmp ps pc off t | _ => false
  | .goto t => match i with | .goto off => xJmp ps pc off t | _ => false
  | .tableswitch t lo hi ts => match i with | .tableswitch dd lo2 hi2 offs => lo2 == lo && hi2 == hi && xJmp ps pc dd t && xIn32 lo && xIn32 hi && hi - lo + 1 == (ts.size : Int) && ts.size == offs.size && (ts.toList.zip offs.toList).all (fun q => xJmp ps pc q.2 q.1) | _ => false
  | .baload => match i with | .baload => true | _ => false
  | .caload => match i with | .baload => true | _ => false
  | .bastore => match i with | .bastore => true | _ => false
  | .castore => match i with | .bastore => true | _ => false
  | .newarray t => match i with | .newarray t2 => t2 == t && decide (0 ≤ xAk t) | _ => false
  | .anewarray κ => match i with | .anewarray k => Nat.ble 25 κ && Nat.ble κ 28 && xKc.contains (own, k, (xEl (κ : Int)).toNat) | _ => false
  | .multianewarray _ _ => match i with | .multianewarray k n => own == 11 && k == 81 && n == 2 | _ => false
  | .new c => match i with | .new k => Nat.blt c 13 && xKc.contains (own, k, c) | _ => false
  | .getfield m => match i with | .getfield k => xFldOk own k m && m % 10 == (if xFT (m / 1000) (m / 10 % 100) == 3 then 0 else xFT (m / 1000) (m / 10 % 100)) | _ => false
  | .putfield m => match i with | .putfield k => xFldOk own k m && m % 10 == xFT (m / 1000) (m / 10 % 100) && (!(xF (m / 1000) (m / 10 % 100)).2.2.2 || (ini && own == m / 1000 && xFl.contains (own, k, m / 1000, m / 10 % 100))) | _ => false
  | .invokevirtual m => match i with | .invokevirtual k => xCalOk own k m && !(xM (m / 8000)).2.2.2.2.1 && (xCl (m / 80 % 100)).1 == (xM (m / 8000)).1.cls && Nat.blt (m / 80 % 100) 13 && (xVpub.contains (m / 8000) || xVpri.contains (m / 8000)) | _ => false
  | .invokespecial m => match i with | .invokespecial k => xCalOk own k m && !(xM (m / 8000)).2.2.2.2.1 && (xM (m / 8000)).1.name == "<init>" && (xM (m / 8000)).2.2.2.1 == none | _ => false
  | .invokestatic m => match i with | .invokestatic k => xCalOk own k m && (xM (m / 8000)).2.2.2.2.1 | _ => false
  | .dneg => match i with | .invokespecial k => xBl.contains (own, k, 0) | _ => false
  | .dadd => match i with | .invokestatic k => xBl.contains (own, k, 1) | _ => false
  | .dsub => match i with | .invokestatic k => xBl.contains (own, k, 2) | _ => false
  | .dmul => match i with | .invokestatic k => xBl.contains (own, k, 3) | _ => false
  | .ddiv => match i with | .invokestatic k => xBl.contains (own, k, 3) | _ => false
  | .d2i => match i with | .invokevirtual k => xBl.contains (own, k, 4) | _ => false
  | .d2l => match i with | .invokevirtual k => xBl.contains (own, k, 5) | _ => false
  | .ireturn => (match i with | .ireturn => true | _ => false) && ret == some .int
  | .freturn => (match i with | .ireturn => true | _ => false) && ret == some .boolean
  | .lreturn => (match i with | .lreturn => true | _ => false) && ret == some .long
  | .areturn => (match i with | .areturn => true | _ => false) && (match ret with | some (.object _) => true | some (.array _) => true | _ => false)
  | .return_ => (match i with | .return_ => true | _ => false) && ret == none
  | _ => i == a
def xLen : Instr → Nat
  | .aload _ => 2
  | .iload _ => 2
  | .lload _ => 2
  | .istore _ => 2
  | .lstore _ => 2
  | .astore _ => 2
  | .bipush _ => 2
  | .ldc _ => 2
  | .newarray _ => 2
  | .sipush _ => 3
  | .ldc_w _ => 3
  | .ldc2_w _ => 3
  | .ifCond _ _ => 3
  | .if_icmp _ _ => 3
  | .ifnull _ => 3
  | .ifnonnull _ => 3
  | .goto _ => 3
  | .getfield _ => 3
  | .putfield _ => 3
  | .invokevirtual _ => 3
  | .invokespecial _ => 3
  | .invokestatic _ => 3
  | .new _ => 3
  | .anewarray _ => 3
  | .multianewarray _ _ => 4
  | _ => 1
def xLenOk (i : Instr) (l : Nat) : Bool := match i with
  | .iinc _ _ => l == 3 || l == 6
  | .tableswitch _ _ _ _ => true
  | i => l == xLen i
def xTerm : Instr → Bool
  | .ireturn => true
  | .freturn => true
  | .lreturn => true
  | .areturn => true
  | .return_ => true
  | .goto _ => true
  | _ => false
def xChkP (own : Nat) (ini : Bool) (ret : Option FieldType) (bytes : ByteArray) (ps : List Nat) : List (Instr × Nat) → List Nat → Bool
  | [], _ => true
  | (a, pc) :: r, nx => (match decode bytes pc with
    | .ok (i, l) => xLenOk i l && (xChk1 own ini ret ps pc i a && (match nx with | q :: _ => q == pc + l | [] => xTerm a))
    | .error _ => false) && xChkP own ini ret bytes ps r nx.tail
def xChkM (own : Nat) (ini : Bool) (ret : Option FieldType) (bytes : ByteArray) (cd : List Instr) (ps : List Nat) : Bool :=
  cd.length == ps.length && ps.head? == some 0 && xChkP own ini ret bytes ps (cd.zip ps) ps.tail
