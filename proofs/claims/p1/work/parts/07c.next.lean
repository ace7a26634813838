/-! one instruction -/
abbrev zzS : Type := List Instr × List zzV × List zzV
abbrev zzP : Type := Option (Nat × zzI) ⊕ ((Int × Int × Nat) ⊕ zzMm)
abbrev zzO : Type := (zzS × zzP) ⊕ ((Bool × Bool × zzS × zzS) ⊕ ((Nat × List zzV × Nat × zzS) ⊕ (zzI ⊕ Bool)))
def zzNo : zzO := .inr (.inr (.inr (.inr false)))
def zzHk : zzO := .inr (.inr (.inr (.inr true)))
def zzNx (s : zzS) : zzO := .inl (s, .inl none)
def zzSt (s : zzS) (k : Nat) (v : zzI) : zzO := .inl (s, .inl (some (k, v)))
def zzNw (s : zzS) (κ n : Int) (ns : Nat) : zzO := .inl (s, .inr (.inl (κ, n, ns)))
def zzRp (s : zzS) (m : zzMm) : zzO := .inl (s, .inr (.inr m))
def zzBr (c : ClassFile.Cond) (x y : zzI) (s t : zzS) : zzO := .inr (.inl (zzTest c x y, zzTest (zzNot c) x y, s, t))
def zzCl (j : Nat) (as : List zzV) (rt : Nat) (s : zzS) : zzO := .inr (.inr (.inl (j, as, rt, s)))
def zzRt (v : zzI) : zzO := .inr (.inr (.inr (.inl v)))
def zzIf (b : Bool) (o : zzO) : zzO := match b with
  | true => o
  | false => zzNo
def zzB1 (st : List zzV) (f : zzI → List zzV → zzO) : zzO := match st with
  | (0, x) :: r => f x r
  | _ => zzNo
def zzB2 (st : List zzV) (f : zzI → zzI → List zzV → zzO) : zzO := match st with
  | (0, y) :: (0, x) :: r => f x y r
  | _ => zzNo
def zzJ1 (st : List zzV) (f : zzI → List zzV → zzO) : zzO := match st with
  | (1, x) :: r => f x r
  | _ => zzNo
def zzJ2 (st : List zzV) (f : zzI → zzI → List zzV → zzO) : zzO := match st with
  | (1, y) :: (1, x) :: r => f x y r
  | _ => zzNo
def zzJi (st : List zzV) (f : zzI → zzI → List zzV → zzO) : zzO := match st with
  | (0, y) :: (1, x) :: r => f x y r
  | _ => zzNo
def zzR1 (st : List zzV) (f : Int → List zzV → zzO) : zzO := match st with
  | (2, (x, y)) :: r => zzIf (zzEq x y) (f x r)
  | _ => zzNo
def zzA2 (st : List zzV) (f : Int → Int → List zzV → zzO) : zzO := match st with
  | (0, (i, i2)) :: (2, (a, a2)) :: r => zzIf (zzEq i i2 && zzEq a a2) (f a i r)
  | _ => zzNo
def zzA3 (t : Nat) (st : List zzV) (f : Int → Int → zzI → List zzV → zzO) : zzO := match st with
  | (u, x) :: (0, (i, i2)) :: (2, (a, a2)) :: r => zzIf (Nat.beq u t && (zzEq i i2 && zzEq a a2)) (f a i x r)
  | _ => zzNo
def zzLo (L : List zzV) (i t : Nat) (f : zzV → zzO) : zzO := match L.getD i (9, (0, 0)) with
  | (u, x) => zzIf (Nat.beq u t) (f (u, x))
def zzNz : List zzV → Bool
  | [] => true
  | (2, (x, y)) :: r => zzEq x y && (!zzEq x 0 && zzNz r)
  | _ :: r => zzNz r
def zzPt (ty t : Nat) (x : zzI) : Bool := match ty, t with
  | 0, 0 => true
  | 1, 1 => true
  | 2, 2 => true
  | 3, 0 => zzLe 0 x.1 && zzLe x.2 1
  | _, _ => false
def zzSw (x lo : Int) (ts : List Int) (t : Int) : Nat := match zzLe lo x && zzLe (x + 1) (lo + (ts.length : Int)) with
  | true => (ts.getD (x - lo).toNat 0).toNat
  | false => t.toNat
noncomputable def zzNext (S : zzQ) (d : Nat) (cd : List Instr) (i : Instr) (rs : List Instr) (L st : List zzV) (m : zzMm) : zzO := match i with
  | .iconst v => zzNx (rs, L, (0, (v, v)) :: st)
  | .jsr v => zzNx (rs, L, (1, (v, v)) :: st)
  | .ldc j => zzNx (rs, L, (2, (-2 - (j : Int), -2 - (j : Int))) :: st)
  | .iload i => zzLo L i 0 fun v => zzNx (rs, L, v :: st)
  | .lload i => zzLo L i 1 fun v => zzNx (rs, L, v :: st)
  | .aload i => zzLo L i 2 fun v => zzNx (rs, L, v :: st)
  | .istore i => zzB1 st fun x r => zzIf (Nat.blt i L.length) (zzNx (rs, zzSt1 L i (0, x), r))
  | .lstore i => zzJ1 st fun x r => zzIf (Nat.blt (i + 1) L.length) (zzNx (rs, zzSt2 L i (1, x), r))
  | .astore i => zzR1 st fun x r => zzIf (Nat.blt i L.length && !zzEq x 0) (zzNx (rs, zzSt1 L i (2, (x, x)), r))
  | .iinc i c => zzLo L i 0 fun v => zzIf (Nat.blt i L.length) (zzNx (rs, zzSt1 L i (0, zz1 (fun a => w32 (a + c)) v.2), st))
  | .dup => match st with
    | (0, x) :: r => zzNx (rs, L, (0, x) :: (0, x) :: r)
    | (2, x) :: r => zzNx (rs, L, (2, x) :: (2, x) :: r)
    | _ => zzNo
  | .dup2 => zzA2 st fun a i r => zzNx (rs, L, (0, (i, i)) :: (2, (a, a)) :: (0, (i, i)) :: (2, (a, a)) :: r)
  | .pop => match st with
    | (0, _) :: r => zzNx (rs, L, r)
    | (2, _) :: r => zzNx (rs, L, r)
    | _ => zzNo
  | .iadd => zzB2 st fun x y r => zzNx (rs, L, (0, zzAd x y) :: r)
  | .isub => zzB2 st fun x y r => zzNx (rs, L, (0, zzSb x y) :: r)
  | .imul => zzB2 st fun x y r => zzNx (rs, L, (0, zz2 (fun a b => w32 (a * b)) x y) :: r)
  | .idiv => zzB2 st fun x y r => zzIf (zzEq x.1 x.2 && (zzEq y.1 y.2 && !zzEq y.1 0)) (zzNx (rs, L, (0, (w32 (x.1.tdiv y.1), w32 (x.1.tdiv y.1))) :: r))
  | .irem => zzB2 st fun x y r => zzIf (zzEq x.1 x.2 && (zzEq y.1 y.2 && !zzEq y.1 0)) (zzNx (rs, L, (0, (x.1.tmod y.1, x.1.tmod y.1)) :: r))
  | .ineg => zzB1 st fun x r => zzNx (rs, L, (0, zz1 (fun a => w32 (-a)) x) :: r)
  | .ishl => zzB2 st fun x y r => zzNx (rs, L, (0, zz2 xShl x y) :: r)
  | .ishr => zzB2 st fun x y r => zzNx (rs, L, (0, zz2 xShr x y) :: r)
  | .iushr => zzB2 st fun x y r => zzNx (rs, L, (0, zz2 xUsh x y) :: r)
  | .iand => zzB2 st fun x y r => zzNx (rs, L, (0, zz2 xAnd x y) :: r)
  | .ior => zzB2 st fun x y r => zzNx (rs, L, (0, zz2 xOr x y) :: r)
  | .ixor => zzB2 st fun x y r => zzNx (rs, L, (0, zz2 xXor x y) :: r)
  | .i2l => zzB1 st fun x r => zzNx (rs, L, (1, x) :: r)
  | .l2i => zzJ1 st fun x r => zzNx (rs, L, (0, zz1 w32 x) :: r)
  | .i2b => zzB1 st fun x r => zzNx (rs, L, (0, zz1 w8 x) :: r)
  | .i2s => zzB1 st fun x r => zzNx (rs, L, (0, zz1 w16 x) :: r)
  | .ladd => zzJ2 st fun x y r => zzNx (rs, L, (1, zz2j (fun a b => w64 (a + b)) x y) :: r)
  | .lmul => zzJ2 st fun x y r => zzNx (rs, L, (1, zz2j (fun a b => w64 (a * b)) x y) :: r)
  | .land => zzJ2 st fun x y r => zzNx (rs, L, (1, zz2j xLand x y) :: r)
  | .lor => zzJ2 st fun x y r => zzNx (rs, L, (1, zz2j xLor x y) :: r)
  | .lshl => zzJi st fun x y r => zzNx (rs, L, (1, zz2j xLshl x y) :: r)
  | .lshr => zzJi st fun x y r => zzNx (rs, L, (1, zz2j xLshr x y) :: r)
  | .lcmp => zzJ2 st fun x y r => zzNx (rs, L, (0, (xLcmp x.1 y.2, xLcmp x.2 y.1)) :: r)
  | .ifCond c t => zzB1 st fun x r => zzBr c x (0, 0) (cd.drop t.toNat, L, r) (rs, L, r)
  | .if_icmp c t => zzB2 st fun x y r => zzBr c x y (cd.drop t.toNat, L, r) (rs, L, r)
  | .ifnull t => zzR1 st fun x r => zzBr .eq (x, x) (0, 0) (cd.drop t.toNat, L, r) (rs, L, r)
  | .ifnonnull t => zzR1 st fun x r => zzBr .ne (x, x) (0, 0) (cd.drop t.toNat, L, r) (rs, L, r)
  | .goto t => zzNx (cd.drop t.toNat, L, st)
  | .tableswitch t lo _ ts => match st with
    | (0, (x, y)) :: r => (match zzEq x y with
      | true => zzNx (cd.drop (zzSw x lo ts.toList t), L, r)
      | false => zzHk)
    | _ => zzNo
  | .iaload => zzA2 st fun a i r => zzIf (zzOk S m 20 a i) (zzNx (rs, L, (0, zzLd S m a i) :: r))
  | .baload => zzA2 st fun a i r => zzIf (zzOk S m 21 a i) (zzNx (rs, L, (0, zzLd S m a i) :: r))
  | .caload => zzA2 st fun a i r => zzIf (zzOk S m 22 a i) (zzNx (rs, L, (0, zzLd S m a i) :: r))
  | .laload => zzA2 st fun a i r => zzIf (zzOk S m 23 a i) (zzNx (rs, L, (1, zzLd S m a i) :: r))
  | .aaload => zzA2 st fun a i r => zzIf (zzOk4 S m a i) (zzNx (rs, L, (2, zzLd S m a i) :: r))
  | .iastore => zzA3 0 st fun a i x r => zzIf (zzLe 1 a && zzOk S m 20 a i) (zzSt (rs, L, r) (zzKey a i) x)
  | .bastore => zzA3 0 st fun a i x r => zzIf (zzLe 1 a && zzOk S m 21 a i) (zzSt (rs, L, r) (zzKey a i) (zz1 w8 x))
  | .castore => zzA3 0 st fun a i x r => zzIf (zzLe 1 a && (zzOk S m 22 a i && (zzLe 0 x.1 && zzLe x.2 1))) (zzSt (rs, L, r) (zzKey a i) x)
  | .lastore => zzA3 1 st fun a i x r => zzIf (zzLe 1 a && zzOk S m 23 a i) (zzSt (rs, L, r) (zzKey a i) x)
  | .aastore => zzA3 2 st fun a i x r => zzIf (zzLe 1 a && (zzOk4 S m a i && (zzEq x.1 x.2 && (zzLe 0 (zzKn S m x.1).1 && zzEq (xEl (zzKn S m a).1) (zzKn S m x.1).1)))) (zzSt (rs, L, r) (zzKey a i) x)
  | .arraylength => zzR1 st fun a r => zzIf (zzLe 20 (zzKn S m a).1) (zzNx (rs, L, (0, zzAl S m a) :: r))
  | .newarray t => zzB1 st fun x r => zzIf (zzEq x.1 x.2 && (zzLe 0 x.1 && (zzLe x.1 1000000 && (Nat.ble 1 m.2.2.1 && Nat.ble (m.2.2.1 + 1) 1023)))) (zzNw (rs, L, (2, ((m.2.2.1 : Int), (m.2.2.1 : Int))) :: r) (xAk t) x.1 x.1.toNat)
  | .anewarray κ => zzB1 st fun x r => zzIf (zzEq x.1 x.2 && (zzLe 0 x.1 && (zzLe x.1 1000000 && (Nat.ble 1 m.2.2.1 && Nat.ble (m.2.2.1 + 1) 1023)))) (zzNw (rs, L, (2, ((m.2.2.1 : Int), (m.2.2.1 : Int))) :: r) (κ : Int) x.1 x.1.toNat)
  | .multianewarray _ _ => zzB2 st fun x y r => zzIf (zzEq x.1 x.2 && (zzEq y.1 y.2 && (zzLe 0 x.1 && (zzLe x.1 1000 && (zzLe 0 y.1 && (zzLe y.1 1000 && (Nat.ble 1 m.2.2.1 && Nat.ble (m.2.2.1 + 1 + x.1.toNat) 1023))))))) (zzRp (rs, L, (2, ((m.2.2.1 : Int), (m.2.2.1 : Int))) :: r) (zzNm m x.1.toNat y.1))
  | .new c => zzIf (Nat.ble 1 m.2.2.1 && Nat.ble (m.2.2.1 + 1) 1023) (zzNw (rs, L, (2, ((m.2.2.1 : Int), (m.2.2.1 : Int))) :: st) (c : Int) 0 (xNs.getD c 0))
  | .getfield f => zzR1 st fun a r => zzIf (zzLe 1 a && zzEq (zzKn S m a).1 ((f / 1000 : Nat) : Int)) (zzNx (rs, L, (f % 10, zzRd m a ((f / 10 % 100 : Nat) : Int)) :: r))
  | .putfield f => match st with
    | (t, x) :: (2, (a, a2)) :: r => zzIf (zzEq a a2 && (zzLe 1 a && (zzEq (zzKn S m a).1 ((f / 1000 : Nat) : Int) && zzPt (f % 10) t x))) (zzSt (rs, L, r) (zzKey a ((f / 10 % 100 : Nat) : Int)) x)
    | _ => zzNo
  | .invokevirtual q => match (st.take (q / 4 % 20)).reverse, (Nat.ble (zzCat (st.drop (q / 4 % 20))) 8 && Nat.ble (q / 4 % 20) st.length) with
    | (2, (a, a2)) :: as, true => zzIf (zzEq a a2 && (zzEq (zzKn S m a).1 ((q / 80 % 100 : Nat) : Int) && zzNz as)) (zzCl (q / 8000) ((2, (a, a2)) :: as) (q % 4) (rs, L, st.drop (q / 4 % 20)))
    | _, _ => zzNo
  | .invokespecial q => match (st.take (q / 4 % 20)).reverse, (Nat.ble (zzCat (st.drop (q / 4 % 20))) 8 && Nat.ble (q / 4 % 20) st.length) with
    | (2, (a, a2)) :: as, true => zzIf (zzEq a a2 && (zzEq (zzKn S m a).1 ((q / 80 % 100 : Nat) : Int) && zzNz as)) (zzCl (q / 8000) ((2, (a, a2)) :: as) (q % 4) (rs, L, st.drop (q / 4 % 20)))
    | _, _ => zzNo
  | .invokestatic q => zzIf ((Nat.ble (zzCat (st.drop (q / 4 % 20))) 8 && Nat.ble (q / 4 % 20) st.length) && zzNz (st.take (q / 4 % 20)).reverse) (zzCl (q / 8000) (st.take (q / 4 % 20)).reverse (q % 4) (rs, L, st.drop (q / 4 % 20)))
  | .dneg => zzR1 st fun a r => zzIf (Nat.ble (zzCat r) 8 && (Nat.blt 0 d && zzLe 1 a)) (zzNx (rs, L, r))
  | .dadd => zzB2 st fun x y r => zzIf (Nat.ble (zzCat r) 8 && Nat.blt 0 d) (zzNx (rs, L, (0, (max x.1 y.1, max x.2 y.2)) :: r))
  | .dsub => zzB2 st fun x y r => zzIf (Nat.ble (zzCat r) 8 && Nat.blt 0 d) (zzNx (rs, L, (0, (min x.1 y.1, min x.2 y.2)) :: r))
  | .dmul => match st with
    | (0, (l, l2)) :: (0, (dp, dp2)) :: (2, (b, b2)) :: (0, (sp, sp2)) :: (2, (a, a2)) :: r => zzIf ((Nat.ble (zzCat r) 8 && (zzEq l l2 && (zzEq dp dp2 && (zzEq b b2 && (zzEq sp sp2 && zzEq a a2))))) && (Nat.blt 0 d && (zzLe 1 a && (zzLe 1 b && (zzEq (zzKn S m a).1 20 && (zzEq (zzKn S m b).1 20 && (zzLe 0 sp && (zzLe 0 dp && (zzLe 0 l && (zzLe (sp + l) (zzKn S m a).2 && (zzLe (dp + l) (zzKn S m b).2 && (zzLe (sp + l) 131072 && zzLe (dp + l) 131072)))))))))))) (zzRp (rs, L, r) (zzCpT m.1 m a sp b dp l.toNat, m.2))
    | _ => zzNo
  | .ireturn => match st with
    | [(0, x)] => zzRt x
    | _ => zzNo
  | .freturn => match st with
    | [(0, x)] => zzIf (zzLe 0 x.1 && zzLe x.2 1) (zzRt x)
    | _ => zzNo
  | .lreturn => match st with
    | [(1, x)] => zzRt x
    | _ => zzNo
  | .areturn => match st with
    | [(2, x)] => zzRt x
    | _ => zzNo
  | .return_ => match st with
    | [] => zzRt (0, 0)
    | _ => zzNo
  | _ => zzNo
/-! what an instruction's outcome must give -/
def zzSr (cd : List Instr) (s : zzS) (pc : Nat) (L st : List xV) : Prop := cd.drop pc = s.1 ∧ zzL s.2.1 L ∧ zzL s.2.2 st
noncomputable def zzAct (p : zzP) (m : zzMm) : zzMm := match p with
  | .inl none => m
  | .inl (some (k, v)) => (zzSet (0, 0) 27 m.1 k v, m.2)
  | .inr (.inl (κ, n, ns)) => (m.1, zzSet (-1, 0) 10 m.2.1 m.2.2.1 (κ, n), m.2.2.1 + 1, m.2.2.2 + ns)
  | .inr (.inr m2) => m2
def zzSat (call : xCallT) (k : xS → Prop) (Q : Int → xH → Prop) (cd : List Instr) (S : zzQ) (m : zzMm) : zzO → Prop
  | .inl (s, p) => ∀ pc L st H, zzSr cd s pc L st → zzW S (zzAct p m) H → k (pc, L, st, H)
  | .inr (.inl (a, b, s, t)) => (a = true → ∀ pc L st H, zzSr cd s pc L st → zzW S m H → k (pc, L, st, H)) ∧ (b = true → ∀ pc L st H, zzSr cd t pc L st → zzW S m H → k (pc, L, st, H))
  | .inr (.inr (.inl (j, as, rt, s))) => ∀ vs pc L st H, zzL as vs → zzSr cd s pc L st → zzW S m H → call j vs H (fun x H2 => k (pc, L, xPush rt x st, H2))
  | .inr (.inr (.inr (.inl v))) => ∀ x H, zzM v x → zzW S m H → Q x H
  | .inr (.inr (.inr (.inr _))) => False
section ZZ
variable {call : xCallT} {k : xS → Prop} {Q : Int → xH → Prop} {cd : List Instr} {S : zzQ} {m : zzMm}
theorem zzIf_ok {b : Bool} {o : zzO} (h : zzSat call k Q cd S m (zzIf b o)) : b = true ∧ zzSat call k Q cd S m o := by
  cases b
  · exact h.elim
  · exact ⟨rfl, h⟩
theorem zzNx_ok {rs : List Instr} {L st : List zzV} {pc : Nat} {L2 st2 : List xV} {H : xH} (hp : cd.drop pc = rs) (hL : zzL L L2) (hs : zzL st st2) (hW : zzW S m H) (h : zzSat call k Q cd S m (zzNx (rs, L, st))) : k (pc, L2, st2, H) := h pc L2 st2 H ⟨hp, hL, hs⟩ hW
theorem zzBr_ok {c : ClassFile.Cond} {x y : zzI} {a b : Int} {s t : zzS} {pc pc2 : Nat} {L st L2 st2 : List xV} {H : xH} {s1 t1 : xS} (hx : zzM x a) (hy : zzM y b) (h1 : zzSr cd s pc L st) (h2 : zzSr cd t pc2 L2 st2) (hW : zzW S m H) (e1 : s1 = (pc, L, st, H)) (e2 : t1 = (pc2, L2, st2, H)) (h : zzSat call k Q cd S m (zzBr c x y s t)) : xGo call k Q (xBr c a b s1 t1) := by
  subst e1; subst e2
  exact ⟨fun q => h.1 (zzTest_ok hx hy q) _ _ _ _ h1 hW, fun q => h.2 (zzTest_ok hx hy (zzNot_ok q)) _ _ _ _ h2 hW⟩
theorem zzB1_ok {s : xS} {st : List zzV} {st2 : List xV} {f : zzI → List zzV → zzO} {g : Int → List xV → xO} (hs : zzL st st2) (hf : ∀ x r a r2, zzM x a → zzL r r2 → zzSat call k Q cd S m (f x r) → xGo call k Q (g a r2)) (h : zzSat call k Q cd S m (zzB1 st f)) : xGo call k Q (xB1 s st2 g) := by
  unfold zzB1 at h
  split at h
  · match st2, hs with
    | (_, a) :: r2, hs =>
      obtain ⟨⟨e, hm⟩, hr⟩ := hs
      cases e
      exact hf _ _ _ _ hm hr h
  · exact h.elim
theorem zzB2_ok {s : xS} {st : List zzV} {st2 : List xV} {f : zzI → zzI → List zzV → zzO} {g : Int → Int → List xV → xO} (hs : zzL st st2) (hf : ∀ x y r a b r2, zzM x a → zzM y b → zzL r r2 → zzSat call k Q cd S m (f x y r) → xGo call k Q (g a b r2)) (h : zzSat call k Q cd S m (zzB2 st f)) : xGo call k Q (xB2 s st2 g) := by
  unfold zzB2 at h
  split at h
  · match st2, hs with
    | (_, b) :: (_, a) :: r2, hs =>
      obtain ⟨⟨e, hm⟩, ⟨e2, hm2⟩, hr⟩ := hs
      cases e; cases e2
      exact hf _ _ _ _ _ _ hm2 hm hr h
  · exact h.elim
theorem zzJ1_ok {s : xS} {st : List zzV} {st2 : List xV} {f : zzI → List zzV → zzO} {g : Int → List xV → xO} (hs : zzL st st2) (hf : ∀ x r a r2, zzM x a → zzL r r2 → zzSat call k Q cd S m (f x r) → xGo call k Q (g a r2)) (h : zzSat call k Q cd S m (zzJ1 st f)) : xGo call k Q (xJ1 s st2 g) := by
  unfold zzJ1 at h
  split at h
  · match st2, hs with
    | (_, a) :: r2, hs =>
      obtain ⟨⟨e, hm⟩, hr⟩ := hs
      cases e
      exact hf _ _ _ _ hm hr h
  · exact h.elim
theorem zzJ2_ok {s : xS} {st : List zzV} {st2 : List xV} {f : zzI → zzI → List zzV → zzO} {g : Int → Int → List xV → xO} (hs : zzL st st2) (hf : ∀ x y r a b r2, zzM x a → zzM y b → zzL r r2 → zzSat call k Q cd S m (f x y r) → xGo call k Q (g a b r2)) (h : zzSat call k Q cd S m (zzJ2 st f)) : xGo call k Q (xJ2 s st2 g) := by
  unfold zzJ2 at h
  split at h
  · match st2, hs with
    | (_, b) :: (_, a) :: r2, hs =>
      obtain ⟨⟨e, hm⟩, ⟨e2, hm2⟩, hr⟩ := hs
      cases e; cases e2
      exact hf _ _ _ _ _ _ hm2 hm hr h
  · exact h.elim
theorem zzJi_ok {s : xS} {st : List zzV} {st2 : List xV} {f : zzI → zzI → List zzV → zzO} {g : Int → Int → List xV → xO} (hs : zzL st st2) (hf : ∀ x y r a b r2, zzM x a → zzM y b → zzL r r2 → zzSat call k Q cd S m (f x y r) → xGo call k Q (g a b r2)) (h : zzSat call k Q cd S m (zzJi st f)) : xGo call k Q (xJi s st2 g) := by
  unfold zzJi at h
  split at h
  · match st2, hs with
    | (_, b) :: (_, a) :: r2, hs =>
      obtain ⟨⟨e, hm⟩, ⟨e2, hm2⟩, hr⟩ := hs
      cases e; cases e2
      exact hf _ _ _ _ _ _ hm2 hm hr h
  · exact h.elim
theorem zzR1_ok {s : xS} {st : List zzV} {st2 : List xV} {f : Int → List zzV → zzO} {g : Int → List xV → xO} (hs : zzL st st2) (hf : ∀ a r r2, zzL r r2 → zzSat call k Q cd S m (f a r) → xGo call k Q (g a r2)) (h : zzSat call k Q cd S m (zzR1 st f)) : xGo call k Q (xR1 s st2 g) := by
  unfold zzR1 at h
  split at h
  · match st2, hs with
    | (_, a) :: r2, hs =>
      obtain ⟨⟨e, hm⟩, hr⟩ := hs
      cases e
      obtain ⟨h1, h2⟩ := zzIf_ok h
      have := zzM_s hm h1
      subst this
      exact hf _ _ _ hr h2
  · exact h.elim
theorem zzA2_ok {s : xS} {st : List zzV} {st2 : List xV} {f : Int → Int → List zzV → zzO} {g : Int → Int → List xV → xO} (hs : zzL st st2) (hf : ∀ a i r r2, zzL r r2 → zzSat call k Q cd S m (f a i r) → xGo call k Q (g a i r2)) (h : zzSat call k Q cd S m (zzA2 st f)) : xGo call k Q (xA2 s st2 g) := by
  unfold zzA2 at h
  split at h
  · match st2, hs with
    | (_, b) :: (_, a) :: r2, hs =>
      obtain ⟨⟨e, hm⟩, ⟨e2, hm2⟩, hr⟩ := hs
      cases e; cases e2
      obtain ⟨h1, h2⟩ := zzIf_ok h
      rw [Bool.and_eq_true] at h1
      have := zzM_s hm h1.1
      subst this
      have := zzM_s hm2 h1.2
      subst this
      exact hf _ _ _ _ hr h2
  · exact h.elim
theorem zzA3_ok {t : Nat} {s : xS} {st : List zzV} {st2 : List xV} {f : Int → Int → zzI → List zzV → zzO} {g : Int → Int → Int → List xV → xO} (hs : zzL st st2) (hf : ∀ a i x r v r2, zzM x v → zzL r r2 → zzSat call k Q cd S m (f a i x r) → xGo call k Q (g a i v r2)) (h : zzSat call k Q cd S m (zzA3 t st f)) : xGo call k Q (xA3 s t st2 g) := by
  unfold zzA3 at h
  split at h
  · match st2, hs with
    | (u, v) :: (_, b) :: (_, a) :: r2, hs =>
      obtain ⟨⟨e0, hm0⟩, ⟨e, hm⟩, ⟨e2, hm2⟩, hr⟩ := hs
      cases e; cases e2; cases e0
      obtain ⟨h1, h2⟩ := zzIf_ok h
      rw [Bool.and_eq_true, Bool.and_eq_true] at h1
      have := zzM_s hm h1.2.1
      subst this
      have := zzM_s hm2 h1.2.2
      subst this
      unfold xA3
      simp only []
      rw [if_pos (Nat.eq_of_beq_eq_true h1.1)]
      exact hf _ _ _ _ _ _ hm0 hr h2
  · exact h.elim
theorem zzLo_ok {i t : Nat} {s : xS} {L : List zzV} {L2 : List xV} {f : zzV → zzO} {g : xV → xO} (hL : zzL L L2) (hf : ∀ v w, zzR v w → zzSat call k Q cd S m (f v) → xGo call k Q (g w)) (h : zzSat call k Q cd S m (zzLo L i t f)) : xGo call k Q (xLo L2 i t s g) := by
  have r := zzL_getD hL i
  unfold zzLo at h
  unfold xLo
  generalize L.getD i (9, (0, 0)) = a at h r
  generalize L2.getD i (9, 0) = b at r
  obtain ⟨u, x⟩ := a
  obtain ⟨u2, y⟩ := b
  obtain ⟨h1, h2⟩ := zzIf_ok h
  have e : u = u2 := r.1
  simp only []
  rw [if_pos (e.symm.trans (Nat.eq_of_beq_eq_true h1))]
  exact hf _ _ r h2
theorem zzSt_ok {rs : List Instr} {L st : List zzV} {pc : Nat} {L2 st2 : List xV} {H : xH} {a i x : Int} {v : zzI} (hp : cd.drop pc = rs) (hL : zzL L L2) (hs : zzL st st2) (hW : zzW S m H) (ha : 1 ≤ a) (ha2 : a < (m.2.2.1 : Int)) (hi : 0 ≤ i) (hi2 : i < 131072) (hv : zzM v x) (h : zzSat call k Q cd S m (zzSt (rs, L, st) (zzKey a i) v)) : k (pc, L2, st2, (xUp H.1 a i x, H.2)) := h pc L2 st2 _ ⟨hp, hL, hs⟩ (zzW_st hW ha ha2 hi hi2 hv)
theorem zzNw_ok {rs : List Instr} {L st : List zzV} {pc : Nat} {L2 st2 : List xV} {H : xH} {κ n : Int} {ns : Nat} (hp : cd.drop pc = rs) (hL : zzL L L2) (hs : zzL st st2) (hW : zzW S m H) (h1 : Nat.ble 1 m.2.2.1 = true) (h2 : Nat.ble (m.2.2.1 + 1) 1023 = true) (h : zzSat call k Q cd S m (zzNw (rs, L, st) κ n ns)) : k (pc, L2, st2, xNw H κ n ns) := h pc L2 st2 _ ⟨hp, hL, hs⟩ (zzW_nw hW (Nat.le_of_ble_eq_true h1) (Nat.le_of_ble_eq_true h2) κ n ns)
theorem zzNz_ok {p : Prop} (hp : p) : ∀ {as : List zzV} {vs : List xV}, zzL as vs → zzNz as = true → xNz p vs
  | [], [], _, _ => hp
  | (t, (x, y)) :: r, (t2, z) :: s, h, hn => by
    obtain ⟨⟨e, hm⟩, hr⟩ := h
    have e : t = t2 := e
    subst e
    by_cases h2 : t = 2
    · subst h2
      have hn : (zzEq x y && (!zzEq x 0 && zzNz r)) = true := hn
      rw [Bool.and_eq_true, Bool.and_eq_true] at hn
      have e := zzM_s hm hn.1
      have hz : zzEq x 0 = false := by cases e : zzEq x 0; rfl; rw [e] at hn; exact absurd hn.2.1 (by decide)
      exact ⟨by rw [e]; exact zzEq_no hz, zzNz_ok hp hr hn.2.2⟩
    · have e1 : zzNz ((t, (x, y)) :: r) = zzNz r := by
        conv => lhs; unfold zzNz
        split
        · simp_all
        · simp_all
        · simp_all
      have e2 : xNz p ((t, z) :: s) = xNz p s := by
        conv => lhs; unfold xNz
        split
        · simp_all
        · simp_all
        · simp_all
      rw [e2]
      rw [e1] at hn
      exact zzNz_ok hp hr hn
theorem zzPt_ok {ty t : Nat} {x : zzI} {a : Int} {p : Prop} (hp : p) (hx : zzM x a) (h : zzPt ty t x = true) : xPt ty t a p := by
  unfold zzPt at h
  split at h
  · exact hp
  · exact hp
  · exact hp
  · rw [Bool.and_eq_true] at h
    have h1 := zzLe_ok h.1
    have h2 := zzLe_ok h.2
    have h3 : x.1 ≤ a := hx.1
    have h4 : a ≤ x.2 := hx.2
    exact ⟨hp, by omega⟩
  · cases h
end ZZ
