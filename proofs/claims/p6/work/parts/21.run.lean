section XRUN
variable {p : Program} {l : Launch} {e : Env} {R : Room} {s : State} {m : MethodId} {args : Array Value} {below : List Frame} {meth : Method} {c : Code}
variable {J : xJT} {A : Nat → Prop} {Z : State → Prop} {nL c0 s0 own d : Nat} {cc : ByteArray} {ps : List Nat} {cd : List Instr} {M0 : xH} {r0 : Int} {ini : Bool} {ret : Option FieldType}
theorem xRd_ok {S : xS} (h : xOk S.2.2.2 → xRd (p, l, e, R, s, m, args, below, meth, c) J A Z nL c0 s0 ps S) : xRd (p, l, e, R, s, m, args, below, meth, c) J A Z nL c0 s0 ps S := fun G H locs ls hR hF h1 h2 => h hR.1 G H locs ls hR hF h1 h2
set_option maxHeartbeats 4000000 in
theorem xRun (C : xCtx p R s m args c own cc nL d J A) (hS : xSnd l d) (hP : xPts own ini ret cc cd ps) (hini : ini = true → meth.name = "<init>") (hsp : ∀ q, Instr.invokespecial q ∈ cd → q / 80 % 100 < 13) (hl1 : M0.2.2.2.1 ≤ c0 + R.cells) (hl2 : M0.2.2.2.2 ≤ s0 + R.slots)
    (hRet : ∀ (pc : Nat) (L : List xV) (M' : xH) (rt : Nat) (x : Int), xRetEv cc (ps.getD pc 0) ret rt x → (x = r0 ∧ M' = M0) → xRd (p, l, e, R, s, m, args, below, meth, c) J A Z nL c0 s0 ps (pc, L, xPush rt x [], M')) :
    ∀ (n pc : Nat) (L st : List xV) (M : xH), xWp d (xCall d) cd (fun r H => r = r0 ∧ H = M0) n pc L st M → xRd (p, l, e, R, s, m, args, below, meth, c) J A Z nL c0 s0 ps (pc, L, st, M) := by
  intro n
  induction n with
  | zero => intro pc L st M h; exact absurd h id
  | succ n ih =>
    intro pc L st M h
    apply xRd_ok
    intro hok
    replace hok : xOk M := hok
    have hok2 : ∀ a : Int, 0 ≤ M.2.1 a → M.2.1 a < 13 → 0 < a := fun a h1 h2 => (xOk_obj hok (c := (M.2.1 a).toNat) (by omega) (by omega)).1
    have hk : ∀ S : xS, xWp d (xCall d) cd (fun r H => r = r0 ∧ H = M0) n S.1 S.2.1 S.2.2.1 S.2.2.2 → xRd (p, l, e, R, s, m, args, below, meth, c) J A Z nL c0 s0 ps S ∧ S.2.2.2.2.2.2.1 ≤ c0 + R.cells ∧ S.2.2.2.2.2.2.2 ≤ s0 + R.slots := fun S hw => by
      obtain ⟨r, H', ⟨-, e2⟩, q2, -⟩ := xWp_det (xCall_md d).1 (xCall_md d).2 n _ _ _ _ hw
      subst e2
      exact ⟨ih _ _ _ _ hw, Nat.le_trans q2.1 hl1, Nat.le_trans q2.2 hl2⟩
    have h : xGo (xCall d) (fun S => xWp d (xCall d) cd (fun r H => r = r0 ∧ H = M0) n S.1 S.2.1 S.2.2.1 S.2.2.2) (fun r H => r = r0 ∧ H = M0) (xNext d (cd.getD pc .nop) pc L st M) := h
    cases ha : cd[pc]? with
    | none =>
      rw [List.getD_eq_getElem?_getD, ha] at h
      exact absurd h.1 id
    | some a =>
      obtain ⟨i, len, hp, hlen, hck, hnx⟩ := hP pc a ha
      rw [List.getD_eq_getElem?_getD, ha] at h
      have h : xGo (xCall d) (fun S => xWp d (xCall d) cd (fun r H => r = r0 ∧ H = M0) n S.1 S.2.1 S.2.2.1 S.2.2.2) (fun r H => r = r0 ∧ H = M0) (xNext d a pc L st M) := h
      match a, ha, hck, hnx, h with
      | .iadd, ha, hck, hnx, h => exact st_iadd C hp hlen hck hnx hk h
      | .isub, ha, hck, hnx, h => exact st_isub C hp hlen hck hnx hk h
      | .imul, ha, hck, hnx, h => exact st_imul C hp hlen hck hnx hk h
      | .idiv, ha, hck, hnx, h => exact st_idiv C hp hlen hck hnx hk h
      | .irem, ha, hck, hnx, h => exact st_irem C hp hlen hck hnx hk h
      | .ineg, ha, hck, hnx, h => exact st_ineg C hp hlen hck hnx hk h
      | .ishl, ha, hck, hnx, h => exact st_ishl C hp hlen hck hnx hk h
      | .ishr, ha, hck, hnx, h => exact st_ishr C hp hlen hck hnx hk h
      | .iushr, ha, hck, hnx, h => exact st_iushr C hp hlen hck hnx hk h
      | .iand, ha, hck, hnx, h => exact st_iand C hp hlen hck hnx hk h
      | .ior, ha, hck, hnx, h => exact st_ior C hp hlen hck hnx hk h
      | .ixor, ha, hck, hnx, h => exact st_ixor C hp hlen hck hnx hk h
      | .i2l, ha, hck, hnx, h => exact st_i2l C hp hlen hck hnx hk h
      | .l2i, ha, hck, hnx, h => exact st_l2i C hp hlen hck hnx hk h
      | .i2b, ha, hck, hnx, h => exact st_i2b C hp hlen hck hnx hk h
      | .i2s, ha, hck, hnx, h => exact st_i2s C hp hlen hck hnx hk h
      | .ladd, ha, hck, hnx, h => exact st_ladd C hp hlen hck hnx hk h
      | .lmul, ha, hck, hnx, h => exact st_lmul C hp hlen hck hnx hk h
      | .ldiv, ha, hck, hnx, h => exact st_ldiv C hp hlen hck hnx hk h
      | .lrem, ha, hck, hnx, h => exact st_lrem C hp hlen hck hnx hk h
      | .land, ha, hck, hnx, h => exact st_land C hp hlen hck hnx hk h
      | .lor, ha, hck, hnx, h => exact st_lor C hp hlen hck hnx hk h
      | .lshl, ha, hck, hnx, h => exact st_lshl C hp hlen hck hnx hk h
      | .lshr, ha, hck, hnx, h => exact st_lshr C hp hlen hck hnx hk h
      | .lcmp, ha, hck, hnx, h => exact st_lcmp C hp hlen hck hnx hk h
      | .dup, ha, hck, hnx, h => exact st_dup C hp hlen hck hnx hk h
      | .dup2, ha, hck, hnx, h => exact st_dup2 C hp hlen hck hnx hk h
      | .pop, ha, hck, hnx, h => exact st_pop C hp hlen hck hnx hk h
      | .iaload, ha, hck, hnx, h => exact st_iaload C hp hlen hck hnx hk h
      | .laload, ha, hck, hnx, h => exact st_laload C hp hlen hck hnx hk h
      | .aaload, ha, hck, hnx, h => exact st_aaload C hp hlen hck hnx hk h
      | .baload, ha, hck, hnx, h => exact st_baload C hp hlen hck hnx hk h
      | .caload, ha, hck, hnx, h => exact st_caload C hp hlen hck hnx hk h
      | .iastore, ha, hck, hnx, h => exact st_iastore C hp hlen hck hnx hk h
      | .lastore, ha, hck, hnx, h => exact st_lastore C hp hlen hck hnx hk h
      | .bastore, ha, hck, hnx, h => exact st_bastore C hp hlen hck hnx hk h
      | .castore, ha, hck, hnx, h => exact st_castore C hp hlen hck hnx hk h
      | .aastore, ha, hck, hnx, h => exact st_aastore C hp hlen hck hnx hk h
      | .arraylength, ha, hck, hnx, h => exact st_arraylength C hp hlen hck hnx hk h
      | .dneg, ha, hck, hnx, h => exact st_dneg C hp hlen hck hnx hk h
      | .dadd, ha, hck, hnx, h => exact st_dadd C hp hlen hck hnx hk h
      | .dsub, ha, hck, hnx, h => exact st_dsub C hp hlen hck hnx hk h
      | .dmul, ha, hck, hnx, h => exact st_dmul C hp hlen hck hnx hk h
      | .ddiv, ha, hck, hnx, h => exact st_ddiv C hp hlen hck hnx hk h
      | .d2i, ha, hck, hnx, h => exact st_d2i C hp hlen hck hnx hk h
      | .d2l, ha, hck, hnx, h => exact st_d2l C hp hlen hck hnx hk h
      | .iload _, ha, hck, hnx, h => exact st_iload C hp hlen hck hnx hk h
      | .lload _, ha, hck, hnx, h => exact st_lload C hp hlen hck hnx hk h
      | .aload _, ha, hck, hnx, h => exact st_aload C hp hlen hck hnx hk h
      | .istore _, ha, hck, hnx, h => exact st_istore C hp hlen hck hnx hk h
      | .lstore _, ha, hck, hnx, h => exact st_lstore C hp hlen hck hnx hk h
      | .astore _, ha, hck, hnx, h => exact st_astore C hp hlen hck hnx hk h
      | .iconst _, ha, hck, hnx, h => exact st_iconst C hp hlen hck hnx hk h
      | .jsr _, ha, hck, hnx, h => exact st_jsr C hp hlen hck hnx hk h
      | .ldc _, ha, hck, hnx, h => exact st_ldc C hp hlen hck hnx hk h
      | .ifnull _, ha, hck, hnx, h => exact st_ifnull C hp hlen hck hnx hk h
      | .ifnonnull _, ha, hck, hnx, h => exact st_ifnonnull C hp hlen hck hnx hk h
      | .goto _, ha, hck, hnx, h => exact st_goto C hp hlen hck hnx hk h
      | .newarray _, ha, hck, hnx, h => exact st_newarray C hp hlen hck hnx hk h
      | .anewarray _, ha, hck, hnx, h => exact st_anewarray C hp hlen hck hnx hk h
      | .new _, ha, hck, hnx, h => exact st_new C hp hlen hck hnx hk h
      | .getfield _, ha, hck, hnx, h => exact st_getfield C hp hlen hck hnx hk h
      | .iinc _ _, ha, hck, hnx, h => exact st_iinc C hp hlen hck hnx hk h
      | .ifCond _ _, ha, hck, hnx, h => exact st_ifCond C hp hlen hck hnx hk h
      | .if_icmp _ _, ha, hck, hnx, h => exact st_if_icmp C hp hlen hck hnx hk h
      | .multianewarray _ _, ha, hck, hnx, h => exact st_multianewarray C hp hlen hck hnx hk h
      | .tableswitch _ _ _ _, ha, hck, hnx, h => exact st_tableswitch C hp hlen hck hnx hk h
      | .putfield _, ha, hck, hnx, h => exact st_putfield C hini hp hlen hck hnx hk h
      | .invokestatic _, ha, hck, hnx, h => exact st_callS C hS hp hlen hck hnx hk h
      | .invokevirtual _, ha, hck, hnx, h => exact st_callV C hS hp hlen hck hnx hok2 hk h
      | .invokespecial q, ha, hck, hnx, h => exact st_callI C hS hp hlen hck hnx hok2 (hsp q (List.mem_of_getElem? ha)) hk h
      | .ireturn, ha, hck, hnx, h => exact st_ret hRet (Or.inl rfl) hp hlen hck h
      | .freturn, ha, hck, hnx, h => exact st_ret hRet (Or.inr (Or.inl rfl)) hp hlen hck h
      | .lreturn, ha, hck, hnx, h => exact st_ret hRet (Or.inr (Or.inr (Or.inl rfl))) hp hlen hck h
      | .areturn, ha, hck, hnx, h => exact st_ret hRet (Or.inr (Or.inr (Or.inr (Or.inl rfl)))) hp hlen hck h
      | .return_, ha, hck, hnx, h => exact st_ret hRet (Or.inr (Or.inr (Or.inr (Or.inr (rfl))))) hp hlen hck h
      | .aconst_null, ha, hck, hnx, h => exact absurd h.1 id
      | .aload_n _, ha, hck, hnx, h => exact absurd h.1 id
      | .astore_n _, ha, hck, hnx, h => exact absurd h.1 id
      | .athrow, ha, hck, hnx, h => exact absurd h.1 id
      | .bipush _, ha, hck, hnx, h => exact absurd h.1 id
      | .checkcast _, ha, hck, hnx, h => exact absurd h.1 id
      | .d2f, ha, hck, hnx, h => exact absurd h.1 id
      | .daload, ha, hck, hnx, h => exact absurd h.1 id
      | .dastore, ha, hck, hnx, h => exact absurd h.1 id
      | .dcmp _, ha, hck, hnx, h => exact absurd h.1 id
      | .dconst _, ha, hck, hnx, h => exact absurd h.1 id
      | .dload _, ha, hck, hnx, h => exact absurd h.1 id
      | .dload_n _, ha, hck, hnx, h => exact absurd h.1 id
      | .drem, ha, hck, hnx, h => exact absurd h.1 id
      | .dreturn, ha, hck, hnx, h => exact absurd h.1 id
      | .dstore _, ha, hck, hnx, h => exact absurd h.1 id
      | .dstore_n _, ha, hck, hnx, h => exact absurd h.1 id
      | .dup_x1, ha, hck, hnx, h => exact absurd h.1 id
      | .dup_x2, ha, hck, hnx, h => exact absurd h.1 id
      | .dup2_x1, ha, hck, hnx, h => exact absurd h.1 id
      | .dup2_x2, ha, hck, hnx, h => exact absurd h.1 id
      | .f2d, ha, hck, hnx, h => exact absurd h.1 id
      | .f2i, ha, hck, hnx, h => exact absurd h.1 id
      | .f2l, ha, hck, hnx, h => exact absurd h.1 id
      | .fadd, ha, hck, hnx, h => exact absurd h.1 id
      | .faload, ha, hck, hnx, h => exact absurd h.1 id
      | .fastore, ha, hck, hnx, h => exact absurd h.1 id
      | .fcmp _, ha, hck, hnx, h => exact absurd h.1 id
      | .fconst _, ha, hck, hnx, h => exact absurd h.1 id
      | .fdiv, ha, hck, hnx, h => exact absurd h.1 id
      | .fload _, ha, hck, hnx, h => exact absurd h.1 id
      | .fload_n _, ha, hck, hnx, h => exact absurd h.1 id
      | .fmul, ha, hck, hnx, h => exact absurd h.1 id
      | .fneg, ha, hck, hnx, h => exact absurd h.1 id
      | .frem, ha, hck, hnx, h => exact absurd h.1 id
      | .fstore _, ha, hck, hnx, h => exact absurd h.1 id
      | .fstore_n _, ha, hck, hnx, h => exact absurd h.1 id
      | .fsub, ha, hck, hnx, h => exact absurd h.1 id
      | .getstatic _, ha, hck, hnx, h => exact absurd h.1 id
      | .goto_w _, ha, hck, hnx, h => exact absurd h.1 id
      | .i2c, ha, hck, hnx, h => exact absurd h.1 id
      | .i2d, ha, hck, hnx, h => exact absurd h.1 id
      | .i2f, ha, hck, hnx, h => exact absurd h.1 id
      | .if_acmp _ _, ha, hck, hnx, h => exact absurd h.1 id
      | .iload_n _, ha, hck, hnx, h => exact absurd h.1 id
      | .instanceof _, ha, hck, hnx, h => exact absurd h.1 id
      | .invokedynamic _, ha, hck, hnx, h => exact absurd h.1 id
      | .invokeinterface _ _, ha, hck, hnx, h => exact absurd h.1 id
      | .istore_n _, ha, hck, hnx, h => exact absurd h.1 id
      | .jsr_w _, ha, hck, hnx, h => exact absurd h.1 id
      | .l2d, ha, hck, hnx, h => exact absurd h.1 id
      | .l2f, ha, hck, hnx, h => exact absurd h.1 id
      | .lconst _, ha, hck, hnx, h => exact absurd h.1 id
      | .ldc_w _, ha, hck, hnx, h => exact absurd h.1 id
      | .ldc2_w _, ha, hck, hnx, h => exact absurd h.1 id
      | .lload_n _, ha, hck, hnx, h => exact absurd h.1 id
      | .lneg, ha, hck, hnx, h => exact absurd h.1 id
      | .lookupswitch _ _, ha, hck, hnx, h => exact absurd h.1 id
      | .lstore_n _, ha, hck, hnx, h => exact absurd h.1 id
      | .lsub, ha, hck, hnx, h => exact absurd h.1 id
      | .lushr, ha, hck, hnx, h => exact absurd h.1 id
      | .lxor, ha, hck, hnx, h => exact absurd h.1 id
      | .monitorenter, ha, hck, hnx, h => exact absurd h.1 id
      | .monitorexit, ha, hck, hnx, h => exact absurd h.1 id
      | .nop, ha, hck, hnx, h => exact absurd h.1 id
      | .pop2, ha, hck, hnx, h => exact absurd h.1 id
      | .putstatic _, ha, hck, hnx, h => exact absurd h.1 id
      | .ret _, ha, hck, hnx, h => exact absurd h.1 id
      | .saload, ha, hck, hnx, h => exact absurd h.1 id
      | .sastore, ha, hck, hnx, h => exact absurd h.1 id
      | .sipush _, ha, hck, hnx, h => exact absurd h.1 id
      | .swap, ha, hck, hnx, h => exact absurd h.1 id
end XRUN
