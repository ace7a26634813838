/-! rows for methods by hand: one instruction each -/
section QQ
variable {d : Nat} {cd : List Instr} {Q : Int → xH → Prop} {pc : Nat} {L L' st r : List xV} {H : xH}
theorem q_ic {v : Int} (h : cd.getD pc .nop = .iconst v) (k : xW d cd Q (pc + 1, L, (0, v) :: st, H)) : xW d cd Q (pc, L, st, H) := xW_step (by rw [h]; exact k)
theorem q_lc {v : Int} (h : cd.getD pc .nop = .jsr v) (k : xW d cd Q (pc + 1, L, (1, v) :: st, H)) : xW d cd Q (pc, L, st, H) := xW_step (by rw [h]; exact k)
theorem q_sc {j : Nat} (h : cd.getD pc .nop = .ldc j) (k : xW d cd Q (pc + 1, L, (2, -2 - (j : Int)) :: st, H)) : xW d cd Q (pc, L, st, H) := xW_step (by rw [h]; exact k)
theorem q_lo {t i : Nat} {x : Int} {s : xS} {f : xV → xO} {call : xCallT} {kk : xS → Prop} (hl : L.getD i (9, 0) = (t, x)) (k : xGo call kk Q (f (t, x))) : xGo call kk Q (xLo L i t s f) := by
  unfold xLo
  rw [hl]
  simp only []
  rw [if_pos trivial]
  exact k
theorem q_il {i : Nat} {x : Int} (h : cd.getD pc .nop = .iload i) (hl : L.getD i (9, 0) = (0, x)) (k : xW d cd Q (pc + 1, L, (0, x) :: st, H)) : xW d cd Q (pc, L, st, H) := xW_step (by rw [h]; simp only [xNext]; refine q_lo hl ?_; exact k)
theorem q_ll {i : Nat} {x : Int} (h : cd.getD pc .nop = .lload i) (hl : L.getD i (9, 0) = (1, x)) (k : xW d cd Q (pc + 1, L, (1, x) :: st, H)) : xW d cd Q (pc, L, st, H) := xW_step (by rw [h]; simp only [xNext]; refine q_lo hl ?_; exact k)
theorem q_al {i : Nat} {x : Int} (h : cd.getD pc .nop = .aload i) (hl : L.getD i (9, 0) = (2, x)) (k : xW d cd Q (pc + 1, L, (2, x) :: st, H)) : xW d cd Q (pc, L, st, H) := xW_step (by rw [h]; simp only [xNext]; refine q_lo hl ?_; exact k)
theorem q_is {i : Nat} {x : Int} (h : cd.getD pc .nop = .istore i) (hb : Nat.blt i L.length = true) (hL : xSt1 L i (0, x) = L') (k : xW d cd Q (pc + 1, L', r, H)) : xW d cd Q (pc, L, (0, x) :: r, H) := xW_step (by rw [h]; exact ttIf hb (by rw [hL]; exact k))
theorem q_ls {i : Nat} {x : Int} (h : cd.getD pc .nop = .lstore i) (hb : Nat.blt (i + 1) L.length = true) (hL : xSt2 L i (1, x) = L') (k : xW d cd Q (pc + 1, L', r, H)) : xW d cd Q (pc, L, (1, x) :: r, H) := xW_step (by rw [h]; exact ttIf hb (by rw [hL]; exact k))
theorem q_as {i : Nat} {x : Int} (h : cd.getD pc .nop = .astore i) (hb : Nat.blt i L.length = true) (hL : xSt1 L i (2, x) = L') (hx : x ≠ 0) (k : xW d cd Q (pc + 1, L', r, H)) : xW d cd Q (pc, L, (2, x) :: r, H) := xW_step (by rw [h]; exact ttIf hb ⟨hx, by rw [hL]; exact k⟩)
theorem q_ii {i : Nat} {c x : Int} (h : cd.getD pc .nop = .iinc i c) (hl : L.getD i (9, 0) = (0, x)) (hb : Nat.blt i L.length = true) (h1 : -2147483648 ≤ x + c) (h2 : x + c < 2147483648) (hL : xSt1 L i (0, x + c) = L') (k : xW d cd Q (pc + 1, L', st, H)) : xW d cd Q (pc, L, st, H) := xW_step (by
  rw [h]
  simp only [xNext]
  refine q_lo hl ?_
  refine ttIf hb ?_
  rw [w32_eq (show (-2147483648 : Int) ≤ x + c ∧ x + c < 2147483648 from ⟨h1, h2⟩), hL]
  exact k)
theorem q_d0 {x : Int} (h : cd.getD pc .nop = .dup) (k : xW d cd Q (pc + 1, L, (0, x) :: (0, x) :: r, H)) : xW d cd Q (pc, L, (0, x) :: r, H) := xW_step (by rw [h]; exact k)
theorem q_d2 {x : Int} (h : cd.getD pc .nop = .dup) (k : xW d cd Q (pc + 1, L, (2, x) :: (2, x) :: r, H)) : xW d cd Q (pc, L, (2, x) :: r, H) := xW_step (by rw [h]; exact k)
theorem q_dd {a i : Int} (h : cd.getD pc .nop = .dup2) (k : xW d cd Q (pc + 1, L, (0, i) :: (2, a) :: (0, i) :: (2, a) :: r, H)) : xW d cd Q (pc, L, (0, i) :: (2, a) :: r, H) := xW_step (by rw [h]; exact k)
theorem q_pp {x : Int} (h : cd.getD pc .nop = .pop) (k : xW d cd Q (pc + 1, L, r, H)) : xW d cd Q (pc, L, (0, x) :: r, H) := xW_step (by rw [h]; exact k)
theorem q_ia {x y : Int} (h : cd.getD pc .nop = .iadd) (h1 : -2147483648 ≤ x + y) (h2 : x + y < 2147483648) (k : xW d cd Q (pc + 1, L, (0, x + y) :: r, H)) : xW d cd Q (pc, L, (0, y) :: (0, x) :: r, H) := xW_step (by
  rw [h]
  show xW d cd Q (pc + 1, L, (0, w32 (x + y)) :: r, H)
  rw [w32_eq (show (-2147483648 : Int) ≤ x + y ∧ x + y < 2147483648 from ⟨h1, h2⟩)]
  exact k)
theorem q_ib {x y : Int} (h : cd.getD pc .nop = .isub) (h1 : -2147483648 ≤ x - y) (h2 : x - y < 2147483648) (k : xW d cd Q (pc + 1, L, (0, x - y) :: r, H)) : xW d cd Q (pc, L, (0, y) :: (0, x) :: r, H) := xW_step (by
  rw [h]
  show xW d cd Q (pc + 1, L, (0, w32 (x - y)) :: r, H)
  rw [w32_eq (show (-2147483648 : Int) ≤ x - y ∧ x - y < 2147483648 from ⟨h1, h2⟩)]
  exact k)
theorem q_im {x y : Int} (h : cd.getD pc .nop = .imul) (h1 : -2147483648 ≤ x * y) (h2 : x * y < 2147483648) (k : xW d cd Q (pc + 1, L, (0, x * y) :: r, H)) : xW d cd Q (pc, L, (0, y) :: (0, x) :: r, H) := xW_step (by
  rw [h]
  show xW d cd Q (pc + 1, L, (0, w32 (x * y)) :: r, H)
  rw [w32_eq (show (-2147483648 : Int) ≤ x * y ∧ x * y < 2147483648 from ⟨h1, h2⟩)]
  exact k)
/-- whatever comes out -/
theorem q_wa {x y : Int} (h : cd.getD pc .nop = .iadd) (k : xW d cd Q (pc + 1, L, (0, w32 (x + y)) :: r, H)) : xW d cd Q (pc, L, (0, y) :: (0, x) :: r, H) := xW_step (by rw [h]; exact k)
theorem q_wb {x y : Int} (h : cd.getD pc .nop = .isub) (k : xW d cd Q (pc + 1, L, (0, w32 (x - y)) :: r, H)) : xW d cd Q (pc, L, (0, y) :: (0, x) :: r, H) := xW_step (by rw [h]; exact k)
theorem q_wm {x y : Int} (h : cd.getD pc .nop = .imul) (k : xW d cd Q (pc + 1, L, (0, w32 (x * y)) :: r, H)) : xW d cd Q (pc, L, (0, y) :: (0, x) :: r, H) := xW_step (by rw [h]; exact k)
theorem q_wd {x y : Int} (h : cd.getD pc .nop = .idiv) (h1 : y ≠ 0) (k : xW d cd Q (pc + 1, L, (0, w32 (x.tdiv y)) :: r, H)) : xW d cd Q (pc, L, (0, y) :: (0, x) :: r, H) := xW_step (by rw [h]; exact ⟨h1, k⟩)
theorem q_ir {x y : Int} (h : cd.getD pc .nop = .irem) (h1 : y ≠ 0) (k : xW d cd Q (pc + 1, L, (0, x.tmod y) :: r, H)) : xW d cd Q (pc, L, (0, y) :: (0, x) :: r, H) := xW_step (by rw [h]; exact ⟨h1, k⟩)
theorem q_in {x : Int} (h : cd.getD pc .nop = .ineg) (k : xW d cd Q (pc + 1, L, (0, w32 (-x)) :: r, H)) : xW d cd Q (pc, L, (0, x) :: r, H) := xW_step (by rw [h]; exact k)
theorem q_sl {x y : Int} (h : cd.getD pc .nop = .ishl) (k : xW d cd Q (pc + 1, L, (0, xShl x y) :: r, H)) : xW d cd Q (pc, L, (0, y) :: (0, x) :: r, H) := xW_step (by rw [h]; exact k)
theorem q_sr {x y : Int} (h : cd.getD pc .nop = .ishr) (k : xW d cd Q (pc + 1, L, (0, xShr x y) :: r, H)) : xW d cd Q (pc, L, (0, y) :: (0, x) :: r, H) := xW_step (by rw [h]; exact k)
theorem q_an {x y : Int} (h : cd.getD pc .nop = .iand) (k : xW d cd Q (pc + 1, L, (0, xAnd x y) :: r, H)) : xW d cd Q (pc, L, (0, y) :: (0, x) :: r, H) := xW_step (by rw [h]; exact k)
theorem q_or {x y : Int} (h : cd.getD pc .nop = .ior) (k : xW d cd Q (pc + 1, L, (0, xOr x y) :: r, H)) : xW d cd Q (pc, L, (0, y) :: (0, x) :: r, H) := xW_step (by rw [h]; exact k)
theorem q_xo {x y : Int} (h : cd.getD pc .nop = .ixor) (k : xW d cd Q (pc + 1, L, (0, xXor x y) :: r, H)) : xW d cd Q (pc, L, (0, y) :: (0, x) :: r, H) := xW_step (by rw [h]; exact k)
theorem q_2l {x : Int} (h : cd.getD pc .nop = .i2l) (k : xW d cd Q (pc + 1, L, (1, x) :: r, H)) : xW d cd Q (pc, L, (0, x) :: r, H) := xW_step (by rw [h]; exact k)
theorem q_l2 {x : Int} (h : cd.getD pc .nop = .l2i) (k : xW d cd Q (pc + 1, L, (0, w32 x) :: r, H)) : xW d cd Q (pc, L, (1, x) :: r, H) := xW_step (by rw [h]; exact k)
theorem q_la {x y : Int} (h : cd.getD pc .nop = .ladd) (k : xW d cd Q (pc + 1, L, (1, w64 (x + y)) :: r, H)) : xW d cd Q (pc, L, (1, y) :: (1, x) :: r, H) := xW_step (by rw [h]; exact k)
theorem q_lb {x y : Int} (h : cd.getD pc .nop = .ladd) (h1 : -9223372036854775808 ≤ x + y) (h2 : x + y < 9223372036854775808) (k : xW d cd Q (pc + 1, L, (1, x + y) :: r, H)) : xW d cd Q (pc, L, (1, y) :: (1, x) :: r, H) := xW_step (by
  rw [h]
  show xW d cd Q (pc + 1, L, (1, w64 (x + y)) :: r, H)
  rw [w64_eq (show (-9223372036854775808 : Int) ≤ x + y ∧ x + y < 9223372036854775808 from ⟨h1, h2⟩)]
  exact k)
/-- lcmp and what is asked of it -/
theorem q_lcm {c : ClassFile.Cond} {t : Int} {x y : Int} (h : cd.getD pc .nop = .lcmp) (h2 : cd.getD (pc + 1) .nop = .ifCond c t) (k1 : xT c x y → xW d cd Q (t.toNat, L, r, H)) (k2 : xN c x y → xW d cd Q (pc + 2, L, r, H)) : xW d cd Q (pc, L, (1, y) :: (1, x) :: r, H) := xW_step (by
  rw [h]
  refine xW_step (show xGo (xCall d) (xW d cd Q) Q (xNext d (cd.getD (pc + 1) .nop) (pc + 1) L ((0, xLcmp x y) :: r) H) from ?_)
  rw [h2]
  exact ⟨fun z => k1 (xT_lcmp.1 z), fun z => k2 (xT_lcmp.2 z)⟩)
theorem q_if {c : ClassFile.Cond} {t : Int} {x : Int} (h : cd.getD pc .nop = .ifCond c t) (k1 : xT c x 0 → xW d cd Q (t.toNat, L, r, H)) (k2 : xN c x 0 → xW d cd Q (pc + 1, L, r, H)) : xW d cd Q (pc, L, (0, x) :: r, H) := xW_step (by rw [h]; exact ⟨k1, k2⟩)
theorem q_i2 {c : ClassFile.Cond} {t : Int} {x y : Int} (h : cd.getD pc .nop = .if_icmp c t) (k1 : xT c x y → xW d cd Q (t.toNat, L, r, H)) (k2 : xN c x y → xW d cd Q (pc + 1, L, r, H)) : xW d cd Q (pc, L, (0, y) :: (0, x) :: r, H) := xW_step (by rw [h]; exact ⟨k1, k2⟩)
theorem q_nu {t : Int} {x : Int} (h : cd.getD pc .nop = .ifnull t) (k1 : x = 0 → xW d cd Q (t.toNat, L, r, H)) (k2 : x ≠ 0 → xW d cd Q (pc + 1, L, r, H)) : xW d cd Q (pc, L, (2, x) :: r, H) := xW_step (by rw [h]; exact ⟨k1, k2⟩)
theorem q_nn {t : Int} {x : Int} (h : cd.getD pc .nop = .ifnonnull t) (k1 : x ≠ 0 → xW d cd Q (t.toNat, L, r, H)) (k2 : x = 0 → xW d cd Q (pc + 1, L, r, H)) : xW d cd Q (pc, L, (2, x) :: r, H) := xW_step (by rw [h]; exact ⟨k1, k2⟩)
theorem q_go {t : Int} (h : cd.getD pc .nop = .goto t) (k : xW d cd Q (t.toNat, L, st, H)) : xW d cd Q (pc, L, st, H) := xW_step (by rw [h]; exact k)
theorem q_ai {a i : Int} (h : cd.getD pc .nop = .iaload) (h1 : H.2.1 a = 20) (h2 : 0 ≤ i) (h3 : i < H.2.2.1 a) (k : xW d cd Q (pc + 1, L, (0, H.1 a i) :: r, H)) : xW d cd Q (pc, L, (0, i) :: (2, a) :: r, H) := xW_step (by rw [h]; exact ⟨⟨h1, h2, h3⟩, k⟩)
theorem q_ab {a i : Int} (h : cd.getD pc .nop = .baload) (h1 : H.2.1 a = 21) (h2 : 0 ≤ i) (h3 : i < H.2.2.1 a) (k : xW d cd Q (pc + 1, L, (0, H.1 a i) :: r, H)) : xW d cd Q (pc, L, (0, i) :: (2, a) :: r, H) := xW_step (by rw [h]; exact ⟨⟨h1, h2, h3⟩, k⟩)
theorem q_ac {a i : Int} (h : cd.getD pc .nop = .caload) (h1 : H.2.1 a = 22) (h2 : 0 ≤ i) (h3 : i < H.2.2.1 a) (k : xW d cd Q (pc + 1, L, (0, H.1 a i) :: r, H)) : xW d cd Q (pc, L, (0, i) :: (2, a) :: r, H) := xW_step (by rw [h]; exact ⟨⟨h1, h2, h3⟩, k⟩)
theorem q_aj {a i : Int} (h : cd.getD pc .nop = .laload) (h1 : H.2.1 a = 23) (h2 : 0 ≤ i) (h3 : i < H.2.2.1 a) (k : xW d cd Q (pc + 1, L, (1, H.1 a i) :: r, H)) : xW d cd Q (pc, L, (0, i) :: (2, a) :: r, H) := xW_step (by rw [h]; exact ⟨⟨h1, h2, h3⟩, k⟩)
theorem q_aa {a i : Int} (h : cd.getD pc .nop = .aaload) (h1 : 24 ≤ H.2.1 a) (h2 : 0 ≤ i) (h3 : i < H.2.2.1 a) (k : xW d cd Q (pc + 1, L, (2, H.1 a i) :: r, H)) : xW d cd Q (pc, L, (0, i) :: (2, a) :: r, H) := xW_step (by rw [h]; exact ⟨⟨h1, h2, h3⟩, k⟩)
theorem q_A3 {t : Nat} {a i x : Int} {s : xS} {f : Int → Int → Int → List xV → xO} {call : xCallT} {kk : xS → Prop} (k : xGo call kk Q (f a i x r)) : xGo call kk Q (xA3 s t ((t, x) :: (0, i) :: (2, a) :: r) f) := by
  unfold xA3
  simp only []
  rw [if_pos trivial]
  exact k
theorem q_si {a i x : Int} (h : cd.getD pc .nop = .iastore) (h0 : 0 < a) (h1 : H.2.1 a = 20) (h2 : 0 ≤ i) (h3 : i < H.2.2.1 a) (k : xW d cd Q (pc + 1, L, r, (xUp H.1 a i x, H.2))) : xW d cd Q (pc, L, (0, x) :: (0, i) :: (2, a) :: r, H) := xW_step (by rw [h]; simp only [xNext]; refine q_A3 ?_; exact ⟨⟨h0, h1, h2, h3⟩, k⟩)
theorem q_sb {a i x : Int} (h : cd.getD pc .nop = .bastore) (h0 : 0 < a) (h1 : H.2.1 a = 21) (h2 : 0 ≤ i) (h3 : i < H.2.2.1 a) (k : xW d cd Q (pc + 1, L, r, (xUp H.1 a i (w8 x), H.2))) : xW d cd Q (pc, L, (0, x) :: (0, i) :: (2, a) :: r, H) := xW_step (by rw [h]; simp only [xNext]; refine q_A3 ?_; exact ⟨⟨h0, h1, h2, h3⟩, k⟩)
theorem q_sc2 {a i x : Int} (h : cd.getD pc .nop = .castore) (h0 : 0 < a) (h1 : H.2.1 a = 22) (h2 : 0 ≤ i) (h3 : i < H.2.2.1 a) (hx : x = 0 ∨ x = 1) (k : xW d cd Q (pc + 1, L, r, (xUp H.1 a i x, H.2))) : xW d cd Q (pc, L, (0, x) :: (0, i) :: (2, a) :: r, H) := xW_step (by rw [h]; simp only [xNext]; refine q_A3 ?_; exact ⟨⟨h0, h1, h2, h3, hx⟩, k⟩)
theorem q_sj {a i x : Int} (h : cd.getD pc .nop = .lastore) (h0 : 0 < a) (h1 : H.2.1 a = 23) (h2 : 0 ≤ i) (h3 : i < H.2.2.1 a) (k : xW d cd Q (pc + 1, L, r, (xUp H.1 a i x, H.2))) : xW d cd Q (pc, L, (1, x) :: (0, i) :: (2, a) :: r, H) := xW_step (by rw [h]; simp only [xNext]; refine q_A3 ?_; exact ⟨⟨h0, h1, h2, h3⟩, k⟩)
theorem q_sa {a i x : Int} (h : cd.getD pc .nop = .aastore) (h0 : 0 < a) (h1 : xEl (H.2.1 a) = H.2.1 x) (h4 : 0 ≤ H.2.1 x) (h2 : 0 ≤ i) (h3 : i < H.2.2.1 a) (k : xW d cd Q (pc + 1, L, r, (xUp H.1 a i x, H.2))) : xW d cd Q (pc, L, (2, x) :: (0, i) :: (2, a) :: r, H) := xW_step (by rw [h]; simp only [xNext]; refine q_A3 ?_; exact ⟨⟨h0, h1, h4, h2, h3⟩, k⟩)
theorem q_ln {a : Int} (h : cd.getD pc .nop = .arraylength) (h1 : 20 ≤ H.2.1 a) (k : xW d cd Q (pc + 1, L, (0, H.2.2.1 a) :: r, H)) : xW d cd Q (pc, L, (2, a) :: r, H) := xW_step (by rw [h]; exact ⟨h1, k⟩)
theorem q_gf {m t : Nat} {a c : Int} (h : cd.getD pc .nop = .getfield m) (h1 : H.2.1 a = ((m / 1000 : Nat) : Int)) (ht : m % 10 = t) (hc : ((m / 10 % 100 : Nat) : Int) = c) (k : xW d cd Q (pc + 1, L, (t, H.1 a c) :: r, H)) : xW d cd Q (pc, L, (2, a) :: r, H) := xW_step (by
  subst ht
  subst hc
  rw [h]
  exact ⟨h1, k⟩)
theorem q_pf {m t : Nat} {a x c : Int} (h : cd.getD pc .nop = .putfield m) (h1 : xPt (m % 10) t x (H.2.1 a = ((m / 1000 : Nat) : Int))) (hc : ((m / 10 % 100 : Nat) : Int) = c) (k : xW d cd Q (pc + 1, L, r, (xUp H.1 a c x, H.2))) : xW d cd Q (pc, L, (t, x) :: (2, a) :: r, H) := xW_step (by
  subst hc
  rw [h]
  exact ⟨h1, k⟩)
theorem q_mx {x y : Int} (h : cd.getD pc .nop = .dadd) (hc : Nat.ble (xCat r) 8 = true) (hd : 0 < d) (k : xW d cd Q (pc + 1, L, (0, max x y) :: r, H)) : xW d cd Q (pc, L, (0, y) :: (0, x) :: r, H) := xW_step (by rw [h]; exact ttIf hc ⟨hd, k⟩)
theorem q_mn {x y : Int} (h : cd.getD pc .nop = .dsub) (hc : Nat.ble (xCat r) 8 = true) (hd : 0 < d) (k : xW d cd Q (pc + 1, L, (0, min x y) :: r, H)) : xW d cd Q (pc, L, (0, y) :: (0, x) :: r, H) := xW_step (by rw [h]; exact ttIf hc ⟨hd, k⟩)
theorem q_tl {s : Int} (h : cd.getD pc .nop = .d2i) (hc : Nat.ble (xCat r) 8 = true) (hd : 4 < d) (h1 : s ≤ -2) (h2 : -29 < s) (k : xW d cd Q (pc + 1, L, (0, xLg s) :: r, H)) : xW d cd Q (pc, L, (2, s) :: r, H) := xW_step (by rw [h]; exact ttIf hc ⟨⟨hd, h1, h2⟩, k⟩)
theorem q_tc {s i : Int} (h : cd.getD pc .nop = .d2l) (hc : Nat.ble (xCat r) 8 = true) (hd : 4 < d) (h1 : s ≤ -2) (h2 : -29 < s) (h3 : 0 ≤ i) (h4 : i < xLg s) (k : xW d cd Q (pc + 1, L, (0, xCh s i) :: r, H)) : xW d cd Q (pc, L, (0, i) :: (2, s) :: r, H) := xW_step (by rw [h]; exact ttIf hc ⟨⟨hd, h1, h2, h3, h4⟩, k⟩)
theorem q_ri {x : Int} (h : cd.getD pc .nop = .ireturn) (k : Q x H) : xW d cd Q (pc, L, [(0, x)], H) := xW_step (by rw [h]; exact ⟨trivial, k⟩)
theorem q_rz {x : Int} (h : cd.getD pc .nop = .freturn) (hx : x = 0 ∨ x = 1) (k : Q x H) : xW d cd Q (pc, L, [(0, x)], H) := xW_step (by rw [h]; exact ⟨hx, k⟩)
theorem q_ra {x : Int} (h : cd.getD pc .nop = .areturn) (k : Q x H) : xW d cd Q (pc, L, [(2, x)], H) := xW_step (by rw [h]; exact ⟨trivial, k⟩)
theorem q_rv (h : cd.getD pc .nop = .return_) (k : Q 0 H) : xW d cd Q (pc, L, [], H) := xW_step (by rw [h]; exact ⟨trivial, k⟩)
/-- calls: the arguments, the first one the last on the stack -/
theorem q_iv {q : Nat} {a : Int} {as : List xV} (h : cd.getD pc .nop = .invokevirtual q) (ht : (st.take (q / 4 % 20)).reverse = (2, a) :: as) (hb : (Nat.ble (xCat (st.drop (q / 4 % 20))) 8 && Nat.ble (q / 4 % 20) st.length) = true) (h1 : xNz (H.2.1 a = ((q / 80 % 100 : Nat) : Int)) as) (k : xCall d (q / 8000) ((2, a) :: as) H (fun x H2 => xW d cd Q (pc + 1, L, xPush (q % 4) x (st.drop (q / 4 % 20)), H2))) : xW d cd Q (pc, L, st, H) := xW_step (by
  rw [h]
  simp only [xNext]
  rw [ht, hb]
  exact ⟨h1, k⟩)
theorem q_ip {q : Nat} {a : Int} {as : List xV} (h : cd.getD pc .nop = .invokespecial q) (ht : (st.take (q / 4 % 20)).reverse = (2, a) :: as) (hb : (Nat.ble (xCat (st.drop (q / 4 % 20))) 8 && Nat.ble (q / 4 % 20) st.length) = true) (h1 : xNz (H.2.1 a = ((q / 80 % 100 : Nat) : Int)) as) (k : xCall d (q / 8000) ((2, a) :: as) H (fun x H2 => xW d cd Q (pc + 1, L, xPush (q % 4) x (st.drop (q / 4 % 20)), H2))) : xW d cd Q (pc, L, st, H) := xW_step (by
  rw [h]
  simp only [xNext]
  rw [ht, hb]
  exact ⟨h1, k⟩)
theorem q_ij {q : Nat} {as : List xV} (h : cd.getD pc .nop = .invokestatic q) (ht : (st.take (q / 4 % 20)).reverse = as) (hb : (Nat.ble (xCat (st.drop (q / 4 % 20))) 8 && Nat.ble (q / 4 % 20) st.length) = true) (h1 : xNz True as) (k : xCall d (q / 8000) as H (fun x H2 => xW d cd Q (pc + 1, L, xPush (q % 4) x (st.drop (q / 4 % 20)), H2))) : xW d cd Q (pc, L, st, H) := xW_step (by
  rw [h]
  simp only [xNext]
  rw [hb, ht]
  exact ⟨h1, k⟩)
theorem q_nw {c : Nat} (h : cd.getD pc .nop = .new c) (k : xW d cd Q (pc + 1, L, (2, (H.2.2.2.1 : Int)) :: st, xNw H (c : Int) 0 (xNs.getD c 0))) : xW d cd Q (pc, L, st, H) := xW_step (by rw [h]; exact k)
theorem q_na {t : ArrayType} {x : Int} (h : cd.getD pc .nop = .newarray t) (h1 : 0 ≤ x) (h2 : x ≤ 1000000) (k : xW d cd Q (pc + 1, L, (2, (H.2.2.2.1 : Int)) :: r, xNw H (xAk t) x x.toNat)) : xW d cd Q (pc, L, (0, x) :: r, H) := xW_step (by rw [h]; exact ⟨⟨h1, h2⟩, k⟩)
theorem q_ob {a : Int} (h : cd.getD pc .nop = .dneg) (hc : Nat.ble (xCat r) 8 = true) (hd : 0 < d) (ha : 0 < a) (k : xW d cd Q (pc + 1, L, r, H)) : xW d cd Q (pc, L, (2, a) :: r, H) := xW_step (by rw [h]; exact ttIf hc ⟨⟨hd, ha⟩, k⟩)
theorem q_cy {a sp b dp l : Int} (h : cd.getD pc .nop = .ddiv) (hc : Nat.ble (xCat r) 8 = true) (hd : 0 < d) (h1 : 0 < a ∧ 0 < b ∧ H.2.1 a = 23 ∧ H.2.1 b = 23 ∧ 0 ≤ sp ∧ 0 ≤ dp ∧ 0 ≤ l ∧ sp + l ≤ H.2.2.1 a ∧ dp + l ≤ H.2.2.1 b) (k : xW d cd Q (pc + 1, L, r, (xCpy H.1 a sp b dp l, H.2))) : xW d cd Q (pc, L, (0, l) :: (0, dp) :: (2, b) :: (0, sp) :: (2, a) :: r, H) := xW_step (by rw [h]; exact ttIf hc ⟨⟨hd, h1⟩, k⟩)
end QQ
