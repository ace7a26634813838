/-! the bytes as one number; a fast reading of instructions; the checks by it -/
def fqN : List UInt8 → Nat
  | [] => 0
  | b :: r => b.toNat + 256 * fqN r
def dqB (N p : Nat) : Nat := Nat.mod (Nat.shiftRight N (Nat.mul 8 p)) 256
theorem dq_sh (B k n a r : Nat) (hB : 2 ^ k = B) (ha : a < B) : Nat.shiftRight (a + B * r) (k * (n + 1)) = Nat.shiftRight r (k * n) := by
  show (a + B * r) >>> (k * (n + 1)) = r >>> (k * n)
  have e : 2 ^ (k * (n + 1)) = B * 2 ^ (k * n) := by rw [Nat.mul_succ, Nat.pow_add, Nat.mul_comm, hB]
  have z : (a + B * r) / B = r := by rw [Nat.add_mul_div_left _ _ (by omega), Nat.div_eq_of_lt ha, Nat.zero_add]
  rw [Nat.shiftRight_eq_div_pow, Nat.shiftRight_eq_div_pow, e, ← Nat.div_div_eq_div_mul, z]
theorem fqN_at : ∀ (l : List UInt8) (p : Nat) (h : p < l.length), dqB (fqN l) p = (l[p]'h).toNat
  | [], p, h => absurd h (Nat.not_lt_zero p)
  | b :: r, 0, h => by
    have hb : b.toNat < 2 ^ 8 := b.toNat_lt
    show (b.toNat + 256 * fqN r) % 256 = b.toNat
    omega
  | b :: r, p + 1, h => by
    have hb : b.toNat < 2 ^ 8 := b.toNat_lt
    have ih := fqN_at r p (Nat.lt_of_succ_lt_succ h)
    show Nat.mod (Nat.shiftRight (b.toNat + 256 * fqN r) (8 * (p + 1))) 256 = (r[p]'(Nat.lt_of_succ_lt_succ h)).toNat
    rw [← ih, dq_sh 256 8 p b.toNat (fqN r) (by decide) (by omega)]
    rfl
def dqOk (b : ByteArray) (N S : Nat) : Prop := fqN b.data.toList = N ∧ b.size = S
theorem xOk_of {b : ByteArray} {N S : Nat} (h : (Nat.beq (fqN b.data.toList) N && Nat.beq b.size S) = true) : dqOk b N S := by
  rw [Bool.and_eq_true] at h
  exact ⟨Nat.eq_of_beq_eq_true h.1, Nat.eq_of_beq_eq_true h.2⟩
/-! the reader -/
theorem rd_bind {α β : Type} {r : Decoder α} {f : α → Decoder β} {b : ByteArray} {p s : Nat} {v : α} (e : Reader.runAt r b p = .ok (v, s)) : Reader.runAt (r >>= f) b p = Reader.runAt (f v) b s := by
  have k : Reader.runAt (r >>= f) b p = Except.bind (Reader.runAt r b p) (fun x => Reader.runAt (f x.1) b x.2) := rfl
  rw [k, e]
  rfl
theorem rd_map {α β : Type} {r : Decoder α} {f : α → β} {b : ByteArray} {p s : Nat} {v : α} (e : Reader.runAt r b p = .ok (v, s)) : Reader.runAt (f <$> r) b p = .ok (f v, s) := by
  have k : Reader.runAt (f <$> r) b p = Except.bind (Reader.runAt r b p) (fun x => .ok (f x.1, x.2)) := rfl
  rw [k, e]
  rfl
theorem dq_u1 {b : ByteArray} {N S : Nat} (H : dqOk b N S) {p c : Nat} (h : p < S) (hc : dqB N p = c) : Reader.runAt (Reader.u1 : Decoder Nat) b p = .ok (c, p + 1) := by
  have h1 : p < b.size := by rw [H.2]; exact h
  have h2 : p < b.data.toList.length := h1
  have k : Reader.runAt (Reader.u1 : Decoder Nat) b p = (dite (p < b.size) (fun h => (do set (p + 1); pure (b[p]'h).toNat : Decoder Nat)) (fun _ => throw (HasTruncated.truncated p))) b p := rfl
  have e : (b[p]'h1) = (b.data.toList[p]'h2) := rfl
  rw [k, dif_pos h1, ← hc, ← H.1, fqN_at b.data.toList p h2, ← e]
  rfl
theorem dq_s1 {b : ByteArray} {N S : Nat} (H : dqOk b N S) {p : Nat} (h : p < S) : Reader.runAt (Reader.s1 : Decoder Int) b p = .ok (Reader.signed 8 (dqB N p), p + 1) := rd_map (f := Reader.signed 8) (dq_u1 H h rfl)
theorem dq_u2 {b : ByteArray} {N S : Nat} (H : dqOk b N S) {p : Nat} (h : p + 1 < S) : Reader.runAt (Reader.u2 : Decoder Nat) b p = .ok (dqB N p * 256 + dqB N (p + 1), p + 2) := by
  refine Eq.trans (rd_bind (dq_u1 H (by omega) rfl)) ?_
  refine Eq.trans (rd_bind (dq_u1 H h rfl)) ?_
  rfl
theorem dq_s2 {b : ByteArray} {N S : Nat} (H : dqOk b N S) {p : Nat} (h : p + 1 < S) : Reader.runAt (Reader.s2 : Decoder Int) b p = .ok (Reader.signed 16 (dqB N p * 256 + dqB N (p + 1)), p + 2) := rd_map (f := Reader.signed 16) (dq_u2 H h)
theorem dc_eq {b : ByteArray} {pc n : Nat} {i : Instr} (e : Reader.runAt (Decoder.instr pc) b pc = .ok (i, pc + n)) : decode b pc = .ok (i, n) := by
  have k : decode b pc = Except.bind (Reader.runAt (Decoder.instr pc) b pc) (fun x => .ok (x.1, x.2 - pc)) := rfl
  rw [k, e]
  show Except.ok (i, pc + n - pc) = _
  rw [Nat.add_sub_cancel_left]
def dqP (b : ByteArray) (pc : Nat) (o : Option (Instr × Nat)) : Prop := ∀ r, o = some r → decode b pc = .ok r
theorem dqP_no {b : ByteArray} {pc : Nat} : dqP b pc none := fun r h => by cases h
theorem dqP_ok {b : ByteArray} {pc : Nat} {x : Instr × Nat} (h : decode b pc = .ok x) : dqP b pc (some x) := fun r e => by
  injection e with e
  rw [← e]
  exact h
theorem dqP_if {b : ByteArray} {pc : Nat} {c : Bool} {x y : Option (Instr × Nat)} (h1 : dqP b pc x) (h2 : dqP b pc y) : dqP b pc (cond c x y) := by
  cases c
  · exact h2
  · exact h1
theorem dqP_eq {b : ByteArray} {pc op c : Nat} {x : Option (Instr × Nat)} (h : op = c → dqP b pc x) : dqP b pc (cond (Nat.beq op c) x none) := by
  cases e : Nat.beq op c
  · exact dqP_no
  · exact h (Nat.eq_of_beq_eq_true e)
theorem dqP_lt {b : ByteArray} {pc p S : Nat} {x : Option (Instr × Nat)} (h : p < S → dqP b pc x) : dqP b pc (cond (Nat.blt p S) x none) := by
  cases e : Nat.blt p S
  · exact dqP_no
  · exact h (Nat.le_of_ble_eq_true e)
theorem de_2 {b : ByteArray} {N S : Nat} (H : dqOk b N S) {pc : Nat} (h : pc < S) (hc : dqB N pc = 2) : decode b pc = .ok (.iconst (-1), 1) := by
  refine dc_eq (n := 1) (Eq.trans (rd_bind (dq_u1 H h hc)) ?_)
  rfl
theorem de_3 {b : ByteArray} {N S : Nat} (H : dqOk b N S) {pc : Nat} (h : pc < S) (hc : dqB N pc = 3) : decode b pc = .ok (.iconst 0, 1) := by
  refine dc_eq (n := 1) (Eq.trans (rd_bind (dq_u1 H h hc)) ?_)
  rfl
theorem de_4 {b : ByteArray} {N S : Nat} (H : dqOk b N S) {pc : Nat} (h : pc < S) (hc : dqB N pc = 4) : decode b pc = .ok (.iconst 1, 1) := by
  refine dc_eq (n := 1) (Eq.trans (rd_bind (dq_u1 H h hc)) ?_)
  rfl
theorem de_5 {b : ByteArray} {N S : Nat} (H : dqOk b N S) {pc : Nat} (h : pc < S) (hc : dqB N pc = 5) : decode b pc = .ok (.iconst 2, 1) := by
  refine dc_eq (n := 1) (Eq.trans (rd_bind (dq_u1 H h hc)) ?_)
  rfl
theorem de_6 {b : ByteArray} {N S : Nat} (H : dqOk b N S) {pc : Nat} (h : pc < S) (hc : dqB N pc = 6) : decode b pc = .ok (.iconst 3, 1) := by
  refine dc_eq (n := 1) (Eq.trans (rd_bind (dq_u1 H h hc)) ?_)
  rfl
theorem de_7 {b : ByteArray} {N S : Nat} (H : dqOk b N S) {pc : Nat} (h : pc < S) (hc : dqB N pc = 7) : decode b pc = .ok (.iconst 4, 1) := by
  refine dc_eq (n := 1) (Eq.trans (rd_bind (dq_u1 H h hc)) ?_)
  rfl
theorem de_8 {b : ByteArray} {N S : Nat} (H : dqOk b N S) {pc : Nat} (h : pc < S) (hc : dqB N pc = 8) : decode b pc = .ok (.iconst 5, 1) := by
  refine dc_eq (n := 1) (Eq.trans (rd_bind (dq_u1 H h hc)) ?_)
  rfl
theorem de_9 {b : ByteArray} {N S : Nat} (H : dqOk b N S) {pc : Nat} (h : pc < S) (hc : dqB N pc = 9) : decode b pc = .ok (.lconst 0, 1) := by
  refine dc_eq (n := 1) (Eq.trans (rd_bind (dq_u1 H h hc)) ?_)
  rfl
theorem de_10 {b : ByteArray} {N S : Nat} (H : dqOk b N S) {pc : Nat} (h : pc < S) (hc : dqB N pc = 10) : decode b pc = .ok (.lconst 1, 1) := by
  refine dc_eq (n := 1) (Eq.trans (rd_bind (dq_u1 H h hc)) ?_)
  rfl
theorem de_16 {b : ByteArray} {N S : Nat} (H : dqOk b N S) {pc : Nat} (h : pc < S) (hc : dqB N pc = 16) (h1 : pc + 1 < S) : decode b pc = .ok (.bipush (Reader.signed 8 (dqB N (pc + 1))), 2) := by
  refine dc_eq (n := 2) (Eq.trans (rd_bind (dq_u1 H h hc)) ?_)
  refine Eq.trans (rd_bind (dq_s1 H h1)) ?_
  rfl
theorem de_17 {b : ByteArray} {N S : Nat} (H : dqOk b N S) {pc : Nat} (h : pc < S) (hc : dqB N pc = 17) (h1 : pc + 2 < S) : decode b pc = .ok (.sipush (Reader.signed 16 (dqB N (pc + 1) * 256 + dqB N (pc + 2))), 3) := by
  refine dc_eq (n := 3) (Eq.trans (rd_bind (dq_u1 H h hc)) ?_)
  refine Eq.trans (rd_bind (dq_s2 H h1)) ?_
  rfl
theorem de_18 {b : ByteArray} {N S : Nat} (H : dqOk b N S) {pc : Nat} (h : pc < S) (hc : dqB N pc = 18) (h1 : pc + 1 < S) : decode b pc = .ok (.ldc (dqB N (pc + 1)), 2) := by
  refine dc_eq (n := 2) (Eq.trans (rd_bind (dq_u1 H h hc)) ?_)
  refine Eq.trans (rd_bind (dq_u1 H h1 rfl)) ?_
  rfl
theorem de_19 {b : ByteArray} {N S : Nat} (H : dqOk b N S) {pc : Nat} (h : pc < S) (hc : dqB N pc = 19) (h1 : pc + 2 < S) : decode b pc = .ok (.ldc_w (dqB N (pc + 1) * 256 + dqB N (pc + 2)), 3) := by
  refine dc_eq (n := 3) (Eq.trans (rd_bind (dq_u1 H h hc)) ?_)
  refine Eq.trans (rd_bind (dq_u2 H h1)) ?_
  rfl
theorem de_20 {b : ByteArray} {N S : Nat} (H : dqOk b N S) {pc : Nat} (h : pc < S) (hc : dqB N pc = 20) (h1 : pc + 2 < S) : decode b pc = .ok (.ldc2_w (dqB N (pc + 1) * 256 + dqB N (pc + 2)), 3) := by
  refine dc_eq (n := 3) (Eq.trans (rd_bind (dq_u1 H h hc)) ?_)
  refine Eq.trans (rd_bind (dq_u2 H h1)) ?_
  rfl
theorem de_21 {b : ByteArray} {N S : Nat} (H : dqOk b N S) {pc : Nat} (h : pc < S) (hc : dqB N pc = 21) (h1 : pc + 1 < S) : decode b pc = .ok (.iload (dqB N (pc + 1)), 2) := by
  refine dc_eq (n := 2) (Eq.trans (rd_bind (dq_u1 H h hc)) ?_)
  refine Eq.trans (rd_bind (dq_u1 H h1 rfl)) ?_
  rfl
theorem de_22 {b : ByteArray} {N S : Nat} (H : dqOk b N S) {pc : Nat} (h : pc < S) (hc : dqB N pc = 22) (h1 : pc + 1 < S) : decode b pc = .ok (.lload (dqB N (pc + 1)), 2) := by
  refine dc_eq (n := 2) (Eq.trans (rd_bind (dq_u1 H h hc)) ?_)
  refine Eq.trans (rd_bind (dq_u1 H h1 rfl)) ?_
  rfl
theorem de_25 {b : ByteArray} {N S : Nat} (H : dqOk b N S) {pc : Nat} (h : pc < S) (hc : dqB N pc = 25) (h1 : pc + 1 < S) : decode b pc = .ok (.aload (dqB N (pc + 1)), 2) := by
  refine dc_eq (n := 2) (Eq.trans (rd_bind (dq_u1 H h hc)) ?_)
  refine Eq.trans (rd_bind (dq_u1 H h1 rfl)) ?_
  rfl
theorem de_26 {b : ByteArray} {N S : Nat} (H : dqOk b N S) {pc : Nat} (h : pc < S) (hc : dqB N pc = 26) : decode b pc = .ok (.iload_n 0, 1) := by
  refine dc_eq (n := 1) (Eq.trans (rd_bind (dq_u1 H h hc)) ?_)
  rfl
theorem de_27 {b : ByteArray} {N S : Nat} (H : dqOk b N S) {pc : Nat} (h : pc < S) (hc : dqB N pc = 27) : decode b pc = .ok (.iload_n 1, 1) := by
  refine dc_eq (n := 1) (Eq.trans (rd_bind (dq_u1 H h hc)) ?_)
  rfl
theorem de_28 {b : ByteArray} {N S : Nat} (H : dqOk b N S) {pc : Nat} (h : pc < S) (hc : dqB N pc = 28) : decode b pc = .ok (.iload_n 2, 1) := by
  refine dc_eq (n := 1) (Eq.trans (rd_bind (dq_u1 H h hc)) ?_)
  rfl
theorem de_29 {b : ByteArray} {N S : Nat} (H : dqOk b N S) {pc : Nat} (h : pc < S) (hc : dqB N pc = 29) : decode b pc = .ok (.iload_n 3, 1) := by
  refine dc_eq (n := 1) (Eq.trans (rd_bind (dq_u1 H h hc)) ?_)
  rfl
theorem de_30 {b : ByteArray} {N S : Nat} (H : dqOk b N S) {pc : Nat} (h : pc < S) (hc : dqB N pc = 30) : decode b pc = .ok (.lload_n 0, 1) := by
  refine dc_eq (n := 1) (Eq.trans (rd_bind (dq_u1 H h hc)) ?_)
  rfl
theorem de_31 {b : ByteArray} {N S : Nat} (H : dqOk b N S) {pc : Nat} (h : pc < S) (hc : dqB N pc = 31) : decode b pc = .ok (.lload_n 1, 1) := by
  refine dc_eq (n := 1) (Eq.trans (rd_bind (dq_u1 H h hc)) ?_)
  rfl
theorem de_32 {b : ByteArray} {N S : Nat} (H : dqOk b N S) {pc : Nat} (h : pc < S) (hc : dqB N pc = 32) : decode b pc = .ok (.lload_n 2, 1) := by
  refine dc_eq (n := 1) (Eq.trans (rd_bind (dq_u1 H h hc)) ?_)
  rfl
theorem de_33 {b : ByteArray} {N S : Nat} (H : dqOk b N S) {pc : Nat} (h : pc < S) (hc : dqB N pc = 33) : decode b pc = .ok (.lload_n 3, 1) := by
  refine dc_eq (n := 1) (Eq.trans (rd_bind (dq_u1 H h hc)) ?_)
  rfl
theorem de_42 {b : ByteArray} {N S : Nat} (H : dqOk b N S) {pc : Nat} (h : pc < S) (hc : dqB N pc = 42) : decode b pc = .ok (.aload_n 0, 1) := by
  refine dc_eq (n := 1) (Eq.trans (rd_bind (dq_u1 H h hc)) ?_)
  rfl
theorem de_43 {b : ByteArray} {N S : Nat} (H : dqOk b N S) {pc : Nat} (h : pc < S) (hc : dqB N pc = 43) : decode b pc = .ok (.aload_n 1, 1) := by
  refine dc_eq (n := 1) (Eq.trans (rd_bind (dq_u1 H h hc)) ?_)
  rfl
theorem de_44 {b : ByteArray} {N S : Nat} (H : dqOk b N S) {pc : Nat} (h : pc < S) (hc : dqB N pc = 44) : decode b pc = .ok (.aload_n 2, 1) := by
  refine dc_eq (n := 1) (Eq.trans (rd_bind (dq_u1 H h hc)) ?_)
  rfl
theorem de_45 {b : ByteArray} {N S : Nat} (H : dqOk b N S) {pc : Nat} (h : pc < S) (hc : dqB N pc = 45) : decode b pc = .ok (.aload_n 3, 1) := by
  refine dc_eq (n := 1) (Eq.trans (rd_bind (dq_u1 H h hc)) ?_)
  rfl
theorem de_46 {b : ByteArray} {N S : Nat} (H : dqOk b N S) {pc : Nat} (h : pc < S) (hc : dqB N pc = 46) : decode b pc = .ok (.iaload, 1) := by
  refine dc_eq (n := 1) (Eq.trans (rd_bind (dq_u1 H h hc)) ?_)
  rfl
theorem de_47 {b : ByteArray} {N S : Nat} (H : dqOk b N S) {pc : Nat} (h : pc < S) (hc : dqB N pc = 47) : decode b pc = .ok (.laload, 1) := by
  refine dc_eq (n := 1) (Eq.trans (rd_bind (dq_u1 H h hc)) ?_)
  rfl
theorem de_50 {b : ByteArray} {N S : Nat} (H : dqOk b N S) {pc : Nat} (h : pc < S) (hc : dqB N pc = 50) : decode b pc = .ok (.aaload, 1) := by
  refine dc_eq (n := 1) (Eq.trans (rd_bind (dq_u1 H h hc)) ?_)
  rfl
theorem de_51 {b : ByteArray} {N S : Nat} (H : dqOk b N S) {pc : Nat} (h : pc < S) (hc : dqB N pc = 51) : decode b pc = .ok (.baload, 1) := by
  refine dc_eq (n := 1) (Eq.trans (rd_bind (dq_u1 H h hc)) ?_)
  rfl
theorem de_54 {b : ByteArray} {N S : Nat} (H : dqOk b N S) {pc : Nat} (h : pc < S) (hc : dqB N pc = 54) (h1 : pc + 1 < S) : decode b pc = .ok (.istore (dqB N (pc + 1)), 2) := by
  refine dc_eq (n := 2) (Eq.trans (rd_bind (dq_u1 H h hc)) ?_)
  refine Eq.trans (rd_bind (dq_u1 H h1 rfl)) ?_
  rfl
theorem de_55 {b : ByteArray} {N S : Nat} (H : dqOk b N S) {pc : Nat} (h : pc < S) (hc : dqB N pc = 55) (h1 : pc + 1 < S) : decode b pc = .ok (.lstore (dqB N (pc + 1)), 2) := by
  refine dc_eq (n := 2) (Eq.trans (rd_bind (dq_u1 H h hc)) ?_)
  refine Eq.trans (rd_bind (dq_u1 H h1 rfl)) ?_
  rfl
theorem de_58 {b : ByteArray} {N S : Nat} (H : dqOk b N S) {pc : Nat} (h : pc < S) (hc : dqB N pc = 58) (h1 : pc + 1 < S) : decode b pc = .ok (.astore (dqB N (pc + 1)), 2) := by
  refine dc_eq (n := 2) (Eq.trans (rd_bind (dq_u1 H h hc)) ?_)
  refine Eq.trans (rd_bind (dq_u1 H h1 rfl)) ?_
  rfl
theorem de_59 {b : ByteArray} {N S : Nat} (H : dqOk b N S) {pc : Nat} (h : pc < S) (hc : dqB N pc = 59) : decode b pc = .ok (.istore_n 0, 1) := by
  refine dc_eq (n := 1) (Eq.trans (rd_bind (dq_u1 H h hc)) ?_)
  rfl
theorem de_60 {b : ByteArray} {N S : Nat} (H : dqOk b N S) {pc : Nat} (h : pc < S) (hc : dqB N pc = 60) : decode b pc = .ok (.istore_n 1, 1) := by
  refine dc_eq (n := 1) (Eq.trans (rd_bind (dq_u1 H h hc)) ?_)
  rfl
theorem de_61 {b : ByteArray} {N S : Nat} (H : dqOk b N S) {pc : Nat} (h : pc < S) (hc : dqB N pc = 61) : decode b pc = .ok (.istore_n 2, 1) := by
  refine dc_eq (n := 1) (Eq.trans (rd_bind (dq_u1 H h hc)) ?_)
  rfl
theorem de_62 {b : ByteArray} {N S : Nat} (H : dqOk b N S) {pc : Nat} (h : pc < S) (hc : dqB N pc = 62) : decode b pc = .ok (.istore_n 3, 1) := by
  refine dc_eq (n := 1) (Eq.trans (rd_bind (dq_u1 H h hc)) ?_)
  rfl
theorem de_76 {b : ByteArray} {N S : Nat} (H : dqOk b N S) {pc : Nat} (h : pc < S) (hc : dqB N pc = 76) : decode b pc = .ok (.astore_n 1, 1) := by
  refine dc_eq (n := 1) (Eq.trans (rd_bind (dq_u1 H h hc)) ?_)
  rfl
theorem de_77 {b : ByteArray} {N S : Nat} (H : dqOk b N S) {pc : Nat} (h : pc < S) (hc : dqB N pc = 77) : decode b pc = .ok (.astore_n 2, 1) := by
  refine dc_eq (n := 1) (Eq.trans (rd_bind (dq_u1 H h hc)) ?_)
  rfl
theorem de_78 {b : ByteArray} {N S : Nat} (H : dqOk b N S) {pc : Nat} (h : pc < S) (hc : dqB N pc = 78) : decode b pc = .ok (.astore_n 3, 1) := by
  refine dc_eq (n := 1) (Eq.trans (rd_bind (dq_u1 H h hc)) ?_)
  rfl
theorem de_79 {b : ByteArray} {N S : Nat} (H : dqOk b N S) {pc : Nat} (h : pc < S) (hc : dqB N pc = 79) : decode b pc = .ok (.iastore, 1) := by
  refine dc_eq (n := 1) (Eq.trans (rd_bind (dq_u1 H h hc)) ?_)
  rfl
theorem de_80 {b : ByteArray} {N S : Nat} (H : dqOk b N S) {pc : Nat} (h : pc < S) (hc : dqB N pc = 80) : decode b pc = .ok (.lastore, 1) := by
  refine dc_eq (n := 1) (Eq.trans (rd_bind (dq_u1 H h hc)) ?_)
  rfl
theorem de_83 {b : ByteArray} {N S : Nat} (H : dqOk b N S) {pc : Nat} (h : pc < S) (hc : dqB N pc = 83) : decode b pc = .ok (.aastore, 1) := by
  refine dc_eq (n := 1) (Eq.trans (rd_bind (dq_u1 H h hc)) ?_)
  rfl
theorem de_84 {b : ByteArray} {N S : Nat} (H : dqOk b N S) {pc : Nat} (h : pc < S) (hc : dqB N pc = 84) : decode b pc = .ok (.bastore, 1) := by
  refine dc_eq (n := 1) (Eq.trans (rd_bind (dq_u1 H h hc)) ?_)
  rfl
theorem de_87 {b : ByteArray} {N S : Nat} (H : dqOk b N S) {pc : Nat} (h : pc < S) (hc : dqB N pc = 87) : decode b pc = .ok (.pop, 1) := by
  refine dc_eq (n := 1) (Eq.trans (rd_bind (dq_u1 H h hc)) ?_)
  rfl
theorem de_89 {b : ByteArray} {N S : Nat} (H : dqOk b N S) {pc : Nat} (h : pc < S) (hc : dqB N pc = 89) : decode b pc = .ok (.dup, 1) := by
  refine dc_eq (n := 1) (Eq.trans (rd_bind (dq_u1 H h hc)) ?_)
  rfl
theorem de_92 {b : ByteArray} {N S : Nat} (H : dqOk b N S) {pc : Nat} (h : pc < S) (hc : dqB N pc = 92) : decode b pc = .ok (.dup2, 1) := by
  refine dc_eq (n := 1) (Eq.trans (rd_bind (dq_u1 H h hc)) ?_)
  rfl
theorem de_96 {b : ByteArray} {N S : Nat} (H : dqOk b N S) {pc : Nat} (h : pc < S) (hc : dqB N pc = 96) : decode b pc = .ok (.iadd, 1) := by
  refine dc_eq (n := 1) (Eq.trans (rd_bind (dq_u1 H h hc)) ?_)
  rfl
theorem de_97 {b : ByteArray} {N S : Nat} (H : dqOk b N S) {pc : Nat} (h : pc < S) (hc : dqB N pc = 97) : decode b pc = .ok (.ladd, 1) := by
  refine dc_eq (n := 1) (Eq.trans (rd_bind (dq_u1 H h hc)) ?_)
  rfl
theorem de_100 {b : ByteArray} {N S : Nat} (H : dqOk b N S) {pc : Nat} (h : pc < S) (hc : dqB N pc = 100) : decode b pc = .ok (.isub, 1) := by
  refine dc_eq (n := 1) (Eq.trans (rd_bind (dq_u1 H h hc)) ?_)
  rfl
theorem de_104 {b : ByteArray} {N S : Nat} (H : dqOk b N S) {pc : Nat} (h : pc < S) (hc : dqB N pc = 104) : decode b pc = .ok (.imul, 1) := by
  refine dc_eq (n := 1) (Eq.trans (rd_bind (dq_u1 H h hc)) ?_)
  rfl
theorem de_105 {b : ByteArray} {N S : Nat} (H : dqOk b N S) {pc : Nat} (h : pc < S) (hc : dqB N pc = 105) : decode b pc = .ok (.lmul, 1) := by
  refine dc_eq (n := 1) (Eq.trans (rd_bind (dq_u1 H h hc)) ?_)
  rfl
theorem de_108 {b : ByteArray} {N S : Nat} (H : dqOk b N S) {pc : Nat} (h : pc < S) (hc : dqB N pc = 108) : decode b pc = .ok (.idiv, 1) := by
  refine dc_eq (n := 1) (Eq.trans (rd_bind (dq_u1 H h hc)) ?_)
  rfl
theorem de_109 {b : ByteArray} {N S : Nat} (H : dqOk b N S) {pc : Nat} (h : pc < S) (hc : dqB N pc = 109) : decode b pc = .ok (.ldiv, 1) := by
  refine dc_eq (n := 1) (Eq.trans (rd_bind (dq_u1 H h hc)) ?_)
  rfl
theorem de_112 {b : ByteArray} {N S : Nat} (H : dqOk b N S) {pc : Nat} (h : pc < S) (hc : dqB N pc = 112) : decode b pc = .ok (.irem, 1) := by
  refine dc_eq (n := 1) (Eq.trans (rd_bind (dq_u1 H h hc)) ?_)
  rfl
theorem de_113 {b : ByteArray} {N S : Nat} (H : dqOk b N S) {pc : Nat} (h : pc < S) (hc : dqB N pc = 113) : decode b pc = .ok (.lrem, 1) := by
  refine dc_eq (n := 1) (Eq.trans (rd_bind (dq_u1 H h hc)) ?_)
  rfl
theorem de_116 {b : ByteArray} {N S : Nat} (H : dqOk b N S) {pc : Nat} (h : pc < S) (hc : dqB N pc = 116) : decode b pc = .ok (.ineg, 1) := by
  refine dc_eq (n := 1) (Eq.trans (rd_bind (dq_u1 H h hc)) ?_)
  rfl
theorem de_120 {b : ByteArray} {N S : Nat} (H : dqOk b N S) {pc : Nat} (h : pc < S) (hc : dqB N pc = 120) : decode b pc = .ok (.ishl, 1) := by
  refine dc_eq (n := 1) (Eq.trans (rd_bind (dq_u1 H h hc)) ?_)
  rfl
theorem de_121 {b : ByteArray} {N S : Nat} (H : dqOk b N S) {pc : Nat} (h : pc < S) (hc : dqB N pc = 121) : decode b pc = .ok (.lshl, 1) := by
  refine dc_eq (n := 1) (Eq.trans (rd_bind (dq_u1 H h hc)) ?_)
  rfl
theorem de_122 {b : ByteArray} {N S : Nat} (H : dqOk b N S) {pc : Nat} (h : pc < S) (hc : dqB N pc = 122) : decode b pc = .ok (.ishr, 1) := by
  refine dc_eq (n := 1) (Eq.trans (rd_bind (dq_u1 H h hc)) ?_)
  rfl
theorem de_123 {b : ByteArray} {N S : Nat} (H : dqOk b N S) {pc : Nat} (h : pc < S) (hc : dqB N pc = 123) : decode b pc = .ok (.lshr, 1) := by
  refine dc_eq (n := 1) (Eq.trans (rd_bind (dq_u1 H h hc)) ?_)
  rfl
theorem de_124 {b : ByteArray} {N S : Nat} (H : dqOk b N S) {pc : Nat} (h : pc < S) (hc : dqB N pc = 124) : decode b pc = .ok (.iushr, 1) := by
  refine dc_eq (n := 1) (Eq.trans (rd_bind (dq_u1 H h hc)) ?_)
  rfl
theorem de_126 {b : ByteArray} {N S : Nat} (H : dqOk b N S) {pc : Nat} (h : pc < S) (hc : dqB N pc = 126) : decode b pc = .ok (.iand, 1) := by
  refine dc_eq (n := 1) (Eq.trans (rd_bind (dq_u1 H h hc)) ?_)
  rfl
theorem de_127 {b : ByteArray} {N S : Nat} (H : dqOk b N S) {pc : Nat} (h : pc < S) (hc : dqB N pc = 127) : decode b pc = .ok (.land, 1) := by
  refine dc_eq (n := 1) (Eq.trans (rd_bind (dq_u1 H h hc)) ?_)
  rfl
theorem de_128 {b : ByteArray} {N S : Nat} (H : dqOk b N S) {pc : Nat} (h : pc < S) (hc : dqB N pc = 128) : decode b pc = .ok (.ior, 1) := by
  refine dc_eq (n := 1) (Eq.trans (rd_bind (dq_u1 H h hc)) ?_)
  rfl
theorem de_129 {b : ByteArray} {N S : Nat} (H : dqOk b N S) {pc : Nat} (h : pc < S) (hc : dqB N pc = 129) : decode b pc = .ok (.lor, 1) := by
  refine dc_eq (n := 1) (Eq.trans (rd_bind (dq_u1 H h hc)) ?_)
  rfl
theorem de_130 {b : ByteArray} {N S : Nat} (H : dqOk b N S) {pc : Nat} (h : pc < S) (hc : dqB N pc = 130) : decode b pc = .ok (.ixor, 1) := by
  refine dc_eq (n := 1) (Eq.trans (rd_bind (dq_u1 H h hc)) ?_)
  rfl
theorem de_132 {b : ByteArray} {N S : Nat} (H : dqOk b N S) {pc : Nat} (h : pc < S) (hc : dqB N pc = 132) (h1 : pc + 2 < S) : decode b pc = .ok (.iinc (dqB N (pc + 1)) (Reader.signed 8 (dqB N (pc + 2))), 3) := by
  refine dc_eq (n := 3) (Eq.trans (rd_bind (dq_u1 H h hc)) ?_)
  refine Eq.trans (rd_bind (dq_u1 H (by omega) rfl)) ?_
  refine Eq.trans (rd_bind (dq_s1 (p := pc + 2) H h1)) ?_
  rfl
theorem de_133 {b : ByteArray} {N S : Nat} (H : dqOk b N S) {pc : Nat} (h : pc < S) (hc : dqB N pc = 133) : decode b pc = .ok (.i2l, 1) := by
  refine dc_eq (n := 1) (Eq.trans (rd_bind (dq_u1 H h hc)) ?_)
  rfl
theorem de_136 {b : ByteArray} {N S : Nat} (H : dqOk b N S) {pc : Nat} (h : pc < S) (hc : dqB N pc = 136) : decode b pc = .ok (.l2i, 1) := by
  refine dc_eq (n := 1) (Eq.trans (rd_bind (dq_u1 H h hc)) ?_)
  rfl
theorem de_145 {b : ByteArray} {N S : Nat} (H : dqOk b N S) {pc : Nat} (h : pc < S) (hc : dqB N pc = 145) : decode b pc = .ok (.i2b, 1) := by
  refine dc_eq (n := 1) (Eq.trans (rd_bind (dq_u1 H h hc)) ?_)
  rfl
theorem de_147 {b : ByteArray} {N S : Nat} (H : dqOk b N S) {pc : Nat} (h : pc < S) (hc : dqB N pc = 147) : decode b pc = .ok (.i2s, 1) := by
  refine dc_eq (n := 1) (Eq.trans (rd_bind (dq_u1 H h hc)) ?_)
  rfl
theorem de_148 {b : ByteArray} {N S : Nat} (H : dqOk b N S) {pc : Nat} (h : pc < S) (hc : dqB N pc = 148) : decode b pc = .ok (.lcmp, 1) := by
  refine dc_eq (n := 1) (Eq.trans (rd_bind (dq_u1 H h hc)) ?_)
  rfl
theorem de_153 {b : ByteArray} {N S : Nat} (H : dqOk b N S) {pc : Nat} (h : pc < S) (hc : dqB N pc = 153) (h1 : pc + 2 < S) : decode b pc = .ok (.ifCond .eq (Reader.signed 16 (dqB N (pc + 1) * 256 + dqB N (pc + 2))), 3) := by
  refine dc_eq (n := 3) (Eq.trans (rd_bind (dq_u1 H h hc)) ?_)
  refine Eq.trans (rd_bind (dq_s2 H h1)) ?_
  rfl
theorem de_154 {b : ByteArray} {N S : Nat} (H : dqOk b N S) {pc : Nat} (h : pc < S) (hc : dqB N pc = 154) (h1 : pc + 2 < S) : decode b pc = .ok (.ifCond .ne (Reader.signed 16 (dqB N (pc + 1) * 256 + dqB N (pc + 2))), 3) := by
  refine dc_eq (n := 3) (Eq.trans (rd_bind (dq_u1 H h hc)) ?_)
  refine Eq.trans (rd_bind (dq_s2 H h1)) ?_
  rfl
theorem de_155 {b : ByteArray} {N S : Nat} (H : dqOk b N S) {pc : Nat} (h : pc < S) (hc : dqB N pc = 155) (h1 : pc + 2 < S) : decode b pc = .ok (.ifCond .lt (Reader.signed 16 (dqB N (pc + 1) * 256 + dqB N (pc + 2))), 3) := by
  refine dc_eq (n := 3) (Eq.trans (rd_bind (dq_u1 H h hc)) ?_)
  refine Eq.trans (rd_bind (dq_s2 H h1)) ?_
  rfl
theorem de_156 {b : ByteArray} {N S : Nat} (H : dqOk b N S) {pc : Nat} (h : pc < S) (hc : dqB N pc = 156) (h1 : pc + 2 < S) : decode b pc = .ok (.ifCond .ge (Reader.signed 16 (dqB N (pc + 1) * 256 + dqB N (pc + 2))), 3) := by
  refine dc_eq (n := 3) (Eq.trans (rd_bind (dq_u1 H h hc)) ?_)
  refine Eq.trans (rd_bind (dq_s2 H h1)) ?_
  rfl
theorem de_157 {b : ByteArray} {N S : Nat} (H : dqOk b N S) {pc : Nat} (h : pc < S) (hc : dqB N pc = 157) (h1 : pc + 2 < S) : decode b pc = .ok (.ifCond .gt (Reader.signed 16 (dqB N (pc + 1) * 256 + dqB N (pc + 2))), 3) := by
  refine dc_eq (n := 3) (Eq.trans (rd_bind (dq_u1 H h hc)) ?_)
  refine Eq.trans (rd_bind (dq_s2 H h1)) ?_
  rfl
theorem de_158 {b : ByteArray} {N S : Nat} (H : dqOk b N S) {pc : Nat} (h : pc < S) (hc : dqB N pc = 158) (h1 : pc + 2 < S) : decode b pc = .ok (.ifCond .le (Reader.signed 16 (dqB N (pc + 1) * 256 + dqB N (pc + 2))), 3) := by
  refine dc_eq (n := 3) (Eq.trans (rd_bind (dq_u1 H h hc)) ?_)
  refine Eq.trans (rd_bind (dq_s2 H h1)) ?_
  rfl
theorem de_159 {b : ByteArray} {N S : Nat} (H : dqOk b N S) {pc : Nat} (h : pc < S) (hc : dqB N pc = 159) (h1 : pc + 2 < S) : decode b pc = .ok (.if_icmp .eq (Reader.signed 16 (dqB N (pc + 1) * 256 + dqB N (pc + 2))), 3) := by
  refine dc_eq (n := 3) (Eq.trans (rd_bind (dq_u1 H h hc)) ?_)
  refine Eq.trans (rd_bind (dq_s2 H h1)) ?_
  rfl
theorem de_160 {b : ByteArray} {N S : Nat} (H : dqOk b N S) {pc : Nat} (h : pc < S) (hc : dqB N pc = 160) (h1 : pc + 2 < S) : decode b pc = .ok (.if_icmp .ne (Reader.signed 16 (dqB N (pc + 1) * 256 + dqB N (pc + 2))), 3) := by
  refine dc_eq (n := 3) (Eq.trans (rd_bind (dq_u1 H h hc)) ?_)
  refine Eq.trans (rd_bind (dq_s2 H h1)) ?_
  rfl
theorem de_161 {b : ByteArray} {N S : Nat} (H : dqOk b N S) {pc : Nat} (h : pc < S) (hc : dqB N pc = 161) (h1 : pc + 2 < S) : decode b pc = .ok (.if_icmp .lt (Reader.signed 16 (dqB N (pc + 1) * 256 + dqB N (pc + 2))), 3) := by
  refine dc_eq (n := 3) (Eq.trans (rd_bind (dq_u1 H h hc)) ?_)
  refine Eq.trans (rd_bind (dq_s2 H h1)) ?_
  rfl
theorem de_162 {b : ByteArray} {N S : Nat} (H : dqOk b N S) {pc : Nat} (h : pc < S) (hc : dqB N pc = 162) (h1 : pc + 2 < S) : decode b pc = .ok (.if_icmp .ge (Reader.signed 16 (dqB N (pc + 1) * 256 + dqB N (pc + 2))), 3) := by
  refine dc_eq (n := 3) (Eq.trans (rd_bind (dq_u1 H h hc)) ?_)
  refine Eq.trans (rd_bind (dq_s2 H h1)) ?_
  rfl
theorem de_163 {b : ByteArray} {N S : Nat} (H : dqOk b N S) {pc : Nat} (h : pc < S) (hc : dqB N pc = 163) (h1 : pc + 2 < S) : decode b pc = .ok (.if_icmp .gt (Reader.signed 16 (dqB N (pc + 1) * 256 + dqB N (pc + 2))), 3) := by
  refine dc_eq (n := 3) (Eq.trans (rd_bind (dq_u1 H h hc)) ?_)
  refine Eq.trans (rd_bind (dq_s2 H h1)) ?_
  rfl
theorem de_164 {b : ByteArray} {N S : Nat} (H : dqOk b N S) {pc : Nat} (h : pc < S) (hc : dqB N pc = 164) (h1 : pc + 2 < S) : decode b pc = .ok (.if_icmp .le (Reader.signed 16 (dqB N (pc + 1) * 256 + dqB N (pc + 2))), 3) := by
  refine dc_eq (n := 3) (Eq.trans (rd_bind (dq_u1 H h hc)) ?_)
  refine Eq.trans (rd_bind (dq_s2 H h1)) ?_
  rfl
theorem de_167 {b : ByteArray} {N S : Nat} (H : dqOk b N S) {pc : Nat} (h : pc < S) (hc : dqB N pc = 167) (h1 : pc + 2 < S) : decode b pc = .ok (.goto (Reader.signed 16 (dqB N (pc + 1) * 256 + dqB N (pc + 2))), 3) := by
  refine dc_eq (n := 3) (Eq.trans (rd_bind (dq_u1 H h hc)) ?_)
  refine Eq.trans (rd_bind (dq_s2 H h1)) ?_
  rfl
theorem de_172 {b : ByteArray} {N S : Nat} (H : dqOk b N S) {pc : Nat} (h : pc < S) (hc : dqB N pc = 172) : decode b pc = .ok (.ireturn, 1) := by
  refine dc_eq (n := 1) (Eq.trans (rd_bind (dq_u1 H h hc)) ?_)
  rfl
theorem de_173 {b : ByteArray} {N S : Nat} (H : dqOk b N S) {pc : Nat} (h : pc < S) (hc : dqB N pc = 173) : decode b pc = .ok (.lreturn, 1) := by
  refine dc_eq (n := 1) (Eq.trans (rd_bind (dq_u1 H h hc)) ?_)
  rfl
theorem de_176 {b : ByteArray} {N S : Nat} (H : dqOk b N S) {pc : Nat} (h : pc < S) (hc : dqB N pc = 176) : decode b pc = .ok (.areturn, 1) := by
  refine dc_eq (n := 1) (Eq.trans (rd_bind (dq_u1 H h hc)) ?_)
  rfl
theorem de_177 {b : ByteArray} {N S : Nat} (H : dqOk b N S) {pc : Nat} (h : pc < S) (hc : dqB N pc = 177) : decode b pc = .ok (.return_, 1) := by
  refine dc_eq (n := 1) (Eq.trans (rd_bind (dq_u1 H h hc)) ?_)
  rfl
theorem de_180 {b : ByteArray} {N S : Nat} (H : dqOk b N S) {pc : Nat} (h : pc < S) (hc : dqB N pc = 180) (h1 : pc + 2 < S) : decode b pc = .ok (.getfield (dqB N (pc + 1) * 256 + dqB N (pc + 2)), 3) := by
  refine dc_eq (n := 3) (Eq.trans (rd_bind (dq_u1 H h hc)) ?_)
  refine Eq.trans (rd_bind (dq_u2 H h1)) ?_
  rfl
theorem de_181 {b : ByteArray} {N S : Nat} (H : dqOk b N S) {pc : Nat} (h : pc < S) (hc : dqB N pc = 181) (h1 : pc + 2 < S) : decode b pc = .ok (.putfield (dqB N (pc + 1) * 256 + dqB N (pc + 2)), 3) := by
  refine dc_eq (n := 3) (Eq.trans (rd_bind (dq_u1 H h hc)) ?_)
  refine Eq.trans (rd_bind (dq_u2 H h1)) ?_
  rfl
theorem de_182 {b : ByteArray} {N S : Nat} (H : dqOk b N S) {pc : Nat} (h : pc < S) (hc : dqB N pc = 182) (h1 : pc + 2 < S) : decode b pc = .ok (.invokevirtual (dqB N (pc + 1) * 256 + dqB N (pc + 2)), 3) := by
  refine dc_eq (n := 3) (Eq.trans (rd_bind (dq_u1 H h hc)) ?_)
  refine Eq.trans (rd_bind (dq_u2 H h1)) ?_
  rfl
theorem de_183 {b : ByteArray} {N S : Nat} (H : dqOk b N S) {pc : Nat} (h : pc < S) (hc : dqB N pc = 183) (h1 : pc + 2 < S) : decode b pc = .ok (.invokespecial (dqB N (pc + 1) * 256 + dqB N (pc + 2)), 3) := by
  refine dc_eq (n := 3) (Eq.trans (rd_bind (dq_u1 H h hc)) ?_)
  refine Eq.trans (rd_bind (dq_u2 H h1)) ?_
  rfl
theorem de_184 {b : ByteArray} {N S : Nat} (H : dqOk b N S) {pc : Nat} (h : pc < S) (hc : dqB N pc = 184) (h1 : pc + 2 < S) : decode b pc = .ok (.invokestatic (dqB N (pc + 1) * 256 + dqB N (pc + 2)), 3) := by
  refine dc_eq (n := 3) (Eq.trans (rd_bind (dq_u1 H h hc)) ?_)
  refine Eq.trans (rd_bind (dq_u2 H h1)) ?_
  rfl
theorem de_187 {b : ByteArray} {N S : Nat} (H : dqOk b N S) {pc : Nat} (h : pc < S) (hc : dqB N pc = 187) (h1 : pc + 2 < S) : decode b pc = .ok (.new (dqB N (pc + 1) * 256 + dqB N (pc + 2)), 3) := by
  refine dc_eq (n := 3) (Eq.trans (rd_bind (dq_u1 H h hc)) ?_)
  refine Eq.trans (rd_bind (dq_u2 H h1)) ?_
  rfl
theorem de_189 {b : ByteArray} {N S : Nat} (H : dqOk b N S) {pc : Nat} (h : pc < S) (hc : dqB N pc = 189) (h1 : pc + 2 < S) : decode b pc = .ok (.anewarray (dqB N (pc + 1) * 256 + dqB N (pc + 2)), 3) := by
  refine dc_eq (n := 3) (Eq.trans (rd_bind (dq_u1 H h hc)) ?_)
  refine Eq.trans (rd_bind (dq_u2 H h1)) ?_
  rfl
theorem de_190 {b : ByteArray} {N S : Nat} (H : dqOk b N S) {pc : Nat} (h : pc < S) (hc : dqB N pc = 190) : decode b pc = .ok (.arraylength, 1) := by
  refine dc_eq (n := 1) (Eq.trans (rd_bind (dq_u1 H h hc)) ?_)
  rfl
theorem de_198 {b : ByteArray} {N S : Nat} (H : dqOk b N S) {pc : Nat} (h : pc < S) (hc : dqB N pc = 198) (h1 : pc + 2 < S) : decode b pc = .ok (.ifnull (Reader.signed 16 (dqB N (pc + 1) * 256 + dqB N (pc + 2))), 3) := by
  refine dc_eq (n := 3) (Eq.trans (rd_bind (dq_u1 H h hc)) ?_)
  refine Eq.trans (rd_bind (dq_s2 H h1)) ?_
  rfl
theorem de_199 {b : ByteArray} {N S : Nat} (H : dqOk b N S) {pc : Nat} (h : pc < S) (hc : dqB N pc = 199) (h1 : pc + 2 < S) : decode b pc = .ok (.ifnonnull (Reader.signed 16 (dqB N (pc + 1) * 256 + dqB N (pc + 2))), 3) := by
  refine dc_eq (n := 3) (Eq.trans (rd_bind (dq_u1 H h hc)) ?_)
  refine Eq.trans (rd_bind (dq_s2 H h1)) ?_
  rfl
def dqG_0 (N S pc op : Nat) : Option (Instr × Nat) := (cond (Nat.ble op 5) (cond (Nat.ble op 3) (cond (Nat.ble op 2) (cond (Nat.beq op 2) (some (.iconst (-1), 1)) none) (cond (Nat.beq op 3) (some (.iconst 0, 1)) none)) (cond (Nat.ble op 4) (cond (Nat.beq op 4) (some (.iconst 1, 1)) none) (cond (Nat.beq op 5) (some (.iconst 2, 1)) none))) (cond (Nat.ble op 7) (cond (Nat.ble op 6) (cond (Nat.beq op 6) (some (.iconst 3, 1)) none) (cond (Nat.beq op 7) (some (.iconst 4, 1)) none)) (cond (Nat.ble op 8) (cond (Nat.beq op 8) (some (.iconst 5, 1)) none) (cond (Nat.beq op 9) (some (.lconst 0, 1)) none))))
theorem dqG_0_ok {b : ByteArray} {N S : Nat} (H : dqOk b N S) {pc op : Nat} (h : pc < S) (ho : dqB N pc = op) : dqP b pc (dqG_0 N S pc op) := (dqP_if (dqP_if (dqP_if (dqP_eq (fun e => dqP_ok (de_2 H h (ho.trans e)))) (dqP_eq (fun e => dqP_ok (de_3 H h (ho.trans e))))) (dqP_if (dqP_eq (fun e => dqP_ok (de_4 H h (ho.trans e)))) (dqP_eq (fun e => dqP_ok (de_5 H h (ho.trans e)))))) (dqP_if (dqP_if (dqP_eq (fun e => dqP_ok (de_6 H h (ho.trans e)))) (dqP_eq (fun e => dqP_ok (de_7 H h (ho.trans e))))) (dqP_if (dqP_eq (fun e => dqP_ok (de_8 H h (ho.trans e)))) (dqP_eq (fun e => dqP_ok (de_9 H h (ho.trans e)))))))
def dqG_1 (N S pc op : Nat) : Option (Instr × Nat) := (cond (Nat.ble op 18) (cond (Nat.ble op 16) (cond (Nat.ble op 15) (cond (Nat.beq op 10) (some (.lconst 1, 1)) none) (cond (Nat.beq op 16) (cond (Nat.blt (pc + 1) S) (some (.bipush (Reader.signed 8 (dqB N (pc + 1))), 2)) none) none)) (cond (Nat.ble op 17) (cond (Nat.beq op 17) (cond (Nat.blt (pc + 2) S) (some (.sipush (Reader.signed 16 (dqB N (pc + 1) * 256 + dqB N (pc + 2))), 3)) none) none) (cond (Nat.beq op 18) (cond (Nat.blt (pc + 1) S) (some (.ldc (dqB N (pc + 1)), 2)) none) none))) (cond (Nat.ble op 20) (cond (Nat.ble op 19) (cond (Nat.beq op 19) (cond (Nat.blt (pc + 2) S) (some (.ldc_w (dqB N (pc + 1) * 256 + dqB N (pc + 2)), 3)) none) none) (cond (Nat.beq op 20) (cond (Nat.blt (pc + 2) S) (some (.ldc2_w (dqB N (pc + 1) * 256 + dqB N (pc + 2)), 3)) none) none)) (cond (Nat.ble op 21) (cond (Nat.beq op 21) (cond (Nat.blt (pc + 1) S) (some (.iload (dqB N (pc + 1)), 2)) none) none) (cond (Nat.beq op 22) (cond (Nat.blt (pc + 1) S) (some (.lload (dqB N (pc + 1)), 2)) none) none))))
theorem dqG_1_ok {b : ByteArray} {N S : Nat} (H : dqOk b N S) {pc op : Nat} (h : pc < S) (ho : dqB N pc = op) : dqP b pc (dqG_1 N S pc op) := (dqP_if (dqP_if (dqP_if (dqP_eq (fun e => dqP_ok (de_10 H h (ho.trans e)))) (dqP_eq (fun e => dqP_lt (fun h1 => dqP_ok (de_16 H h (ho.trans e) h1))))) (dqP_if (dqP_eq (fun e => dqP_lt (fun h1 => dqP_ok (de_17 H h (ho.trans e) h1)))) (dqP_eq (fun e => dqP_lt (fun h1 => dqP_ok (de_18 H h (ho.trans e) h1)))))) (dqP_if (dqP_if (dqP_eq (fun e => dqP_lt (fun h1 => dqP_ok (de_19 H h (ho.trans e) h1)))) (dqP_eq (fun e => dqP_lt (fun h1 => dqP_ok (de_20 H h (ho.trans e) h1))))) (dqP_if (dqP_eq (fun e => dqP_lt (fun h1 => dqP_ok (de_21 H h (ho.trans e) h1)))) (dqP_eq (fun e => dqP_lt (fun h1 => dqP_ok (de_22 H h (ho.trans e) h1)))))))
def dqG_2 (N S pc op : Nat) : Option (Instr × Nat) := (cond (Nat.ble op 28) (cond (Nat.ble op 26) (cond (Nat.ble op 25) (cond (Nat.beq op 25) (cond (Nat.blt (pc + 1) S) (some (.aload (dqB N (pc + 1)), 2)) none) none) (cond (Nat.beq op 26) (some (.iload_n 0, 1)) none)) (cond (Nat.ble op 27) (cond (Nat.beq op 27) (some (.iload_n 1, 1)) none) (cond (Nat.beq op 28) (some (.iload_n 2, 1)) none))) (cond (Nat.ble op 30) (cond (Nat.ble op 29) (cond (Nat.beq op 29) (some (.iload_n 3, 1)) none) (cond (Nat.beq op 30) (some (.lload_n 0, 1)) none)) (cond (Nat.ble op 31) (cond (Nat.beq op 31) (some (.lload_n 1, 1)) none) (cond (Nat.beq op 32) (some (.lload_n 2, 1)) none))))
theorem dqG_2_ok {b : ByteArray} {N S : Nat} (H : dqOk b N S) {pc op : Nat} (h : pc < S) (ho : dqB N pc = op) : dqP b pc (dqG_2 N S pc op) := (dqP_if (dqP_if (dqP_if (dqP_eq (fun e => dqP_lt (fun h1 => dqP_ok (de_25 H h (ho.trans e) h1)))) (dqP_eq (fun e => dqP_ok (de_26 H h (ho.trans e))))) (dqP_if (dqP_eq (fun e => dqP_ok (de_27 H h (ho.trans e)))) (dqP_eq (fun e => dqP_ok (de_28 H h (ho.trans e)))))) (dqP_if (dqP_if (dqP_eq (fun e => dqP_ok (de_29 H h (ho.trans e)))) (dqP_eq (fun e => dqP_ok (de_30 H h (ho.trans e))))) (dqP_if (dqP_eq (fun e => dqP_ok (de_31 H h (ho.trans e)))) (dqP_eq (fun e => dqP_ok (de_32 H h (ho.trans e)))))))
def dqG_3 (N S pc op : Nat) : Option (Instr × Nat) := (cond (Nat.ble op 44) (cond (Nat.ble op 42) (cond (Nat.ble op 41) (cond (Nat.beq op 33) (some (.lload_n 3, 1)) none) (cond (Nat.beq op 42) (some (.aload_n 0, 1)) none)) (cond (Nat.ble op 43) (cond (Nat.beq op 43) (some (.aload_n 1, 1)) none) (cond (Nat.beq op 44) (some (.aload_n 2, 1)) none))) (cond (Nat.ble op 46) (cond (Nat.ble op 45) (cond (Nat.beq op 45) (some (.aload_n 3, 1)) none) (cond (Nat.beq op 46) (some (.iaload, 1)) none)) (cond (Nat.ble op 49) (cond (Nat.beq op 47) (some (.laload, 1)) none) (cond (Nat.beq op 50) (some (.aaload, 1)) none))))
theorem dqG_3_ok {b : ByteArray} {N S : Nat} (H : dqOk b N S) {pc op : Nat} (h : pc < S) (ho : dqB N pc = op) : dqP b pc (dqG_3 N S pc op) := (dqP_if (dqP_if (dqP_if (dqP_eq (fun e => dqP_ok (de_33 H h (ho.trans e)))) (dqP_eq (fun e => dqP_ok (de_42 H h (ho.trans e))))) (dqP_if (dqP_eq (fun e => dqP_ok (de_43 H h (ho.trans e)))) (dqP_eq (fun e => dqP_ok (de_44 H h (ho.trans e)))))) (dqP_if (dqP_if (dqP_eq (fun e => dqP_ok (de_45 H h (ho.trans e)))) (dqP_eq (fun e => dqP_ok (de_46 H h (ho.trans e))))) (dqP_if (dqP_eq (fun e => dqP_ok (de_47 H h (ho.trans e)))) (dqP_eq (fun e => dqP_ok (de_50 H h (ho.trans e)))))))
def dqG_4 (N S pc op : Nat) : Option (Instr × Nat) := (cond (Nat.ble op 58) (cond (Nat.ble op 54) (cond (Nat.ble op 53) (cond (Nat.beq op 51) (some (.baload, 1)) none) (cond (Nat.beq op 54) (cond (Nat.blt (pc + 1) S) (some (.istore (dqB N (pc + 1)), 2)) none) none)) (cond (Nat.ble op 57) (cond (Nat.beq op 55) (cond (Nat.blt (pc + 1) S) (some (.lstore (dqB N (pc + 1)), 2)) none) none) (cond (Nat.beq op 58) (cond (Nat.blt (pc + 1) S) (some (.astore (dqB N (pc + 1)), 2)) none) none))) (cond (Nat.ble op 60) (cond (Nat.ble op 59) (cond (Nat.beq op 59) (some (.istore_n 0, 1)) none) (cond (Nat.beq op 60) (some (.istore_n 1, 1)) none)) (cond (Nat.ble op 61) (cond (Nat.beq op 61) (some (.istore_n 2, 1)) none) (cond (Nat.beq op 62) (some (.istore_n 3, 1)) none))))
theorem dqG_4_ok {b : ByteArray} {N S : Nat} (H : dqOk b N S) {pc op : Nat} (h : pc < S) (ho : dqB N pc = op) : dqP b pc (dqG_4 N S pc op) := (dqP_if (dqP_if (dqP_if (dqP_eq (fun e => dqP_ok (de_51 H h (ho.trans e)))) (dqP_eq (fun e => dqP_lt (fun h1 => dqP_ok (de_54 H h (ho.trans e) h1))))) (dqP_if (dqP_eq (fun e => dqP_lt (fun h1 => dqP_ok (de_55 H h (ho.trans e) h1)))) (dqP_eq (fun e => dqP_lt (fun h1 => dqP_ok (de_58 H h (ho.trans e) h1)))))) (dqP_if (dqP_if (dqP_eq (fun e => dqP_ok (de_59 H h (ho.trans e)))) (dqP_eq (fun e => dqP_ok (de_60 H h (ho.trans e))))) (dqP_if (dqP_eq (fun e => dqP_ok (de_61 H h (ho.trans e)))) (dqP_eq (fun e => dqP_ok (de_62 H h (ho.trans e)))))))
def dqG_5 (N S pc op : Nat) : Option (Instr × Nat) := (cond (Nat.ble op 79) (cond (Nat.ble op 77) (cond (Nat.ble op 76) (cond (Nat.beq op 76) (some (.astore_n 1, 1)) none) (cond (Nat.beq op 77) (some (.astore_n 2, 1)) none)) (cond (Nat.ble op 78) (cond (Nat.beq op 78) (some (.astore_n 3, 1)) none) (cond (Nat.beq op 79) (some (.iastore, 1)) none))) (cond (Nat.ble op 83) (cond (Nat.ble op 82) (cond (Nat.beq op 80) (some (.lastore, 1)) none) (cond (Nat.beq op 83) (some (.aastore, 1)) none)) (cond (Nat.ble op 86) (cond (Nat.beq op 84) (some (.bastore, 1)) none) (cond (Nat.beq op 87) (some (.pop, 1)) none))))
theorem dqG_5_ok {b : ByteArray} {N S : Nat} (H : dqOk b N S) {pc op : Nat} (h : pc < S) (ho : dqB N pc = op) : dqP b pc (dqG_5 N S pc op) := (dqP_if (dqP_if (dqP_if (dqP_eq (fun e => dqP_ok (de_76 H h (ho.trans e)))) (dqP_eq (fun e => dqP_ok (de_77 H h (ho.trans e))))) (dqP_if (dqP_eq (fun e => dqP_ok (de_78 H h (ho.trans e)))) (dqP_eq (fun e => dqP_ok (de_79 H h (ho.trans e)))))) (dqP_if (dqP_if (dqP_eq (fun e => dqP_ok (de_80 H h (ho.trans e)))) (dqP_eq (fun e => dqP_ok (de_83 H h (ho.trans e))))) (dqP_if (dqP_eq (fun e => dqP_ok (de_84 H h (ho.trans e)))) (dqP_eq (fun e => dqP_ok (de_87 H h (ho.trans e)))))))
def dqG_6 (N S pc op : Nat) : Option (Instr × Nat) := (cond (Nat.ble op 99) (cond (Nat.ble op 95) (cond (Nat.ble op 91) (cond (Nat.beq op 89) (some (.dup, 1)) none) (cond (Nat.beq op 92) (some (.dup2, 1)) none)) (cond (Nat.ble op 96) (cond (Nat.beq op 96) (some (.iadd, 1)) none) (cond (Nat.beq op 97) (some (.ladd, 1)) none))) (cond (Nat.ble op 104) (cond (Nat.ble op 103) (cond (Nat.beq op 100) (some (.isub, 1)) none) (cond (Nat.beq op 104) (some (.imul, 1)) none)) (cond (Nat.ble op 107) (cond (Nat.beq op 105) (some (.lmul, 1)) none) (cond (Nat.beq op 108) (some (.idiv, 1)) none))))
theorem dqG_6_ok {b : ByteArray} {N S : Nat} (H : dqOk b N S) {pc op : Nat} (h : pc < S) (ho : dqB N pc = op) : dqP b pc (dqG_6 N S pc op) := (dqP_if (dqP_if (dqP_if (dqP_eq (fun e => dqP_ok (de_89 H h (ho.trans e)))) (dqP_eq (fun e => dqP_ok (de_92 H h (ho.trans e))))) (dqP_if (dqP_eq (fun e => dqP_ok (de_96 H h (ho.trans e)))) (dqP_eq (fun e => dqP_ok (de_97 H h (ho.trans e)))))) (dqP_if (dqP_if (dqP_eq (fun e => dqP_ok (de_100 H h (ho.trans e)))) (dqP_eq (fun e => dqP_ok (de_104 H h (ho.trans e))))) (dqP_if (dqP_eq (fun e => dqP_ok (de_105 H h (ho.trans e)))) (dqP_eq (fun e => dqP_ok (de_108 H h (ho.trans e)))))))
def dqG_7 (N S pc op : Nat) : Option (Instr × Nat) := (cond (Nat.ble op 119) (cond (Nat.ble op 112) (cond (Nat.ble op 111) (cond (Nat.beq op 109) (some (.ldiv, 1)) none) (cond (Nat.beq op 112) (some (.irem, 1)) none)) (cond (Nat.ble op 115) (cond (Nat.beq op 113) (some (.lrem, 1)) none) (cond (Nat.beq op 116) (some (.ineg, 1)) none))) (cond (Nat.ble op 121) (cond (Nat.ble op 120) (cond (Nat.beq op 120) (some (.ishl, 1)) none) (cond (Nat.beq op 121) (some (.lshl, 1)) none)) (cond (Nat.ble op 122) (cond (Nat.beq op 122) (some (.ishr, 1)) none) (cond (Nat.beq op 123) (some (.lshr, 1)) none))))
theorem dqG_7_ok {b : ByteArray} {N S : Nat} (H : dqOk b N S) {pc op : Nat} (h : pc < S) (ho : dqB N pc = op) : dqP b pc (dqG_7 N S pc op) := (dqP_if (dqP_if (dqP_if (dqP_eq (fun e => dqP_ok (de_109 H h (ho.trans e)))) (dqP_eq (fun e => dqP_ok (de_112 H h (ho.trans e))))) (dqP_if (dqP_eq (fun e => dqP_ok (de_113 H h (ho.trans e)))) (dqP_eq (fun e => dqP_ok (de_116 H h (ho.trans e)))))) (dqP_if (dqP_if (dqP_eq (fun e => dqP_ok (de_120 H h (ho.trans e)))) (dqP_eq (fun e => dqP_ok (de_121 H h (ho.trans e))))) (dqP_if (dqP_eq (fun e => dqP_ok (de_122 H h (ho.trans e)))) (dqP_eq (fun e => dqP_ok (de_123 H h (ho.trans e)))))))
def dqG_8 (N S pc op : Nat) : Option (Instr × Nat) := (cond (Nat.ble op 128) (cond (Nat.ble op 126) (cond (Nat.ble op 125) (cond (Nat.beq op 124) (some (.iushr, 1)) none) (cond (Nat.beq op 126) (some (.iand, 1)) none)) (cond (Nat.ble op 127) (cond (Nat.beq op 127) (some (.land, 1)) none) (cond (Nat.beq op 128) (some (.ior, 1)) none))) (cond (Nat.ble op 131) (cond (Nat.ble op 129) (cond (Nat.beq op 129) (some (.lor, 1)) none) (cond (Nat.beq op 130) (some (.ixor, 1)) none)) (cond (Nat.ble op 132) (cond (Nat.beq op 132) (cond (Nat.blt (pc + 2) S) (some (.iinc (dqB N (pc + 1)) (Reader.signed 8 (dqB N (pc + 2))), 3)) none) none) (cond (Nat.beq op 133) (some (.i2l, 1)) none))))
theorem dqG_8_ok {b : ByteArray} {N S : Nat} (H : dqOk b N S) {pc op : Nat} (h : pc < S) (ho : dqB N pc = op) : dqP b pc (dqG_8 N S pc op) := (dqP_if (dqP_if (dqP_if (dqP_eq (fun e => dqP_ok (de_124 H h (ho.trans e)))) (dqP_eq (fun e => dqP_ok (de_126 H h (ho.trans e))))) (dqP_if (dqP_eq (fun e => dqP_ok (de_127 H h (ho.trans e)))) (dqP_eq (fun e => dqP_ok (de_128 H h (ho.trans e)))))) (dqP_if (dqP_if (dqP_eq (fun e => dqP_ok (de_129 H h (ho.trans e)))) (dqP_eq (fun e => dqP_ok (de_130 H h (ho.trans e))))) (dqP_if (dqP_eq (fun e => dqP_lt (fun h1 => dqP_ok (de_132 H h (ho.trans e) h1)))) (dqP_eq (fun e => dqP_ok (de_133 H h (ho.trans e)))))))
def dqG_9 (N S pc op : Nat) : Option (Instr × Nat) := (cond (Nat.ble op 152) (cond (Nat.ble op 146) (cond (Nat.ble op 144) (cond (Nat.beq op 136) (some (.l2i, 1)) none) (cond (Nat.beq op 145) (some (.i2b, 1)) none)) (cond (Nat.ble op 147) (cond (Nat.beq op 147) (some (.i2s, 1)) none) (cond (Nat.beq op 148) (some (.lcmp, 1)) none))) (cond (Nat.ble op 154) (cond (Nat.ble op 153) (cond (Nat.beq op 153) (cond (Nat.blt (pc + 2) S) (some (.ifCond .eq (Reader.signed 16 (dqB N (pc + 1) * 256 + dqB N (pc + 2))), 3)) none) none) (cond (Nat.beq op 154) (cond (Nat.blt (pc + 2) S) (some (.ifCond .ne (Reader.signed 16 (dqB N (pc + 1) * 256 + dqB N (pc + 2))), 3)) none) none)) (cond (Nat.ble op 155) (cond (Nat.beq op 155) (cond (Nat.blt (pc + 2) S) (some (.ifCond .lt (Reader.signed 16 (dqB N (pc + 1) * 256 + dqB N (pc + 2))), 3)) none) none) (cond (Nat.beq op 156) (cond (Nat.blt (pc + 2) S) (some (.ifCond .ge (Reader.signed 16 (dqB N (pc + 1) * 256 + dqB N (pc + 2))), 3)) none) none))))
theorem dqG_9_ok {b : ByteArray} {N S : Nat} (H : dqOk b N S) {pc op : Nat} (h : pc < S) (ho : dqB N pc = op) : dqP b pc (dqG_9 N S pc op) := (dqP_if (dqP_if (dqP_if (dqP_eq (fun e => dqP_ok (de_136 H h (ho.trans e)))) (dqP_eq (fun e => dqP_ok (de_145 H h (ho.trans e))))) (dqP_if (dqP_eq (fun e => dqP_ok (de_147 H h (ho.trans e)))) (dqP_eq (fun e => dqP_ok (de_148 H h (ho.trans e)))))) (dqP_if (dqP_if (dqP_eq (fun e => dqP_lt (fun h1 => dqP_ok (de_153 H h (ho.trans e) h1)))) (dqP_eq (fun e => dqP_lt (fun h1 => dqP_ok (de_154 H h (ho.trans e) h1))))) (dqP_if (dqP_eq (fun e => dqP_lt (fun h1 => dqP_ok (de_155 H h (ho.trans e) h1)))) (dqP_eq (fun e => dqP_lt (fun h1 => dqP_ok (de_156 H h (ho.trans e) h1)))))))
def dqG_10 (N S pc op : Nat) : Option (Instr × Nat) := (cond (Nat.ble op 160) (cond (Nat.ble op 158) (cond (Nat.ble op 157) (cond (Nat.beq op 157) (cond (Nat.blt (pc + 2) S) (some (.ifCond .gt (Reader.signed 16 (dqB N (pc + 1) * 256 + dqB N (pc + 2))), 3)) none) none) (cond (Nat.beq op 158) (cond (Nat.blt (pc + 2) S) (some (.ifCond .le (Reader.signed 16 (dqB N (pc + 1) * 256 + dqB N (pc + 2))), 3)) none) none)) (cond (Nat.ble op 159) (cond (Nat.beq op 159) (cond (Nat.blt (pc + 2) S) (some (.if_icmp .eq (Reader.signed 16 (dqB N (pc + 1) * 256 + dqB N (pc + 2))), 3)) none) none) (cond (Nat.beq op 160) (cond (Nat.blt (pc + 2) S) (some (.if_icmp .ne (Reader.signed 16 (dqB N (pc + 1) * 256 + dqB N (pc + 2))), 3)) none) none))) (cond (Nat.ble op 162) (cond (Nat.ble op 161) (cond (Nat.beq op 161) (cond (Nat.blt (pc + 2) S) (some (.if_icmp .lt (Reader.signed 16 (dqB N (pc + 1) * 256 + dqB N (pc + 2))), 3)) none) none) (cond (Nat.beq op 162) (cond (Nat.blt (pc + 2) S) (some (.if_icmp .ge (Reader.signed 16 (dqB N (pc + 1) * 256 + dqB N (pc + 2))), 3)) none) none)) (cond (Nat.ble op 163) (cond (Nat.beq op 163) (cond (Nat.blt (pc + 2) S) (some (.if_icmp .gt (Reader.signed 16 (dqB N (pc + 1) * 256 + dqB N (pc + 2))), 3)) none) none) (cond (Nat.beq op 164) (cond (Nat.blt (pc + 2) S) (some (.if_icmp .le (Reader.signed 16 (dqB N (pc + 1) * 256 + dqB N (pc + 2))), 3)) none) none))))
theorem dqG_10_ok {b : ByteArray} {N S : Nat} (H : dqOk b N S) {pc op : Nat} (h : pc < S) (ho : dqB N pc = op) : dqP b pc (dqG_10 N S pc op) := (dqP_if (dqP_if (dqP_if (dqP_eq (fun e => dqP_lt (fun h1 => dqP_ok (de_157 H h (ho.trans e) h1)))) (dqP_eq (fun e => dqP_lt (fun h1 => dqP_ok (de_158 H h (ho.trans e) h1))))) (dqP_if (dqP_eq (fun e => dqP_lt (fun h1 => dqP_ok (de_159 H h (ho.trans e) h1)))) (dqP_eq (fun e => dqP_lt (fun h1 => dqP_ok (de_160 H h (ho.trans e) h1)))))) (dqP_if (dqP_if (dqP_eq (fun e => dqP_lt (fun h1 => dqP_ok (de_161 H h (ho.trans e) h1)))) (dqP_eq (fun e => dqP_lt (fun h1 => dqP_ok (de_162 H h (ho.trans e) h1))))) (dqP_if (dqP_eq (fun e => dqP_lt (fun h1 => dqP_ok (de_163 H h (ho.trans e) h1)))) (dqP_eq (fun e => dqP_lt (fun h1 => dqP_ok (de_164 H h (ho.trans e) h1)))))))
def dqG_11 (N S pc op : Nat) : Option (Instr × Nat) := (cond (Nat.ble op 176) (cond (Nat.ble op 172) (cond (Nat.ble op 171) (cond (Nat.beq op 167) (cond (Nat.blt (pc + 2) S) (some (.goto (Reader.signed 16 (dqB N (pc + 1) * 256 + dqB N (pc + 2))), 3)) none) none) (cond (Nat.beq op 172) (some (.ireturn, 1)) none)) (cond (Nat.ble op 175) (cond (Nat.beq op 173) (some (.lreturn, 1)) none) (cond (Nat.beq op 176) (some (.areturn, 1)) none))) (cond (Nat.ble op 180) (cond (Nat.ble op 179) (cond (Nat.beq op 177) (some (.return_, 1)) none) (cond (Nat.beq op 180) (cond (Nat.blt (pc + 2) S) (some (.getfield (dqB N (pc + 1) * 256 + dqB N (pc + 2)), 3)) none) none)) (cond (Nat.ble op 181) (cond (Nat.beq op 181) (cond (Nat.blt (pc + 2) S) (some (.putfield (dqB N (pc + 1) * 256 + dqB N (pc + 2)), 3)) none) none) (cond (Nat.beq op 182) (cond (Nat.blt (pc + 2) S) (some (.invokevirtual (dqB N (pc + 1) * 256 + dqB N (pc + 2)), 3)) none) none))))
theorem dqG_11_ok {b : ByteArray} {N S : Nat} (H : dqOk b N S) {pc op : Nat} (h : pc < S) (ho : dqB N pc = op) : dqP b pc (dqG_11 N S pc op) := (dqP_if (dqP_if (dqP_if (dqP_eq (fun e => dqP_lt (fun h1 => dqP_ok (de_167 H h (ho.trans e) h1)))) (dqP_eq (fun e => dqP_ok (de_172 H h (ho.trans e))))) (dqP_if (dqP_eq (fun e => dqP_ok (de_173 H h (ho.trans e)))) (dqP_eq (fun e => dqP_ok (de_176 H h (ho.trans e)))))) (dqP_if (dqP_if (dqP_eq (fun e => dqP_ok (de_177 H h (ho.trans e)))) (dqP_eq (fun e => dqP_lt (fun h1 => dqP_ok (de_180 H h (ho.trans e) h1))))) (dqP_if (dqP_eq (fun e => dqP_lt (fun h1 => dqP_ok (de_181 H h (ho.trans e) h1)))) (dqP_eq (fun e => dqP_lt (fun h1 => dqP_ok (de_182 H h (ho.trans e) h1)))))))
def dqG_12 (N S pc op : Nat) : Option (Instr × Nat) := (cond (Nat.ble op 188) (cond (Nat.ble op 183) (cond (Nat.beq op 183) (cond (Nat.blt (pc + 2) S) (some (.invokespecial (dqB N (pc + 1) * 256 + dqB N (pc + 2)), 3)) none) none) (cond (Nat.ble op 186) (cond (Nat.beq op 184) (cond (Nat.blt (pc + 2) S) (some (.invokestatic (dqB N (pc + 1) * 256 + dqB N (pc + 2)), 3)) none) none) (cond (Nat.beq op 187) (cond (Nat.blt (pc + 2) S) (some (.new (dqB N (pc + 1) * 256 + dqB N (pc + 2)), 3)) none) none))) (cond (Nat.ble op 197) (cond (Nat.ble op 189) (cond (Nat.beq op 189) (cond (Nat.blt (pc + 2) S) (some (.anewarray (dqB N (pc + 1) * 256 + dqB N (pc + 2)), 3)) none) none) (cond (Nat.beq op 190) (some (.arraylength, 1)) none)) (cond (Nat.ble op 198) (cond (Nat.beq op 198) (cond (Nat.blt (pc + 2) S) (some (.ifnull (Reader.signed 16 (dqB N (pc + 1) * 256 + dqB N (pc + 2))), 3)) none) none) (cond (Nat.beq op 199) (cond (Nat.blt (pc + 2) S) (some (.ifnonnull (Reader.signed 16 (dqB N (pc + 1) * 256 + dqB N (pc + 2))), 3)) none) none))))
theorem dqG_12_ok {b : ByteArray} {N S : Nat} (H : dqOk b N S) {pc op : Nat} (h : pc < S) (ho : dqB N pc = op) : dqP b pc (dqG_12 N S pc op) := (dqP_if (dqP_if (dqP_eq (fun e => dqP_lt (fun h1 => dqP_ok (de_183 H h (ho.trans e) h1)))) (dqP_if (dqP_eq (fun e => dqP_lt (fun h1 => dqP_ok (de_184 H h (ho.trans e) h1)))) (dqP_eq (fun e => dqP_lt (fun h1 => dqP_ok (de_187 H h (ho.trans e) h1)))))) (dqP_if (dqP_if (dqP_eq (fun e => dqP_lt (fun h1 => dqP_ok (de_189 H h (ho.trans e) h1)))) (dqP_eq (fun e => dqP_ok (de_190 H h (ho.trans e))))) (dqP_if (dqP_eq (fun e => dqP_lt (fun h1 => dqP_ok (de_198 H h (ho.trans e) h1)))) (dqP_eq (fun e => dqP_lt (fun h1 => dqP_ok (de_199 H h (ho.trans e) h1)))))))
def dqG (N S pc op : Nat) : Option (Instr × Nat) := (cond (Nat.ble op 88) (cond (Nat.ble op 32) (cond (Nat.ble op 9) (dqG_0 N S pc op) (cond (Nat.ble op 24) (dqG_1 N S pc op) (dqG_2 N S pc op))) (cond (Nat.ble op 50) (dqG_3 N S pc op) (cond (Nat.ble op 75) (dqG_4 N S pc op) (dqG_5 N S pc op)))) (cond (Nat.ble op 135) (cond (Nat.ble op 108) (dqG_6 N S pc op) (cond (Nat.ble op 123) (dqG_7 N S pc op) (dqG_8 N S pc op))) (cond (Nat.ble op 166) (cond (Nat.ble op 156) (dqG_9 N S pc op) (dqG_10 N S pc op)) (cond (Nat.ble op 182) (dqG_11 N S pc op) (dqG_12 N S pc op)))))
theorem dqG_ok {b : ByteArray} {N S : Nat} (H : dqOk b N S) {pc op : Nat} (h : pc < S) (ho : dqB N pc = op) : dqP b pc (dqG N S pc op) := (dqP_if (dqP_if (dqP_if (dqG_0_ok H h ho) (dqP_if (dqG_1_ok H h ho) (dqG_2_ok H h ho))) (dqP_if (dqG_3_ok H h ho) (dqP_if (dqG_4_ok H h ho) (dqG_5_ok H h ho)))) (dqP_if (dqP_if (dqG_6_ok H h ho) (dqP_if (dqG_7_ok H h ho) (dqG_8_ok H h ho))) (dqP_if (dqP_if (dqG_9_ok H h ho) (dqG_10_ok H h ho)) (dqP_if (dqG_11_ok H h ho) (dqG_12_ok H h ho)))))
def dec2 (N S pc : Nat) : Option (Instr × Nat) := cond (Nat.blt pc S) (dqG N S pc (dqB N pc)) none
theorem dec2_ok {b : ByteArray} {N S : Nat} (H : dqOk b N S) {pc : Nat} : dqP b pc (dec2 N S pc) := dqP_lt (fun h => dqG_ok H h rfl)
def decF (b : ByteArray) (N S pc : Nat) : Except DecodeError (Instr × Nat) := match dec2 N S pc with
  | some r => .ok r
  | none => decode b pc
theorem decF_eq {b : ByteArray} {N S : Nat} (H : dqOk b N S) (pc : Nat) : decF b N S pc = decode b pc := by
  unfold decF
  cases e : dec2 N S pc with
  | none => rfl
  | some r => exact (dec2_ok H r e).symm
/-! the places of instructions as one number -/
def fqP : List Nat → Nat
  | [] => 0
  | a :: r => a + 65536 * fqP r
def dqS (N k : Nat) : Nat := Nat.mod (Nat.shiftRight N (Nat.mul 16 k)) 65536
theorem fqP_at : ∀ (l : List Nat), (∀ a ∈ l, a < 65536) → ∀ k : Nat, dqS (fqP l) k = l.getD k 0
  | [], _, k => by
    show Nat.mod (0 >>> (16 * k)) 65536 = 0
    rw [Nat.zero_shiftRight]
  | a :: r, h, 0 => by
    have ha := h a List.mem_cons_self
    show (a + 65536 * fqP r) % 65536 = a
    omega
  | a :: r, h, k + 1 => by
    have ha := h a List.mem_cons_self
    show Nat.mod (Nat.shiftRight (a + 65536 * fqP r) (16 * (k + 1))) 65536 = r.getD k 0
    rw [← fqP_at r (fun x hx => h x (List.mem_cons_of_mem _ hx)) k, dq_sh 65536 16 k a (fqP r) (by decide) ha]
    rfl
def dqPs (ps : List Nat) (N S : Nat) : Prop := (∀ k : Nat, dqS N k = ps.getD k 0) ∧ ps.length = S
theorem xPs_of {ps : List Nat} {N S : Nat} (h : (ps.all (fun a => Nat.blt a 65536) && (Nat.beq (fqP ps) N && Nat.beq ps.length S)) = true) : dqPs ps N S := by
  rw [Bool.and_eq_true, Bool.and_eq_true] at h
  obtain ⟨h1, h2, h3⟩ := h
  refine ⟨fun k => ?_, Nat.eq_of_beq_eq_true h3⟩
  rw [← Nat.eq_of_beq_eq_true h2]
  exact fqP_at ps (fun a ha => Nat.le_of_ble_eq_true (List.all_eq_true.mp h1 a ha)) k
def xJmQ (N S : Nat) (pc : Nat) (off t : Int) : Bool := decide (0 ≤ t) && decide (t.toNat < S) && ((dqS N t.toNat : Nat) : Int) == (pc : Int) + off
theorem xJmQ_eq {ps : List Nat} {N S : Nat} (h : dqPs ps N S) : xJmQ N S = xJmp ps := by
  funext pc off t
  unfold xJmQ xJmp
  rw [h.1, h.2]
def xChkJ (J : Nat → Int → Int → Bool) (own : Nat) (ini : Bool) (ret : Option FieldType) (pc : Nat) (i a : Instr) : Bool := match a with
  | .aload n => match i with | .aload k => k == n | .aload_n k => k.val == n | _ => false
  | .iload n => match i with | .iload k => k == n | .iload_n k => k.val == n | _ => false
  | .lload n => match i with | .lload k => k == n | .lload_n k => k.val == n | _ => false
  | .astore n => match i with | .astore k => k == n | .astore_n k => k.val == n | _ => false
  | .istore n => match i with | .istore k => k == n | .istore_n k => k.val == n | _ => false
  | .lstore n => match i with | .lstore k => k == n | .lstore_n k => k.val == n | _ => false
  | .iconst v => xIn32 v && (match i with | .iconst w => w == v | .bipush w => w == v && decide (-128 ≤ v) && decide (v < 128) | .sipush w => w == v && decide (-32768 ≤ v) && decide (v < 32768) | .ldc k => xKi.contains (own, k, v) | .ldc_w k => xKi.contains (own, k, v) | _ => false)
  | .jsr v => xIn64 v && (match i with | .lconst w => ((w.val : Nat) : Int) == v | .ldc2_w k => xKl.contains (own, k, v) | _ => false)
  | .ldc j => match i with | .ldc k => xKs.contains (own, k, j) | .ldc_w k => xKs.contains (own, k, j) | _ => false
  | .iinc n c => (match i with | .iinc k w => k == n && w == c | _ => false) && xIn32 c
  | .ifCond c t => match i with | .ifCond e off => e == c && J pc off t | _ => false
  | .if_icmp c t => match i with | .if_icmp e off => e == c && J pc off t | _ => false
  | .ifnull t => match i with | .ifnull off => J pc off t | _ => false
  | .ifnonnull t => match i with | .ifnonnull off => J pc off t | _ => false
  | .goto t => match i with | .goto off => J pc off t | _ => false
  | .tableswitch t lo hi ts => match i with | .tableswitch dd lo2 hi2 offs => lo2 == lo && hi2 == hi && J pc dd t && xIn32 lo && xIn32 hi && hi - lo + 1 == (ts.size : Int) && ts.size == offs.size && (ts.toList.zip offs.toList).all (fun q => J pc q.2 q.1) | _ => false
  | .baload => match i with | .baload => true | _ => false
  | .caload => match i with | .baload => true | _ => false
  | .bastore => match i with | .bastore => true | _ => false
  | .castore => match i with | .bastore => true | _ => false
  | .newarray t => match i with | .newarray t2 => t2 == t && decide (0 ≤ xAk t) | _ => false
  | .anewarray κ => match i with | .anewarray k => Nat.ble 25 κ && Nat.ble κ 28 && xKc.contains (own, k, (xEl (κ : Int)).toNat) | _ => false
  | .multianewarray _ _ => match i with | .multianewarray k n => own == 11 && k == 81 && n == 2 | _ => false
  | .new c => match i with | .new k => Nat.blt c 13 && xKc.contains (own, k, c) | _ => false
  | .getfield m => match i with | .getfield k => xFldOk own k m && m % 10 == (if xFT (m / 1000) (m / 10 % 100) == 3 then 0 else xFT (m / 1000) (m / 10 % 100)) | _ => false
  | .putfield m => match i with | .putfield k => xFldOk own k m && m % 10 == xFT (m / 1000) (m / 10 % 100) && (!(xF (m / 1000) (m / 10 % 100)).2.2.2 || (ini && own == m / 1000 && xFl.contains (own, k, m / 1000, m / 10 % 100))) | _ => false
  | .invokevirtual m => match i with | .invokevirtual k => xCalOk own k m && !(xM (m / 8000)).2.2.2.2.1 && (xCl (m / 80 % 100)).1 == (xM (m / 8000)).1.cls && Nat.blt (m / 80 % 100) 13 && (xVpub.contains (m / 8000) || xVpri.contains (m / 8000)) | _ => false
  | .invokespecial m => match i with | .invokespecial k => xCalOk own k m && !(xM (m / 8000)).2.2.2.2.1 && (xM (m / 8000)).1.name == "<init>" && (xM (m / 8000)).2.2.2.1 == none | _ => false
  | .invokestatic m => match i with | .invokestatic k => xCalOk own k m && (xM (m / 8000)).2.2.2.2.1 | _ => false
  | .dneg => match i with | .invokespecial k => xBl.contains (own, k, 0) | _ => false
  | .dadd => match i with | .invokestatic k => xBl.contains (own, k, 1) | _ => false
  | .dsub => match i with | .invokestatic k => xBl.contains (own, k, 2) | _ => false
  | .dmul => match i with | .invokestatic k => xBl.contains (own, k, 3) | _ => false
  | .ddiv => match i with | .invokestatic k => xBl.contains (own, k, 3) | _ => false
  | .d2i => match i with | .invokevirtual k => xBl.contains (own, k, 4) | _ => false
  | .d2l => match i with | .invokevirtual k => xBl.contains (own, k, 5) | _ => false
  | .ireturn => (match i with | .ireturn => true | _ => false) && ret == some .int
  | .freturn => (match i with | .ireturn => true | _ => false) && ret == some .boolean
  | .lreturn => (match i with | .lreturn => true | _ => false) && ret == some .long
  | .areturn => (match i with | .areturn => true | _ => false) && (match ret with | some (.object _) => true | some (.array _) => true | _ => false)
  | .return_ => (match i with | .return_ => true | _ => false) && ret == none
  | _ => i == a
theorem xChkJ_eq (own : Nat) (ini : Bool) (ret : Option FieldType) (ps : List Nat) (pc : Nat) (i a : Instr) : xChkJ (xJmp ps) own ini ret pc i a = xChk1 own ini ret ps pc i a := rfl
def xChkQ (own : Nat) (ini : Bool) (ret : Option FieldType) (b : ByteArray) (N S PN PS : Nat) : List (Instr × Nat) → List Nat → Bool
  | [], _ => true
  | (a, pc) :: r, nx => (match decF b N S pc with
    | .ok (i, l) => xLenOk i l && (xChkJ (xJmQ PN PS) own ini ret pc i a && (match nx with | q :: _ => q == pc + l | [] => xTerm a))
    | .error _ => false) && xChkQ own ini ret b N S PN PS r nx.tail
theorem xChkQ_eq {own : Nat} {ini : Bool} {ret : Option FieldType} {b : ByteArray} {N S PN PS : Nat} {ps : List Nat} (H : dqOk b N S) (G : dqPs ps PN PS) : ∀ {l : List (Instr × Nat)} {nx : List Nat}, xChkQ own ini ret b N S PN PS l nx = xChkP own ini ret b ps l nx
  | [], _ => rfl
  | (a, pc) :: r, nx => by
    unfold xChkQ xChkP
    rw [decF_eq H, xJmQ_eq G, xChkQ_eq H G]
    rfl
def xChkN (own : Nat) (ini : Bool) (ret : Option FieldType) (b : ByteArray) (N S PN PS : Nat) (cd : List Instr) (ps : List Nat) : Bool :=
  (Nat.beq (fqN b.data.toList) N && Nat.beq b.size S) && ((ps.all (fun a => Nat.blt a 65536) && (Nat.beq (fqP ps) PN && Nat.beq ps.length PS)) && (cd.length == ps.length && ps.head? == some 0 && xChkQ own ini ret b N S PN PS (cd.zip ps) ps.tail))
theorem xChkN_ok {own : Nat} {ini : Bool} {ret : Option FieldType} {b : ByteArray} {cd : List Instr} {ps : List Nat} (N S PN PS : Nat) (h : xChkN own ini ret b N S PN PS cd ps = true) : xChkM own ini ret b cd ps = true := by
  unfold xChkN at h
  rw [Bool.and_eq_true] at h
  obtain ⟨h1, h23⟩ := h
  rw [Bool.and_eq_true] at h23
  obtain ⟨h2, h3⟩ := h23
  rw [xChkQ_eq (xOk_of h1) (xPs_of h2)] at h3
  exact h3