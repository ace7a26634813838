section XSTR
variable {p : Program} {l : Launch} {e : Env} {R : Room} {s : State} {m : MethodId} {args : Array Value} {below : List Frame} {meth : Method} {c : Code}
variable {J : xJT} {A : Nat → Prop} {Z : State → Prop} {nL c0 s0 own d pc : Nat} {cc : ByteArray} {ps : List Nat} {L r : List xV} {M : xH}
theorem o_len (C : xCtx p R s m args c own cc nL d J A) {i : Nat} (hw : (own, i, 4) ∈ xBl) (hd : decode cc (ps.getD pc 0) = .ok (.invokevirtual i, 3)) (hn : ps.getD (pc + 1) 0 = ps.getD pc 0 + 3) {x : Int} (hd0 : 4 < d) (hr8 : xCat r ≤ 8) (hx1 : x ≤ -2) (hx2 : -29 < x) (hcl : M.2.2.2.1 ≤ c0 + R.cells) (hsl : M.2.2.2.2 ≤ s0 + R.slots) (h : xRd (p, l, e, R, s, m, args, below, meth, c) J A Z nL c0 s0 ps (pc + 1, L, (0, xLg x) :: r, M)) : xRd (p, l, e, R, s, m, args, below, meth, c) J A Z nL c0 s0 ps (pc, L, (2, x) :: r, M) := by
  sorry
theorem o_chr (C : xCtx p R s m args c own cc nL d J A) {i : Nat} (hw : (own, i, 5) ∈ xBl) (hd : decode cc (ps.getD pc 0) = .ok (.invokevirtual i, 3)) (hn : ps.getD (pc + 1) 0 = ps.getD pc 0 + 3) {x y : Int} (hd0 : 4 < d) (hr8 : xCat r ≤ 8) (hx1 : x ≤ -2) (hx2 : -29 < x) (hy0 : 0 ≤ y) (hy1 : y < xLg x) (hcl : M.2.2.2.1 ≤ c0 + R.cells) (hsl : M.2.2.2.2 ≤ s0 + R.slots) (h : xRd (p, l, e, R, s, m, args, below, meth, c) J A Z nL c0 s0 ps (pc + 1, L, (0, xCh x y) :: r, M)) : xRd (p, l, e, R, s, m, args, below, meth, c) J A Z nL c0 s0 ps (pc, L, (0, y) :: (2, x) :: r, M) := by
  sorry
theorem o_mna (C : xCtx p R s m args c 11 cc nL d J A) (hd : decode cc (ps.getD pc 0) = .ok (.multianewarray 81 2, 4)) (hn : ps.getD (pc + 1) 0 = ps.getD pc 0 + 4) {x y : Int} (hx0 : 0 ≤ x) (hx1 : x ≤ 1000) (hy0 : 0 ≤ y) (hy1 : y ≤ 1000) (hcl : (xNm M x y).2.2.2.1 ≤ c0 + R.cells) (hsl : (xNm M x y).2.2.2.2 ≤ s0 + R.slots) (h : xRd (p, l, e, R, s, m, args, below, meth, c) J A Z nL c0 s0 ps (pc + 1, L, (2, (M.2.2.2.1 : Int)) :: r, xNm M x y)) : xRd (p, l, e, R, s, m, args, below, meth, c) J A Z nL c0 s0 ps (pc, L, (0, y) :: (0, x) :: r, M) := by
  sorry
end XSTR
