/-! the law's code as a whole; what numbers a script may hold, in boxes -/
theorem zl_app {own : Nat} {ini : Bool} {ret : Option FieldType} {bytes : ByteArray} {ps : List Nat} : ∀ {l l2 : List (Instr × Nat)} {nx nx2 : List Nat}, nx.length = l.length → xChkP own ini ret bytes ps l nx = true → xChkP own ini ret bytes ps l2 nx2 = true → xChkP own ini ret bytes ps (l ++ l2) (nx ++ nx2) = true
  | [], l2, [], nx2, _, _, h => h
  | (a, pc) :: r, l2, q :: nx, nx2, hl, h, h2 => by
    show xChkP own ini ret bytes ps ((a, pc) :: (r ++ l2)) (q :: (nx ++ nx2)) = true
    unfold xChkP at h ⊢
    rw [Bool.and_eq_true] at h ⊢
    exact ⟨h.1, zl_app (by simpa using hl) h.2 h2⟩
theorem zl_join {own : Nat} {ini : Bool} {ret : Option FieldType} {bytes : ByteArray} {ps : List Nat} {c1 c2 : List Instr} {p1 p2 nx1 nx2 : List Nat} (hl : c1.length = p1.length) (hn : nx1.length = p1.length) (h1 : xChkP own ini ret bytes ps (c1.zip p1) nx1 = true) (h2 : xChkP own ini ret bytes ps (c2.zip p2) nx2 = true) : xChkP own ini ret bytes ps ((c1 ++ c2).zip (p1 ++ p2)) (nx1 ++ nx2) = true := by
  rw [List.zip_append hl]
  exact zl_app (by rw [List.length_zip, hl, hn]; omega) h1 h2
def nxLaw : List Nat := (psL_0.tail ++ [270]) ++ ((psL_1.tail ++ [316]) ++ ((psL_2.tail ++ [374]) ++ ((psL_3.tail ++ [424]) ++ ((psL_4.tail ++ [480]) ++ ((psL_5.tail ++ [532]) ++ ((psL_6.tail ++ [590]) ++ ((psL_7.tail ++ [640]) ++ ((psL_8.tail ++ [696]) ++ ((psL_9.tail ++ [746]) ++ ((psL_10.tail ++ [798]) ++ ((psL_11.tail ++ [852]) ++ ((psL_12.tail ++ [908]) ++ ((psL_13.tail ++ [964]) ++ ((psL_14.tail ++ [1015]) ++ ((psL_15.tail ++ [1068]) ++ ((psL_16.tail ++ [1119]) ++ ((psL_17.tail ++ [1172]) ++ ((psL_18.tail ++ [1223]) ++ ((psL_19.tail ++ [1274]) ++ ((psL_20.tail ++ [1328]) ++ ((psL_21.tail ++ [1380]) ++ ((psL_22.tail ++ [1430]) ++ ((psL_23.tail ++ [1482]) ++ ((psL_24.tail ++ [1528]) ++ ((psL_25.tail ++ [1582]) ++ ((psL_26.tail ++ [1642]) ++ ((psL_27.tail ++ [1696]) ++ ((psL_28.tail ++ [1754]) ++ ((psL_29.tail ++ [1804]) ++ ((psL_30.tail ++ [1856]) ++ ((psL_31.tail ++ [1902]) ++ ((psL_32.tail ++ [1948]) ++ ((psL_33.tail ++ [1992]) ++ ((psL_34.tail ++ [2050]) ++ ((psL_35.tail ++ [2106]) ++ ((psL_36.tail ++ [2158]) ++ ((psL_37.tail ++ [2203]) ++ ((psL_38.tail ++ [2254]) ++ ((psL_39.tail ++ [2296]) ++ ((psL_40.tail ++ [2323])))))))))))))))))))))))))))))))))))))))))
theorem ckLaw : xChkP 13 false (some .int) code psLaw (cdLaw.zip psLaw) nxLaw = true := zl_join rfl rfl ckL_0 (zl_join rfl rfl ckL_1 (zl_join rfl rfl ckL_2 (zl_join rfl rfl ckL_3 (zl_join rfl rfl ckL_4 (zl_join rfl rfl ckL_5 (zl_join rfl rfl ckL_6 (zl_join rfl rfl ckL_7 (zl_join rfl rfl ckL_8 (zl_join rfl rfl ckL_9 (zl_join rfl rfl ckL_10 (zl_join rfl rfl ckL_11 (zl_join rfl rfl ckL_12 (zl_join rfl rfl ckL_13 (zl_join rfl rfl ckL_14 (zl_join rfl rfl ckL_15 (zl_join rfl rfl ckL_16 (zl_join rfl rfl ckL_17 (zl_join rfl rfl ckL_18 (zl_join rfl rfl ckL_19 (zl_join rfl rfl ckL_20 (zl_join rfl rfl ckL_21 (zl_join rfl rfl ckL_22 (zl_join rfl rfl ckL_23 (zl_join rfl rfl ckL_24 (zl_join rfl rfl ckL_25 (zl_join rfl rfl ckL_26 (zl_join rfl rfl ckL_27 (zl_join rfl rfl ckL_28 (zl_join rfl rfl ckL_29 (zl_join rfl rfl ckL_30 (zl_join rfl rfl ckL_31 (zl_join rfl rfl ckL_32 (zl_join rfl rfl ckL_33 (zl_join rfl rfl ckL_34 (zl_join rfl rfl ckL_35 (zl_join rfl rfl ckL_36 (zl_join rfl rfl ckL_37 (zl_join rfl rfl ckL_38 (zl_join rfl rfl ckL_39 (ckL_40))))))))))))))))))))))))))))))))))))))))
theorem nxLaw_eq : nxLaw = psLaw.tail ++ [2323] := by decide +kernel
theorem psLaw_len : psLaw.length = 1619 ∧ psLaw.getD 0 1 = 0 := by decide +kernel
theorem cdLaw_len : cdLaw.length = 1619 := by decide +kernel
theorem cdLaw_end : (match cdLaw[1618]? with | some .ireturn => true | _ => false) = true := by decide +kernel
theorem zl_pts : xPts 13 false (some .int) code cdLaw psLaw := fun pc a ha => by
  have hl : pc < cdLaw.length := (List.getElem?_eq_some_iff.mp ha).1
  have hlp := psLaw_len.1
  have hlc := cdLaw_len
  have hp : psLaw[pc]? = some (psLaw.getD pc 0) := by
    rw [List.getD_eq_getElem?_getD, List.getElem?_eq_getElem (by omega)]
    rfl
  have hz : (cdLaw.zip psLaw)[pc]? = some (a, psLaw.getD pc 0) := by
    rw [List.getElem?_zip_eq_some]
    exact ⟨ha, hp⟩
  obtain ⟨i, len, q1, q2, q3, q4⟩ := xChkP_at ckLaw pc a _ hz
  refine ⟨i, len, q1, q2, q3, ?_⟩
  rw [nxLaw_eq] at q4
  by_cases h : pc + 1 < psLaw.length
  · left
    have e : (psLaw.tail ++ [2323])[pc]? = psLaw[pc + 1]? := by rw [List.getElem?_append_left (by rw [List.length_tail]; omega), List.getElem?_tail]
    rcases q4 with ⟨q, e1, e2⟩ | ⟨e1, -⟩
    · rw [e] at e1
      rw [List.getD_eq_getElem?_getD, e1]
      exact e2
    · rw [e, List.getElem?_eq_none_iff] at e1
      omega
  · right
    have e : pc = 1618 := by omega
    subst e
    have k := cdLaw_end
    rw [ha] at k
    split at k
    · rename_i e
      cases e
      rfl
    · cases k
theorem zl_spec : cdLaw.all (fun i => match i with | .invokespecial q => Nat.blt (q / 80 % 100) 13 | _ => true) = true := by decide +kernel
theorem zl_spec_at {q : Nat} (h : Instr.invokespecial q ∈ cdLaw) : q / 80 % 100 < 13 := by
  have k := List.all_eq_true.mp zl_spec _ h
  simpa only [Nat.blt_eq] using k
def zlTs : Nat → List Instr → Bool
  | _, [] => true
  | k, .tableswitch _ _ _ _ :: r => Nat.beq k 21 && zlTs (k + 1) r
  | k, _ :: r => zlTs (k + 1) r
theorem zlTs_at : ∀ {l : List Instr} {k pc : Nat} {t lo hi : Int} {ts : Array Int}, zlTs k l = true → l[pc]? = some (.tableswitch t lo hi ts) → k + pc = 21
  | [], _, _, _, _, _, _, _, h => by simp at h
  | i :: r, k, 0, t, lo, hi, ts, h, e => by
    have e : i = .tableswitch t lo hi ts := by simpa using e
    subst e
    exact Nat.eq_of_beq_eq_true (zz_and h).1
  | i :: r, k, pc + 1, t, lo, hi, ts, h, e => by
    have e : r[pc]? = some (.tableswitch t lo hi ts) := by simpa using e
    have h : zlTs (k + 1) r = true := by
      unfold zlTs at h
      split at h
      · rename_i e; cases e
      · rename_i e; cases e; exact (zz_and h).2
      · rename_i e; cases e; exact h
    have := zlTs_at h e
    omega
theorem zl_ts : zlTs 0 cdLaw = true := by decide +kernel
theorem zl_ts_at {pc : Nat} {t lo hi : Int} {ts : Array Int} {r : List Instr} (h : cdLaw.drop pc = .tableswitch t lo hi ts :: r) : pc = 21 := by
  have e : cdLaw[pc]? = some (.tableswitch t lo hi ts) := by
    have := congrArg (fun l : List Instr => l[0]?) h
    simpa using this
  have := zlTs_at zl_ts e
  omega
def zzTp : zzI := (-2147483648, 2147483647)
noncomputable def zzE0 : List zzV → List zzV → zzMm → Bool := fun _ _ _ => false
def zzLim : Nat × Nat := (255, 1623423)
noncomputable def zzm0 : zzMm := ((none : Option (zzT zzI 19 × zzT zzI 19)), (none : Option (zzT zzI 7 × zzT zzI 7)), 1, 0)
def zzL0 : List zzV := [(2, (-1, -1)), (9, (0, 0)), (9, (0, 0)), (9, (0, 0))]
def zM0 (L : Nat) (xs : Nat → Int32) : xH := (fun a j => if a = -1 ∧ 0 ≤ j ∧ j < (L : Int) then (xs j.toNat).toInt else 0, fun a => if a = -1 then 20 else -1, fun a => if a = -1 then (L : Int) else 0, 1, 0)
def zQ : Int → xH → Prop := fun r H => r = 1 ∧ H.2.2.2.1 ≤ 260 ∧ H.2.2.2.2 ≤ 1623423
theorem zzKs0 {S : zzQ} {E : List zzV → List zzV → zzMm → Bool} {n : Nat} : zzKs S zzLim E n [] zQ := fun n2 _ v m x H h hv hW => by
  have h : (zzEq v.1 1 && (zzEq v.2 1 && (Nat.ble m.2.2.1 255 && Nat.ble m.2.2.2 1623423))) = true := h
  obtain ⟨h1, h⟩ := zz_and h
  obtain ⟨h2, h⟩ := zz_and h
  obtain ⟨h3, h4⟩ := zz_and h
  have h1 := zzEq_ok h1
  have h2 := zzEq_ok h2
  have h5 : v.1 ≤ x := hv.1
  have h6 : x ≤ v.2 := hv.2
  exact ⟨by omega, by rw [hW.1.1]; exact Nat.le_trans (Nat.le_of_ble_eq_true h3) (by decide), by rw [hW.1.2.1]; exact Nat.le_of_ble_eq_true h4⟩
theorem zW0 {S : zzQ} {L : Nat} {xs : Nat → Int32} (h1 : (S.1.length : Int) ≤ (L : Int)) (h2 : (L : Int) ≤ S.2) (h : ∀ j : Nat, j < S.1.length → S.1.getD j (0, 0) = zzTp) : zzW S zzm0 (zM0 L xs) := by
  refine ⟨⟨rfl, rfl, by decide, fun a j a1 _ => (show (if a = -1 ∧ 0 ≤ j ∧ j < (L : Int) then (xs j.toNat).toInt else 0) = 0 from if_neg (by omega)), fun j => (show xIn 0 (if (-1 : Int) = -1 ∧ 0 ≤ j ∧ j < (L : Int) then (xs j.toNat).toInt else 0) from by
    by_cases e : (-1 : Int) = -1 ∧ 0 ≤ j ∧ j < (L : Int)
    · rw [if_pos e]; exact xi_in _
    · rw [if_neg e]; exact ⟨by decide, by decide⟩)⟩, fun a a1 a2 => ?_, fun a j a1 a2 _ _ => ?_, fun a j _ _ _ _ => rfl, (by show (if (-1 : Int) = -1 then (20 : Int) else -1) = 20; rw [if_pos rfl]), ?_, fun j hj => ?_⟩
  · have a2 : a < 1 := a2
    omega
  · have a2 : a < 1 := a2
    omega
  · show (S.1.length : Int) ≤ (if (-1 : Int) = -1 then (L : Int) else 0) ∧ (if (-1 : Int) = -1 then (L : Int) else 0) ≤ S.2
    rw [if_pos rfl]; exact ⟨h1, h2⟩
  · rw [h j hj]
    show zzM zzTp (if (-1 : Int) = -1 ∧ 0 ≤ (j : Int) ∧ (j : Int) < (L : Int) then (xs ((j : Int)).toNat).toInt else 0)
    rw [if_pos ⟨rfl, by omega, by omega⟩]
    have k : (-2147483648 : Int) ≤ (xs ((j : Int)).toNat).toInt ∧ (xs ((j : Int)).toNat).toInt < 2147483648 := xi_in _
    exact ⟨k.1, by show (xs ((j : Int)).toNat).toInt ≤ 2147483647; omega⟩
theorem zHo0 {S : zzQ} {d : Nat} {cd : List Instr} {Q : Int → xH → Prop} : zzHo S zzE0 d cd Q := fun _ _ _ _ _ _ _ h _ _ _ _ => by cases h
set_option maxRecDepth 1000000 in
theorem zr_short : zzRun ([], 6) zzLim zzE0 200000 15 cdLaw cdLaw zzL0 [] zzm0 [] = true := by decide +kernel
