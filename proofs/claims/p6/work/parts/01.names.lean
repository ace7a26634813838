-- ===== PART A: goes FIRST, ahead of the names: the tables' words, and 'selects' of the private methods out of them =====
def x_pk {α : Type} : List α → List Nat → List α
  | _, [] => []
  | big, g :: gs => match big.drop g with
    | [] => []
    | a :: r => a :: x_pk r gs
theorem x_pk_in {α : Type} : ∀ (gs : List Nat) (big : List α), ∀ w ∈ x_pk big gs, w ∈ big
  | [], _ => fun w h => absurd h List.not_mem_nil
  | g :: gs, big => fun w h => by
    unfold x_pk at h
    split at h
    · exact absurd h List.not_mem_nil
    · rename_i a r e
      have k : ∀ v ∈ a :: r, v ∈ big := fun v hv => List.mem_of_mem_drop (i := g) (by rw [e]; exact hv)
      rcases List.mem_cons.mp h with rfl | h
      · exact k _ (List.mem_cons_self ..)
      · exact k _ (List.mem_cons_of_mem _ (x_pk_in gs r w h))
theorem x_mem2 {α : Type} {big ws : List α} (gs ps : List Nat) (hp : ws = ps.filterMap (fun i => (x_pk big gs)[i]?)) : ∀ w ∈ ws, w ∈ big := by
  intro w hw
  rw [hp] at hw
  obtain ⟨i, -, hi⟩ := List.mem_filterMap.mp hw
  exact x_pk_in gs big w (List.mem_of_getElem? hi)
theorem x_map2 {α β : Type} {f : β → α} {big : List α} {ms : List β} (gs ps : List Nat) (h : ms.map f = ps.filterMap (fun i => (x_pk big gs)[i]?)) : ∀ m ∈ ms, f m ∈ big := fun m hm => x_mem2 gs ps h (f m) (List.mem_map.mpr ⟨m, hm, rfl⟩)
theorem x_map3 {α β : Type} {f : β → α} {big : List α} {ms : List β} (gs ps : List Nat) (S : List α) (h1 : x_pk big gs = S) (h : ms.map f = ps.filterMap (fun i => S[i]?)) : ∀ m ∈ ms, f m ∈ big := x_map2 gs ps (by rw [h1]; exact h)
/-- a private method of a class that the tables say can be made, by its rows of tables_1 -/
def lw_okq (q : MethodName × Nat) : Prop := (q.1.cls ≠ "java/lang/invoke/MethodHandle" ∧ q.1.cls ≠ "java/lang/invoke/VarHandle") ∧ Cond.instantiable q.1.cls q.2 ∈ tables_1 ∧ Cond.privateMethod q.1 ∈ tables_1 ∧ Cond.instanceMethod q.1 ∈ tables_1
def lw_privs_1 : List (MethodName × Nat) := [(⟨"LastCloud$Sky", "clear", "()V"⟩, 19), (⟨"LastCloud$Place", "clear", "()V"⟩, 7), (⟨"LastCloud$Hops", "build", "(LLastCloud$Sky;)V"⟩, 10), (⟨"LastCloud$Hops", "addFrom", "(LLastCloud$Sky;IZ)V"⟩, 10), (⟨"LastCloud$Hops", "add", "(LLastCloud$Sky;IZIZ)V"⟩, 10), (⟨"LastCloud$Sky", "takes", "(IZIZ)I"⟩, 19), (⟨"LastCloud$Sky", "overGround", "(IZIZ)I"⟩, 19), (⟨"LastCloud$Sky", "loses", "(IZIZ)I"⟩, 19), (⟨"LastCloud$Hops", "findEdges", "(LLastCloud$Sky;Z)V"⟩, 10), (⟨"LastCloud$Sky", "isToLandAt", "(I)Z"⟩, 19), (⟨"LastCloud$Hops", "leastByHop", "(LLastCloud$Sky;IZ)I"⟩, 10), (⟨"LastCloud$Hops", "edgeAt", "(IZ)I"⟩, 10), (⟨"LastCloud", "putNumber", "(I)V"⟩, 18), (⟨"LastCloud$Reader", "readAll", "(ILLastCloud$Sky;)I"⟩, 10), (⟨"LastCloud$Reader", "splitText", "(I)V"⟩, 10), (⟨"LastCloud$Reader", "addToken", "(III)V"⟩, 10)]
theorem lw_s1 : ∀ q ∈ lw_privs_1, q.1.cls ≠ "java/lang/invoke/MethodHandle" ∧ q.1.cls ≠ "java/lang/invoke/VarHandle" := by decide +kernel
theorem lw_r1 : ∀ q ∈ lw_privs_1, lw_okq q := fun q hq => ⟨lw_s1 q hq, x_map2 (f := fun q => Cond.instantiable q.1.cls q.2) [23, 7, 39, 50, 218] [2, 3, 4, 4, 4, 2, 2, 2, 4, 2, 4, 4, 0, 1, 1, 1] (by decide +kernel) q hq, x_map2 (f := fun q => Cond.privateMethod q.1) [212, 3, 307, 3, 3, 3, 3, 3, 8, 6, 4, 3, 66, 12, 4, 6] [0, 1, 2, 3, 4, 5, 6, 7, 8, 9, 10, 11, 12, 13, 14, 15] (by decide +kernel) q hq, x_map2 (f := fun q => Cond.instanceMethod q.1) [213, 3, 307, 3, 3, 3, 3, 3, 8, 6, 4, 3, 66, 12, 4, 6] [0, 1, 2, 3, 4, 5, 6, 7, 8, 9, 10, 11, 12, 13, 14, 15] (by decide +kernel) q hq⟩
def lw_privs_2 : List (MethodName × Nat) := [(⟨"LastCloud$Reader", "readLine", "()V"⟩, 10), (⟨"LastCloud$Reader", "lineKind", "()I"⟩, 10), (⟨"LastCloud$Reader", "isWord", "(Ljava/lang/String;)Z"⟩, 10), (⟨"LastCloud$Reader", "fail", "(I)V"⟩, 10), (⟨"LastCloud$Reader", "isFull", "(I)Z"⟩, 10), (⟨"LastCloud$Reader", "goOn", "()V"⟩, 10), (⟨"LastCloud$Reader", "readRest", "(I)V"⟩, 10), (⟨"LastCloud$Reader", "readPlace", "()V"⟩, 10), (⟨"LastCloud$Reader", "takeWord", "(Ljava/lang/String;)V"⟩, 10), (⟨"LastCloud$Reader", "takeNumber", "(II)I"⟩, 10), (⟨"LastCloud$Reader", "takeIf", "(Ljava/lang/String;)Z"⟩, 10), (⟨"LastCloud$Reader", "readLeg", "()V"⟩, 10), (⟨"LastCloud$Reader", "takePlace", "(I)I"⟩, 10), (⟨"LastCloud$Reader", "takeSigned", "(I)I"⟩, 10), (⟨"LastCloud$Reader", "readLift", "()V"⟩, 10), (⟨"LastCloud$Sky", "liftBits", "()I"⟩, 19)]
theorem lw_s2 : ∀ q ∈ lw_privs_2, q.1.cls ≠ "java/lang/invoke/MethodHandle" ∧ q.1.cls ≠ "java/lang/invoke/VarHandle" := by decide +kernel
theorem lw_r2 : ∀ q ∈ lw_privs_2, lw_okq q := fun q hq => ⟨lw_s2 q hq, x_map2 (f := fun q => Cond.instantiable q.1.cls q.2) [31, 39] [0, 0, 0, 0, 0, 0, 0, 0, 0, 0, 0, 0, 0, 0, 0, 1] (by decide +kernel) q hq, x_map2 (f := fun q => Cond.privateMethod q.1) [665, 3, 4, 61, 3, 9, 3, 3, 4, 3, 5, 4, 3, 5, 6, 3] [0, 1, 2, 3, 4, 5, 6, 7, 8, 9, 10, 11, 12, 13, 14, 15] (by decide +kernel) q hq, x_map2 (f := fun q => Cond.instanceMethod q.1) [666, 3, 4, 61, 3, 9, 3, 3, 4, 3, 5, 4, 3, 5, 6, 3] [0, 1, 2, 3, 4, 5, 6, 7, 8, 9, 10, 11, 12, 13, 14, 15] (by decide +kernel) q hq⟩
def lw_privs_3 : List (MethodName × Nat) := [(⟨"LastCloud$Sky", "hasPlace", "(I)Z"⟩, 19), (⟨"LastCloud$Reader", "readSpeed", "()V"⟩, 10), (⟨"LastCloud$Polar", "add", "(II)V"⟩, 3), (⟨"LastCloud$Reader", "readWorth", "()V"⟩, 10), (⟨"LastCloud$Reader", "readStart", "()V"⟩, 10), (⟨"LastCloud$Sky", "hasStart", "()Z"⟩, 19), (⟨"LastCloud", "forgetPlans", "()V"⟩, 18), (⟨"LastCloud$Sky", "hasLeg", "(I)Z"⟩, 19), (⟨"LastCloud$Sky", "hasSpeed", "(I)Z"⟩, 19), (⟨"LastCloud$Sky", "wins", "(IZ)I"⟩, 19), (⟨"LastCloud$Sky", "winsBy", "(IZ)I"⟩, 19), (⟨"LastCloud$Sky", "chanceNow", "(I)I"⟩, 19), (⟨"LastCloud$Place", "afterSight", "(II)I"⟩, 7), (⟨"LastCloud$Place", "bySign", "(IZI)I"⟩, 7), (⟨"LastCloud$Sights", "add", "(II)V"⟩, 3), (⟨"LastCloud$Sky", "hasSpot", "(II)Z"⟩, 19)]
theorem lw_s3 : ∀ q ∈ lw_privs_3, q.1.cls ≠ "java/lang/invoke/MethodHandle" ∧ q.1.cls ≠ "java/lang/invoke/VarHandle" := by decide +kernel
theorem lw_r3 : ∀ q ∈ lw_privs_3, lw_okq q := fun q hq => ⟨lw_s3 q hq, x_map2 (f := fun q => Cond.instantiable q.1.cls q.2) [23, 7, 39, 9, 21, 18] [2, 1, 3, 1, 1, 2, 0, 2, 2, 2, 2, 2, 5, 5, 4, 2] (by decide +kernel) q hq, x_map2 (f := fun q => Cond.privateMethod q.1) [806, 3, 4, 3, 5, 5, 5, 11, 3, 15, 3, 8, 3, 3, 7, 16] [0, 1, 2, 3, 4, 5, 6, 7, 8, 9, 10, 11, 12, 13, 14, 15] (by decide +kernel) q hq, x_map2 (f := fun q => Cond.instanceMethod q.1) [807, 3, 4, 3, 5, 5, 5, 11, 3, 15, 3, 8, 3, 3, 7, 16] [0, 1, 2, 3, 4, 5, 6, 7, 8, 9, 10, 11, 12, 13, 14, 15] (by decide +kernel) q hq⟩
def lw_privs_4 : List (MethodName × Nat) := [(⟨"LastCloud$Hops", "glide", "(LLastCloud$Sky;IIZ)V"⟩, 10), (⟨"LastCloud$Hops", "raiseFrom", "(LLastCloud$Sky;II)Z"⟩, 10), (⟨"LastCloud$Sky", "capped", "(I)I"⟩, 19), (⟨"LastCloud$Hops", "raiseTo", "(II)Z"⟩, 10), (⟨"LastCloud$Hops", "heightAt", "(I)I"⟩, 10), (⟨"LastCloud$Hops", "longestStreet", "(LLastCloud$Sky;)I"⟩, 10), (⟨"LastCloud$Sky", "allPlaces", "()I"⟩, 19), (⟨"LastCloud$Hops", "growStreets", "(II)V"⟩, 10), (⟨"LastCloud$Polar", "fastest", "(I)I"⟩, 3), (⟨"LastCloud$Polar", "tenHours", "(II)I"⟩, 3), (⟨"LastCloud$Polar", "flattest", "()I"⟩, 3), (⟨"LastCloud$Sky", "hasState", "(IIIZ)Z"⟩, 19), (⟨"LastCloud", "planOf", "(I)LLastCloud$Plan;"⟩, 18), (⟨"LastCloud$Plan", "begin", "(LLastCloud$Sky;LLastCloud$Hops;I)V"⟩, 15), (⟨"LastCloud$Plan", "leastByRule", "(IZ)I"⟩, 15), (⟨"LastCloud$Hops", "speedOf", "(I)I"⟩, 10)]
theorem lw_s4 : ∀ q ∈ lw_privs_4, q.1.cls ≠ "java/lang/invoke/MethodHandle" ∧ q.1.cls ≠ "java/lang/invoke/VarHandle" := by decide +kernel
theorem lw_r4 : ∀ q ∈ lw_privs_4, lw_okq q := fun q hq => ⟨lw_s4 q hq, x_map2 (f := fun q => Cond.instantiable q.1.cls q.2) [23, 47, 9, 259, 673] [3, 3, 1, 3, 3, 3, 1, 3, 2, 2, 2, 1, 0, 4, 4, 3] (by decide +kernel) q hq, x_map2 (f := fun q => Cond.privateMethod q.1) [919, 4, 3, 4, 3, 22, 3, 4, 10, 7, 7, 10, 4, 59, 5, 6] [0, 1, 2, 3, 4, 5, 6, 7, 8, 9, 10, 11, 12, 13, 14, 15] (by decide +kernel) q hq, x_map2 (f := fun q => Cond.instanceMethod q.1) [920, 4, 3, 4, 3, 22, 3, 4, 10, 7, 7, 10, 4, 59, 5, 6] [0, 1, 2, 3, 4, 5, 6, 7, 8, 9, 10, 11, 12, 13, 14, 15] (by decide +kernel) q hq⟩
def lw_privs_5 : List (MethodName × Nat) := [(⟨"LastCloud$Sky", "fastSpeedTo", "(I)I"⟩, 19), (⟨"LastCloud$Plan", "fill", "(IZ)V"⟩, 15), (⟨"LastCloud$Plan", "fillPeriod", "(IZ)V"⟩, 15), (⟨"LastCloud$Plan", "bestHop", "(IZII)I"⟩, 15), (⟨"LastCloud$Plan", "behind", "(IIZI)I"⟩, 15), (⟨"LastCloud$Plan", "mixedAt", "(I)I"⟩, 15), (⟨"LastCloud$Plan", "settle", "(IIIIIZ)V"⟩, 15), (⟨"LastCloud$Sky", "landingWorth", "(III)I"⟩, 19), (⟨"LastCloud$Plan", "worthAt", "(IZ)I"⟩, 15), (⟨"LastCloud$Plan", "homeAt", "(IZ)I"⟩, 15), (⟨"LastCloud$Plan", "doneAt", "(IZ)I"⟩, 15), (⟨"LastCloud$Plan", "chanceAt", "(I)I"⟩, 15), (⟨"LastCloud$Plan", "deedAt", "(IZ)I"⟩, 15), (⟨"LastCloud$Sky", "startsWet", "()Z"⟩, 19), (⟨"LastCloud$Plan", "startWorth", "(Z)I"⟩, 15), (⟨"LastCloud", "leastToLeave", "(IIZZ)I"⟩, 18)]
theorem lw_s5 : ∀ q ∈ lw_privs_5, q.1.cls ≠ "java/lang/invoke/MethodHandle" ∧ q.1.cls ≠ "java/lang/invoke/VarHandle" := by decide +kernel
theorem lw_r5 : ∀ q ∈ lw_privs_5, lw_okq q := fun q hq => ⟨lw_s5 q hq, x_map2 (f := fun q => Cond.instantiable q.1.cls q.2) [23, 47, 943] [1, 2, 2, 2, 2, 2, 2, 1, 2, 2, 2, 2, 2, 1, 2, 0] (by decide +kernel) q hq, x_map2 (f := fun q => Cond.privateMethod q.1) [1089, 4, 3, 3, 4, 7, 7, 3, 4, 3, 3, 3, 12, 13, 3, 12] [0, 1, 2, 3, 4, 5, 6, 7, 8, 9, 10, 11, 12, 13, 14, 15] (by decide +kernel) q hq, x_map2 (f := fun q => Cond.instanceMethod q.1) [1090, 4, 3, 3, 4, 7, 7, 3, 4, 3, 3, 3, 12, 13, 3, 12] [0, 1, 2, 3, 4, 5, 6, 7, 8, 9, 10, 11, 12, 13, 14, 15] (by decide +kernel) q hq⟩
def lw_privs_6 : List (MethodName × Nat) := [(⟨"LastCloud", "trialPlan", "()LLastCloud$Plan;"⟩, 18), (⟨"LastCloud$Plan", "setDryWin", "(II)V"⟩, 15), (⟨"LastCloud$Outcomes", "spreadFromStart", "(LLastCloud$Plan;)V"⟩, 5), (⟨"LastCloud$Outcomes", "arrive", "(II)V"⟩, 5), (⟨"LastCloud$Outcomes", "mark", "(IZ)V"⟩, 5), (⟨"LastCloud$Outcomes", "spreadFrom", "(IZ)V"⟩, 5), (⟨"LastCloud$Outcomes", "marksAt", "(I)I"⟩, 5), (⟨"LastCloud$Outcomes", "follow", "(IZIIZ)V"⟩, 5), (⟨"LastCloud$Outcomes", "followLeg", "(IIZII)V"⟩, 5), (⟨"LastCloud", "startWorthWith", "(II)I"⟩, 18), (⟨"LastCloud$Plan", "setChance", "(II)V"⟩, 15), (⟨"LastCloud", "bestStartWorth", "()I"⟩, 18), (⟨"LastCloud$Flight", "beginUnderAllLifts", "(LLastCloud$Sky;)V"⟩, 18), (⟨"LastCloud$Flight", "takeOff", "(LLastCloud$Sky;)V"⟩, 18), (⟨"LastCloud$Flight", "meetLift", "()V"⟩, 18), (⟨"LastCloud$Flight", "drawOfHundred", "()I"⟩, 18)]
theorem lw_s6 : ∀ q ∈ lw_privs_6, q.1.cls ≠ "java/lang/invoke/MethodHandle" ∧ q.1.cls ≠ "java/lang/invoke/VarHandle" := by decide +kernel
theorem lw_r6 : ∀ q ∈ lw_privs_6, lw_okq q := fun q hq => ⟨lw_s6 q hq, x_map2 (f := fun q => Cond.instantiable q.1.cls q.2) [23, 368, 24, 597] [0, 3, 1, 1, 1, 1, 1, 1, 1, 0, 3, 0, 2, 2, 2, 2] (by decide +kernel) q hq, x_map2 (f := fun q => Cond.privateMethod q.1) [1204, 4, 7, 10, 4, 4, 3, 3, 9, 11, 4, 3, 21, 3, 5, 3] [0, 1, 2, 3, 4, 5, 6, 7, 8, 9, 10, 11, 12, 13, 14, 15] (by decide +kernel) q hq, x_map2 (f := fun q => Cond.instanceMethod q.1) [1205, 4, 7, 10, 4, 4, 3, 3, 9, 11, 4, 3, 21, 3, 5, 3] [0, 1, 2, 3, 4, 5, 6, 7, 8, 9, 10, 11, 12, 13, 14, 15] (by decide +kernel) q hq⟩
def lw_privs_7 : List (MethodName × Nat) := [(⟨"LastCloud$Flight", "deedBy", "(LLastCloud$Plan;)I"⟩, 18), (⟨"LastCloud$Flight", "tryDeed", "(J)Z"⟩, 18), (⟨"LastCloud$Flight", "tryClimb", "()Z"⟩, 18), (⟨"LastCloud$Flight", "tryLeg", "(II)Z"⟩, 18), (⟨"LastCloud", "flyOnce", "(LLastCloud$Flight;II)V"⟩, 18), (⟨"LastCloud$Flight", "follow", "(LLastCloud$Plan;LLastCloud$Sky;I)V"⟩, 18), (⟨"LastCloud$Flight", "begin", "(LLastCloud$Sky;I)V"⟩, 18), (⟨"LastCloud$Flight", "note", "(I)V"⟩, 18), (⟨"LastCloud$Flight", "noted", "(II)I"⟩, 18), (⟨"LastCloud$Flight", "endOf", "(I)I"⟩, 18), (⟨"LastCloud", "areFlights", "(III)Z"⟩, 18), (⟨"LastCloud$Flight", "spreadValue", "(I)I"⟩, 18), (⟨"LastCloud$Route", "fewest", "(LLastCloud$Sky;LLastCloud$Hops;I)I"⟩, 9), (⟨"LastCloud$Route", "begin", "(LLastCloud$Sky;LLastCloud$Hops;I)V"⟩, 9), (⟨"LastCloud$Route", "setLeast", "(II)V"⟩, 9), (⟨"LastCloud$Route", "pointBitAt", "(I)I"⟩, 9)]
theorem lw_s7 : ∀ q ∈ lw_privs_7, q.1.cls ≠ "java/lang/invoke/MethodHandle" ∧ q.1.cls ≠ "java/lang/invoke/VarHandle" := by decide +kernel
theorem lw_r7 : ∀ q ∈ lw_privs_7, lw_okq q := fun q hq => ⟨lw_s7 q hq, x_map2 (f := fun q => Cond.instantiable q.1.cls q.2) [23, 393, 65] [1, 1, 1, 1, 0, 1, 1, 1, 1, 1, 0, 1, 2, 2, 2, 2] (by decide +kernel) q hq, x_map2 (f := fun q => Cond.privateMethod q.1) [1322, 5, 4, 6, 16, 3, 3, 4, 10, 7, 15, 11, 10, 3, 10, 3] [0, 1, 2, 3, 4, 5, 6, 7, 8, 9, 10, 11, 12, 13, 14, 15] (by decide +kernel) q hq, x_map2 (f := fun q => Cond.instanceMethod q.1) [1323, 5, 4, 6, 16, 3, 3, 4, 10, 7, 15, 11, 10, 3, 10, 3] [0, 1, 2, 3, 4, 5, 6, 7, 8, 9, 10, 11, 12, 13, 14, 15] (by decide +kernel) q hq⟩
def lw_privs_8 : List (MethodName × Nat) := [(⟨"LastCloud$Route", "fillPeriods", "(I)V"⟩, 9), (⟨"LastCloud$Route", "leastAt", "(I)I"⟩, 9), (⟨"LastCloud$Route", "leastByHops", "(III)I"⟩, 9), (⟨"LastCloud$Route", "behind", "(III)I"⟩, 9), (⟨"LastCloud$Route", "walk", "(I)V"⟩, 9), (⟨"LastCloud$Route", "addToWay", "(I)V"⟩, 9), (⟨"LastCloud$Route", "winsAt", "(I)I"⟩, 9), (⟨"LastCloud$Route", "firstHop", "(IIII)I"⟩, 9), (⟨"LastCloud", "slotsWithRow", "()I"⟩, 18), (⟨"LastCloud$Sky", "copyFrom", "(LLastCloud$Sky;)V"⟩, 19), (⟨"LastCloud$Place", "copyFrom", "(LLastCloud$Place;)V"⟩, 7), (⟨"LastCloud$Leg", "copyFrom", "(LLastCloud$Leg;)V"⟩, 6), (⟨"LastCloud$Polar", "copyFrom", "(LLastCloud$Polar;)V"⟩, 3), (⟨"LastCloud$Sights", "copyFrom", "(LLastCloud$Sights;)V"⟩, 3), (⟨"LastCloudModel", "forgets", "()V"⟩, 53), (⟨"LastCloudModel", "advance", "()V"⟩, 53)]
theorem lw_s8 : ∀ q ∈ lw_privs_8, q.1.cls ≠ "java/lang/invoke/MethodHandle" ∧ q.1.cls ≠ "java/lang/invoke/VarHandle" := by decide +kernel
theorem lw_r8 : ∀ q ∈ lw_privs_8, lw_okq q := fun q hq => ⟨lw_s8 q hq, x_map2 (f := fun q => Cond.instantiable q.1.cls q.2) [23, 47, 9, 21, 18, 47, 312, 1079] [6, 6, 6, 6, 6, 6, 6, 6, 0, 1, 4, 5, 2, 3, 7, 7] (by decide +kernel) q hq, x_map2 (f := fun q => Cond.privateMethod q.1) [1451, 3, 3, 4, 9, 3, 3, 4, 17, 7, 3, 3, 3, 6, 40, 190] [0, 1, 2, 3, 4, 5, 6, 7, 8, 9, 10, 11, 12, 13, 14, 15] (by decide +kernel) q hq, x_map2 (f := fun q => Cond.instanceMethod q.1) [1452, 3, 3, 4, 9, 3, 3, 4, 17, 7, 3, 3, 3, 6, 40, 190] [0, 1, 2, 3, 4, 5, 6, 7, 8, 9, 10, 11, 12, 13, 14, 15] (by decide +kernel) q hq⟩
def lw_privs_9 : List (MethodName × Nat) := [(⟨"LastCloudModel", "see", "(I)I"⟩, 53), (⟨"LastCloudModel", "good", "()Z"⟩, 53), (⟨"LastCloudModel", "readLine", "()V"⟩, 53), (⟨"LastCloudModel", "onceHere", "()I"⟩, 53), (⟨"LastCloudModel", "is", "(Ljava/lang/String;)Z"⟩, 53), (⟨"LastCloudModel", "errs", "(I)V"⟩, 53), (⟨"LastCloudModel", "readOnce", "(I)V"⟩, 53), (⟨"LastCloudModel", "number", "(II)I"⟩, 53), (⟨"LastCloudModel", "told", "(Ljava/lang/String;II)I"⟩, 53), (⟨"LastCloudModel", "needs", "(Ljava/lang/String;)V"⟩, 53), (⟨"LastCloudModel", "takes", "(Ljava/lang/String;)Z"⟩, 53), (⟨"LastCloudModel", "readStart", "()V"⟩, 53), (⟨"LastCloudModel", "place", "()I"⟩, 53), (⟨"LastCloudModel", "readPlace", "()V"⟩, 53), (⟨"LastCloudModel", "readLeg", "()V"⟩, 53), (⟨"LastCloudModel", "signed", "(I)I"⟩, 53)]
theorem lw_s9 : ∀ q ∈ lw_privs_9, q.1.cls ≠ "java/lang/invoke/MethodHandle" ∧ q.1.cls ≠ "java/lang/invoke/VarHandle" := by decide +kernel
theorem lw_r9 : ∀ q ∈ lw_privs_9, lw_okq q := fun q hq => ⟨lw_s9 q hq, x_map2 (f := fun q => Cond.instantiable q.1.cls q.2) [1563] [0, 0, 0, 0, 0, 0, 0, 0, 0, 0, 0, 0, 0, 0, 0, 0] (by decide +kernel) q hq, x_map2 (f := fun q => Cond.privateMethod q.1) [1768, 9, 3, 3, 4, 15, 9, 3, 4, 3, 3, 5, 3, 5, 5, 5] [0, 1, 2, 3, 4, 5, 6, 7, 8, 9, 10, 11, 12, 13, 14, 15] (by decide +kernel) q hq, x_map2 (f := fun q => Cond.instanceMethod q.1) [1769, 9, 3, 3, 4, 15, 9, 3, 4, 3, 3, 5, 3, 5, 5, 5] [0, 1, 2, 3, 4, 5, 6, 7, 8, 9, 10, 11, 12, 13, 14, 15] (by decide +kernel) q hq⟩
def lw_privs_10 : List (MethodName × Nat) := [(⟨"LastCloudModel", "readLift", "()V"⟩, 53), (⟨"LastCloudModel", "readPoint", "()V"⟩, 53), (⟨"LastCloudModel", "ofPlace", "(II)I"⟩, 53), (⟨"LastCloudModel", "isLeg", "(I)Z"⟩, 53), (⟨"LastCloudModel", "isSpeed", "(I)Z"⟩, 53), (⟨"LastCloudModel", "periodsOf", "(IZIZ)I"⟩, 53), (⟨"LastCloudModel", "ofLeg", "(II)I"⟩, 53), (⟨"LastCloudModel", "lossOf", "(III)I"⟩, 53), (⟨"LastCloudModel", "isPlace", "(I)Z"⟩, 53), (⟨"LastCloudModel", "climbOf", "(IZ)I"⟩, 53), (⟨"LastCloudModel", "upOf", "(I)I"⟩, 53), (⟨"LastCloudModel", "chanceNow", "(I)I"⟩, 53), (⟨"LastCloudModel", "bySign", "(IIZI)I"⟩, 53), (⟨"LastCloudModel", "isHeight", "(II)Z"⟩, 53), (⟨"LastCloudModel", "glides", "(IIZ)V"⟩, 53), (⟨"LastCloudModel", "laysWays", "()V"⟩, 53)]
theorem lw_s10 : ∀ q ∈ lw_privs_10, q.1.cls ≠ "java/lang/invoke/MethodHandle" ∧ q.1.cls ≠ "java/lang/invoke/VarHandle" := by decide +kernel
theorem lw_r10 : ∀ q ∈ lw_privs_10, lw_okq q := fun q hq => ⟨lw_s10 q hq, x_map2 (f := fun q => Cond.instantiable q.1.cls q.2) [1563] [0, 0, 0, 0, 0, 0, 0, 0, 0, 0, 0, 0, 0, 0, 0, 0] (by decide +kernel) q hq, x_map2 (f := fun q => Cond.privateMethod q.1) [1869, 7, 3, 8, 3, 3, 3, 8, 7, 3, 3, 7, 3, 20, 3, 3] [0, 1, 2, 3, 4, 5, 6, 7, 8, 9, 10, 11, 12, 13, 14, 15] (by decide +kernel) q hq, x_map2 (f := fun q => Cond.instanceMethod q.1) [1870, 7, 3, 8, 3, 3, 3, 8, 7, 3, 3, 7, 3, 20, 3, 3] [0, 1, 2, 3, 4, 5, 6, 7, 8, 9, 10, 11, 12, 13, 14, 15] (by decide +kernel) q hq⟩
def lw_privs_11 : List (MethodName × Nat) := [(⟨"LastCloudModel", "laysFrom", "(II)V"⟩, 53), (⟨"LastCloudModel", "comesAt", "(II)I"⟩, 53), (⟨"LastCloudModel", "fieldsOf", "(IIZ)I"⟩, 53), (⟨"LastCloudModel", "fastOf", "(I)I"⟩, 53), (⟨"LastCloudModel", "isState", "(IIIZ)Z"⟩, 53), (⟨"LastCloudModel", "solves", "(I)V"⟩, 53), (⟨"LastCloudModel", "looks", "(IIIIII)V"⟩, 53), (⟨"LastCloudModel", "landingOf", "(II)I"⟩, 53), (⟨"LastCloudModel", "higher", "(III)I"⟩, 53), (⟨"LastCloudModel", "takesOver", "(III)V"⟩, 53), (⟨"LastCloudModel", "isRuled", "(IIII)Z"⟩, 53), (⟨"LastCloudModel", "mixed", "([IIIII)I"⟩, 53), (⟨"LastCloudModel", "chanceOf", "(I)I"⟩, 53), (⟨"LastCloudModel", "hasStart", "()Z"⟩, 53), (⟨"LastCloudModel", "startWet", "()I"⟩, 53), (⟨"LastCloudModel", "startOf", "(II)I"⟩, 53)]
theorem lw_s11 : ∀ q ∈ lw_privs_11, q.1.cls ≠ "java/lang/invoke/MethodHandle" ∧ q.1.cls ≠ "java/lang/invoke/VarHandle" := by decide +kernel
theorem lw_r11 : ∀ q ∈ lw_privs_11, lw_okq q := fun q hq => ⟨lw_s11 q hq, x_map2 (f := fun q => Cond.instantiable q.1.cls q.2) [1563] [0, 0, 0, 0, 0, 0, 0, 0, 0, 0, 0, 0, 0, 0, 0, 0] (by decide +kernel) q hq, x_map2 (f := fun q => Cond.privateMethod q.1) [1972, 3, 7, 23, 18, 3, 3, 6, 3, 3, 3, 3, 3, 18, 3, 3] [0, 1, 2, 3, 4, 5, 6, 7, 8, 9, 10, 11, 12, 13, 14, 15] (by decide +kernel) q hq, x_map2 (f := fun q => Cond.instanceMethod q.1) [1973, 3, 7, 23, 18, 3, 3, 6, 3, 3, 3, 3, 3, 18, 3, 3] [0, 1, 2, 3, 4, 5, 6, 7, 8, 9, 10, 11, 12, 13, 14, 15] (by decide +kernel) q hq⟩
def lw_privs_12 : List (MethodName × Nat) := [(⟨"LastCloudModel", "leaves", "(IIZI)I"⟩, 53), (⟨"LastCloudModel", "endOf", "(IIIIIZ)I"⟩, 53), (⟨"LastCloudModel", "wayOf", "(III)I"⟩, 53), (⟨"LastCloudModel", "endsBehind", "(IIIIZ)I"⟩, 53), (⟨"LastCloudModel", "startWith", "(II)I"⟩, 53), (⟨"LastCloudModel", "canFly", "(II)Z"⟩, 53), (⟨"LastCloudModel", "flies", "(II)V"⟩, 53), (⟨"LastCloudModel", "sets", "(I)V"⟩, 53), (⟨"LastCloudModel", "draw", "(I)I"⟩, 53), (⟨"LastCloudModel", "does", "(J)Z"⟩, 53), (⟨"LastCloudModel", "canFlyAll", "(III)Z"⟩, 53), (⟨"LastCloudModel", "fliesAll", "(III)V"⟩, 53), (⟨"LastCloudModel", "liftSet", "()I"⟩, 53), (⟨"LastCloudModel", "soonBy", "(I)I"⟩, 53), (⟨"LastCloudModel", "reckons", "(I)V"⟩, 53), (⟨"LastCloudModel", "isIn", "(IIIII)Z"⟩, 53)]
theorem lw_s12 : ∀ q ∈ lw_privs_12, q.1.cls ≠ "java/lang/invoke/MethodHandle" ∧ q.1.cls ≠ "java/lang/invoke/VarHandle" := by decide +kernel
theorem lw_r12 : ∀ q ∈ lw_privs_12, lw_okq q := fun q hq => ⟨lw_s12 q hq, x_map2 (f := fun q => Cond.instantiable q.1.cls q.2) [1563] [0, 0, 0, 0, 0, 0, 0, 0, 0, 0, 0, 0, 0, 0, 0, 0] (by decide +kernel) q hq, x_map2 (f := fun q => Cond.privateMethod q.1) [2101, 19, 3, 3, 7, 23, 4, 3, 3, 7, 26, 4, 15, 3, 3, 6] [0, 1, 2, 3, 4, 5, 6, 7, 8, 9, 10, 11, 12, 13, 14, 15] (by decide +kernel) q hq, x_map2 (f := fun q => Cond.instanceMethod q.1) [2102, 19, 3, 3, 7, 23, 4, 3, 3, 7, 26, 4, 15, 3, 3, 6] [0, 1, 2, 3, 4, 5, 6, 7, 8, 9, 10, 11, 12, 13, 14, 15] (by decide +kernel) q hq⟩
def lw_privs_13 : List (MethodName × Nat) := [(⟨"LastCloudModel", "climbsIn", "(IIIII)Z"⟩, 53), (⟨"LastCloudModel", "goesIn", "(IIII)Z"⟩, 53)]
theorem lw_s13 : ∀ q ∈ lw_privs_13, q.1.cls ≠ "java/lang/invoke/MethodHandle" ∧ q.1.cls ≠ "java/lang/invoke/VarHandle" := by decide +kernel
theorem lw_r13 : ∀ q ∈ lw_privs_13, lw_okq q := fun q hq => ⟨lw_s13 q hq, x_map2 (f := fun q => Cond.instantiable q.1.cls q.2) [1563] [0, 0] (by decide +kernel) q hq, x_map2 (f := fun q => Cond.privateMethod q.1) [2249, 3] [0, 1] (by decide +kernel) q hq, x_map2 (f := fun q => Cond.instanceMethod q.1) [2250, 3] [0, 1] (by decide +kernel) q hq⟩
def lw_privs : List (MethodName × Nat) := lw_privs_1 ++ (lw_privs_2 ++ (lw_privs_3 ++ (lw_privs_4 ++ (lw_privs_5 ++ (lw_privs_6 ++ (lw_privs_7 ++ (lw_privs_8 ++ (lw_privs_9 ++ (lw_privs_10 ++ (lw_privs_11 ++ (lw_privs_12 ++ (lw_privs_13))))))))))))
def lw_tbl : List Cond := k2_sels lw_privs ++ tables_1
theorem lw_privs_ok : ∀ q ∈ lw_privs, lw_okq q := by
  show ∀ q ∈ lw_privs_1 ++ (lw_privs_2 ++ (lw_privs_3 ++ (lw_privs_4 ++ (lw_privs_5 ++ (lw_privs_6 ++ (lw_privs_7 ++ (lw_privs_8 ++ (lw_privs_9 ++ (lw_privs_10 ++ (lw_privs_11 ++ (lw_privs_12 ++ (lw_privs_13)))))))))))), lw_okq q
  exact List.forall_mem_append.mpr ⟨lw_r1, List.forall_mem_append.mpr ⟨lw_r2, List.forall_mem_append.mpr ⟨lw_r3, List.forall_mem_append.mpr ⟨lw_r4, List.forall_mem_append.mpr ⟨lw_r5, List.forall_mem_append.mpr ⟨lw_r6, List.forall_mem_append.mpr ⟨lw_r7, List.forall_mem_append.mpr ⟨lw_r8, List.forall_mem_append.mpr ⟨lw_r9, List.forall_mem_append.mpr ⟨lw_r10, List.forall_mem_append.mpr ⟨lw_r11, List.forall_mem_append.mpr ⟨lw_r12, lw_r13⟩⟩⟩⟩⟩⟩⟩⟩⟩⟩⟩⟩

def RX0 : String := "LastCloud$Flight"
def TX0 : u_T := fun k => match k with
  | 0 => ("LastCloud$Flight", "deeds", "[I", true)
  | 1 => ("LastCloud$Flight", "places", "[I", true)
  | 2 => ("LastCloud$Flight", "heights", "[I", true)
  | 3 => ("LastCloud$Flight", "times", "[I", true)
  | 4 => ("LastCloud$Flight", "lifts", "[Z", true)
  | 5 => ("LastCloud$Flight", "chances", "[I", true)
  | 6 => ("LastCloud$Flight", "count", "I", false)
  | 7 => ("LastCloud$Flight", "sky", "LLastCloud$Sky;", false)
  | 8 => ("LastCloud$Flight", "drawn", "J", false)
  | 9 => ("LastCloud$Flight", "allLifts", "Z", false)
  | 10 => ("LastCloud$Flight", "place", "I", false)
  | 11 => ("LastCloud$Flight", "height", "I", false)
  | 12 => ("LastCloud$Flight", "period", "I", false)
  | 13 => ("LastCloud$Flight", "lift", "Z", false)
  | 14 => ("LastCloud$Flight", "wet", "Z", false)
  | 15 => ("LastCloud$Flight", "ended", "Z", false)
  | 16 => ("LastCloud$Flight", "endKind", "I", false)
  | _ => ("LastCloud$Flight", "endWorth", "I", false)
def tyX0 : Nat → FieldType := fun k => match k with
  | 0 => .array .int
  | 1 => .array .int
  | 2 => .array .int
  | 3 => .array .int
  | 4 => .array .boolean
  | 5 => .array .int
  | 6 => .int
  | 7 => .object "LastCloud$Sky"
  | 8 => .long
  | 9 => .boolean
  | 10 => .int
  | 11 => .int
  | 12 => .int
  | 13 => .boolean
  | 14 => .boolean
  | 15 => .boolean
  | 16 => .int
  | _ => .int
theorem nmX0 : ∀ a, a < 18 → ∀ b, b < 18 → a ≠ b → (TX0 a).2.1 ≠ (TX0 b).2.1 := by decide +kernel
theorem tyX0_ok : ∀ k, k < 18 → parseFieldDescriptor (TX0 k).2.2.1 = some (tyX0 k) := by decide +kernel
def RX1 : String := "LastCloud$Hops"
def TX1 : u_T := fun k => match k with
  | 0 => ("LastCloud$Hops", "firsts", "[I", true)
  | 1 => ("LastCloud$Hops", "tos", "[I", true)
  | 2 => ("LastCloud$Hops", "takes", "[I", true)
  | 3 => ("LastCloud$Hops", "losses", "[I", true)
  | 4 => ("LastCloud$Hops", "leasts", "[I", true)
  | 5 => ("LastCloud$Hops", "deeds", "[I", true)
  | 6 => ("LastCloud$Hops", "count", "I", false)
  | 7 => ("LastCloud$Hops", "edges", "[I", true)
  | 8 => ("LastCloud$Hops", "heights", "[I", true)
  | _ => ("LastCloud$Hops", "endings", "[I", true)
def tyX1 : Nat → FieldType := fun k => match k with
  | 0 => .array .int
  | 1 => .array .int
  | 2 => .array .int
  | 3 => .array .int
  | 4 => .array .int
  | 5 => .array .int
  | 6 => .int
  | 7 => .array .int
  | 8 => .array .int
  | _ => .array .int
theorem nmX1 : ∀ a, a < 10 → ∀ b, b < 10 → a ≠ b → (TX1 a).2.1 ≠ (TX1 b).2.1 := by decide +kernel
theorem tyX1_ok : ∀ k, k < 10 → parseFieldDescriptor (TX1 k).2.2.1 = some (tyX1 k) := by decide +kernel
def RX2 : String := "LastCloud$Leg"
def TX2 : u_T := fun k => match k with
  | 0 => ("LastCloud$Leg", "first", "I", false)
  | 1 => ("LastCloud$Leg", "second", "I", false)
  | 2 => ("LastCloud$Leg", "miles", "I", false)
  | 3 => ("LastCloud$Leg", "air", "I", false)
  | 4 => ("LastCloud$Leg", "wind", "I", false)
  | _ => ("LastCloud$Leg", "hill", "I", false)
def tyX2 : Nat → FieldType := fun k => match k with
  | 0 => .int
  | 1 => .int
  | 2 => .int
  | 3 => .int
  | 4 => .int
  | _ => .int
theorem nmX2 : ∀ a, a < 6 → ∀ b, b < 6 → a ≠ b → (TX2 a).2.1 ≠ (TX2 b).2.1 := by decide +kernel
theorem tyX2_ok : ∀ k, k < 6 → parseFieldDescriptor (TX2 k).2.2.1 = some (tyX2 k) := by decide +kernel
def RX3 : String := "LastCloud$Outcomes"
def TX3 : u_T := fun k => match k with
  | 0 => ("LastCloud$Outcomes", "reached", "[B", true)
  | 1 => ("LastCloud$Outcomes", "least", "I", false)
  | 2 => ("LastCloud$Outcomes", "greatest", "I", false)
  | 3 => ("LastCloud$Outcomes", "plan", "LLastCloud$Plan;", false)
  | _ => ("LastCloud$Outcomes", "sky", "LLastCloud$Sky;", false)
def tyX3 : Nat → FieldType := fun k => match k with
  | 0 => .array .byte
  | 1 => .int
  | 2 => .int
  | 3 => .object "LastCloud$Plan"
  | _ => .object "LastCloud$Sky"
theorem nmX3 : ∀ a, a < 5 → ∀ b, b < 5 → a ≠ b → (TX3 a).2.1 ≠ (TX3 b).2.1 := by decide +kernel
theorem tyX3_ok : ∀ k, k < 5 → parseFieldDescriptor (TX3 k).2.2.1 = some (tyX3 k) := by decide +kernel
def RX4 : String := "LastCloud$Place"
def TX4 : u_T := fun k => match k with
  | 0 => ("LastCloud$Place", "ground", "I", false)
  | 1 => ("LastCloud$Place", "field", "I", false)
  | 2 => ("LastCloud$Place", "hasLift", "Z", false)
  | 3 => ("LastCloud$Place", "chance", "I", false)
  | 4 => ("LastCloud$Place", "up", "I", false)
  | 5 => ("LastCloud$Place", "signThere", "I", false)
  | _ => ("LastCloud$Place", "signGone", "I", false)
def tyX4 : Nat → FieldType := fun k => match k with
  | 0 => .int
  | 1 => .int
  | 2 => .boolean
  | 3 => .int
  | 4 => .int
  | 5 => .int
  | _ => .int
theorem nmX4 : ∀ a, a < 7 → ∀ b, b < 7 → a ≠ b → (TX4 a).2.1 ≠ (TX4 b).2.1 := by decide +kernel
theorem tyX4_ok : ∀ k, k < 7 → parseFieldDescriptor (TX4 k).2.2.1 = some (tyX4 k) := by decide +kernel
def RX5 : String := "LastCloud$Plan"
def TX5 : u_T := fun k => match k with
  | 0 => ("LastCloud$Plan", "worthThere", "[I", true)
  | 1 => ("LastCloud$Plan", "worthGone", "[I", true)
  | 2 => ("LastCloud$Plan", "worthMixed", "[I", true)
  | 3 => ("LastCloud$Plan", "doneThere", "[I", true)
  | 4 => ("LastCloud$Plan", "doneGone", "[I", true)
  | 5 => ("LastCloud$Plan", "leasts", "[I", true)
  | 6 => ("LastCloud$Plan", "chances", "[I", true)
  | 7 => ("LastCloud$Plan", "winsDry", "[I", true)
  | 8 => ("LastCloud$Plan", "winsWet", "[I", true)
  | 9 => ("LastCloud$Plan", "begun", "Z", false)
  | 10 => ("LastCloud$Plan", "sky", "LLastCloud$Sky;", false)
  | 11 => ("LastCloud$Plan", "hops", "LLastCloud$Hops;", false)
  | 12 => ("LastCloud$Plan", "rule", "I", false)
  | 13 => ("LastCloud$Plan", "dryFrom", "I", false)
  | _ => ("LastCloud$Plan", "wetFrom", "I", false)
def tyX5 : Nat → FieldType := fun k => match k with
  | 0 => .array .int
  | 1 => .array .int
  | 2 => .array .int
  | 3 => .array .int
  | 4 => .array .int
  | 5 => .array .int
  | 6 => .array .int
  | 7 => .array .int
  | 8 => .array .int
  | 9 => .boolean
  | 10 => .object "LastCloud$Sky"
  | 11 => .object "LastCloud$Hops"
  | 12 => .int
  | 13 => .int
  | _ => .int
theorem nmX5 : ∀ a, a < 15 → ∀ b, b < 15 → a ≠ b → (TX5 a).2.1 ≠ (TX5 b).2.1 := by decide +kernel
theorem tyX5_ok : ∀ k, k < 15 → parseFieldDescriptor (TX5 k).2.2.1 = some (tyX5 k) := by decide +kernel
def RX6 : String := "LastCloud$Polar"
def TX6 : u_T := fun k => match k with
  | 0 => ("LastCloud$Polar", "count", "I", false)
  | 1 => ("LastCloud$Polar", "speeds", "[I", true)
  | _ => ("LastCloud$Polar", "sinks", "[I", true)
def tyX6 : Nat → FieldType := fun k => match k with
  | 0 => .int
  | 1 => .array .int
  | _ => .array .int
theorem nmX6 : ∀ a, a < 3 → ∀ b, b < 3 → a ≠ b → (TX6 a).2.1 ≠ (TX6 b).2.1 := by decide +kernel
theorem tyX6_ok : ∀ k, k < 3 → parseFieldDescriptor (TX6 k).2.2.1 = some (tyX6 k) := by decide +kernel
def RX7 : String := "LastCloud$Reader"
def TX7 : u_T := fun k => match k with
  | 0 => ("LastCloud$Reader", "text", "[B", true)
  | 1 => ("LastCloud$Reader", "kinds", "[I", true)
  | 2 => ("LastCloud$Reader", "froms", "[I", true)
  | 3 => ("LastCloud$Reader", "behinds", "[I", true)
  | 4 => ("LastCloud$Reader", "tokenCount", "I", false)
  | 5 => ("LastCloud$Reader", "at", "I", false)
  | 6 => ("LastCloud$Reader", "fault", "I", false)
  | 7 => ("LastCloud$Reader", "faultPlace", "I", false)
  | 8 => ("LastCloud$Reader", "toldOnce", "I", false)
  | _ => ("LastCloud$Reader", "sky", "LLastCloud$Sky;", false)
def tyX7 : Nat → FieldType := fun k => match k with
  | 0 => .array .byte
  | 1 => .array .int
  | 2 => .array .int
  | 3 => .array .int
  | 4 => .int
  | 5 => .int
  | 6 => .int
  | 7 => .int
  | 8 => .int
  | _ => .object "LastCloud$Sky"
theorem nmX7 : ∀ a, a < 10 → ∀ b, b < 10 → a ≠ b → (TX7 a).2.1 ≠ (TX7 b).2.1 := by decide +kernel
theorem tyX7_ok : ∀ k, k < 10 → parseFieldDescriptor (TX7 k).2.2.1 = some (tyX7 k) := by decide +kernel
def RX8 : String := "LastCloud$Route"
def TX8 : u_T := fun k => match k with
  | 0 => ("LastCloud$Route", "leasts", "[I", true)
  | 1 => ("LastCloud$Route", "pointBits", "[I", true)
  | 2 => ("LastCloud$Route", "wins", "[I", true)
  | 3 => ("LastCloud$Route", "way", "[I", true)
  | 4 => ("LastCloud$Route", "wayCount", "I", false)
  | 5 => ("LastCloud$Route", "allPoints", "I", false)
  | 6 => ("LastCloud$Route", "wet", "Z", false)
  | 7 => ("LastCloud$Route", "sky", "LLastCloud$Sky;", false)
  | _ => ("LastCloud$Route", "hops", "LLastCloud$Hops;", false)
def tyX8 : Nat → FieldType := fun k => match k with
  | 0 => .array .int
  | 1 => .array .int
  | 2 => .array .int
  | 3 => .array .int
  | 4 => .int
  | 5 => .int
  | 6 => .boolean
  | 7 => .object "LastCloud$Sky"
  | _ => .object "LastCloud$Hops"
theorem nmX8 : ∀ a, a < 9 → ∀ b, b < 9 → a ≠ b → (TX8 a).2.1 ≠ (TX8 b).2.1 := by decide +kernel
theorem tyX8_ok : ∀ k, k < 9 → parseFieldDescriptor (TX8 k).2.2.1 = some (tyX8 k) := by decide +kernel
def RX9 : String := "LastCloud$Sights"
def TX9 : u_T := fun k => match k with
  | 0 => ("LastCloud$Sights", "count", "I", false)
  | 1 => ("LastCloud$Sights", "places", "[I", true)
  | _ => ("LastCloud$Sights", "sorts", "[I", true)
def tyX9 : Nat → FieldType := fun k => match k with
  | 0 => .int
  | 1 => .array .int
  | _ => .array .int
theorem nmX9 : ∀ a, a < 3 → ∀ b, b < 3 → a ≠ b → (TX9 a).2.1 ≠ (TX9 b).2.1 := by decide +kernel
theorem tyX9_ok : ∀ k, k < 3 → parseFieldDescriptor (TX9 k).2.2.1 = some (tyX9 k) := by decide +kernel
def RX10 : String := "LastCloud$Sky"
def TX10 : u_T := fun k => match k with
  | 0 => ("LastCloud$Sky", "places", "[LLastCloud$Place;", true)
  | 1 => ("LastCloud$Sky", "legs", "[LLastCloud$Leg;", true)
  | 2 => ("LastCloud$Sky", "polar", "LLastCloud$Polar;", true)
  | 3 => ("LastCloud$Sky", "sights", "LLastCloud$Sights;", true)
  | 4 => ("LastCloud$Sky", "placeCount", "I", false)
  | 5 => ("LastCloud$Sky", "legCount", "I", false)
  | 6 => ("LastCloud$Sky", "lineCount", "I", false)
  | 7 => ("LastCloud$Sky", "turn", "I", false)
  | 8 => ("LastCloud$Sky", "water", "I", false)
  | 9 => ("LastCloud$Sky", "ceiling", "I", false)
  | 10 => ("LastCloud$Sky", "lastPeriod", "I", false)
  | 11 => ("LastCloud$Sky", "worthHome", "I", false)
  | 12 => ("LastCloud$Sky", "worthPeriod", "I", false)
  | 13 => ("LastCloud$Sky", "worthOut", "I", false)
  | 14 => ("LastCloud$Sky", "homePlace", "I", false)
  | 15 => ("LastCloud$Sky", "startPlace", "I", false)
  | 16 => ("LastCloud$Sky", "startHeight", "I", false)
  | 17 => ("LastCloud$Sky", "startWet", "Z", false)
  | _ => ("LastCloud$Sky", "pointBits", "I", false)
def tyX10 : Nat → FieldType := fun k => match k with
  | 0 => .array (.object "LastCloud$Place")
  | 1 => .array (.object "LastCloud$Leg")
  | 2 => .object "LastCloud$Polar"
  | 3 => .object "LastCloud$Sights"
  | 4 => .int
  | 5 => .int
  | 6 => .int
  | 7 => .int
  | 8 => .int
  | 9 => .int
  | 10 => .int
  | 11 => .int
  | 12 => .int
  | 13 => .int
  | 14 => .int
  | 15 => .int
  | 16 => .int
  | 17 => .boolean
  | _ => .int
theorem nmX10 : ∀ a, a < 19 → ∀ b, b < 19 → a ≠ b → (TX10 a).2.1 ≠ (TX10 b).2.1 := by decide +kernel
theorem tyX10_ok : ∀ k, k < 19 → parseFieldDescriptor (TX10 k).2.2.1 = some (tyX10 k) := by decide +kernel
def RX11 : String := "LastCloud"
def TX11 : u_T := fun k => match k with
  | 0 => ("LastCloud", "tape", "[B", true)
  | 1 => ("LastCloud", "tapeSize", "I", false)
  | 2 => ("LastCloud", "reader", "LLastCloud$Reader;", true)
  | 3 => ("LastCloud", "faultKind", "I", false)
  | 4 => ("LastCloud", "faultPlace", "I", false)
  | 5 => ("LastCloud", "now", "LLastCloud$Sky;", false)
  | 6 => ("LastCloud", "draft", "LLastCloud$Sky;", false)
  | 7 => ("LastCloud", "images", "[LLastCloud$Sky;", true)
  | 8 => ("LastCloud", "kept", "[Z", true)
  | 9 => ("LastCloud", "hops", "LLastCloud$Hops;", true)
  | 10 => ("LastCloud", "plans", "[LLastCloud$Plan;", true)
  | 11 => ("LastCloud", "outcomes", "LLastCloud$Outcomes;", true)
  | 12 => ("LastCloud", "latest", "LLastCloud$Flight;", true)
  | 13 => ("LastCloud", "other", "LLastCloud$Flight;", true)
  | 14 => ("LastCloud", "route", "LLastCloud$Route;", true)
  | 15 => ("LastCloud", "rows", "[[J", true)
  | 16 => ("LastCloud", "rowSizes", "[I", true)
  | _ => ("LastCloud", "rowWidths", "[I", true)
def tyX11 : Nat → FieldType := fun k => match k with
  | 0 => .array .byte
  | 1 => .int
  | 2 => .object "LastCloud$Reader"
  | 3 => .int
  | 4 => .int
  | 5 => .object "LastCloud$Sky"
  | 6 => .object "LastCloud$Sky"
  | 7 => .array (.object "LastCloud$Sky")
  | 8 => .array .boolean
  | 9 => .object "LastCloud$Hops"
  | 10 => .array (.object "LastCloud$Plan")
  | 11 => .object "LastCloud$Outcomes"
  | 12 => .object "LastCloud$Flight"
  | 13 => .object "LastCloud$Flight"
  | 14 => .object "LastCloud$Route"
  | 15 => .array (.array .long)
  | 16 => .array .int
  | _ => .array .int
theorem nmX11 : ∀ a, a < 18 → ∀ b, b < 18 → a ≠ b → (TX11 a).2.1 ≠ (TX11 b).2.1 := by decide +kernel
theorem tyX11_ok : ∀ k, k < 18 → parseFieldDescriptor (TX11 k).2.2.1 = some (tyX11 k) := by decide +kernel
def RX12 : String := "LastCloudModel"
def TX12 : u_T := fun k => match k with
  | 0 => ("LastCloudModel", "thrown", "I", false)
  | 1 => ("LastCloudModel", "world", "[I", true)
  | 2 => ("LastCloudModel", "images", "[I", true)
  | 3 => ("LastCloudModel", "hasImage", "[Z", true)
  | 4 => ("LastCloudModel", "tape", "[B", true)
  | 5 => ("LastCloudModel", "taped", "I", false)
  | 6 => ("LastCloudModel", "five", "[I", true)
  | 7 => ("LastCloudModel", "size", "I", false)
  | 8 => ("LastCloudModel", "at", "I", false)
  | 9 => ("LastCloudModel", "from", "I", false)
  | 10 => ("LastCloudModel", "token", "I", false)
  | 11 => ("LastCloudModel", "value", "I", false)
  | 12 => ("LastCloudModel", "faultKind", "I", false)
  | 13 => ("LastCloudModel", "faultPlace", "I", false)
  | 14 => ("LastCloudModel", "fresh", "[I", true)
  | 15 => ("LastCloudModel", "homeTold", "Z", false)
  | 16 => ("LastCloudModel", "triedPlace", "I", false)
  | 17 => ("LastCloudModel", "triedChance", "I", false)
  | 18 => ("LastCloudModel", "upPlace", "I", false)
  | 19 => ("LastCloudModel", "upTried", "I", false)
  | 20 => ("LastCloudModel", "wayMany", "[I", true)
  | 21 => ("LastCloudModel", "ways", "[I", true)
  | 22 => ("LastCloudModel", "waysLaid", "Z", false)
  | 23 => ("LastCloudModel", "highest", "[I", true)
  | 24 => ("LastCloudModel", "landable", "[I", true)
  | 25 => ("LastCloudModel", "streets", "[Z", true)
  | 26 => ("LastCloudModel", "worths", "[I", true)
  | 27 => ("LastCloudModel", "deeds", "[I", true)
  | 28 => ("LastCloudModel", "homes", "[I", true)
  | 29 => ("LastCloudModel", "solved", "I", false)
  | 30 => ("LastCloudModel", "fastTo", "[I", true)
  | 31 => ("LastCloudModel", "ends", "[I", true)
  | 32 => ("LastCloudModel", "drawn", "J", false)
  | 33 => ("LastCloudModel", "here", "I", false)
  | 34 => ("LastCloudModel", "high", "I", false)
  | 35 => ("LastCloudModel", "now", "I", false)
  | 36 => ("LastCloudModel", "lifted", "I", false)
  | 37 => ("LastCloudModel", "watered", "I", false)
  | 38 => ("LastCloudModel", "flownMany", "I", false)
  | 39 => ("LastCloudModel", "flights", "[I", true)
  | 40 => ("LastCloudModel", "toldMany", "I", false)
  | 41 => ("LastCloudModel", "toldFlight", "[I", true)
  | 42 => ("LastCloudModel", "toldEnd", "[I", true)
  | 43 => ("LastCloudModel", "homeMany", "I", false)
  | 44 => ("LastCloudModel", "worthSum", "I", false)
  | 45 => ("LastCloudModel", "spreads", "[I", true)
  | 46 => ("LastCloudModel", "left", "[I", true)
  | 47 => ("LastCloudModel", "pointBit", "[I", true)
  | 48 => ("LastCloudModel", "allPoints", "I", false)
  | 49 => ("LastCloudModel", "many", "[I", true)
  | 50 => ("LastCloudModel", "width", "[I", true)
  | 51 => ("LastCloudModel", "numbers", "[J", true)
  | _ => ("LastCloudModel", "moving", "[J", true)
def tyX12 : Nat → FieldType := fun k => match k with
  | 0 => .int
  | 1 => .array .int
  | 2 => .array .int
  | 3 => .array .boolean
  | 4 => .array .byte
  | 5 => .int
  | 6 => .array .int
  | 7 => .int
  | 8 => .int
  | 9 => .int
  | 10 => .int
  | 11 => .int
  | 12 => .int
  | 13 => .int
  | 14 => .array .int
  | 15 => .boolean
  | 16 => .int
  | 17 => .int
  | 18 => .int
  | 19 => .int
  | 20 => .array .int
  | 21 => .array .int
  | 22 => .boolean
  | 23 => .array .int
  | 24 => .array .int
  | 25 => .array .boolean
  | 26 => .array .int
  | 27 => .array .int
  | 28 => .array .int
  | 29 => .int
  | 30 => .array .int
  | 31 => .array .int
  | 32 => .long
  | 33 => .int
  | 34 => .int
  | 35 => .int
  | 36 => .int
  | 37 => .int
  | 38 => .int
  | 39 => .array .int
  | 40 => .int
  | 41 => .array .int
  | 42 => .array .int
  | 43 => .int
  | 44 => .int
  | 45 => .array .int
  | 46 => .array .int
  | 47 => .array .int
  | 48 => .int
  | 49 => .array .int
  | 50 => .array .int
  | 51 => .array .long
  | _ => .array .long
theorem nmX12 : ∀ a, a < 53 → ∀ b, b < 53 → a ≠ b → (TX12 a).2.1 ≠ (TX12 b).2.1 := by decide +kernel
theorem tyX12_ok : ∀ k, k < 53 → parseFieldDescriptor (TX12 k).2.2.1 = some (tyX12 k) := by decide +kernel
def RL : String := "LastCloudLaw"
abbrev vwCl : List vw_C := [(RX0, TX0, 18), (RX1, TX1, 10), (RX2, TX2, 6), (RX3, TX3, 5), (RX4, TX4, 7), (RX5, TX5, 15), (RX6, TX6, 3), (RX7, TX7, 10), (RX8, TX8, 9), (RX9, TX9, 3), (RX10, TX10, 19), (RX11, TX11, 18), (RX12, TX12, 53)]
theorem x_mem {big ws : List Cond} (ps : List Nat) (hp : ws = ps.filterMap (fun i => big[i]?)) : ∀ w ∈ ws, w ∈ big := by
  intro w hw
  rw [hp] at hw
  obtain ⟨i, -, hi⟩ := List.mem_filterMap.mp hw
  exact List.mem_of_getElem? hi
theorem x_in {w : Cond} (h : w ∈ tables_1) : w ∈ lw_tbl := List.mem_append_right _ h
theorem inX0 : ∀ w ∈ u_ws RX0 TX0 18, w ∈ tables_1 := x_mem2 [445, 1, 1, 1, 1, 1, 1, 1, 1, 1, 1, 1, 1, 1, 1, 1, 1, 1] [0, 1, 2, 3, 4, 5, 6, 7, 8, 9, 10, 11, 12, 13, 14, 15, 16, 17] (by decide +kernel)
theorem inX1 : ∀ w ∈ u_ws RX1 TX1 10, w ∈ tables_1 := x_mem2 [367, 1, 1, 1, 1, 1, 1, 1, 1, 1] [0, 1, 2, 3, 4, 5, 6, 7, 8, 9] (by decide +kernel)
theorem inX2 : ∀ w ∈ u_ws RX2 TX2 6, w ∈ tables_1 := x_mem2 [198, 1, 1, 1, 1, 1] [0, 1, 2, 3, 4, 5] (by decide +kernel)
theorem inX3 : ∀ w ∈ u_ws RX3 TX3 5, w ∈ tables_1 := x_mem2 [405, 1, 1, 1, 1] [0, 1, 2, 3, 4] (by decide +kernel)
theorem inX4 : ∀ w ∈ u_ws RX4 TX4 7, w ∈ tables_1 := x_mem2 [155, 1, 1, 1, 1, 1, 1] [0, 1, 2, 3, 4, 5, 6] (by decide +kernel)
theorem inX5 : ∀ w ∈ u_ws RX5 TX5 15, w ∈ tables_1 := x_mem2 [1040, 1, 1, 1, 1, 1, 1, 1, 1, 1, 1, 1, 1, 1, 1] [0, 1, 2, 3, 4, 5, 6, 7, 8, 9, 10, 11, 12, 13, 14] (by decide +kernel)
theorem inX6 : ∀ w ∈ u_ws RX6 TX6 3, w ∈ tables_1 := x_mem2 [95, 1, 1] [0, 1, 2] (by decide +kernel)
theorem inX7 : ∀ w ∈ u_ws RX7 TX7 10, w ∈ tables_1 := x_mem2 [47, 1, 1, 1, 1, 1, 1, 1, 1, 1] [0, 1, 2, 3, 4, 5, 6, 7, 8, 9] (by decide +kernel)
theorem inX8 : ∀ w ∈ u_ws RX8 TX8 9, w ∈ tables_1 := x_mem2 [499, 1, 1, 1, 1, 1, 1, 1, 1] [0, 1, 2, 3, 4, 5, 6, 7, 8] (by decide +kernel)
theorem inX9 : ∀ w ∈ u_ws RX9 TX9 3, w ∈ tables_1 := x_mem2 [115, 1, 1] [0, 1, 2] (by decide +kernel)
theorem inX10 : ∀ w ∈ u_ws RX10 TX10 19, w ∈ tables_1 := x_mem2 [300, 1, 1, 1, 1, 1, 1, 1, 1, 1, 1, 1, 1, 1, 1, 1, 1, 1, 1] [0, 1, 2, 3, 4, 5, 6, 7, 8, 9, 10, 11, 12, 13, 14, 15, 16, 17, 18] (by decide +kernel)
theorem inX11 : ∀ w ∈ u_ws RX11 TX11 18, w ∈ tables_1 := x_mem2 [593, 1, 1, 1, 1, 1, 1, 1, 1, 1, 1, 1, 1, 1, 1, 1, 1, 1] [0, 1, 2, 3, 4, 5, 6, 7, 8, 9, 10, 11, 12, 13, 14, 15, 16, 17] (by decide +kernel)
theorem inX12 : ∀ w ∈ u_ws RX12 TX12 53, w ∈ tables_1 := x_mem2 [1628, 1, 1, 1, 1, 1, 1, 1, 1, 1, 1, 1, 1, 1, 1, 1, 1, 1, 1, 1, 1, 1, 1, 1, 1, 1, 1, 1, 1, 1, 1, 1, 1, 1, 1, 1, 1, 1, 1, 1, 1, 1, 1, 1, 1, 1, 1, 1, 1, 1, 1, 1, 1] [0, 1, 2, 3, 4, 5, 6, 7, 8, 9, 10, 11, 12, 13, 14, 15, 16, 17, 18, 19, 20, 21, 22, 23, 24, 25, 26, 27, 28, 29, 30, 31, 32, 33, 34, 35, 36, 37, 38, 39, 40, 41, 42, 43, 44, 45, 46, 47, 48, 49, 50, 51, 52] (by decide +kernel)
