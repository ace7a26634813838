-- ===== PART A: goes FIRST, ahead of the names: the tables' words, and 'selects' of the private methods out of them =====
/-- a private method of a class that the tables say can be made, by its rows of tables_1 -/
def lw_okq (q : MethodName × Nat) : Prop := (q.1.cls ≠ "java/lang/invoke/MethodHandle" ∧ q.1.cls ≠ "java/lang/invoke/VarHandle") ∧ Cond.instantiable q.1.cls q.2 ∈ tables_1 ∧ Cond.privateMethod q.1 ∈ tables_1 ∧ Cond.instanceMethod q.1 ∈ tables_1
theorem lw_p0 : lw_okq (⟨"LastCloud$Sky", "clear", "()V"⟩, 19) := ⟨⟨by decide +kernel, by decide +kernel⟩, List.mem_of_getElem? (i := 71) (by decide +kernel), List.mem_of_getElem? (i := 212) (by decide +kernel), List.mem_of_getElem? (i := 213) (by decide +kernel)⟩
theorem lw_p1 : lw_okq (⟨"LastCloud$Place", "clear", "()V"⟩, 7) := ⟨⟨by decide +kernel, by decide +kernel⟩, List.mem_of_getElem? (i := 122) (by decide +kernel), List.mem_of_getElem? (i := 216) (by decide +kernel), List.mem_of_getElem? (i := 217) (by decide +kernel)⟩
theorem lw_p2 : lw_okq (⟨"LastCloud$Hops", "build", "(LLastCloud$Sky;)V"⟩, 10) := ⟨⟨by decide +kernel, by decide +kernel⟩, List.mem_of_getElem? (i := 341) (by decide +kernel), List.mem_of_getElem? (i := 524) (by decide +kernel), List.mem_of_getElem? (i := 525) (by decide +kernel)⟩
theorem lw_p3 : lw_okq (⟨"LastCloud$Hops", "addFrom", "(LLastCloud$Sky;IZ)V"⟩, 10) := ⟨⟨by decide +kernel, by decide +kernel⟩, List.mem_of_getElem? (i := 341) (by decide +kernel), List.mem_of_getElem? (i := 528) (by decide +kernel), List.mem_of_getElem? (i := 529) (by decide +kernel)⟩
theorem lw_p4 : lw_okq (⟨"LastCloud$Hops", "add", "(LLastCloud$Sky;IZIZ)V"⟩, 10) := ⟨⟨by decide +kernel, by decide +kernel⟩, List.mem_of_getElem? (i := 341) (by decide +kernel), List.mem_of_getElem? (i := 532) (by decide +kernel), List.mem_of_getElem? (i := 533) (by decide +kernel)⟩
theorem lw_p5 : lw_okq (⟨"LastCloud$Sky", "takes", "(IZIZ)I"⟩, 19) := ⟨⟨by decide +kernel, by decide +kernel⟩, List.mem_of_getElem? (i := 71) (by decide +kernel), List.mem_of_getElem? (i := 536) (by decide +kernel), List.mem_of_getElem? (i := 537) (by decide +kernel)⟩
theorem lw_p6 : lw_okq (⟨"LastCloud$Sky", "overGround", "(IZIZ)I"⟩, 19) := ⟨⟨by decide +kernel, by decide +kernel⟩, List.mem_of_getElem? (i := 71) (by decide +kernel), List.mem_of_getElem? (i := 540) (by decide +kernel), List.mem_of_getElem? (i := 541) (by decide +kernel)⟩
theorem lw_p7 : lw_okq (⟨"LastCloud$Sky", "loses", "(IZIZ)I"⟩, 19) := ⟨⟨by decide +kernel, by decide +kernel⟩, List.mem_of_getElem? (i := 71) (by decide +kernel), List.mem_of_getElem? (i := 544) (by decide +kernel), List.mem_of_getElem? (i := 545) (by decide +kernel)⟩
theorem lw_p8 : lw_okq (⟨"LastCloud$Hops", "findEdges", "(LLastCloud$Sky;Z)V"⟩, 10) := ⟨⟨by decide +kernel, by decide +kernel⟩, List.mem_of_getElem? (i := 341) (by decide +kernel), List.mem_of_getElem? (i := 553) (by decide +kernel), List.mem_of_getElem? (i := 554) (by decide +kernel)⟩
theorem lw_p9 : lw_okq (⟨"LastCloud$Sky", "isToLandAt", "(I)Z"⟩, 19) := ⟨⟨by decide +kernel, by decide +kernel⟩, List.mem_of_getElem? (i := 71) (by decide +kernel), List.mem_of_getElem? (i := 560) (by decide +kernel), List.mem_of_getElem? (i := 561) (by decide +kernel)⟩
theorem lw_p10 : lw_okq (⟨"LastCloud$Hops", "leastByHop", "(LLastCloud$Sky;IZ)I"⟩, 10) := ⟨⟨by decide +kernel, by decide +kernel⟩, List.mem_of_getElem? (i := 341) (by decide +kernel), List.mem_of_getElem? (i := 565) (by decide +kernel), List.mem_of_getElem? (i := 566) (by decide +kernel)⟩
theorem lw_p11 : lw_okq (⟨"LastCloud$Hops", "edgeAt", "(IZ)I"⟩, 10) := ⟨⟨by decide +kernel, by decide +kernel⟩, List.mem_of_getElem? (i := 341) (by decide +kernel), List.mem_of_getElem? (i := 569) (by decide +kernel), List.mem_of_getElem? (i := 570) (by decide +kernel)⟩
theorem lw_p12 : lw_okq (⟨"LastCloud", "putNumber", "(I)V"⟩, 18) := ⟨⟨by decide +kernel, by decide +kernel⟩, List.mem_of_getElem? (i := 23) (by decide +kernel), List.mem_of_getElem? (i := 636) (by decide +kernel), List.mem_of_getElem? (i := 637) (by decide +kernel)⟩
theorem lw_p13 : lw_okq (⟨"LastCloud$Reader", "readAll", "(ILLastCloud$Sky;)I"⟩, 10) := ⟨⟨by decide +kernel, by decide +kernel⟩, List.mem_of_getElem? (i := 31) (by decide +kernel), List.mem_of_getElem? (i := 649) (by decide +kernel), List.mem_of_getElem? (i := 650) (by decide +kernel)⟩
theorem lw_p14 : lw_okq (⟨"LastCloud$Reader", "splitText", "(I)V"⟩, 10) := ⟨⟨by decide +kernel, by decide +kernel⟩, List.mem_of_getElem? (i := 31) (by decide +kernel), List.mem_of_getElem? (i := 654) (by decide +kernel), List.mem_of_getElem? (i := 655) (by decide +kernel)⟩
theorem lw_p15 : lw_okq (⟨"LastCloud$Reader", "addToken", "(III)V"⟩, 10) := ⟨⟨by decide +kernel, by decide +kernel⟩, List.mem_of_getElem? (i := 31) (by decide +kernel), List.mem_of_getElem? (i := 661) (by decide +kernel), List.mem_of_getElem? (i := 662) (by decide +kernel)⟩
def lw_privs_1 : List (MethodName × Nat) := [(⟨"LastCloud$Sky", "clear", "()V"⟩, 19), (⟨"LastCloud$Place", "clear", "()V"⟩, 7), (⟨"LastCloud$Hops", "build", "(LLastCloud$Sky;)V"⟩, 10), (⟨"LastCloud$Hops", "addFrom", "(LLastCloud$Sky;IZ)V"⟩, 10), (⟨"LastCloud$Hops", "add", "(LLastCloud$Sky;IZIZ)V"⟩, 10), (⟨"LastCloud$Sky", "takes", "(IZIZ)I"⟩, 19), (⟨"LastCloud$Sky", "overGround", "(IZIZ)I"⟩, 19), (⟨"LastCloud$Sky", "loses", "(IZIZ)I"⟩, 19), (⟨"LastCloud$Hops", "findEdges", "(LLastCloud$Sky;Z)V"⟩, 10), (⟨"LastCloud$Sky", "isToLandAt", "(I)Z"⟩, 19), (⟨"LastCloud$Hops", "leastByHop", "(LLastCloud$Sky;IZ)I"⟩, 10), (⟨"LastCloud$Hops", "edgeAt", "(IZ)I"⟩, 10), (⟨"LastCloud", "putNumber", "(I)V"⟩, 18), (⟨"LastCloud$Reader", "readAll", "(ILLastCloud$Sky;)I"⟩, 10), (⟨"LastCloud$Reader", "splitText", "(I)V"⟩, 10), (⟨"LastCloud$Reader", "addToken", "(III)V"⟩, 10)]
theorem lw_r1 : ∀ q ∈ lw_privs_1, lw_okq q := List.forall_mem_cons.mpr ⟨lw_p0, List.forall_mem_cons.mpr ⟨lw_p1, List.forall_mem_cons.mpr ⟨lw_p2, List.forall_mem_cons.mpr ⟨lw_p3, List.forall_mem_cons.mpr ⟨lw_p4, List.forall_mem_cons.mpr ⟨lw_p5, List.forall_mem_cons.mpr ⟨lw_p6, List.forall_mem_cons.mpr ⟨lw_p7, List.forall_mem_cons.mpr ⟨lw_p8, List.forall_mem_cons.mpr ⟨lw_p9, List.forall_mem_cons.mpr ⟨lw_p10, List.forall_mem_cons.mpr ⟨lw_p11, List.forall_mem_cons.mpr ⟨lw_p12, List.forall_mem_cons.mpr ⟨lw_p13, List.forall_mem_cons.mpr ⟨lw_p14, List.forall_mem_cons.mpr ⟨lw_p15, fun _ h => absurd h List.not_mem_nil⟩⟩⟩⟩⟩⟩⟩⟩⟩⟩⟩⟩⟩⟩⟩⟩
theorem lw_p16 : lw_okq (⟨"LastCloud$Reader", "readLine", "()V"⟩, 10) := ⟨⟨by decide +kernel, by decide +kernel⟩, List.mem_of_getElem? (i := 31) (by decide +kernel), List.mem_of_getElem? (i := 665) (by decide +kernel), List.mem_of_getElem? (i := 666) (by decide +kernel)⟩
theorem lw_p17 : lw_okq (⟨"LastCloud$Reader", "lineKind", "()I"⟩, 10) := ⟨⟨by decide +kernel, by decide +kernel⟩, List.mem_of_getElem? (i := 31) (by decide +kernel), List.mem_of_getElem? (i := 669) (by decide +kernel), List.mem_of_getElem? (i := 670) (by decide +kernel)⟩
theorem lw_p18 : lw_okq (⟨"LastCloud$Reader", "isWord", "(Ljava/lang/String;)Z"⟩, 10) := ⟨⟨by decide +kernel, by decide +kernel⟩, List.mem_of_getElem? (i := 31) (by decide +kernel), List.mem_of_getElem? (i := 674) (by decide +kernel), List.mem_of_getElem? (i := 675) (by decide +kernel)⟩
theorem lw_p19 : lw_okq (⟨"LastCloud$Reader", "fail", "(I)V"⟩, 10) := ⟨⟨by decide +kernel, by decide +kernel⟩, List.mem_of_getElem? (i := 31) (by decide +kernel), List.mem_of_getElem? (i := 736) (by decide +kernel), List.mem_of_getElem? (i := 737) (by decide +kernel)⟩
theorem lw_p20 : lw_okq (⟨"LastCloud$Reader", "isFull", "(I)Z"⟩, 10) := ⟨⟨by decide +kernel, by decide +kernel⟩, List.mem_of_getElem? (i := 31) (by decide +kernel), List.mem_of_getElem? (i := 740) (by decide +kernel), List.mem_of_getElem? (i := 741) (by decide +kernel)⟩
theorem lw_p21 : lw_okq (⟨"LastCloud$Reader", "goOn", "()V"⟩, 10) := ⟨⟨by decide +kernel, by decide +kernel⟩, List.mem_of_getElem? (i := 31) (by decide +kernel), List.mem_of_getElem? (i := 750) (by decide +kernel), List.mem_of_getElem? (i := 751) (by decide +kernel)⟩
theorem lw_p22 : lw_okq (⟨"LastCloud$Reader", "readRest", "(I)V"⟩, 10) := ⟨⟨by decide +kernel, by decide +kernel⟩, List.mem_of_getElem? (i := 31) (by decide +kernel), List.mem_of_getElem? (i := 754) (by decide +kernel), List.mem_of_getElem? (i := 755) (by decide +kernel)⟩
theorem lw_p23 : lw_okq (⟨"LastCloud$Reader", "readPlace", "()V"⟩, 10) := ⟨⟨by decide +kernel, by decide +kernel⟩, List.mem_of_getElem? (i := 31) (by decide +kernel), List.mem_of_getElem? (i := 758) (by decide +kernel), List.mem_of_getElem? (i := 759) (by decide +kernel)⟩
theorem lw_p24 : lw_okq (⟨"LastCloud$Reader", "takeWord", "(Ljava/lang/String;)V"⟩, 10) := ⟨⟨by decide +kernel, by decide +kernel⟩, List.mem_of_getElem? (i := 31) (by decide +kernel), List.mem_of_getElem? (i := 763) (by decide +kernel), List.mem_of_getElem? (i := 764) (by decide +kernel)⟩
theorem lw_p25 : lw_okq (⟨"LastCloud$Reader", "takeNumber", "(II)I"⟩, 10) := ⟨⟨by decide +kernel, by decide +kernel⟩, List.mem_of_getElem? (i := 31) (by decide +kernel), List.mem_of_getElem? (i := 767) (by decide +kernel), List.mem_of_getElem? (i := 768) (by decide +kernel)⟩
theorem lw_p26 : lw_okq (⟨"LastCloud$Reader", "takeIf", "(Ljava/lang/String;)Z"⟩, 10) := ⟨⟨by decide +kernel, by decide +kernel⟩, List.mem_of_getElem? (i := 31) (by decide +kernel), List.mem_of_getElem? (i := 773) (by decide +kernel), List.mem_of_getElem? (i := 774) (by decide +kernel)⟩
theorem lw_p27 : lw_okq (⟨"LastCloud$Reader", "readLeg", "()V"⟩, 10) := ⟨⟨by decide +kernel, by decide +kernel⟩, List.mem_of_getElem? (i := 31) (by decide +kernel), List.mem_of_getElem? (i := 778) (by decide +kernel), List.mem_of_getElem? (i := 779) (by decide +kernel)⟩
theorem lw_p28 : lw_okq (⟨"LastCloud$Reader", "takePlace", "(I)I"⟩, 10) := ⟨⟨by decide +kernel, by decide +kernel⟩, List.mem_of_getElem? (i := 31) (by decide +kernel), List.mem_of_getElem? (i := 782) (by decide +kernel), List.mem_of_getElem? (i := 783) (by decide +kernel)⟩
theorem lw_p29 : lw_okq (⟨"LastCloud$Reader", "takeSigned", "(I)I"⟩, 10) := ⟨⟨by decide +kernel, by decide +kernel⟩, List.mem_of_getElem? (i := 31) (by decide +kernel), List.mem_of_getElem? (i := 788) (by decide +kernel), List.mem_of_getElem? (i := 789) (by decide +kernel)⟩
theorem lw_p30 : lw_okq (⟨"LastCloud$Reader", "readLift", "()V"⟩, 10) := ⟨⟨by decide +kernel, by decide +kernel⟩, List.mem_of_getElem? (i := 31) (by decide +kernel), List.mem_of_getElem? (i := 795) (by decide +kernel), List.mem_of_getElem? (i := 796) (by decide +kernel)⟩
theorem lw_p31 : lw_okq (⟨"LastCloud$Sky", "liftBits", "()I"⟩, 19) := ⟨⟨by decide +kernel, by decide +kernel⟩, List.mem_of_getElem? (i := 71) (by decide +kernel), List.mem_of_getElem? (i := 799) (by decide +kernel), List.mem_of_getElem? (i := 800) (by decide +kernel)⟩
def lw_privs_2 : List (MethodName × Nat) := [(⟨"LastCloud$Reader", "readLine", "()V"⟩, 10), (⟨"LastCloud$Reader", "lineKind", "()I"⟩, 10), (⟨"LastCloud$Reader", "isWord", "(Ljava/lang/String;)Z"⟩, 10), (⟨"LastCloud$Reader", "fail", "(I)V"⟩, 10), (⟨"LastCloud$Reader", "isFull", "(I)Z"⟩, 10), (⟨"LastCloud$Reader", "goOn", "()V"⟩, 10), (⟨"LastCloud$Reader", "readRest", "(I)V"⟩, 10), (⟨"LastCloud$Reader", "readPlace", "()V"⟩, 10), (⟨"LastCloud$Reader", "takeWord", "(Ljava/lang/String;)V"⟩, 10), (⟨"LastCloud$Reader", "takeNumber", "(II)I"⟩, 10), (⟨"LastCloud$Reader", "takeIf", "(Ljava/lang/String;)Z"⟩, 10), (⟨"LastCloud$Reader", "readLeg", "()V"⟩, 10), (⟨"LastCloud$Reader", "takePlace", "(I)I"⟩, 10), (⟨"LastCloud$Reader", "takeSigned", "(I)I"⟩, 10), (⟨"LastCloud$Reader", "readLift", "()V"⟩, 10), (⟨"LastCloud$Sky", "liftBits", "()I"⟩, 19)]
theorem lw_r2 : ∀ q ∈ lw_privs_2, lw_okq q := List.forall_mem_cons.mpr ⟨lw_p16, List.forall_mem_cons.mpr ⟨lw_p17, List.forall_mem_cons.mpr ⟨lw_p18, List.forall_mem_cons.mpr ⟨lw_p19, List.forall_mem_cons.mpr ⟨lw_p20, List.forall_mem_cons.mpr ⟨lw_p21, List.forall_mem_cons.mpr ⟨lw_p22, List.forall_mem_cons.mpr ⟨lw_p23, List.forall_mem_cons.mpr ⟨lw_p24, List.forall_mem_cons.mpr ⟨lw_p25, List.forall_mem_cons.mpr ⟨lw_p26, List.forall_mem_cons.mpr ⟨lw_p27, List.forall_mem_cons.mpr ⟨lw_p28, List.forall_mem_cons.mpr ⟨lw_p29, List.forall_mem_cons.mpr ⟨lw_p30, List.forall_mem_cons.mpr ⟨lw_p31, fun _ h => absurd h List.not_mem_nil⟩⟩⟩⟩⟩⟩⟩⟩⟩⟩⟩⟩⟩⟩⟩⟩
theorem lw_p32 : lw_okq (⟨"LastCloud$Sky", "hasPlace", "(I)Z"⟩, 19) := ⟨⟨by decide +kernel, by decide +kernel⟩, List.mem_of_getElem? (i := 71) (by decide +kernel), List.mem_of_getElem? (i := 806) (by decide +kernel), List.mem_of_getElem? (i := 807) (by decide +kernel)⟩
theorem lw_p33 : lw_okq (⟨"LastCloud$Reader", "readSpeed", "()V"⟩, 10) := ⟨⟨by decide +kernel, by decide +kernel⟩, List.mem_of_getElem? (i := 31) (by decide +kernel), List.mem_of_getElem? (i := 810) (by decide +kernel), List.mem_of_getElem? (i := 811) (by decide +kernel)⟩
theorem lw_p34 : lw_okq (⟨"LastCloud$Polar", "add", "(II)V"⟩, 3) := ⟨⟨by decide +kernel, by decide +kernel⟩, List.mem_of_getElem? (i := 81) (by decide +kernel), List.mem_of_getElem? (i := 815) (by decide +kernel), List.mem_of_getElem? (i := 816) (by decide +kernel)⟩
theorem lw_p35 : lw_okq (⟨"LastCloud$Reader", "readWorth", "()V"⟩, 10) := ⟨⟨by decide +kernel, by decide +kernel⟩, List.mem_of_getElem? (i := 31) (by decide +kernel), List.mem_of_getElem? (i := 819) (by decide +kernel), List.mem_of_getElem? (i := 820) (by decide +kernel)⟩
theorem lw_p36 : lw_okq (⟨"LastCloud$Reader", "readStart", "()V"⟩, 10) := ⟨⟨by decide +kernel, by decide +kernel⟩, List.mem_of_getElem? (i := 31) (by decide +kernel), List.mem_of_getElem? (i := 825) (by decide +kernel), List.mem_of_getElem? (i := 826) (by decide +kernel)⟩
theorem lw_p37 : lw_okq (⟨"LastCloud$Sky", "hasStart", "()Z"⟩, 19) := ⟨⟨by decide +kernel, by decide +kernel⟩, List.mem_of_getElem? (i := 71) (by decide +kernel), List.mem_of_getElem? (i := 831) (by decide +kernel), List.mem_of_getElem? (i := 832) (by decide +kernel)⟩
theorem lw_p38 : lw_okq (⟨"LastCloud", "forgetPlans", "()V"⟩, 18) := ⟨⟨by decide +kernel, by decide +kernel⟩, List.mem_of_getElem? (i := 23) (by decide +kernel), List.mem_of_getElem? (i := 837) (by decide +kernel), List.mem_of_getElem? (i := 838) (by decide +kernel)⟩
theorem lw_p39 : lw_okq (⟨"LastCloud$Sky", "hasLeg", "(I)Z"⟩, 19) := ⟨⟨by decide +kernel, by decide +kernel⟩, List.mem_of_getElem? (i := 71) (by decide +kernel), List.mem_of_getElem? (i := 849) (by decide +kernel), List.mem_of_getElem? (i := 850) (by decide +kernel)⟩
theorem lw_p40 : lw_okq (⟨"LastCloud$Sky", "hasSpeed", "(I)Z"⟩, 19) := ⟨⟨by decide +kernel, by decide +kernel⟩, List.mem_of_getElem? (i := 71) (by decide +kernel), List.mem_of_getElem? (i := 853) (by decide +kernel), List.mem_of_getElem? (i := 854) (by decide +kernel)⟩
theorem lw_p41 : lw_okq (⟨"LastCloud$Sky", "wins", "(IZ)I"⟩, 19) := ⟨⟨by decide +kernel, by decide +kernel⟩, List.mem_of_getElem? (i := 71) (by decide +kernel), List.mem_of_getElem? (i := 869) (by decide +kernel), List.mem_of_getElem? (i := 870) (by decide +kernel)⟩
theorem lw_p42 : lw_okq (⟨"LastCloud$Sky", "winsBy", "(IZ)I"⟩, 19) := ⟨⟨by decide +kernel, by decide +kernel⟩, List.mem_of_getElem? (i := 71) (by decide +kernel), List.mem_of_getElem? (i := 873) (by decide +kernel), List.mem_of_getElem? (i := 874) (by decide +kernel)⟩
theorem lw_p43 : lw_okq (⟨"LastCloud$Sky", "chanceNow", "(I)I"⟩, 19) := ⟨⟨by decide +kernel, by decide +kernel⟩, List.mem_of_getElem? (i := 71) (by decide +kernel), List.mem_of_getElem? (i := 882) (by decide +kernel), List.mem_of_getElem? (i := 883) (by decide +kernel)⟩
theorem lw_p44 : lw_okq (⟨"LastCloud$Place", "afterSight", "(II)I"⟩, 7) := ⟨⟨by decide +kernel, by decide +kernel⟩, List.mem_of_getElem? (i := 122) (by decide +kernel), List.mem_of_getElem? (i := 886) (by decide +kernel), List.mem_of_getElem? (i := 887) (by decide +kernel)⟩
theorem lw_p45 : lw_okq (⟨"LastCloud$Place", "bySign", "(IZI)I"⟩, 7) := ⟨⟨by decide +kernel, by decide +kernel⟩, List.mem_of_getElem? (i := 122) (by decide +kernel), List.mem_of_getElem? (i := 890) (by decide +kernel), List.mem_of_getElem? (i := 891) (by decide +kernel)⟩
theorem lw_p46 : lw_okq (⟨"LastCloud$Sights", "add", "(II)V"⟩, 3) := ⟨⟨by decide +kernel, by decide +kernel⟩, List.mem_of_getElem? (i := 103) (by decide +kernel), List.mem_of_getElem? (i := 898) (by decide +kernel), List.mem_of_getElem? (i := 899) (by decide +kernel)⟩
theorem lw_p47 : lw_okq (⟨"LastCloud$Sky", "hasSpot", "(II)Z"⟩, 19) := ⟨⟨by decide +kernel, by decide +kernel⟩, List.mem_of_getElem? (i := 71) (by decide +kernel), List.mem_of_getElem? (i := 915) (by decide +kernel), List.mem_of_getElem? (i := 916) (by decide +kernel)⟩
def lw_privs_3 : List (MethodName × Nat) := [(⟨"LastCloud$Sky", "hasPlace", "(I)Z"⟩, 19), (⟨"LastCloud$Reader", "readSpeed", "()V"⟩, 10), (⟨"LastCloud$Polar", "add", "(II)V"⟩, 3), (⟨"LastCloud$Reader", "readWorth", "()V"⟩, 10), (⟨"LastCloud$Reader", "readStart", "()V"⟩, 10), (⟨"LastCloud$Sky", "hasStart", "()Z"⟩, 19), (⟨"LastCloud", "forgetPlans", "()V"⟩, 18), (⟨"LastCloud$Sky", "hasLeg", "(I)Z"⟩, 19), (⟨"LastCloud$Sky", "hasSpeed", "(I)Z"⟩, 19), (⟨"LastCloud$Sky", "wins", "(IZ)I"⟩, 19), (⟨"LastCloud$Sky", "winsBy", "(IZ)I"⟩, 19), (⟨"LastCloud$Sky", "chanceNow", "(I)I"⟩, 19), (⟨"LastCloud$Place", "afterSight", "(II)I"⟩, 7), (⟨"LastCloud$Place", "bySign", "(IZI)I"⟩, 7), (⟨"LastCloud$Sights", "add", "(II)V"⟩, 3), (⟨"LastCloud$Sky", "hasSpot", "(II)Z"⟩, 19)]
theorem lw_r3 : ∀ q ∈ lw_privs_3, lw_okq q := List.forall_mem_cons.mpr ⟨lw_p32, List.forall_mem_cons.mpr ⟨lw_p33, List.forall_mem_cons.mpr ⟨lw_p34, List.forall_mem_cons.mpr ⟨lw_p35, List.forall_mem_cons.mpr ⟨lw_p36, List.forall_mem_cons.mpr ⟨lw_p37, List.forall_mem_cons.mpr ⟨lw_p38, List.forall_mem_cons.mpr ⟨lw_p39, List.forall_mem_cons.mpr ⟨lw_p40, List.forall_mem_cons.mpr ⟨lw_p41, List.forall_mem_cons.mpr ⟨lw_p42, List.forall_mem_cons.mpr ⟨lw_p43, List.forall_mem_cons.mpr ⟨lw_p44, List.forall_mem_cons.mpr ⟨lw_p45, List.forall_mem_cons.mpr ⟨lw_p46, List.forall_mem_cons.mpr ⟨lw_p47, fun _ h => absurd h List.not_mem_nil⟩⟩⟩⟩⟩⟩⟩⟩⟩⟩⟩⟩⟩⟩⟩⟩
theorem lw_p48 : lw_okq (⟨"LastCloud$Hops", "glide", "(LLastCloud$Sky;IIZ)V"⟩, 10) := ⟨⟨by decide +kernel, by decide +kernel⟩, List.mem_of_getElem? (i := 341) (by decide +kernel), List.mem_of_getElem? (i := 919) (by decide +kernel), List.mem_of_getElem? (i := 920) (by decide +kernel)⟩
theorem lw_p49 : lw_okq (⟨"LastCloud$Hops", "raiseFrom", "(LLastCloud$Sky;II)Z"⟩, 10) := ⟨⟨by decide +kernel, by decide +kernel⟩, List.mem_of_getElem? (i := 341) (by decide +kernel), List.mem_of_getElem? (i := 924) (by decide +kernel), List.mem_of_getElem? (i := 925) (by decide +kernel)⟩
theorem lw_p50 : lw_okq (⟨"LastCloud$Sky", "capped", "(I)I"⟩, 19) := ⟨⟨by decide +kernel, by decide +kernel⟩, List.mem_of_getElem? (i := 71) (by decide +kernel), List.mem_of_getElem? (i := 928) (by decide +kernel), List.mem_of_getElem? (i := 929) (by decide +kernel)⟩
theorem lw_p51 : lw_okq (⟨"LastCloud$Hops", "raiseTo", "(II)Z"⟩, 10) := ⟨⟨by decide +kernel, by decide +kernel⟩, List.mem_of_getElem? (i := 341) (by decide +kernel), List.mem_of_getElem? (i := 933) (by decide +kernel), List.mem_of_getElem? (i := 934) (by decide +kernel)⟩
theorem lw_p52 : lw_okq (⟨"LastCloud$Hops", "heightAt", "(I)I"⟩, 10) := ⟨⟨by decide +kernel, by decide +kernel⟩, List.mem_of_getElem? (i := 341) (by decide +kernel), List.mem_of_getElem? (i := 937) (by decide +kernel), List.mem_of_getElem? (i := 938) (by decide +kernel)⟩
theorem lw_p53 : lw_okq (⟨"LastCloud$Hops", "longestStreet", "(LLastCloud$Sky;)I"⟩, 10) := ⟨⟨by decide +kernel, by decide +kernel⟩, List.mem_of_getElem? (i := 341) (by decide +kernel), List.mem_of_getElem? (i := 960) (by decide +kernel), List.mem_of_getElem? (i := 961) (by decide +kernel)⟩
theorem lw_p54 : lw_okq (⟨"LastCloud$Sky", "allPlaces", "()I"⟩, 19) := ⟨⟨by decide +kernel, by decide +kernel⟩, List.mem_of_getElem? (i := 71) (by decide +kernel), List.mem_of_getElem? (i := 964) (by decide +kernel), List.mem_of_getElem? (i := 965) (by decide +kernel)⟩
theorem lw_p55 : lw_okq (⟨"LastCloud$Hops", "growStreets", "(II)V"⟩, 10) := ⟨⟨by decide +kernel, by decide +kernel⟩, List.mem_of_getElem? (i := 341) (by decide +kernel), List.mem_of_getElem? (i := 969) (by decide +kernel), List.mem_of_getElem? (i := 970) (by decide +kernel)⟩
theorem lw_p56 : lw_okq (⟨"LastCloud$Polar", "fastest", "(I)I"⟩, 3) := ⟨⟨by decide +kernel, by decide +kernel⟩, List.mem_of_getElem? (i := 81) (by decide +kernel), List.mem_of_getElem? (i := 980) (by decide +kernel), List.mem_of_getElem? (i := 981) (by decide +kernel)⟩
theorem lw_p57 : lw_okq (⟨"LastCloud$Polar", "tenHours", "(II)I"⟩, 3) := ⟨⟨by decide +kernel, by decide +kernel⟩, List.mem_of_getElem? (i := 81) (by decide +kernel), List.mem_of_getElem? (i := 988) (by decide +kernel), List.mem_of_getElem? (i := 989) (by decide +kernel)⟩
theorem lw_p58 : lw_okq (⟨"LastCloud$Polar", "flattest", "()I"⟩, 3) := ⟨⟨by decide +kernel, by decide +kernel⟩, List.mem_of_getElem? (i := 81) (by decide +kernel), List.mem_of_getElem? (i := 996) (by decide +kernel), List.mem_of_getElem? (i := 997) (by decide +kernel)⟩
theorem lw_p59 : lw_okq (⟨"LastCloud$Sky", "hasState", "(IIIZ)Z"⟩, 19) := ⟨⟨by decide +kernel, by decide +kernel⟩, List.mem_of_getElem? (i := 71) (by decide +kernel), List.mem_of_getElem? (i := 1007) (by decide +kernel), List.mem_of_getElem? (i := 1008) (by decide +kernel)⟩
theorem lw_p60 : lw_okq (⟨"LastCloud", "planOf", "(I)LLastCloud$Plan;"⟩, 18) := ⟨⟨by decide +kernel, by decide +kernel⟩, List.mem_of_getElem? (i := 23) (by decide +kernel), List.mem_of_getElem? (i := 1012) (by decide +kernel), List.mem_of_getElem? (i := 1013) (by decide +kernel)⟩
theorem lw_p61 : lw_okq (⟨"LastCloud$Plan", "begin", "(LLastCloud$Sky;LLastCloud$Hops;I)V"⟩, 15) := ⟨⟨by decide +kernel, by decide +kernel⟩, List.mem_of_getElem? (i := 1015) (by decide +kernel), List.mem_of_getElem? (i := 1072) (by decide +kernel), List.mem_of_getElem? (i := 1073) (by decide +kernel)⟩
theorem lw_p62 : lw_okq (⟨"LastCloud$Plan", "leastByRule", "(IZ)I"⟩, 15) := ⟨⟨by decide +kernel, by decide +kernel⟩, List.mem_of_getElem? (i := 1015) (by decide +kernel), List.mem_of_getElem? (i := 1078) (by decide +kernel), List.mem_of_getElem? (i := 1079) (by decide +kernel)⟩
theorem lw_p63 : lw_okq (⟨"LastCloud$Hops", "speedOf", "(I)I"⟩, 10) := ⟨⟨by decide +kernel, by decide +kernel⟩, List.mem_of_getElem? (i := 341) (by decide +kernel), List.mem_of_getElem? (i := 1085) (by decide +kernel), List.mem_of_getElem? (i := 1086) (by decide +kernel)⟩
def lw_privs_4 : List (MethodName × Nat) := [(⟨"LastCloud$Hops", "glide", "(LLastCloud$Sky;IIZ)V"⟩, 10), (⟨"LastCloud$Hops", "raiseFrom", "(LLastCloud$Sky;II)Z"⟩, 10), (⟨"LastCloud$Sky", "capped", "(I)I"⟩, 19), (⟨"LastCloud$Hops", "raiseTo", "(II)Z"⟩, 10), (⟨"LastCloud$Hops", "heightAt", "(I)I"⟩, 10), (⟨"LastCloud$Hops", "longestStreet", "(LLastCloud$Sky;)I"⟩, 10), (⟨"LastCloud$Sky", "allPlaces", "()I"⟩, 19), (⟨"LastCloud$Hops", "growStreets", "(II)V"⟩, 10), (⟨"LastCloud$Polar", "fastest", "(I)I"⟩, 3), (⟨"LastCloud$Polar", "tenHours", "(II)I"⟩, 3), (⟨"LastCloud$Polar", "flattest", "()I"⟩, 3), (⟨"LastCloud$Sky", "hasState", "(IIIZ)Z"⟩, 19), (⟨"LastCloud", "planOf", "(I)LLastCloud$Plan;"⟩, 18), (⟨"LastCloud$Plan", "begin", "(LLastCloud$Sky;LLastCloud$Hops;I)V"⟩, 15), (⟨"LastCloud$Plan", "leastByRule", "(IZ)I"⟩, 15), (⟨"LastCloud$Hops", "speedOf", "(I)I"⟩, 10)]
theorem lw_r4 : ∀ q ∈ lw_privs_4, lw_okq q := List.forall_mem_cons.mpr ⟨lw_p48, List.forall_mem_cons.mpr ⟨lw_p49, List.forall_mem_cons.mpr ⟨lw_p50, List.forall_mem_cons.mpr ⟨lw_p51, List.forall_mem_cons.mpr ⟨lw_p52, List.forall_mem_cons.mpr ⟨lw_p53, List.forall_mem_cons.mpr ⟨lw_p54, List.forall_mem_cons.mpr ⟨lw_p55, List.forall_mem_cons.mpr ⟨lw_p56, List.forall_mem_cons.mpr ⟨lw_p57, List.forall_mem_cons.mpr ⟨lw_p58, List.forall_mem_cons.mpr ⟨lw_p59, List.forall_mem_cons.mpr ⟨lw_p60, List.forall_mem_cons.mpr ⟨lw_p61, List.forall_mem_cons.mpr ⟨lw_p62, List.forall_mem_cons.mpr ⟨lw_p63, fun _ h => absurd h List.not_mem_nil⟩⟩⟩⟩⟩⟩⟩⟩⟩⟩⟩⟩⟩⟩⟩⟩
theorem lw_p64 : lw_okq (⟨"LastCloud$Sky", "fastSpeedTo", "(I)I"⟩, 19) := ⟨⟨by decide +kernel, by decide +kernel⟩, List.mem_of_getElem? (i := 71) (by decide +kernel), List.mem_of_getElem? (i := 1089) (by decide +kernel), List.mem_of_getElem? (i := 1090) (by decide +kernel)⟩
theorem lw_p65 : lw_okq (⟨"LastCloud$Plan", "fill", "(IZ)V"⟩, 15) := ⟨⟨by decide +kernel, by decide +kernel⟩, List.mem_of_getElem? (i := 1015) (by decide +kernel), List.mem_of_getElem? (i := 1094) (by decide +kernel), List.mem_of_getElem? (i := 1095) (by decide +kernel)⟩
theorem lw_p66 : lw_okq (⟨"LastCloud$Plan", "fillPeriod", "(IZ)V"⟩, 15) := ⟨⟨by decide +kernel, by decide +kernel⟩, List.mem_of_getElem? (i := 1015) (by decide +kernel), List.mem_of_getElem? (i := 1098) (by decide +kernel), List.mem_of_getElem? (i := 1099) (by decide +kernel)⟩
theorem lw_p67 : lw_okq (⟨"LastCloud$Plan", "bestHop", "(IZII)I"⟩, 15) := ⟨⟨by decide +kernel, by decide +kernel⟩, List.mem_of_getElem? (i := 1015) (by decide +kernel), List.mem_of_getElem? (i := 1102) (by decide +kernel), List.mem_of_getElem? (i := 1103) (by decide +kernel)⟩
theorem lw_p68 : lw_okq (⟨"LastCloud$Plan", "behind", "(IIZI)I"⟩, 15) := ⟨⟨by decide +kernel, by decide +kernel⟩, List.mem_of_getElem? (i := 1015) (by decide +kernel), List.mem_of_getElem? (i := 1107) (by decide +kernel), List.mem_of_getElem? (i := 1108) (by decide +kernel)⟩
theorem lw_p69 : lw_okq (⟨"LastCloud$Plan", "mixedAt", "(I)I"⟩, 15) := ⟨⟨by decide +kernel, by decide +kernel⟩, List.mem_of_getElem? (i := 1015) (by decide +kernel), List.mem_of_getElem? (i := 1115) (by decide +kernel), List.mem_of_getElem? (i := 1116) (by decide +kernel)⟩
theorem lw_p70 : lw_okq (⟨"LastCloud$Plan", "settle", "(IIIIIZ)V"⟩, 15) := ⟨⟨by decide +kernel, by decide +kernel⟩, List.mem_of_getElem? (i := 1015) (by decide +kernel), List.mem_of_getElem? (i := 1123) (by decide +kernel), List.mem_of_getElem? (i := 1124) (by decide +kernel)⟩
theorem lw_p71 : lw_okq (⟨"LastCloud$Sky", "landingWorth", "(III)I"⟩, 19) := ⟨⟨by decide +kernel, by decide +kernel⟩, List.mem_of_getElem? (i := 71) (by decide +kernel), List.mem_of_getElem? (i := 1127) (by decide +kernel), List.mem_of_getElem? (i := 1128) (by decide +kernel)⟩
theorem lw_p72 : lw_okq (⟨"LastCloud$Plan", "worthAt", "(IZ)I"⟩, 15) := ⟨⟨by decide +kernel, by decide +kernel⟩, List.mem_of_getElem? (i := 1015) (by decide +kernel), List.mem_of_getElem? (i := 1132) (by decide +kernel), List.mem_of_getElem? (i := 1133) (by decide +kernel)⟩
theorem lw_p73 : lw_okq (⟨"LastCloud$Plan", "homeAt", "(IZ)I"⟩, 15) := ⟨⟨by decide +kernel, by decide +kernel⟩, List.mem_of_getElem? (i := 1015) (by decide +kernel), List.mem_of_getElem? (i := 1136) (by decide +kernel), List.mem_of_getElem? (i := 1137) (by decide +kernel)⟩
theorem lw_p74 : lw_okq (⟨"LastCloud$Plan", "doneAt", "(IZ)I"⟩, 15) := ⟨⟨by decide +kernel, by decide +kernel⟩, List.mem_of_getElem? (i := 1015) (by decide +kernel), List.mem_of_getElem? (i := 1140) (by decide +kernel), List.mem_of_getElem? (i := 1141) (by decide +kernel)⟩
theorem lw_p75 : lw_okq (⟨"LastCloud$Plan", "chanceAt", "(I)I"⟩, 15) := ⟨⟨by decide +kernel, by decide +kernel⟩, List.mem_of_getElem? (i := 1015) (by decide +kernel), List.mem_of_getElem? (i := 1144) (by decide +kernel), List.mem_of_getElem? (i := 1145) (by decide +kernel)⟩
theorem lw_p76 : lw_okq (⟨"LastCloud$Plan", "deedAt", "(IZ)I"⟩, 15) := ⟨⟨by decide +kernel, by decide +kernel⟩, List.mem_of_getElem? (i := 1015) (by decide +kernel), List.mem_of_getElem? (i := 1157) (by decide +kernel), List.mem_of_getElem? (i := 1158) (by decide +kernel)⟩
theorem lw_p77 : lw_okq (⟨"LastCloud$Sky", "startsWet", "()Z"⟩, 19) := ⟨⟨by decide +kernel, by decide +kernel⟩, List.mem_of_getElem? (i := 71) (by decide +kernel), List.mem_of_getElem? (i := 1171) (by decide +kernel), List.mem_of_getElem? (i := 1172) (by decide +kernel)⟩
theorem lw_p78 : lw_okq (⟨"LastCloud$Plan", "startWorth", "(Z)I"⟩, 15) := ⟨⟨by decide +kernel, by decide +kernel⟩, List.mem_of_getElem? (i := 1015) (by decide +kernel), List.mem_of_getElem? (i := 1175) (by decide +kernel), List.mem_of_getElem? (i := 1176) (by decide +kernel)⟩
theorem lw_p79 : lw_okq (⟨"LastCloud", "leastToLeave", "(IIZZ)I"⟩, 18) := ⟨⟨by decide +kernel, by decide +kernel⟩, List.mem_of_getElem? (i := 23) (by decide +kernel), List.mem_of_getElem? (i := 1188) (by decide +kernel), List.mem_of_getElem? (i := 1189) (by decide +kernel)⟩
def lw_privs_5 : List (MethodName × Nat) := [(⟨"LastCloud$Sky", "fastSpeedTo", "(I)I"⟩, 19), (⟨"LastCloud$Plan", "fill", "(IZ)V"⟩, 15), (⟨"LastCloud$Plan", "fillPeriod", "(IZ)V"⟩, 15), (⟨"LastCloud$Plan", "bestHop", "(IZII)I"⟩, 15), (⟨"LastCloud$Plan", "behind", "(IIZI)I"⟩, 15), (⟨"LastCloud$Plan", "mixedAt", "(I)I"⟩, 15), (⟨"LastCloud$Plan", "settle", "(IIIIIZ)V"⟩, 15), (⟨"LastCloud$Sky", "landingWorth", "(III)I"⟩, 19), (⟨"LastCloud$Plan", "worthAt", "(IZ)I"⟩, 15), (⟨"LastCloud$Plan", "homeAt", "(IZ)I"⟩, 15), (⟨"LastCloud$Plan", "doneAt", "(IZ)I"⟩, 15), (⟨"LastCloud$Plan", "chanceAt", "(I)I"⟩, 15), (⟨"LastCloud$Plan", "deedAt", "(IZ)I"⟩, 15), (⟨"LastCloud$Sky", "startsWet", "()Z"⟩, 19), (⟨"LastCloud$Plan", "startWorth", "(Z)I"⟩, 15), (⟨"LastCloud", "leastToLeave", "(IIZZ)I"⟩, 18)]
theorem lw_r5 : ∀ q ∈ lw_privs_5, lw_okq q := List.forall_mem_cons.mpr ⟨lw_p64, List.forall_mem_cons.mpr ⟨lw_p65, List.forall_mem_cons.mpr ⟨lw_p66, List.forall_mem_cons.mpr ⟨lw_p67, List.forall_mem_cons.mpr ⟨lw_p68, List.forall_mem_cons.mpr ⟨lw_p69, List.forall_mem_cons.mpr ⟨lw_p70, List.forall_mem_cons.mpr ⟨lw_p71, List.forall_mem_cons.mpr ⟨lw_p72, List.forall_mem_cons.mpr ⟨lw_p73, List.forall_mem_cons.mpr ⟨lw_p74, List.forall_mem_cons.mpr ⟨lw_p75, List.forall_mem_cons.mpr ⟨lw_p76, List.forall_mem_cons.mpr ⟨lw_p77, List.forall_mem_cons.mpr ⟨lw_p78, List.forall_mem_cons.mpr ⟨lw_p79, fun _ h => absurd h List.not_mem_nil⟩⟩⟩⟩⟩⟩⟩⟩⟩⟩⟩⟩⟩⟩⟩⟩
theorem lw_p80 : lw_okq (⟨"LastCloud", "trialPlan", "()LLastCloud$Plan;"⟩, 18) := ⟨⟨by decide +kernel, by decide +kernel⟩, List.mem_of_getElem? (i := 23) (by decide +kernel), List.mem_of_getElem? (i := 1204) (by decide +kernel), List.mem_of_getElem? (i := 1205) (by decide +kernel)⟩
theorem lw_p81 : lw_okq (⟨"LastCloud$Plan", "setDryWin", "(II)V"⟩, 15) := ⟨⟨by decide +kernel, by decide +kernel⟩, List.mem_of_getElem? (i := 1015) (by decide +kernel), List.mem_of_getElem? (i := 1209) (by decide +kernel), List.mem_of_getElem? (i := 1210) (by decide +kernel)⟩
theorem lw_p82 : lw_okq (⟨"LastCloud$Outcomes", "spreadFromStart", "(LLastCloud$Plan;)V"⟩, 5) := ⟨⟨by decide +kernel, by decide +kernel⟩, List.mem_of_getElem? (i := 392) (by decide +kernel), List.mem_of_getElem? (i := 1217) (by decide +kernel), List.mem_of_getElem? (i := 1218) (by decide +kernel)⟩
theorem lw_p83 : lw_okq (⟨"LastCloud$Outcomes", "arrive", "(II)V"⟩, 5) := ⟨⟨by decide +kernel, by decide +kernel⟩, List.mem_of_getElem? (i := 392) (by decide +kernel), List.mem_of_getElem? (i := 1228) (by decide +kernel), List.mem_of_getElem? (i := 1229) (by decide +kernel)⟩
theorem lw_p84 : lw_okq (⟨"LastCloud$Outcomes", "mark", "(IZ)V"⟩, 5) := ⟨⟨by decide +kernel, by decide +kernel⟩, List.mem_of_getElem? (i := 392) (by decide +kernel), List.mem_of_getElem? (i := 1233) (by decide +kernel), List.mem_of_getElem? (i := 1234) (by decide +kernel)⟩
theorem lw_p85 : lw_okq (⟨"LastCloud$Outcomes", "spreadFrom", "(IZ)V"⟩, 5) := ⟨⟨by decide +kernel, by decide +kernel⟩, List.mem_of_getElem? (i := 392) (by decide +kernel), List.mem_of_getElem? (i := 1238) (by decide +kernel), List.mem_of_getElem? (i := 1239) (by decide +kernel)⟩
theorem lw_p86 : lw_okq (⟨"LastCloud$Outcomes", "marksAt", "(I)I"⟩, 5) := ⟨⟨by decide +kernel, by decide +kernel⟩, List.mem_of_getElem? (i := 392) (by decide +kernel), List.mem_of_getElem? (i := 1242) (by decide +kernel), List.mem_of_getElem? (i := 1243) (by decide +kernel)⟩
theorem lw_p87 : lw_okq (⟨"LastCloud$Outcomes", "follow", "(IZIIZ)V"⟩, 5) := ⟨⟨by decide +kernel, by decide +kernel⟩, List.mem_of_getElem? (i := 392) (by decide +kernel), List.mem_of_getElem? (i := 1246) (by decide +kernel), List.mem_of_getElem? (i := 1247) (by decide +kernel)⟩
theorem lw_p88 : lw_okq (⟨"LastCloud$Outcomes", "followLeg", "(IIZII)V"⟩, 5) := ⟨⟨by decide +kernel, by decide +kernel⟩, List.mem_of_getElem? (i := 392) (by decide +kernel), List.mem_of_getElem? (i := 1256) (by decide +kernel), List.mem_of_getElem? (i := 1257) (by decide +kernel)⟩
theorem lw_p89 : lw_okq (⟨"LastCloud", "startWorthWith", "(II)I"⟩, 18) := ⟨⟨by decide +kernel, by decide +kernel⟩, List.mem_of_getElem? (i := 23) (by decide +kernel), List.mem_of_getElem? (i := 1268) (by decide +kernel), List.mem_of_getElem? (i := 1269) (by decide +kernel)⟩
theorem lw_p90 : lw_okq (⟨"LastCloud$Plan", "setChance", "(II)V"⟩, 15) := ⟨⟨by decide +kernel, by decide +kernel⟩, List.mem_of_getElem? (i := 1015) (by decide +kernel), List.mem_of_getElem? (i := 1273) (by decide +kernel), List.mem_of_getElem? (i := 1274) (by decide +kernel)⟩
theorem lw_p91 : lw_okq (⟨"LastCloud", "bestStartWorth", "()I"⟩, 18) := ⟨⟨by decide +kernel, by decide +kernel⟩, List.mem_of_getElem? (i := 23) (by decide +kernel), List.mem_of_getElem? (i := 1277) (by decide +kernel), List.mem_of_getElem? (i := 1278) (by decide +kernel)⟩
theorem lw_p92 : lw_okq (⟨"LastCloud$Flight", "beginUnderAllLifts", "(LLastCloud$Sky;)V"⟩, 18) := ⟨⟨by decide +kernel, by decide +kernel⟩, List.mem_of_getElem? (i := 417) (by decide +kernel), List.mem_of_getElem? (i := 1299) (by decide +kernel), List.mem_of_getElem? (i := 1300) (by decide +kernel)⟩
theorem lw_p93 : lw_okq (⟨"LastCloud$Flight", "takeOff", "(LLastCloud$Sky;)V"⟩, 18) := ⟨⟨by decide +kernel, by decide +kernel⟩, List.mem_of_getElem? (i := 417) (by decide +kernel), List.mem_of_getElem? (i := 1303) (by decide +kernel), List.mem_of_getElem? (i := 1304) (by decide +kernel)⟩
theorem lw_p94 : lw_okq (⟨"LastCloud$Flight", "meetLift", "()V"⟩, 18) := ⟨⟨by decide +kernel, by decide +kernel⟩, List.mem_of_getElem? (i := 417) (by decide +kernel), List.mem_of_getElem? (i := 1309) (by decide +kernel), List.mem_of_getElem? (i := 1310) (by decide +kernel)⟩
theorem lw_p95 : lw_okq (⟨"LastCloud$Flight", "drawOfHundred", "()I"⟩, 18) := ⟨⟨by decide +kernel, by decide +kernel⟩, List.mem_of_getElem? (i := 417) (by decide +kernel), List.mem_of_getElem? (i := 1313) (by decide +kernel), List.mem_of_getElem? (i := 1314) (by decide +kernel)⟩
def lw_privs_6 : List (MethodName × Nat) := [(⟨"LastCloud", "trialPlan", "()LLastCloud$Plan;"⟩, 18), (⟨"LastCloud$Plan", "setDryWin", "(II)V"⟩, 15), (⟨"LastCloud$Outcomes", "spreadFromStart", "(LLastCloud$Plan;)V"⟩, 5), (⟨"LastCloud$Outcomes", "arrive", "(II)V"⟩, 5), (⟨"LastCloud$Outcomes", "mark", "(IZ)V"⟩, 5), (⟨"LastCloud$Outcomes", "spreadFrom", "(IZ)V"⟩, 5), (⟨"LastCloud$Outcomes", "marksAt", "(I)I"⟩, 5), (⟨"LastCloud$Outcomes", "follow", "(IZIIZ)V"⟩, 5), (⟨"LastCloud$Outcomes", "followLeg", "(IIZII)V"⟩, 5), (⟨"LastCloud", "startWorthWith", "(II)I"⟩, 18), (⟨"LastCloud$Plan", "setChance", "(II)V"⟩, 15), (⟨"LastCloud", "bestStartWorth", "()I"⟩, 18), (⟨"LastCloud$Flight", "beginUnderAllLifts", "(LLastCloud$Sky;)V"⟩, 18), (⟨"LastCloud$Flight", "takeOff", "(LLastCloud$Sky;)V"⟩, 18), (⟨"LastCloud$Flight", "meetLift", "()V"⟩, 18), (⟨"LastCloud$Flight", "drawOfHundred", "()I"⟩, 18)]
theorem lw_r6 : ∀ q ∈ lw_privs_6, lw_okq q := List.forall_mem_cons.mpr ⟨lw_p80, List.forall_mem_cons.mpr ⟨lw_p81, List.forall_mem_cons.mpr ⟨lw_p82, List.forall_mem_cons.mpr ⟨lw_p83, List.forall_mem_cons.mpr ⟨lw_p84, List.forall_mem_cons.mpr ⟨lw_p85, List.forall_mem_cons.mpr ⟨lw_p86, List.forall_mem_cons.mpr ⟨lw_p87, List.forall_mem_cons.mpr ⟨lw_p88, List.forall_mem_cons.mpr ⟨lw_p89, List.forall_mem_cons.mpr ⟨lw_p90, List.forall_mem_cons.mpr ⟨lw_p91, List.forall_mem_cons.mpr ⟨lw_p92, List.forall_mem_cons.mpr ⟨lw_p93, List.forall_mem_cons.mpr ⟨lw_p94, List.forall_mem_cons.mpr ⟨lw_p95, fun _ h => absurd h List.not_mem_nil⟩⟩⟩⟩⟩⟩⟩⟩⟩⟩⟩⟩⟩⟩⟩⟩
theorem lw_p96 : lw_okq (⟨"LastCloud$Flight", "deedBy", "(LLastCloud$Plan;)I"⟩, 18) := ⟨⟨by decide +kernel, by decide +kernel⟩, List.mem_of_getElem? (i := 417) (by decide +kernel), List.mem_of_getElem? (i := 1322) (by decide +kernel), List.mem_of_getElem? (i := 1323) (by decide +kernel)⟩
theorem lw_p97 : lw_okq (⟨"LastCloud$Flight", "tryDeed", "(J)Z"⟩, 18) := ⟨⟨by decide +kernel, by decide +kernel⟩, List.mem_of_getElem? (i := 417) (by decide +kernel), List.mem_of_getElem? (i := 1328) (by decide +kernel), List.mem_of_getElem? (i := 1329) (by decide +kernel)⟩
theorem lw_p98 : lw_okq (⟨"LastCloud$Flight", "tryClimb", "()Z"⟩, 18) := ⟨⟨by decide +kernel, by decide +kernel⟩, List.mem_of_getElem? (i := 417) (by decide +kernel), List.mem_of_getElem? (i := 1333) (by decide +kernel), List.mem_of_getElem? (i := 1334) (by decide +kernel)⟩
theorem lw_p99 : lw_okq (⟨"LastCloud$Flight", "tryLeg", "(II)Z"⟩, 18) := ⟨⟨by decide +kernel, by decide +kernel⟩, List.mem_of_getElem? (i := 417) (by decide +kernel), List.mem_of_getElem? (i := 1340) (by decide +kernel), List.mem_of_getElem? (i := 1341) (by decide +kernel)⟩
theorem lw_p100 : lw_okq (⟨"LastCloud", "flyOnce", "(LLastCloud$Flight;II)V"⟩, 18) := ⟨⟨by decide +kernel, by decide +kernel⟩, List.mem_of_getElem? (i := 23) (by decide +kernel), List.mem_of_getElem? (i := 1357) (by decide +kernel), List.mem_of_getElem? (i := 1358) (by decide +kernel)⟩
theorem lw_p101 : lw_okq (⟨"LastCloud$Flight", "follow", "(LLastCloud$Plan;LLastCloud$Sky;I)V"⟩, 18) := ⟨⟨by decide +kernel, by decide +kernel⟩, List.mem_of_getElem? (i := 417) (by decide +kernel), List.mem_of_getElem? (i := 1361) (by decide +kernel), List.mem_of_getElem? (i := 1362) (by decide +kernel)⟩
theorem lw_p102 : lw_okq (⟨"LastCloud$Flight", "begin", "(LLastCloud$Sky;I)V"⟩, 18) := ⟨⟨by decide +kernel, by decide +kernel⟩, List.mem_of_getElem? (i := 417) (by decide +kernel), List.mem_of_getElem? (i := 1365) (by decide +kernel), List.mem_of_getElem? (i := 1366) (by decide +kernel)⟩
theorem lw_p103 : lw_okq (⟨"LastCloud$Flight", "note", "(I)V"⟩, 18) := ⟨⟨by decide +kernel, by decide +kernel⟩, List.mem_of_getElem? (i := 417) (by decide +kernel), List.mem_of_getElem? (i := 1370) (by decide +kernel), List.mem_of_getElem? (i := 1371) (by decide +kernel)⟩
theorem lw_p104 : lw_okq (⟨"LastCloud$Flight", "noted", "(II)I"⟩, 18) := ⟨⟨by decide +kernel, by decide +kernel⟩, List.mem_of_getElem? (i := 417) (by decide +kernel), List.mem_of_getElem? (i := 1381) (by decide +kernel), List.mem_of_getElem? (i := 1382) (by decide +kernel)⟩
theorem lw_p105 : lw_okq (⟨"LastCloud$Flight", "endOf", "(I)I"⟩, 18) := ⟨⟨by decide +kernel, by decide +kernel⟩, List.mem_of_getElem? (i := 417) (by decide +kernel), List.mem_of_getElem? (i := 1389) (by decide +kernel), List.mem_of_getElem? (i := 1390) (by decide +kernel)⟩
theorem lw_p106 : lw_okq (⟨"LastCloud", "areFlights", "(III)Z"⟩, 18) := ⟨⟨by decide +kernel, by decide +kernel⟩, List.mem_of_getElem? (i := 23) (by decide +kernel), List.mem_of_getElem? (i := 1405) (by decide +kernel), List.mem_of_getElem? (i := 1406) (by decide +kernel)⟩
theorem lw_p107 : lw_okq (⟨"LastCloud$Flight", "spreadValue", "(I)I"⟩, 18) := ⟨⟨by decide +kernel, by decide +kernel⟩, List.mem_of_getElem? (i := 417) (by decide +kernel), List.mem_of_getElem? (i := 1417) (by decide +kernel), List.mem_of_getElem? (i := 1418) (by decide +kernel)⟩
theorem lw_p108 : lw_okq (⟨"LastCloud$Route", "fewest", "(LLastCloud$Sky;LLastCloud$Hops;I)I"⟩, 9) := ⟨⟨by decide +kernel, by decide +kernel⟩, List.mem_of_getElem? (i := 483) (by decide +kernel), List.mem_of_getElem? (i := 1428) (by decide +kernel), List.mem_of_getElem? (i := 1429) (by decide +kernel)⟩
theorem lw_p109 : lw_okq (⟨"LastCloud$Route", "begin", "(LLastCloud$Sky;LLastCloud$Hops;I)V"⟩, 9) := ⟨⟨by decide +kernel, by decide +kernel⟩, List.mem_of_getElem? (i := 483) (by decide +kernel), List.mem_of_getElem? (i := 1432) (by decide +kernel), List.mem_of_getElem? (i := 1433) (by decide +kernel)⟩
theorem lw_p110 : lw_okq (⟨"LastCloud$Route", "setLeast", "(II)V"⟩, 9) := ⟨⟨by decide +kernel, by decide +kernel⟩, List.mem_of_getElem? (i := 483) (by decide +kernel), List.mem_of_getElem? (i := 1443) (by decide +kernel), List.mem_of_getElem? (i := 1444) (by decide +kernel)⟩
theorem lw_p111 : lw_okq (⟨"LastCloud$Route", "pointBitAt", "(I)I"⟩, 9) := ⟨⟨by decide +kernel, by decide +kernel⟩, List.mem_of_getElem? (i := 483) (by decide +kernel), List.mem_of_getElem? (i := 1447) (by decide +kernel), List.mem_of_getElem? (i := 1448) (by decide +kernel)⟩
def lw_privs_7 : List (MethodName × Nat) := [(⟨"LastCloud$Flight", "deedBy", "(LLastCloud$Plan;)I"⟩, 18), (⟨"LastCloud$Flight", "tryDeed", "(J)Z"⟩, 18), (⟨"LastCloud$Flight", "tryClimb", "()Z"⟩, 18), (⟨"LastCloud$Flight", "tryLeg", "(II)Z"⟩, 18), (⟨"LastCloud", "flyOnce", "(LLastCloud$Flight;II)V"⟩, 18), (⟨"LastCloud$Flight", "follow", "(LLastCloud$Plan;LLastCloud$Sky;I)V"⟩, 18), (⟨"LastCloud$Flight", "begin", "(LLastCloud$Sky;I)V"⟩, 18), (⟨"LastCloud$Flight", "note", "(I)V"⟩, 18), (⟨"LastCloud$Flight", "noted", "(II)I"⟩, 18), (⟨"LastCloud$Flight", "endOf", "(I)I"⟩, 18), (⟨"LastCloud", "areFlights", "(III)Z"⟩, 18), (⟨"LastCloud$Flight", "spreadValue", "(I)I"⟩, 18), (⟨"LastCloud$Route", "fewest", "(LLastCloud$Sky;LLastCloud$Hops;I)I"⟩, 9), (⟨"LastCloud$Route", "begin", "(LLastCloud$Sky;LLastCloud$Hops;I)V"⟩, 9), (⟨"LastCloud$Route", "setLeast", "(II)V"⟩, 9), (⟨"LastCloud$Route", "pointBitAt", "(I)I"⟩, 9)]
theorem lw_r7 : ∀ q ∈ lw_privs_7, lw_okq q := List.forall_mem_cons.mpr ⟨lw_p96, List.forall_mem_cons.mpr ⟨lw_p97, List.forall_mem_cons.mpr ⟨lw_p98, List.forall_mem_cons.mpr ⟨lw_p99, List.forall_mem_cons.mpr ⟨lw_p100, List.forall_mem_cons.mpr ⟨lw_p101, List.forall_mem_cons.mpr ⟨lw_p102, List.forall_mem_cons.mpr ⟨lw_p103, List.forall_mem_cons.mpr ⟨lw_p104, List.forall_mem_cons.mpr ⟨lw_p105, List.forall_mem_cons.mpr ⟨lw_p106, List.forall_mem_cons.mpr ⟨lw_p107, List.forall_mem_cons.mpr ⟨lw_p108, List.forall_mem_cons.mpr ⟨lw_p109, List.forall_mem_cons.mpr ⟨lw_p110, List.forall_mem_cons.mpr ⟨lw_p111, fun _ h => absurd h List.not_mem_nil⟩⟩⟩⟩⟩⟩⟩⟩⟩⟩⟩⟩⟩⟩⟩⟩
theorem lw_p112 : lw_okq (⟨"LastCloud$Route", "fillPeriods", "(I)V"⟩, 9) := ⟨⟨by decide +kernel, by decide +kernel⟩, List.mem_of_getElem? (i := 483) (by decide +kernel), List.mem_of_getElem? (i := 1451) (by decide +kernel), List.mem_of_getElem? (i := 1452) (by decide +kernel)⟩
theorem lw_p113 : lw_okq (⟨"LastCloud$Route", "leastAt", "(I)I"⟩, 9) := ⟨⟨by decide +kernel, by decide +kernel⟩, List.mem_of_getElem? (i := 483) (by decide +kernel), List.mem_of_getElem? (i := 1455) (by decide +kernel), List.mem_of_getElem? (i := 1456) (by decide +kernel)⟩
theorem lw_p114 : lw_okq (⟨"LastCloud$Route", "leastByHops", "(III)I"⟩, 9) := ⟨⟨by decide +kernel, by decide +kernel⟩, List.mem_of_getElem? (i := 483) (by decide +kernel), List.mem_of_getElem? (i := 1459) (by decide +kernel), List.mem_of_getElem? (i := 1460) (by decide +kernel)⟩
theorem lw_p115 : lw_okq (⟨"LastCloud$Route", "behind", "(III)I"⟩, 9) := ⟨⟨by decide +kernel, by decide +kernel⟩, List.mem_of_getElem? (i := 483) (by decide +kernel), List.mem_of_getElem? (i := 1464) (by decide +kernel), List.mem_of_getElem? (i := 1465) (by decide +kernel)⟩
theorem lw_p116 : lw_okq (⟨"LastCloud$Route", "walk", "(I)V"⟩, 9) := ⟨⟨by decide +kernel, by decide +kernel⟩, List.mem_of_getElem? (i := 483) (by decide +kernel), List.mem_of_getElem? (i := 1474) (by decide +kernel), List.mem_of_getElem? (i := 1475) (by decide +kernel)⟩
theorem lw_p117 : lw_okq (⟨"LastCloud$Route", "addToWay", "(I)V"⟩, 9) := ⟨⟨by decide +kernel, by decide +kernel⟩, List.mem_of_getElem? (i := 483) (by decide +kernel), List.mem_of_getElem? (i := 1478) (by decide +kernel), List.mem_of_getElem? (i := 1479) (by decide +kernel)⟩
theorem lw_p118 : lw_okq (⟨"LastCloud$Route", "winsAt", "(I)I"⟩, 9) := ⟨⟨by decide +kernel, by decide +kernel⟩, List.mem_of_getElem? (i := 483) (by decide +kernel), List.mem_of_getElem? (i := 1482) (by decide +kernel), List.mem_of_getElem? (i := 1483) (by decide +kernel)⟩
theorem lw_p119 : lw_okq (⟨"LastCloud$Route", "firstHop", "(IIII)I"⟩, 9) := ⟨⟨by decide +kernel, by decide +kernel⟩, List.mem_of_getElem? (i := 483) (by decide +kernel), List.mem_of_getElem? (i := 1487) (by decide +kernel), List.mem_of_getElem? (i := 1488) (by decide +kernel)⟩
theorem lw_p120 : lw_okq (⟨"LastCloud", "slotsWithRow", "()I"⟩, 18) := ⟨⟨by decide +kernel, by decide +kernel⟩, List.mem_of_getElem? (i := 23) (by decide +kernel), List.mem_of_getElem? (i := 1505) (by decide +kernel), List.mem_of_getElem? (i := 1506) (by decide +kernel)⟩
theorem lw_p121 : lw_okq (⟨"LastCloud$Sky", "copyFrom", "(LLastCloud$Sky;)V"⟩, 19) := ⟨⟨by decide +kernel, by decide +kernel⟩, List.mem_of_getElem? (i := 71) (by decide +kernel), List.mem_of_getElem? (i := 1513) (by decide +kernel), List.mem_of_getElem? (i := 1514) (by decide +kernel)⟩
theorem lw_p122 : lw_okq (⟨"LastCloud$Place", "copyFrom", "(LLastCloud$Place;)V"⟩, 7) := ⟨⟨by decide +kernel, by decide +kernel⟩, List.mem_of_getElem? (i := 122) (by decide +kernel), List.mem_of_getElem? (i := 1517) (by decide +kernel), List.mem_of_getElem? (i := 1518) (by decide +kernel)⟩
theorem lw_p123 : lw_okq (⟨"LastCloud$Leg", "copyFrom", "(LLastCloud$Leg;)V"⟩, 6) := ⟨⟨by decide +kernel, by decide +kernel⟩, List.mem_of_getElem? (i := 170) (by decide +kernel), List.mem_of_getElem? (i := 1521) (by decide +kernel), List.mem_of_getElem? (i := 1522) (by decide +kernel)⟩
theorem lw_p124 : lw_okq (⟨"LastCloud$Polar", "copyFrom", "(LLastCloud$Polar;)V"⟩, 3) := ⟨⟨by decide +kernel, by decide +kernel⟩, List.mem_of_getElem? (i := 81) (by decide +kernel), List.mem_of_getElem? (i := 1525) (by decide +kernel), List.mem_of_getElem? (i := 1526) (by decide +kernel)⟩
theorem lw_p125 : lw_okq (⟨"LastCloud$Sights", "copyFrom", "(LLastCloud$Sights;)V"⟩, 3) := ⟨⟨by decide +kernel, by decide +kernel⟩, List.mem_of_getElem? (i := 103) (by decide +kernel), List.mem_of_getElem? (i := 1532) (by decide +kernel), List.mem_of_getElem? (i := 1533) (by decide +kernel)⟩
theorem lw_p126 : lw_okq (⟨"LastCloudModel", "forgets", "()V"⟩, 53) := ⟨⟨by decide +kernel, by decide +kernel⟩, List.mem_of_getElem? (i := 1563) (by decide +kernel), List.mem_of_getElem? (i := 1573) (by decide +kernel), List.mem_of_getElem? (i := 1574) (by decide +kernel)⟩
theorem lw_p127 : lw_okq (⟨"LastCloudModel", "advance", "()V"⟩, 53) := ⟨⟨by decide +kernel, by decide +kernel⟩, List.mem_of_getElem? (i := 1563) (by decide +kernel), List.mem_of_getElem? (i := 1764) (by decide +kernel), List.mem_of_getElem? (i := 1765) (by decide +kernel)⟩
def lw_privs_8 : List (MethodName × Nat) := [(⟨"LastCloud$Route", "fillPeriods", "(I)V"⟩, 9), (⟨"LastCloud$Route", "leastAt", "(I)I"⟩, 9), (⟨"LastCloud$Route", "leastByHops", "(III)I"⟩, 9), (⟨"LastCloud$Route", "behind", "(III)I"⟩, 9), (⟨"LastCloud$Route", "walk", "(I)V"⟩, 9), (⟨"LastCloud$Route", "addToWay", "(I)V"⟩, 9), (⟨"LastCloud$Route", "winsAt", "(I)I"⟩, 9), (⟨"LastCloud$Route", "firstHop", "(IIII)I"⟩, 9), (⟨"LastCloud", "slotsWithRow", "()I"⟩, 18), (⟨"LastCloud$Sky", "copyFrom", "(LLastCloud$Sky;)V"⟩, 19), (⟨"LastCloud$Place", "copyFrom", "(LLastCloud$Place;)V"⟩, 7), (⟨"LastCloud$Leg", "copyFrom", "(LLastCloud$Leg;)V"⟩, 6), (⟨"LastCloud$Polar", "copyFrom", "(LLastCloud$Polar;)V"⟩, 3), (⟨"LastCloud$Sights", "copyFrom", "(LLastCloud$Sights;)V"⟩, 3), (⟨"LastCloudModel", "forgets", "()V"⟩, 53), (⟨"LastCloudModel", "advance", "()V"⟩, 53)]
theorem lw_r8 : ∀ q ∈ lw_privs_8, lw_okq q := List.forall_mem_cons.mpr ⟨lw_p112, List.forall_mem_cons.mpr ⟨lw_p113, List.forall_mem_cons.mpr ⟨lw_p114, List.forall_mem_cons.mpr ⟨lw_p115, List.forall_mem_cons.mpr ⟨lw_p116, List.forall_mem_cons.mpr ⟨lw_p117, List.forall_mem_cons.mpr ⟨lw_p118, List.forall_mem_cons.mpr ⟨lw_p119, List.forall_mem_cons.mpr ⟨lw_p120, List.forall_mem_cons.mpr ⟨lw_p121, List.forall_mem_cons.mpr ⟨lw_p122, List.forall_mem_cons.mpr ⟨lw_p123, List.forall_mem_cons.mpr ⟨lw_p124, List.forall_mem_cons.mpr ⟨lw_p125, List.forall_mem_cons.mpr ⟨lw_p126, List.forall_mem_cons.mpr ⟨lw_p127, fun _ h => absurd h List.not_mem_nil⟩⟩⟩⟩⟩⟩⟩⟩⟩⟩⟩⟩⟩⟩⟩⟩
theorem lw_p128 : lw_okq (⟨"LastCloudModel", "see", "(I)I"⟩, 53) := ⟨⟨by decide +kernel, by decide +kernel⟩, List.mem_of_getElem? (i := 1563) (by decide +kernel), List.mem_of_getElem? (i := 1768) (by decide +kernel), List.mem_of_getElem? (i := 1769) (by decide +kernel)⟩
theorem lw_p129 : lw_okq (⟨"LastCloudModel", "good", "()Z"⟩, 53) := ⟨⟨by decide +kernel, by decide +kernel⟩, List.mem_of_getElem? (i := 1563) (by decide +kernel), List.mem_of_getElem? (i := 1778) (by decide +kernel), List.mem_of_getElem? (i := 1779) (by decide +kernel)⟩
theorem lw_p130 : lw_okq (⟨"LastCloudModel", "readLine", "()V"⟩, 53) := ⟨⟨by decide +kernel, by decide +kernel⟩, List.mem_of_getElem? (i := 1563) (by decide +kernel), List.mem_of_getElem? (i := 1782) (by decide +kernel), List.mem_of_getElem? (i := 1783) (by decide +kernel)⟩
theorem lw_p131 : lw_okq (⟨"LastCloudModel", "onceHere", "()I"⟩, 53) := ⟨⟨by decide +kernel, by decide +kernel⟩, List.mem_of_getElem? (i := 1563) (by decide +kernel), List.mem_of_getElem? (i := 1786) (by decide +kernel), List.mem_of_getElem? (i := 1787) (by decide +kernel)⟩
theorem lw_p132 : lw_okq (⟨"LastCloudModel", "is", "(Ljava/lang/String;)Z"⟩, 53) := ⟨⟨by decide +kernel, by decide +kernel⟩, List.mem_of_getElem? (i := 1563) (by decide +kernel), List.mem_of_getElem? (i := 1791) (by decide +kernel), List.mem_of_getElem? (i := 1792) (by decide +kernel)⟩
theorem lw_p133 : lw_okq (⟨"LastCloudModel", "errs", "(I)V"⟩, 53) := ⟨⟨by decide +kernel, by decide +kernel⟩, List.mem_of_getElem? (i := 1563) (by decide +kernel), List.mem_of_getElem? (i := 1807) (by decide +kernel), List.mem_of_getElem? (i := 1808) (by decide +kernel)⟩
theorem lw_p134 : lw_okq (⟨"LastCloudModel", "readOnce", "(I)V"⟩, 53) := ⟨⟨by decide +kernel, by decide +kernel⟩, List.mem_of_getElem? (i := 1563) (by decide +kernel), List.mem_of_getElem? (i := 1817) (by decide +kernel), List.mem_of_getElem? (i := 1818) (by decide +kernel)⟩
theorem lw_p135 : lw_okq (⟨"LastCloudModel", "number", "(II)I"⟩, 53) := ⟨⟨by decide +kernel, by decide +kernel⟩, List.mem_of_getElem? (i := 1563) (by decide +kernel), List.mem_of_getElem? (i := 1821) (by decide +kernel), List.mem_of_getElem? (i := 1822) (by decide +kernel)⟩
theorem lw_p136 : lw_okq (⟨"LastCloudModel", "told", "(Ljava/lang/String;II)I"⟩, 53) := ⟨⟨by decide +kernel, by decide +kernel⟩, List.mem_of_getElem? (i := 1563) (by decide +kernel), List.mem_of_getElem? (i := 1826) (by decide +kernel), List.mem_of_getElem? (i := 1827) (by decide +kernel)⟩
theorem lw_p137 : lw_okq (⟨"LastCloudModel", "needs", "(Ljava/lang/String;)V"⟩, 53) := ⟨⟨by decide +kernel, by decide +kernel⟩, List.mem_of_getElem? (i := 1563) (by decide +kernel), List.mem_of_getElem? (i := 1830) (by decide +kernel), List.mem_of_getElem? (i := 1831) (by decide +kernel)⟩
theorem lw_p138 : lw_okq (⟨"LastCloudModel", "takes", "(Ljava/lang/String;)Z"⟩, 53) := ⟨⟨by decide +kernel, by decide +kernel⟩, List.mem_of_getElem? (i := 1563) (by decide +kernel), List.mem_of_getElem? (i := 1834) (by decide +kernel), List.mem_of_getElem? (i := 1835) (by decide +kernel)⟩
theorem lw_p139 : lw_okq (⟨"LastCloudModel", "readStart", "()V"⟩, 53) := ⟨⟨by decide +kernel, by decide +kernel⟩, List.mem_of_getElem? (i := 1563) (by decide +kernel), List.mem_of_getElem? (i := 1840) (by decide +kernel), List.mem_of_getElem? (i := 1841) (by decide +kernel)⟩
theorem lw_p140 : lw_okq (⟨"LastCloudModel", "place", "()I"⟩, 53) := ⟨⟨by decide +kernel, by decide +kernel⟩, List.mem_of_getElem? (i := 1563) (by decide +kernel), List.mem_of_getElem? (i := 1844) (by decide +kernel), List.mem_of_getElem? (i := 1845) (by decide +kernel)⟩
theorem lw_p141 : lw_okq (⟨"LastCloudModel", "readPlace", "()V"⟩, 53) := ⟨⟨by decide +kernel, by decide +kernel⟩, List.mem_of_getElem? (i := 1563) (by decide +kernel), List.mem_of_getElem? (i := 1850) (by decide +kernel), List.mem_of_getElem? (i := 1851) (by decide +kernel)⟩
theorem lw_p142 : lw_okq (⟨"LastCloudModel", "readLeg", "()V"⟩, 53) := ⟨⟨by decide +kernel, by decide +kernel⟩, List.mem_of_getElem? (i := 1563) (by decide +kernel), List.mem_of_getElem? (i := 1856) (by decide +kernel), List.mem_of_getElem? (i := 1857) (by decide +kernel)⟩
theorem lw_p143 : lw_okq (⟨"LastCloudModel", "signed", "(I)I"⟩, 53) := ⟨⟨by decide +kernel, by decide +kernel⟩, List.mem_of_getElem? (i := 1563) (by decide +kernel), List.mem_of_getElem? (i := 1862) (by decide +kernel), List.mem_of_getElem? (i := 1863) (by decide +kernel)⟩
def lw_privs_9 : List (MethodName × Nat) := [(⟨"LastCloudModel", "see", "(I)I"⟩, 53), (⟨"LastCloudModel", "good", "()Z"⟩, 53), (⟨"LastCloudModel", "readLine", "()V"⟩, 53), (⟨"LastCloudModel", "onceHere", "()I"⟩, 53), (⟨"LastCloudModel", "is", "(Ljava/lang/String;)Z"⟩, 53), (⟨"LastCloudModel", "errs", "(I)V"⟩, 53), (⟨"LastCloudModel", "readOnce", "(I)V"⟩, 53), (⟨"LastCloudModel", "number", "(II)I"⟩, 53), (⟨"LastCloudModel", "told", "(Ljava/lang/String;II)I"⟩, 53), (⟨"LastCloudModel", "needs", "(Ljava/lang/String;)V"⟩, 53), (⟨"LastCloudModel", "takes", "(Ljava/lang/String;)Z"⟩, 53), (⟨"LastCloudModel", "readStart", "()V"⟩, 53), (⟨"LastCloudModel", "place", "()I"⟩, 53), (⟨"LastCloudModel", "readPlace", "()V"⟩, 53), (⟨"LastCloudModel", "readLeg", "()V"⟩, 53), (⟨"LastCloudModel", "signed", "(I)I"⟩, 53)]
theorem lw_r9 : ∀ q ∈ lw_privs_9, lw_okq q := List.forall_mem_cons.mpr ⟨lw_p128, List.forall_mem_cons.mpr ⟨lw_p129, List.forall_mem_cons.mpr ⟨lw_p130, List.forall_mem_cons.mpr ⟨lw_p131, List.forall_mem_cons.mpr ⟨lw_p132, List.forall_mem_cons.mpr ⟨lw_p133, List.forall_mem_cons.mpr ⟨lw_p134, List.forall_mem_cons.mpr ⟨lw_p135, List.forall_mem_cons.mpr ⟨lw_p136, List.forall_mem_cons.mpr ⟨lw_p137, List.forall_mem_cons.mpr ⟨lw_p138, List.forall_mem_cons.mpr ⟨lw_p139, List.forall_mem_cons.mpr ⟨lw_p140, List.forall_mem_cons.mpr ⟨lw_p141, List.forall_mem_cons.mpr ⟨lw_p142, List.forall_mem_cons.mpr ⟨lw_p143, fun _ h => absurd h List.not_mem_nil⟩⟩⟩⟩⟩⟩⟩⟩⟩⟩⟩⟩⟩⟩⟩⟩
theorem lw_p144 : lw_okq (⟨"LastCloudModel", "readLift", "()V"⟩, 53) := ⟨⟨by decide +kernel, by decide +kernel⟩, List.mem_of_getElem? (i := 1563) (by decide +kernel), List.mem_of_getElem? (i := 1869) (by decide +kernel), List.mem_of_getElem? (i := 1870) (by decide +kernel)⟩
theorem lw_p145 : lw_okq (⟨"LastCloudModel", "readPoint", "()V"⟩, 53) := ⟨⟨by decide +kernel, by decide +kernel⟩, List.mem_of_getElem? (i := 1563) (by decide +kernel), List.mem_of_getElem? (i := 1877) (by decide +kernel), List.mem_of_getElem? (i := 1878) (by decide +kernel)⟩
theorem lw_p146 : lw_okq (⟨"LastCloudModel", "ofPlace", "(II)I"⟩, 53) := ⟨⟨by decide +kernel, by decide +kernel⟩, List.mem_of_getElem? (i := 1563) (by decide +kernel), List.mem_of_getElem? (i := 1881) (by decide +kernel), List.mem_of_getElem? (i := 1882) (by decide +kernel)⟩
theorem lw_p147 : lw_okq (⟨"LastCloudModel", "isLeg", "(I)Z"⟩, 53) := ⟨⟨by decide +kernel, by decide +kernel⟩, List.mem_of_getElem? (i := 1563) (by decide +kernel), List.mem_of_getElem? (i := 1890) (by decide +kernel), List.mem_of_getElem? (i := 1891) (by decide +kernel)⟩
theorem lw_p148 : lw_okq (⟨"LastCloudModel", "isSpeed", "(I)Z"⟩, 53) := ⟨⟨by decide +kernel, by decide +kernel⟩, List.mem_of_getElem? (i := 1563) (by decide +kernel), List.mem_of_getElem? (i := 1894) (by decide +kernel), List.mem_of_getElem? (i := 1895) (by decide +kernel)⟩
theorem lw_p149 : lw_okq (⟨"LastCloudModel", "periodsOf", "(IZIZ)I"⟩, 53) := ⟨⟨by decide +kernel, by decide +kernel⟩, List.mem_of_getElem? (i := 1563) (by decide +kernel), List.mem_of_getElem? (i := 1898) (by decide +kernel), List.mem_of_getElem? (i := 1899) (by decide +kernel)⟩
theorem lw_p150 : lw_okq (⟨"LastCloudModel", "ofLeg", "(II)I"⟩, 53) := ⟨⟨by decide +kernel, by decide +kernel⟩, List.mem_of_getElem? (i := 1563) (by decide +kernel), List.mem_of_getElem? (i := 1902) (by decide +kernel), List.mem_of_getElem? (i := 1903) (by decide +kernel)⟩
theorem lw_p151 : lw_okq (⟨"LastCloudModel", "lossOf", "(III)I"⟩, 53) := ⟨⟨by decide +kernel, by decide +kernel⟩, List.mem_of_getElem? (i := 1563) (by decide +kernel), List.mem_of_getElem? (i := 1911) (by decide +kernel), List.mem_of_getElem? (i := 1912) (by decide +kernel)⟩
theorem lw_p152 : lw_okq (⟨"LastCloudModel", "isPlace", "(I)Z"⟩, 53) := ⟨⟨by decide +kernel, by decide +kernel⟩, List.mem_of_getElem? (i := 1563) (by decide +kernel), List.mem_of_getElem? (i := 1919) (by decide +kernel), List.mem_of_getElem? (i := 1920) (by decide +kernel)⟩
theorem lw_p153 : lw_okq (⟨"LastCloudModel", "climbOf", "(IZ)I"⟩, 53) := ⟨⟨by decide +kernel, by decide +kernel⟩, List.mem_of_getElem? (i := 1563) (by decide +kernel), List.mem_of_getElem? (i := 1923) (by decide +kernel), List.mem_of_getElem? (i := 1924) (by decide +kernel)⟩
theorem lw_p154 : lw_okq (⟨"LastCloudModel", "upOf", "(I)I"⟩, 53) := ⟨⟨by decide +kernel, by decide +kernel⟩, List.mem_of_getElem? (i := 1563) (by decide +kernel), List.mem_of_getElem? (i := 1927) (by decide +kernel), List.mem_of_getElem? (i := 1928) (by decide +kernel)⟩
theorem lw_p155 : lw_okq (⟨"LastCloudModel", "chanceNow", "(I)I"⟩, 53) := ⟨⟨by decide +kernel, by decide +kernel⟩, List.mem_of_getElem? (i := 1563) (by decide +kernel), List.mem_of_getElem? (i := 1935) (by decide +kernel), List.mem_of_getElem? (i := 1936) (by decide +kernel)⟩
theorem lw_p156 : lw_okq (⟨"LastCloudModel", "bySign", "(IIZI)I"⟩, 53) := ⟨⟨by decide +kernel, by decide +kernel⟩, List.mem_of_getElem? (i := 1563) (by decide +kernel), List.mem_of_getElem? (i := 1939) (by decide +kernel), List.mem_of_getElem? (i := 1940) (by decide +kernel)⟩
theorem lw_p157 : lw_okq (⟨"LastCloudModel", "isHeight", "(II)Z"⟩, 53) := ⟨⟨by decide +kernel, by decide +kernel⟩, List.mem_of_getElem? (i := 1563) (by decide +kernel), List.mem_of_getElem? (i := 1960) (by decide +kernel), List.mem_of_getElem? (i := 1961) (by decide +kernel)⟩
theorem lw_p158 : lw_okq (⟨"LastCloudModel", "glides", "(IIZ)V"⟩, 53) := ⟨⟨by decide +kernel, by decide +kernel⟩, List.mem_of_getElem? (i := 1563) (by decide +kernel), List.mem_of_getElem? (i := 1964) (by decide +kernel), List.mem_of_getElem? (i := 1965) (by decide +kernel)⟩
theorem lw_p159 : lw_okq (⟨"LastCloudModel", "laysWays", "()V"⟩, 53) := ⟨⟨by decide +kernel, by decide +kernel⟩, List.mem_of_getElem? (i := 1563) (by decide +kernel), List.mem_of_getElem? (i := 1968) (by decide +kernel), List.mem_of_getElem? (i := 1969) (by decide +kernel)⟩
def lw_privs_10 : List (MethodName × Nat) := [(⟨"LastCloudModel", "readLift", "()V"⟩, 53), (⟨"LastCloudModel", "readPoint", "()V"⟩, 53), (⟨"LastCloudModel", "ofPlace", "(II)I"⟩, 53), (⟨"LastCloudModel", "isLeg", "(I)Z"⟩, 53), (⟨"LastCloudModel", "isSpeed", "(I)Z"⟩, 53), (⟨"LastCloudModel", "periodsOf", "(IZIZ)I"⟩, 53), (⟨"LastCloudModel", "ofLeg", "(II)I"⟩, 53), (⟨"LastCloudModel", "lossOf", "(III)I"⟩, 53), (⟨"LastCloudModel", "isPlace", "(I)Z"⟩, 53), (⟨"LastCloudModel", "climbOf", "(IZ)I"⟩, 53), (⟨"LastCloudModel", "upOf", "(I)I"⟩, 53), (⟨"LastCloudModel", "chanceNow", "(I)I"⟩, 53), (⟨"LastCloudModel", "bySign", "(IIZI)I"⟩, 53), (⟨"LastCloudModel", "isHeight", "(II)Z"⟩, 53), (⟨"LastCloudModel", "glides", "(IIZ)V"⟩, 53), (⟨"LastCloudModel", "laysWays", "()V"⟩, 53)]
theorem lw_r10 : ∀ q ∈ lw_privs_10, lw_okq q := List.forall_mem_cons.mpr ⟨lw_p144, List.forall_mem_cons.mpr ⟨lw_p145, List.forall_mem_cons.mpr ⟨lw_p146, List.forall_mem_cons.mpr ⟨lw_p147, List.forall_mem_cons.mpr ⟨lw_p148, List.forall_mem_cons.mpr ⟨lw_p149, List.forall_mem_cons.mpr ⟨lw_p150, List.forall_mem_cons.mpr ⟨lw_p151, List.forall_mem_cons.mpr ⟨lw_p152, List.forall_mem_cons.mpr ⟨lw_p153, List.forall_mem_cons.mpr ⟨lw_p154, List.forall_mem_cons.mpr ⟨lw_p155, List.forall_mem_cons.mpr ⟨lw_p156, List.forall_mem_cons.mpr ⟨lw_p157, List.forall_mem_cons.mpr ⟨lw_p158, List.forall_mem_cons.mpr ⟨lw_p159, fun _ h => absurd h List.not_mem_nil⟩⟩⟩⟩⟩⟩⟩⟩⟩⟩⟩⟩⟩⟩⟩⟩
theorem lw_p160 : lw_okq (⟨"LastCloudModel", "laysFrom", "(II)V"⟩, 53) := ⟨⟨by decide +kernel, by decide +kernel⟩, List.mem_of_getElem? (i := 1563) (by decide +kernel), List.mem_of_getElem? (i := 1972) (by decide +kernel), List.mem_of_getElem? (i := 1973) (by decide +kernel)⟩
theorem lw_p161 : lw_okq (⟨"LastCloudModel", "comesAt", "(II)I"⟩, 53) := ⟨⟨by decide +kernel, by decide +kernel⟩, List.mem_of_getElem? (i := 1563) (by decide +kernel), List.mem_of_getElem? (i := 1976) (by decide +kernel), List.mem_of_getElem? (i := 1977) (by decide +kernel)⟩
theorem lw_p162 : lw_okq (⟨"LastCloudModel", "fieldsOf", "(IIZ)I"⟩, 53) := ⟨⟨by decide +kernel, by decide +kernel⟩, List.mem_of_getElem? (i := 1563) (by decide +kernel), List.mem_of_getElem? (i := 1984) (by decide +kernel), List.mem_of_getElem? (i := 1985) (by decide +kernel)⟩
theorem lw_p163 : lw_okq (⟨"LastCloudModel", "fastOf", "(I)I"⟩, 53) := ⟨⟨by decide +kernel, by decide +kernel⟩, List.mem_of_getElem? (i := 1563) (by decide +kernel), List.mem_of_getElem? (i := 2008) (by decide +kernel), List.mem_of_getElem? (i := 2009) (by decide +kernel)⟩
theorem lw_p164 : lw_okq (⟨"LastCloudModel", "isState", "(IIIZ)Z"⟩, 53) := ⟨⟨by decide +kernel, by decide +kernel⟩, List.mem_of_getElem? (i := 1563) (by decide +kernel), List.mem_of_getElem? (i := 2027) (by decide +kernel), List.mem_of_getElem? (i := 2028) (by decide +kernel)⟩
theorem lw_p165 : lw_okq (⟨"LastCloudModel", "solves", "(I)V"⟩, 53) := ⟨⟨by decide +kernel, by decide +kernel⟩, List.mem_of_getElem? (i := 1563) (by decide +kernel), List.mem_of_getElem? (i := 2031) (by decide +kernel), List.mem_of_getElem? (i := 2032) (by decide +kernel)⟩
theorem lw_p166 : lw_okq (⟨"LastCloudModel", "looks", "(IIIIII)V"⟩, 53) := ⟨⟨by decide +kernel, by decide +kernel⟩, List.mem_of_getElem? (i := 1563) (by decide +kernel), List.mem_of_getElem? (i := 2035) (by decide +kernel), List.mem_of_getElem? (i := 2036) (by decide +kernel)⟩
theorem lw_p167 : lw_okq (⟨"LastCloudModel", "landingOf", "(II)I"⟩, 53) := ⟨⟨by decide +kernel, by decide +kernel⟩, List.mem_of_getElem? (i := 1563) (by decide +kernel), List.mem_of_getElem? (i := 2042) (by decide +kernel), List.mem_of_getElem? (i := 2043) (by decide +kernel)⟩
theorem lw_p168 : lw_okq (⟨"LastCloudModel", "higher", "(III)I"⟩, 53) := ⟨⟨by decide +kernel, by decide +kernel⟩, List.mem_of_getElem? (i := 1563) (by decide +kernel), List.mem_of_getElem? (i := 2046) (by decide +kernel), List.mem_of_getElem? (i := 2047) (by decide +kernel)⟩
theorem lw_p169 : lw_okq (⟨"LastCloudModel", "takesOver", "(III)V"⟩, 53) := ⟨⟨by decide +kernel, by decide +kernel⟩, List.mem_of_getElem? (i := 1563) (by decide +kernel), List.mem_of_getElem? (i := 2050) (by decide +kernel), List.mem_of_getElem? (i := 2051) (by decide +kernel)⟩
theorem lw_p170 : lw_okq (⟨"LastCloudModel", "isRuled", "(IIII)Z"⟩, 53) := ⟨⟨by decide +kernel, by decide +kernel⟩, List.mem_of_getElem? (i := 1563) (by decide +kernel), List.mem_of_getElem? (i := 2054) (by decide +kernel), List.mem_of_getElem? (i := 2055) (by decide +kernel)⟩
theorem lw_p171 : lw_okq (⟨"LastCloudModel", "mixed", "([IIIII)I"⟩, 53) := ⟨⟨by decide +kernel, by decide +kernel⟩, List.mem_of_getElem? (i := 1563) (by decide +kernel), List.mem_of_getElem? (i := 2058) (by decide +kernel), List.mem_of_getElem? (i := 2059) (by decide +kernel)⟩
theorem lw_p172 : lw_okq (⟨"LastCloudModel", "chanceOf", "(I)I"⟩, 53) := ⟨⟨by decide +kernel, by decide +kernel⟩, List.mem_of_getElem? (i := 1563) (by decide +kernel), List.mem_of_getElem? (i := 2062) (by decide +kernel), List.mem_of_getElem? (i := 2063) (by decide +kernel)⟩
theorem lw_p173 : lw_okq (⟨"LastCloudModel", "hasStart", "()Z"⟩, 53) := ⟨⟨by decide +kernel, by decide +kernel⟩, List.mem_of_getElem? (i := 1563) (by decide +kernel), List.mem_of_getElem? (i := 2081) (by decide +kernel), List.mem_of_getElem? (i := 2082) (by decide +kernel)⟩
theorem lw_p174 : lw_okq (⟨"LastCloudModel", "startWet", "()I"⟩, 53) := ⟨⟨by decide +kernel, by decide +kernel⟩, List.mem_of_getElem? (i := 1563) (by decide +kernel), List.mem_of_getElem? (i := 2085) (by decide +kernel), List.mem_of_getElem? (i := 2086) (by decide +kernel)⟩
theorem lw_p175 : lw_okq (⟨"LastCloudModel", "startOf", "(II)I"⟩, 53) := ⟨⟨by decide +kernel, by decide +kernel⟩, List.mem_of_getElem? (i := 1563) (by decide +kernel), List.mem_of_getElem? (i := 2089) (by decide +kernel), List.mem_of_getElem? (i := 2090) (by decide +kernel)⟩
def lw_privs_11 : List (MethodName × Nat) := [(⟨"LastCloudModel", "laysFrom", "(II)V"⟩, 53), (⟨"LastCloudModel", "comesAt", "(II)I"⟩, 53), (⟨"LastCloudModel", "fieldsOf", "(IIZ)I"⟩, 53), (⟨"LastCloudModel", "fastOf", "(I)I"⟩, 53), (⟨"LastCloudModel", "isState", "(IIIZ)Z"⟩, 53), (⟨"LastCloudModel", "solves", "(I)V"⟩, 53), (⟨"LastCloudModel", "looks", "(IIIIII)V"⟩, 53), (⟨"LastCloudModel", "landingOf", "(II)I"⟩, 53), (⟨"LastCloudModel", "higher", "(III)I"⟩, 53), (⟨"LastCloudModel", "takesOver", "(III)V"⟩, 53), (⟨"LastCloudModel", "isRuled", "(IIII)Z"⟩, 53), (⟨"LastCloudModel", "mixed", "([IIIII)I"⟩, 53), (⟨"LastCloudModel", "chanceOf", "(I)I"⟩, 53), (⟨"LastCloudModel", "hasStart", "()Z"⟩, 53), (⟨"LastCloudModel", "startWet", "()I"⟩, 53), (⟨"LastCloudModel", "startOf", "(II)I"⟩, 53)]
theorem lw_r11 : ∀ q ∈ lw_privs_11, lw_okq q := List.forall_mem_cons.mpr ⟨lw_p160, List.forall_mem_cons.mpr ⟨lw_p161, List.forall_mem_cons.mpr ⟨lw_p162, List.forall_mem_cons.mpr ⟨lw_p163, List.forall_mem_cons.mpr ⟨lw_p164, List.forall_mem_cons.mpr ⟨lw_p165, List.forall_mem_cons.mpr ⟨lw_p166, List.forall_mem_cons.mpr ⟨lw_p167, List.forall_mem_cons.mpr ⟨lw_p168, List.forall_mem_cons.mpr ⟨lw_p169, List.forall_mem_cons.mpr ⟨lw_p170, List.forall_mem_cons.mpr ⟨lw_p171, List.forall_mem_cons.mpr ⟨lw_p172, List.forall_mem_cons.mpr ⟨lw_p173, List.forall_mem_cons.mpr ⟨lw_p174, List.forall_mem_cons.mpr ⟨lw_p175, fun _ h => absurd h List.not_mem_nil⟩⟩⟩⟩⟩⟩⟩⟩⟩⟩⟩⟩⟩⟩⟩⟩
theorem lw_p176 : lw_okq (⟨"LastCloudModel", "leaves", "(IIZI)I"⟩, 53) := ⟨⟨by decide +kernel, by decide +kernel⟩, List.mem_of_getElem? (i := 1563) (by decide +kernel), List.mem_of_getElem? (i := 2101) (by decide +kernel), List.mem_of_getElem? (i := 2102) (by decide +kernel)⟩
theorem lw_p177 : lw_okq (⟨"LastCloudModel", "endOf", "(IIIIIZ)I"⟩, 53) := ⟨⟨by decide +kernel, by decide +kernel⟩, List.mem_of_getElem? (i := 1563) (by decide +kernel), List.mem_of_getElem? (i := 2121) (by decide +kernel), List.mem_of_getElem? (i := 2122) (by decide +kernel)⟩
theorem lw_p178 : lw_okq (⟨"LastCloudModel", "wayOf", "(III)I"⟩, 53) := ⟨⟨by decide +kernel, by decide +kernel⟩, List.mem_of_getElem? (i := 1563) (by decide +kernel), List.mem_of_getElem? (i := 2125) (by decide +kernel), List.mem_of_getElem? (i := 2126) (by decide +kernel)⟩
theorem lw_p179 : lw_okq (⟨"LastCloudModel", "endsBehind", "(IIIIZ)I"⟩, 53) := ⟨⟨by decide +kernel, by decide +kernel⟩, List.mem_of_getElem? (i := 1563) (by decide +kernel), List.mem_of_getElem? (i := 2129) (by decide +kernel), List.mem_of_getElem? (i := 2130) (by decide +kernel)⟩
theorem lw_p180 : lw_okq (⟨"LastCloudModel", "startWith", "(II)I"⟩, 53) := ⟨⟨by decide +kernel, by decide +kernel⟩, List.mem_of_getElem? (i := 1563) (by decide +kernel), List.mem_of_getElem? (i := 2137) (by decide +kernel), List.mem_of_getElem? (i := 2138) (by decide +kernel)⟩
theorem lw_p181 : lw_okq (⟨"LastCloudModel", "canFly", "(II)Z"⟩, 53) := ⟨⟨by decide +kernel, by decide +kernel⟩, List.mem_of_getElem? (i := 1563) (by decide +kernel), List.mem_of_getElem? (i := 2161) (by decide +kernel), List.mem_of_getElem? (i := 2162) (by decide +kernel)⟩
theorem lw_p182 : lw_okq (⟨"LastCloudModel", "flies", "(II)V"⟩, 53) := ⟨⟨by decide +kernel, by decide +kernel⟩, List.mem_of_getElem? (i := 1563) (by decide +kernel), List.mem_of_getElem? (i := 2166) (by decide +kernel), List.mem_of_getElem? (i := 2167) (by decide +kernel)⟩
theorem lw_p183 : lw_okq (⟨"LastCloudModel", "sets", "(I)V"⟩, 53) := ⟨⟨by decide +kernel, by decide +kernel⟩, List.mem_of_getElem? (i := 1563) (by decide +kernel), List.mem_of_getElem? (i := 2170) (by decide +kernel), List.mem_of_getElem? (i := 2171) (by decide +kernel)⟩
theorem lw_p184 : lw_okq (⟨"LastCloudModel", "draw", "(I)I"⟩, 53) := ⟨⟨by decide +kernel, by decide +kernel⟩, List.mem_of_getElem? (i := 1563) (by decide +kernel), List.mem_of_getElem? (i := 2174) (by decide +kernel), List.mem_of_getElem? (i := 2175) (by decide +kernel)⟩
theorem lw_p185 : lw_okq (⟨"LastCloudModel", "does", "(J)Z"⟩, 53) := ⟨⟨by decide +kernel, by decide +kernel⟩, List.mem_of_getElem? (i := 1563) (by decide +kernel), List.mem_of_getElem? (i := 2182) (by decide +kernel), List.mem_of_getElem? (i := 2183) (by decide +kernel)⟩
theorem lw_p186 : lw_okq (⟨"LastCloudModel", "canFlyAll", "(III)Z"⟩, 53) := ⟨⟨by decide +kernel, by decide +kernel⟩, List.mem_of_getElem? (i := 1563) (by decide +kernel), List.mem_of_getElem? (i := 2209) (by decide +kernel), List.mem_of_getElem? (i := 2210) (by decide +kernel)⟩
theorem lw_p187 : lw_okq (⟨"LastCloudModel", "fliesAll", "(III)V"⟩, 53) := ⟨⟨by decide +kernel, by decide +kernel⟩, List.mem_of_getElem? (i := 1563) (by decide +kernel), List.mem_of_getElem? (i := 2214) (by decide +kernel), List.mem_of_getElem? (i := 2215) (by decide +kernel)⟩
theorem lw_p188 : lw_okq (⟨"LastCloudModel", "liftSet", "()I"⟩, 53) := ⟨⟨by decide +kernel, by decide +kernel⟩, List.mem_of_getElem? (i := 1563) (by decide +kernel), List.mem_of_getElem? (i := 2230) (by decide +kernel), List.mem_of_getElem? (i := 2231) (by decide +kernel)⟩
theorem lw_p189 : lw_okq (⟨"LastCloudModel", "soonBy", "(I)I"⟩, 53) := ⟨⟨by decide +kernel, by decide +kernel⟩, List.mem_of_getElem? (i := 1563) (by decide +kernel), List.mem_of_getElem? (i := 2234) (by decide +kernel), List.mem_of_getElem? (i := 2235) (by decide +kernel)⟩
theorem lw_p190 : lw_okq (⟨"LastCloudModel", "reckons", "(I)V"⟩, 53) := ⟨⟨by decide +kernel, by decide +kernel⟩, List.mem_of_getElem? (i := 1563) (by decide +kernel), List.mem_of_getElem? (i := 2238) (by decide +kernel), List.mem_of_getElem? (i := 2239) (by decide +kernel)⟩
theorem lw_p191 : lw_okq (⟨"LastCloudModel", "isIn", "(IIIII)Z"⟩, 53) := ⟨⟨by decide +kernel, by decide +kernel⟩, List.mem_of_getElem? (i := 1563) (by decide +kernel), List.mem_of_getElem? (i := 2245) (by decide +kernel), List.mem_of_getElem? (i := 2246) (by decide +kernel)⟩
def lw_privs_12 : List (MethodName × Nat) := [(⟨"LastCloudModel", "leaves", "(IIZI)I"⟩, 53), (⟨"LastCloudModel", "endOf", "(IIIIIZ)I"⟩, 53), (⟨"LastCloudModel", "wayOf", "(III)I"⟩, 53), (⟨"LastCloudModel", "endsBehind", "(IIIIZ)I"⟩, 53), (⟨"LastCloudModel", "startWith", "(II)I"⟩, 53), (⟨"LastCloudModel", "canFly", "(II)Z"⟩, 53), (⟨"LastCloudModel", "flies", "(II)V"⟩, 53), (⟨"LastCloudModel", "sets", "(I)V"⟩, 53), (⟨"LastCloudModel", "draw", "(I)I"⟩, 53), (⟨"LastCloudModel", "does", "(J)Z"⟩, 53), (⟨"LastCloudModel", "canFlyAll", "(III)Z"⟩, 53), (⟨"LastCloudModel", "fliesAll", "(III)V"⟩, 53), (⟨"LastCloudModel", "liftSet", "()I"⟩, 53), (⟨"LastCloudModel", "soonBy", "(I)I"⟩, 53), (⟨"LastCloudModel", "reckons", "(I)V"⟩, 53), (⟨"LastCloudModel", "isIn", "(IIIII)Z"⟩, 53)]
theorem lw_r12 : ∀ q ∈ lw_privs_12, lw_okq q := List.forall_mem_cons.mpr ⟨lw_p176, List.forall_mem_cons.mpr ⟨lw_p177, List.forall_mem_cons.mpr ⟨lw_p178, List.forall_mem_cons.mpr ⟨lw_p179, List.forall_mem_cons.mpr ⟨lw_p180, List.forall_mem_cons.mpr ⟨lw_p181, List.forall_mem_cons.mpr ⟨lw_p182, List.forall_mem_cons.mpr ⟨lw_p183, List.forall_mem_cons.mpr ⟨lw_p184, List.forall_mem_cons.mpr ⟨lw_p185, List.forall_mem_cons.mpr ⟨lw_p186, List.forall_mem_cons.mpr ⟨lw_p187, List.forall_mem_cons.mpr ⟨lw_p188, List.forall_mem_cons.mpr ⟨lw_p189, List.forall_mem_cons.mpr ⟨lw_p190, List.forall_mem_cons.mpr ⟨lw_p191, fun _ h => absurd h List.not_mem_nil⟩⟩⟩⟩⟩⟩⟩⟩⟩⟩⟩⟩⟩⟩⟩⟩
theorem lw_p192 : lw_okq (⟨"LastCloudModel", "climbsIn", "(IIIII)Z"⟩, 53) := ⟨⟨by decide +kernel, by decide +kernel⟩, List.mem_of_getElem? (i := 1563) (by decide +kernel), List.mem_of_getElem? (i := 2249) (by decide +kernel), List.mem_of_getElem? (i := 2250) (by decide +kernel)⟩
theorem lw_p193 : lw_okq (⟨"LastCloudModel", "goesIn", "(IIII)Z"⟩, 53) := ⟨⟨by decide +kernel, by decide +kernel⟩, List.mem_of_getElem? (i := 1563) (by decide +kernel), List.mem_of_getElem? (i := 2253) (by decide +kernel), List.mem_of_getElem? (i := 2254) (by decide +kernel)⟩
def lw_privs_13 : List (MethodName × Nat) := [(⟨"LastCloudModel", "climbsIn", "(IIIII)Z"⟩, 53), (⟨"LastCloudModel", "goesIn", "(IIII)Z"⟩, 53)]
theorem lw_r13 : ∀ q ∈ lw_privs_13, lw_okq q := List.forall_mem_cons.mpr ⟨lw_p192, List.forall_mem_cons.mpr ⟨lw_p193, fun _ h => absurd h List.not_mem_nil⟩⟩
def lw_privs : List (MethodName × Nat) := lw_privs_1 ++ (lw_privs_2 ++ (lw_privs_3 ++ (lw_privs_4 ++ (lw_privs_5 ++ (lw_privs_6 ++ (lw_privs_7 ++ (lw_privs_8 ++ (lw_privs_9 ++ (lw_privs_10 ++ (lw_privs_11 ++ (lw_privs_12 ++ (lw_privs_13))))))))))))
def lw_tbl : List Cond := k2_sels lw_privs ++ tables_1
theorem lw_privs_ok : ∀ q ∈ lw_privs, lw_okq q := by
  show ∀ q ∈ lw_privs_1 ++ (lw_privs_2 ++ (lw_privs_3 ++ (lw_privs_4 ++ (lw_privs_5 ++ (lw_privs_6 ++ (lw_privs_7 ++ (lw_privs_8 ++ (lw_privs_9 ++ (lw_privs_10 ++ (lw_privs_11 ++ (lw_privs_12 ++ (lw_privs_13)))))))))))), lw_okq q
  exact List.forall_mem_append.mpr ⟨lw_r1, List.forall_mem_append.mpr ⟨lw_r2, List.forall_mem_append.mpr ⟨lw_r3, List.forall_mem_append.mpr ⟨lw_r4, List.forall_mem_append.mpr ⟨lw_r5, List.forall_mem_append.mpr ⟨lw_r6, List.forall_mem_append.mpr ⟨lw_r7, List.forall_mem_append.mpr ⟨lw_r8, List.forall_mem_append.mpr ⟨lw_r9, List.forall_mem_append.mpr ⟨lw_r10, List.forall_mem_append.mpr ⟨lw_r11, List.forall_mem_append.mpr ⟨lw_r12, lw_r13⟩⟩⟩⟩⟩⟩⟩⟩⟩⟩⟩⟩

def RX0 : String := "LastCloud$Flight"
def TX0 : u_T := fun k => match k with
  | 0 => ("LastCloud$Flight", "deeds", "[I", true)
  | 1 => ("LastCloud$Flight", "places", "[I", true)
  | 2 => ("LastCloud$Flight", "heights", "[I", true)
  | 3 => ("LastCloud$Flight", "times", "[I", true)
  | 4 => ("LastCloud$Flight", "lifts", "[Z", true)
  | 5 => ("LastCloud$Flight", "chances", "[I", true)
  | 6 => ("LastCloud$Flight", "count", "I", false)
  | 7 => ("LastCloud$Flight", "sky", "LLastCloud$Sky;", false)
  | 8 => ("LastCloud$Flight", "drawn", "J", false)
  | 9 => ("LastCloud$Flight", "allLifts", "Z", false)
  | 10 => ("LastCloud$Flight", "place", "I", false)
  | 11 => ("LastCloud$Flight", "height", "I", false)
  | 12 => ("LastCloud$Flight", "period", "I", false)
  | 13 => ("LastCloud$Flight", "lift", "Z", false)
  | 14 => ("LastCloud$Flight", "wet", "Z", false)
  | 15 => ("LastCloud$Flight", "ended", "Z", false)
  | 16 => ("LastCloud$Flight", "endKind", "I", false)
  | _ => ("LastCloud$Flight", "endWorth", "I", false)
def tyX0 : Nat → FieldType := fun k => match k with
  | 0 => .array .int
  | 1 => .array .int
  | 2 => .array .int
  | 3 => .array .int
  | 4 => .array .boolean
  | 5 => .array .int
  | 6 => .int
  | 7 => .object "LastCloud$Sky"
  | 8 => .long
  | 9 => .boolean
  | 10 => .int
  | 11 => .int
  | 12 => .int
  | 13 => .boolean
  | 14 => .boolean
  | 15 => .boolean
  | 16 => .int
  | _ => .int
theorem nmX0 : ∀ a, a < 18 → ∀ b, b < 18 → a ≠ b → (TX0 a).2.1 ≠ (TX0 b).2.1 := by decide +kernel
theorem tyX0_ok : ∀ k, k < 18 → parseFieldDescriptor (TX0 k).2.2.1 = some (tyX0 k) := by decide +kernel
def RX1 : String := "LastCloud$Hops"
def TX1 : u_T := fun k => match k with
  | 0 => ("LastCloud$Hops", "firsts", "[I", true)
  | 1 => ("LastCloud$Hops", "tos", "[I", true)
  | 2 => ("LastCloud$Hops", "takes", "[I", true)
  | 3 => ("LastCloud$Hops", "losses", "[I", true)
  | 4 => ("LastCloud$Hops", "leasts", "[I", true)
  | 5 => ("LastCloud$Hops", "deeds", "[I", true)
  | 6 => ("LastCloud$Hops", "count", "I", false)
  | 7 => ("LastCloud$Hops", "edges", "[I", true)
  | 8 => ("LastCloud$Hops", "heights", "[I", true)
  | _ => ("LastCloud$Hops", "endings", "[I", true)
def tyX1 : Nat → FieldType := fun k => match k with
  | 0 => .array .int
  | 1 => .array .int
  | 2 => .array .int
  | 3 => .array .int
  | 4 => .array .int
  | 5 => .array .int
  | 6 => .int
  | 7 => .array .int
  | 8 => .array .int
  | _ => .array .int
theorem nmX1 : ∀ a, a < 10 → ∀ b, b < 10 → a ≠ b → (TX1 a).2.1 ≠ (TX1 b).2.1 := by decide +kernel
theorem tyX1_ok : ∀ k, k < 10 → parseFieldDescriptor (TX1 k).2.2.1 = some (tyX1 k) := by decide +kernel
def RX2 : String := "LastCloud$Leg"
def TX2 : u_T := fun k => match k with
  | 0 => ("LastCloud$Leg", "first", "I", false)
  | 1 => ("LastCloud$Leg", "second", "I", false)
  | 2 => ("LastCloud$Leg", "miles", "I", false)
  | 3 => ("LastCloud$Leg", "air", "I", false)
  | 4 => ("LastCloud$Leg", "wind", "I", false)
  | _ => ("LastCloud$Leg", "hill", "I", false)
def tyX2 : Nat → FieldType := fun k => match k with
  | 0 => .int
  | 1 => .int
  | 2 => .int
  | 3 => .int
  | 4 => .int
  | _ => .int
theorem nmX2 : ∀ a, a < 6 → ∀ b, b < 6 → a ≠ b → (TX2 a).2.1 ≠ (TX2 b).2.1 := by decide +kernel
theorem tyX2_ok : ∀ k, k < 6 → parseFieldDescriptor (TX2 k).2.2.1 = some (tyX2 k) := by decide +kernel
def RX3 : String := "LastCloud$Outcomes"
def TX3 : u_T := fun k => match k with
  | 0 => ("LastCloud$Outcomes", "reached", "[B", true)
  | 1 => ("LastCloud$Outcomes", "least", "I", false)
  | 2 => ("LastCloud$Outcomes", "greatest", "I", false)
  | 3 => ("LastCloud$Outcomes", "plan", "LLastCloud$Plan;", false)
  | _ => ("LastCloud$Outcomes", "sky", "LLastCloud$Sky;", false)
def tyX3 : Nat → FieldType := fun k => match k with
  | 0 => .array .byte
  | 1 => .int
  | 2 => .int
  | 3 => .object "LastCloud$Plan"
  | _ => .object "LastCloud$Sky"
theorem nmX3 : ∀ a, a < 5 → ∀ b, b < 5 → a ≠ b → (TX3 a).2.1 ≠ (TX3 b).2.1 := by decide +kernel
theorem tyX3_ok : ∀ k, k < 5 → parseFieldDescriptor (TX3 k).2.2.1 = some (tyX3 k) := by decide +kernel
def RX4 : String := "LastCloud$Place"
def TX4 : u_T := fun k => match k with
  | 0 => ("LastCloud$Place", "ground", "I", false)
  | 1 => ("LastCloud$Place", "field", "I", false)
  | 2 => ("LastCloud$Place", "hasLift", "Z", false)
  | 3 => ("LastCloud$Place", "chance", "I", false)
  | 4 => ("LastCloud$Place", "up", "I", false)
  | 5 => ("LastCloud$Place", "signThere", "I", false)
  | _ => ("LastCloud$Place", "signGone", "I", false)
def tyX4 : Nat → FieldType := fun k => match k with
  | 0 => .int
  | 1 => .int
  | 2 => .boolean
  | 3 => .int
  | 4 => .int
  | 5 => .int
  | _ => .int
theorem nmX4 : ∀ a, a < 7 → ∀ b, b < 7 → a ≠ b → (TX4 a).2.1 ≠ (TX4 b).2.1 := by decide +kernel
theorem tyX4_ok : ∀ k, k < 7 → parseFieldDescriptor (TX4 k).2.2.1 = some (tyX4 k) := by decide +kernel
def RX5 : String := "LastCloud$Plan"
def TX5 : u_T := fun k => match k with
  | 0 => ("LastCloud$Plan", "worthThere", "[I", true)
  | 1 => ("LastCloud$Plan", "worthGone", "[I", true)
  | 2 => ("LastCloud$Plan", "worthMixed", "[I", true)
  | 3 => ("LastCloud$Plan", "doneThere", "[I", true)
  | 4 => ("LastCloud$Plan", "doneGone", "[I", true)
  | 5 => ("LastCloud$Plan", "leasts", "[I", true)
  | 6 => ("LastCloud$Plan", "chances", "[I", true)
  | 7 => ("LastCloud$Plan", "winsDry", "[I", true)
  | 8 => ("LastCloud$Plan", "winsWet", "[I", true)
  | 9 => ("LastCloud$Plan", "begun", "Z", false)
  | 10 => ("LastCloud$Plan", "sky", "LLastCloud$Sky;", false)
  | 11 => ("LastCloud$Plan", "hops", "LLastCloud$Hops;", false)
  | 12 => ("LastCloud$Plan", "rule", "I", false)
  | 13 => ("LastCloud$Plan", "dryFrom", "I", false)
  | _ => ("LastCloud$Plan", "wetFrom", "I", false)
def tyX5 : Nat → FieldType := fun k => match k with
  | 0 => .array .int
  | 1 => .array .int
  | 2 => .array .int
  | 3 => .array .int
  | 4 => .array .int
  | 5 => .array .int
  | 6 => .array .int
  | 7 => .array .int
  | 8 => .array .int
  | 9 => .boolean
  | 10 => .object "LastCloud$Sky"
  | 11 => .object "LastCloud$Hops"
  | 12 => .int
  | 13 => .int
  | _ => .int
theorem nmX5 : ∀ a, a < 15 → ∀ b, b < 15 → a ≠ b → (TX5 a).2.1 ≠ (TX5 b).2.1 := by decide +kernel
theorem tyX5_ok : ∀ k, k < 15 → parseFieldDescriptor (TX5 k).2.2.1 = some (tyX5 k) := by decide +kernel
def RX6 : String := "LastCloud$Polar"
def TX6 : u_T := fun k => match k with
  | 0 => ("LastCloud$Polar", "count", "I", false)
  | 1 => ("LastCloud$Polar", "speeds", "[I", true)
  | _ => ("LastCloud$Polar", "sinks", "[I", true)
def tyX6 : Nat → FieldType := fun k => match k with
  | 0 => .int
  | 1 => .array .int
  | _ => .array .int
theorem nmX6 : ∀ a, a < 3 → ∀ b, b < 3 → a ≠ b → (TX6 a).2.1 ≠ (TX6 b).2.1 := by decide +kernel
theorem tyX6_ok : ∀ k, k < 3 → parseFieldDescriptor (TX6 k).2.2.1 = some (tyX6 k) := by decide +kernel
def RX7 : String := "LastCloud$Reader"
def TX7 : u_T := fun k => match k with
  | 0 => ("LastCloud$Reader", "text", "[B", true)
  | 1 => ("LastCloud$Reader", "kinds", "[I", true)
  | 2 => ("LastCloud$Reader", "froms", "[I", true)
  | 3 => ("LastCloud$Reader", "behinds", "[I", true)
  | 4 => ("LastCloud$Reader", "tokenCount", "I", false)
  | 5 => ("LastCloud$Reader", "at", "I", false)
  | 6 => ("LastCloud$Reader", "fault", "I", false)
  | 7 => ("LastCloud$Reader", "faultPlace", "I", false)
  | 8 => ("LastCloud$Reader", "toldOnce", "I", false)
  | _ => ("LastCloud$Reader", "sky", "LLastCloud$Sky;", false)
def tyX7 : Nat → FieldType := fun k => match k with
  | 0 => .array .byte
  | 1 => .array .int
  | 2 => .array .int
  | 3 => .array .int
  | 4 => .int
  | 5 => .int
  | 6 => .int
  | 7 => .int
  | 8 => .int
  | _ => .object "LastCloud$Sky"
theorem nmX7 : ∀ a, a < 10 → ∀ b, b < 10 → a ≠ b → (TX7 a).2.1 ≠ (TX7 b).2.1 := by decide +kernel
theorem tyX7_ok : ∀ k, k < 10 → parseFieldDescriptor (TX7 k).2.2.1 = some (tyX7 k) := by decide +kernel
def RX8 : String := "LastCloud$Route"
def TX8 : u_T := fun k => match k with
  | 0 => ("LastCloud$Route", "leasts", "[I", true)
  | 1 => ("LastCloud$Route", "pointBits", "[I", true)
  | 2 => ("LastCloud$Route", "wins", "[I", true)
  | 3 => ("LastCloud$Route", "way", "[I", true)
  | 4 => ("LastCloud$Route", "wayCount", "I", false)
  | 5 => ("LastCloud$Route", "allPoints", "I", false)
  | 6 => ("LastCloud$Route", "wet", "Z", false)
  | 7 => ("LastCloud$Route", "sky", "LLastCloud$Sky;", false)
  | _ => ("LastCloud$Route", "hops", "LLastCloud$Hops;", false)
def tyX8 : Nat → FieldType := fun k => match k with
  | 0 => .array .int
  | 1 => .array .int
  | 2 => .array .int
  | 3 => .array .int
  | 4 => .int
  | 5 => .int
  | 6 => .boolean
  | 7 => .object "LastCloud$Sky"
  | _ => .object "LastCloud$Hops"
theorem nmX8 : ∀ a, a < 9 → ∀ b, b < 9 → a ≠ b → (TX8 a).2.1 ≠ (TX8 b).2.1 := by decide +kernel
theorem tyX8_ok : ∀ k, k < 9 → parseFieldDescriptor (TX8 k).2.2.1 = some (tyX8 k) := by decide +kernel
def RX9 : String := "LastCloud$Sights"
def TX9 : u_T := fun k => match k with
  | 0 => ("LastCloud$Sights", "count", "I", false)
  | 1 => ("LastCloud$Sights", "places", "[I", true)
  | _ => ("LastCloud$Sights", "sorts", "[I", true)
def tyX9 : Nat → FieldType := fun k => match k with
  | 0 => .int
  | 1 => .array .int
  | _ => .array .int
theorem nmX9 : ∀ a, a < 3 → ∀ b, b < 3 → a ≠ b → (TX9 a).2.1 ≠ (TX9 b).2.1 := by decide +kernel
theorem tyX9_ok : ∀ k, k < 3 → parseFieldDescriptor (TX9 k).2.2.1 = some (tyX9 k) := by decide +kernel
def RX10 : String := "LastCloud$Sky"
def TX10 : u_T := fun k => match k with
  | 0 => ("LastCloud$Sky", "places", "[LLastCloud$Place;", true)
  | 1 => ("LastCloud$Sky", "legs", "[LLastCloud$Leg;", true)
  | 2 => ("LastCloud$Sky", "polar", "LLastCloud$Polar;", true)
  | 3 => ("LastCloud$Sky", "sights", "LLastCloud$Sights;", true)
  | 4 => ("LastCloud$Sky", "placeCount", "I", false)
  | 5 => ("LastCloud$Sky", "legCount", "I", false)
  | 6 => ("LastCloud$Sky", "lineCount", "I", false)
  | 7 => ("LastCloud$Sky", "turn", "I", false)
  | 8 => ("LastCloud$Sky", "water", "I", false)
  | 9 => ("LastCloud$Sky", "ceiling", "I", false)
  | 10 => ("LastCloud$Sky", "lastPeriod", "I", false)
  | 11 => ("LastCloud$Sky", "worthHome", "I", false)
  | 12 => ("LastCloud$Sky", "worthPeriod", "I", false)
  | 13 => ("LastCloud$Sky", "worthOut", "I", false)
  | 14 => ("LastCloud$Sky", "homePlace", "I", false)
  | 15 => ("LastCloud$Sky", "startPlace", "I", false)
  | 16 => ("LastCloud$Sky", "startHeight", "I", false)
  | 17 => ("LastCloud$Sky", "startWet", "Z", false)
  | _ => ("LastCloud$Sky", "pointBits", "I", false)
def tyX10 : Nat → FieldType := fun k => match k with
  | 0 => .array (.object "LastCloud$Place")
  | 1 => .array (.object "LastCloud$Leg")
  | 2 => .object "LastCloud$Polar"
  | 3 => .object "LastCloud$Sights"
  | 4 => .int
  | 5 => .int
  | 6 => .int
  | 7 => .int
  | 8 => .int
  | 9 => .int
  | 10 => .int
  | 11 => .int
  | 12 => .int
  | 13 => .int
  | 14 => .int
  | 15 => .int
  | 16 => .int
  | 17 => .boolean
  | _ => .int
theorem nmX10 : ∀ a, a < 19 → ∀ b, b < 19 → a ≠ b → (TX10 a).2.1 ≠ (TX10 b).2.1 := by decide +kernel
theorem tyX10_ok : ∀ k, k < 19 → parseFieldDescriptor (TX10 k).2.2.1 = some (tyX10 k) := by decide +kernel
def RX11 : String := "LastCloud"
def TX11 : u_T := fun k => match k with
  | 0 => ("LastCloud", "tape", "[B", true)
  | 1 => ("LastCloud", "tapeSize", "I", false)
  | 2 => ("LastCloud", "reader", "LLastCloud$Reader;", true)
  | 3 => ("LastCloud", "faultKind", "I", false)
  | 4 => ("LastCloud", "faultPlace", "I", false)
  | 5 => ("LastCloud", "now", "LLastCloud$Sky;", false)
  | 6 => ("LastCloud", "draft", "LLastCloud$Sky;", false)
  | 7 => ("LastCloud", "images", "[LLastCloud$Sky;", true)
  | 8 => ("LastCloud", "kept", "[Z", true)
  | 9 => ("LastCloud", "hops", "LLastCloud$Hops;", true)
  | 10 => ("LastCloud", "plans", "[LLastCloud$Plan;", true)
  | 11 => ("LastCloud", "outcomes", "LLastCloud$Outcomes;", true)
  | 12 => ("LastCloud", "latest", "LLastCloud$Flight;", true)
  | 13 => ("LastCloud", "other", "LLastCloud$Flight;", true)
  | 14 => ("LastCloud", "route", "LLastCloud$Route;", true)
  | 15 => ("LastCloud", "rows", "[[J", true)
  | 16 => ("LastCloud", "rowSizes", "[I", true)
  | _ => ("LastCloud", "rowWidths", "[I", true)
def tyX11 : Nat → FieldType := fun k => match k with
  | 0 => .array .byte
  | 1 => .int
  | 2 => .object "LastCloud$Reader"
  | 3 => .int
  | 4 => .int
  | 5 => .object "LastCloud$Sky"
  | 6 => .object "LastCloud$Sky"
  | 7 => .array (.object "LastCloud$Sky")
  | 8 => .array .boolean
  | 9 => .object "LastCloud$Hops"
  | 10 => .array (.object "LastCloud$Plan")
  | 11 => .object "LastCloud$Outcomes"
  | 12 => .object "LastCloud$Flight"
  | 13 => .object "LastCloud$Flight"
  | 14 => .object "LastCloud$Route"
  | 15 => .array (.array .long)
  | 16 => .array .int
  | _ => .array .int
theorem nmX11 : ∀ a, a < 18 → ∀ b, b < 18 → a ≠ b → (TX11 a).2.1 ≠ (TX11 b).2.1 := by decide +kernel
theorem tyX11_ok : ∀ k, k < 18 → parseFieldDescriptor (TX11 k).2.2.1 = some (tyX11 k) := by decide +kernel
def RX12 : String := "LastCloudModel"
def TX12 : u_T := fun k => match k with
  | 0 => ("LastCloudModel", "thrown", "I", false)
  | 1 => ("LastCloudModel", "world", "[I", true)
  | 2 => ("LastCloudModel", "images", "[I", true)
  | 3 => ("LastCloudModel", "hasImage", "[Z", true)
  | 4 => ("LastCloudModel", "tape", "[B", true)
  | 5 => ("LastCloudModel", "taped", "I", false)
  | 6 => ("LastCloudModel", "five", "[I", true)
  | 7 => ("LastCloudModel", "size", "I", false)
  | 8 => ("LastCloudModel", "at", "I", false)
  | 9 => ("LastCloudModel", "from", "I", false)
  | 10 => ("LastCloudModel", "token", "I", false)
  | 11 => ("LastCloudModel", "value", "I", false)
  | 12 => ("LastCloudModel", "faultKind", "I", false)
  | 13 => ("LastCloudModel", "faultPlace", "I", false)
  | 14 => ("LastCloudModel", "fresh", "[I", true)
  | 15 => ("LastCloudModel", "homeTold", "Z", false)
  | 16 => ("LastCloudModel", "triedPlace", "I", false)
  | 17 => ("LastCloudModel", "triedChance", "I", false)
  | 18 => ("LastCloudModel", "upPlace", "I", false)
  | 19 => ("LastCloudModel", "upTried", "I", false)
  | 20 => ("LastCloudModel", "wayMany", "[I", true)
  | 21 => ("LastCloudModel", "ways", "[I", true)
  | 22 => ("LastCloudModel", "waysLaid", "Z", false)
  | 23 => ("LastCloudModel", "highest", "[I", true)
  | 24 => ("LastCloudModel", "landable", "[I", true)
  | 25 => ("LastCloudModel", "streets", "[Z", true)
  | 26 => ("LastCloudModel", "worths", "[I", true)
  | 27 => ("LastCloudModel", "deeds", "[I", true)
  | 28 => ("LastCloudModel", "homes", "[I", true)
  | 29 => ("LastCloudModel", "solved", "I", false)
  | 30 => ("LastCloudModel", "fastTo", "[I", true)
  | 31 => ("LastCloudModel", "ends", "[I", true)
  | 32 => ("LastCloudModel", "drawn", "J", false)
  | 33 => ("LastCloudModel", "here", "I", false)
  | 34 => ("LastCloudModel", "high", "I", false)
  | 35 => ("LastCloudModel", "now", "I", false)
  | 36 => ("LastCloudModel", "lifted", "I", false)
  | 37 => ("LastCloudModel", "watered", "I", false)
  | 38 => ("LastCloudModel", "flownMany", "I", false)
  | 39 => ("LastCloudModel", "flights", "[I", true)
  | 40 => ("LastCloudModel", "toldMany", "I", false)
  | 41 => ("LastCloudModel", "toldFlight", "[I", true)
  | 42 => ("LastCloudModel", "toldEnd", "[I", true)
  | 43 => ("LastCloudModel", "homeMany", "I", false)
  | 44 => ("LastCloudModel", "worthSum", "I", false)
  | 45 => ("LastCloudModel", "spreads", "[I", true)
  | 46 => ("LastCloudModel", "left", "[I", true)
  | 47 => ("LastCloudModel", "pointBit", "[I", true)
  | 48 => ("LastCloudModel", "allPoints", "I", false)
  | 49 => ("LastCloudModel", "many", "[I", true)
  | 50 => ("LastCloudModel", "width", "[I", true)
  | 51 => ("LastCloudModel", "numbers", "[J", true)
  | _ => ("LastCloudModel", "moving", "[J", true)
def tyX12 : Nat → FieldType := fun k => match k with
  | 0 => .int
  | 1 => .array .int
  | 2 => .array .int
  | 3 => .array .boolean
  | 4 => .array .byte
  | 5 => .int
  | 6 => .array .int
  | 7 => .int
  | 8 => .int
  | 9 => .int
  | 10 => .int
  | 11 => .int
  | 12 => .int
  | 13 => .int
  | 14 => .array .int
  | 15 => .boolean
  | 16 => .int
  | 17 => .int
  | 18 => .int
  | 19 => .int
  | 20 => .array .int
  | 21 => .array .int
  | 22 => .boolean
  | 23 => .array .int
  | 24 => .array .int
  | 25 => .array .boolean
  | 26 => .array .int
  | 27 => .array .int
  | 28 => .array .int
  | 29 => .int
  | 30 => .array .int
  | 31 => .array .int
  | 32 => .long
  | 33 => .int
  | 34 => .int
  | 35 => .int
  | 36 => .int
  | 37 => .int
  | 38 => .int
  | 39 => .array .int
  | 40 => .int
  | 41 => .array .int
  | 42 => .array .int
  | 43 => .int
  | 44 => .int
  | 45 => .array .int
  | 46 => .array .int
  | 47 => .array .int
  | 48 => .int
  | 49 => .array .int
  | 50 => .array .int
  | 51 => .array .long
  | _ => .array .long
theorem nmX12 : ∀ a, a < 53 → ∀ b, b < 53 → a ≠ b → (TX12 a).2.1 ≠ (TX12 b).2.1 := by decide +kernel
theorem tyX12_ok : ∀ k, k < 53 → parseFieldDescriptor (TX12 k).2.2.1 = some (tyX12 k) := by decide +kernel
def RL : String := "LastCloudLaw"
abbrev vwCl : List vw_C := [(RX0, TX0, 18), (RX1, TX1, 10), (RX2, TX2, 6), (RX3, TX3, 5), (RX4, TX4, 7), (RX5, TX5, 15), (RX6, TX6, 3), (RX7, TX7, 10), (RX8, TX8, 9), (RX9, TX9, 3), (RX10, TX10, 19), (RX11, TX11, 18), (RX12, TX12, 53)]
theorem x_mem {big ws : List Cond} (ps : List Nat) (hp : ws = ps.filterMap (fun i => big[i]?)) : ∀ w ∈ ws, w ∈ big := by
  intro w hw
  rw [hp] at hw
  obtain ⟨i, -, hi⟩ := List.mem_filterMap.mp hw
  exact List.mem_of_getElem? hi
theorem x_in {w : Cond} (h : w ∈ tables_1) : w ∈ lw_tbl := List.mem_append_right _ h
def x_pk {α : Type} : List α → List Nat → List α
  | _, [] => []
  | big, g :: gs => match big.drop g with
    | [] => []
    | a :: r => a :: x_pk r gs
theorem x_pk_in {α : Type} : ∀ (gs : List Nat) (big : List α), ∀ w ∈ x_pk big gs, w ∈ big
  | [], _ => fun w h => absurd h List.not_mem_nil
  | g :: gs, big => fun w h => by
    unfold x_pk at h
    split at h
    · exact absurd h List.not_mem_nil
    · rename_i a r e
      have k : ∀ v ∈ a :: r, v ∈ big := fun v hv => List.mem_of_mem_drop (i := g) (by rw [e]; exact hv)
      rcases List.mem_cons.mp h with rfl | h
      · exact k _ (List.mem_cons_self ..)
      · exact k _ (List.mem_cons_of_mem _ (x_pk_in gs r w h))
theorem x_mem2 {α : Type} {big ws : List α} (gs ps : List Nat) (hp : ws = ps.filterMap (fun i => (x_pk big gs)[i]?)) : ∀ w ∈ ws, w ∈ big := by
  intro w hw
  rw [hp] at hw
  obtain ⟨i, -, hi⟩ := List.mem_filterMap.mp hw
  exact x_pk_in gs big w (List.mem_of_getElem? hi)
theorem inX0 : ∀ w ∈ u_ws RX0 TX0 18, w ∈ tables_1 := x_mem2 [445, 1, 1, 1, 1, 1, 1, 1, 1, 1, 1, 1, 1, 1, 1, 1, 1, 1] [0, 1, 2, 3, 4, 5, 6, 7, 8, 9, 10, 11, 12, 13, 14, 15, 16, 17] (by decide +kernel)
theorem inX1 : ∀ w ∈ u_ws RX1 TX1 10, w ∈ tables_1 := x_mem2 [367, 1, 1, 1, 1, 1, 1, 1, 1, 1] [0, 1, 2, 3, 4, 5, 6, 7, 8, 9] (by decide +kernel)
theorem inX2 : ∀ w ∈ u_ws RX2 TX2 6, w ∈ tables_1 := x_mem2 [198, 1, 1, 1, 1, 1] [0, 1, 2, 3, 4, 5] (by decide +kernel)
theorem inX3 : ∀ w ∈ u_ws RX3 TX3 5, w ∈ tables_1 := x_mem2 [405, 1, 1, 1, 1] [0, 1, 2, 3, 4] (by decide +kernel)
theorem inX4 : ∀ w ∈ u_ws RX4 TX4 7, w ∈ tables_1 := x_mem2 [155, 1, 1, 1, 1, 1, 1] [0, 1, 2, 3, 4, 5, 6] (by decide +kernel)
theorem inX5 : ∀ w ∈ u_ws RX5 TX5 15, w ∈ tables_1 := x_mem2 [1040, 1, 1, 1, 1, 1, 1, 1, 1, 1, 1, 1, 1, 1, 1] [0, 1, 2, 3, 4, 5, 6, 7, 8, 9, 10, 11, 12, 13, 14] (by decide +kernel)
theorem inX6 : ∀ w ∈ u_ws RX6 TX6 3, w ∈ tables_1 := x_mem2 [95, 1, 1] [0, 1, 2] (by decide +kernel)
theorem inX7 : ∀ w ∈ u_ws RX7 TX7 10, w ∈ tables_1 := x_mem2 [47, 1, 1, 1, 1, 1, 1, 1, 1, 1] [0, 1, 2, 3, 4, 5, 6, 7, 8, 9] (by decide +kernel)
theorem inX8 : ∀ w ∈ u_ws RX8 TX8 9, w ∈ tables_1 := x_mem2 [499, 1, 1, 1, 1, 1, 1, 1, 1] [0, 1, 2, 3, 4, 5, 6, 7, 8] (by decide +kernel)
theorem inX9 : ∀ w ∈ u_ws RX9 TX9 3, w ∈ tables_1 := x_mem2 [115, 1, 1] [0, 1, 2] (by decide +kernel)
theorem inX10 : ∀ w ∈ u_ws RX10 TX10 19, w ∈ tables_1 := x_mem2 [300, 1, 1, 1, 1, 1, 1, 1, 1, 1, 1, 1, 1, 1, 1, 1, 1, 1, 1] [0, 1, 2, 3, 4, 5, 6, 7, 8, 9, 10, 11, 12, 13, 14, 15, 16, 17, 18] (by decide +kernel)
theorem inX11 : ∀ w ∈ u_ws RX11 TX11 18, w ∈ tables_1 := x_mem2 [593, 1, 1, 1, 1, 1, 1, 1, 1, 1, 1, 1, 1, 1, 1, 1, 1, 1] [0, 1, 2, 3, 4, 5, 6, 7, 8, 9, 10, 11, 12, 13, 14, 15, 16, 17] (by decide +kernel)
theorem inX12 : ∀ w ∈ u_ws RX12 TX12 53, w ∈ tables_1 := x_mem2 [1628, 1, 1, 1, 1, 1, 1, 1, 1, 1, 1, 1, 1, 1, 1, 1, 1, 1, 1, 1, 1, 1, 1, 1, 1, 1, 1, 1, 1, 1, 1, 1, 1, 1, 1, 1, 1, 1, 1, 1, 1, 1, 1, 1, 1, 1, 1, 1, 1, 1, 1, 1, 1] [0, 1, 2, 3, 4, 5, 6, 7, 8, 9, 10, 11, 12, 13, 14, 15, 16, 17, 18, 19, 20, 21, 22, 23, 24, 25, 26, 27, 28, 29, 30, 31, 32, 33, 34, 35, 36, 37, 38, 39, 40, 41, 42, 43, 44, 45, 46, 47, 48, 49, 50, 51, 52] (by decide +kernel)
