section
-- ===== PART A: goes FIRST, ahead of the names: the tables' words, and 'selects' of the private methods out of them =====
/-- a private method of a class that the tables say can be made, by its rows of tables_1 -/
def lw_okq (q : MethodName × Nat) : Prop := (q.1.cls ≠ "java/lang/invoke/MethodHandle" ∧ q.1.cls ≠ "java/lang/invoke/VarHandle") ∧ Cond.instantiable q.1.cls q.2 ∈ tables_1 ∧ Cond.privateMethod q.1 ∈ tables_1 ∧ Cond.instanceMethod q.1 ∈ tables_1
theorem lw_p0 : lw_okq (⟨"LastCloud$Sky", "clear", "()V"⟩, 19) := ⟨⟨by decide +kernel, by decide +kernel⟩, List.mem_of_getElem? (i := 71) (by decide +kernel), List.mem_of_getElem? (i := 213) (by decide +kernel), List.mem_of_getElem? (i := 214) (by decide +kernel)⟩
theorem lw_p1 : lw_okq (⟨"LastCloud$Place", "clear", "()V"⟩, 7) := ⟨⟨by decide +kernel, by decide +kernel⟩, List.mem_of_getElem? (i := 122) (by decide +kernel), List.mem_of_getElem? (i := 217) (by decide +kernel), List.mem_of_getElem? (i := 218) (by decide +kernel)⟩
theorem lw_p2 : lw_okq (⟨"LastCloud$Hops", "build", "(LLastCloud$Sky;)V"⟩, 10) := ⟨⟨by decide +kernel, by decide +kernel⟩, List.mem_of_getElem? (i := 343) (by decide +kernel), List.mem_of_getElem? (i := 529) (by decide +kernel), List.mem_of_getElem? (i := 530) (by decide +kernel)⟩
theorem lw_p3 : lw_okq (⟨"LastCloud$Hops", "addFrom", "(LLastCloud$Sky;IZ)V"⟩, 10) := ⟨⟨by decide +kernel, by decide +kernel⟩, List.mem_of_getElem? (i := 343) (by decide +kernel), List.mem_of_getElem? (i := 533) (by decide +kernel), List.mem_of_getElem? (i := 534) (by decide +kernel)⟩
theorem lw_p4 : lw_okq (⟨"LastCloud$Hops", "add", "(LLastCloud$Sky;IZIZ)V"⟩, 10) := ⟨⟨by decide +kernel, by decide +kernel⟩, List.mem_of_getElem? (i := 343) (by decide +kernel), List.mem_of_getElem? (i := 537) (by decide +kernel), List.mem_of_getElem? (i := 538) (by decide +kernel)⟩
theorem lw_p5 : lw_okq (⟨"LastCloud$Sky", "takes", "(IZIZ)I"⟩, 19) := ⟨⟨by decide +kernel, by decide +kernel⟩, List.mem_of_getElem? (i := 71) (by decide +kernel), List.mem_of_getElem? (i := 541) (by decide +kernel), List.mem_of_getElem? (i := 542) (by decide +kernel)⟩
theorem lw_p6 : lw_okq (⟨"LastCloud$Sky", "overGround", "(IZIZ)I"⟩, 19) := ⟨⟨by decide +kernel, by decide +kernel⟩, List.mem_of_getElem? (i := 71) (by decide +kernel), List.mem_of_getElem? (i := 545) (by decide +kernel), List.mem_of_getElem? (i := 546) (by decide +kernel)⟩
theorem lw_p7 : lw_okq (⟨"LastCloud$Sky", "loses", "(IZIZ)I"⟩, 19) := ⟨⟨by decide +kernel, by decide +kernel⟩, List.mem_of_getElem? (i := 71) (by decide +kernel), List.mem_of_getElem? (i := 549) (by decide +kernel), List.mem_of_getElem? (i := 550) (by decide +kernel)⟩
theorem lw_p8 : lw_okq (⟨"LastCloud$Hops", "findEdges", "(LLastCloud$Sky;Z)V"⟩, 10) := ⟨⟨by decide +kernel, by decide +kernel⟩, List.mem_of_getElem? (i := 343) (by decide +kernel), List.mem_of_getElem? (i := 558) (by decide +kernel), List.mem_of_getElem? (i := 559) (by decide +kernel)⟩
theorem lw_p9 : lw_okq (⟨"LastCloud$Sky", "isToLandAt", "(I)Z"⟩, 19) := ⟨⟨by decide +kernel, by decide +kernel⟩, List.mem_of_getElem? (i := 71) (by decide +kernel), List.mem_of_getElem? (i := 565) (by decide +kernel), List.mem_of_getElem? (i := 566) (by decide +kernel)⟩
theorem lw_p10 : lw_okq (⟨"LastCloud$Hops", "leastByHop", "(LLastCloud$Sky;I)I"⟩, 10) := ⟨⟨by decide +kernel, by decide +kernel⟩, List.mem_of_getElem? (i := 343) (by decide +kernel), List.mem_of_getElem? (i := 570) (by decide +kernel), List.mem_of_getElem? (i := 571) (by decide +kernel)⟩
theorem lw_p11 : lw_okq (⟨"LastCloud", "putNumber", "(I)V"⟩, 18) := ⟨⟨by decide +kernel, by decide +kernel⟩, List.mem_of_getElem? (i := 23) (by decide +kernel), List.mem_of_getElem? (i := 637) (by decide +kernel), List.mem_of_getElem? (i := 638) (by decide +kernel)⟩
theorem lw_p12 : lw_okq (⟨"LastCloud$Reader", "readAll", "(ILLastCloud$Sky;)I"⟩, 10) := ⟨⟨by decide +kernel, by decide +kernel⟩, List.mem_of_getElem? (i := 31) (by decide +kernel), List.mem_of_getElem? (i := 650) (by decide +kernel), List.mem_of_getElem? (i := 651) (by decide +kernel)⟩
theorem lw_p13 : lw_okq (⟨"LastCloud$Reader", "splitText", "(I)V"⟩, 10) := ⟨⟨by decide +kernel, by decide +kernel⟩, List.mem_of_getElem? (i := 31) (by decide +kernel), List.mem_of_getElem? (i := 655) (by decide +kernel), List.mem_of_getElem? (i := 656) (by decide +kernel)⟩
theorem lw_p14 : lw_okq (⟨"LastCloud$Reader", "addToken", "(III)V"⟩, 10) := ⟨⟨by decide +kernel, by decide +kernel⟩, List.mem_of_getElem? (i := 31) (by decide +kernel), List.mem_of_getElem? (i := 662) (by decide +kernel), List.mem_of_getElem? (i := 663) (by decide +kernel)⟩
theorem lw_p15 : lw_okq (⟨"LastCloud$Reader", "readLine", "()V"⟩, 10) := ⟨⟨by decide +kernel, by decide +kernel⟩, List.mem_of_getElem? (i := 31) (by decide +kernel), List.mem_of_getElem? (i := 666) (by decide +kernel), List.mem_of_getElem? (i := 667) (by decide +kernel)⟩
def lw_privs_1 : List (MethodName × Nat) := [(⟨"LastCloud$Sky", "clear", "()V"⟩, 19), (⟨"LastCloud$Place", "clear", "()V"⟩, 7), (⟨"LastCloud$Hops", "build", "(LLastCloud$Sky;)V"⟩, 10), (⟨"LastCloud$Hops", "addFrom", "(LLastCloud$Sky;IZ)V"⟩, 10), (⟨"LastCloud$Hops", "add", "(LLastCloud$Sky;IZIZ)V"⟩, 10), (⟨"LastCloud$Sky", "takes", "(IZIZ)I"⟩, 19), (⟨"LastCloud$Sky", "overGround", "(IZIZ)I"⟩, 19), (⟨"LastCloud$Sky", "loses", "(IZIZ)I"⟩, 19), (⟨"LastCloud$Hops", "findEdges", "(LLastCloud$Sky;Z)V"⟩, 10), (⟨"LastCloud$Sky", "isToLandAt", "(I)Z"⟩, 19), (⟨"LastCloud$Hops", "leastByHop", "(LLastCloud$Sky;I)I"⟩, 10), (⟨"LastCloud", "putNumber", "(I)V"⟩, 18), (⟨"LastCloud$Reader", "readAll", "(ILLastCloud$Sky;)I"⟩, 10), (⟨"LastCloud$Reader", "splitText", "(I)V"⟩, 10), (⟨"LastCloud$Reader", "addToken", "(III)V"⟩, 10), (⟨"LastCloud$Reader", "readLine", "()V"⟩, 10)]
theorem lw_r1 : ∀ q ∈ lw_privs_1, lw_okq q := List.forall_mem_cons.mpr ⟨lw_p0, List.forall_mem_cons.mpr ⟨lw_p1, List.forall_mem_cons.mpr ⟨lw_p2, List.forall_mem_cons.mpr ⟨lw_p3, List.forall_mem_cons.mpr ⟨lw_p4, List.forall_mem_cons.mpr ⟨lw_p5, List.forall_mem_cons.mpr ⟨lw_p6, List.forall_mem_cons.mpr ⟨lw_p7, List.forall_mem_cons.mpr ⟨lw_p8, List.forall_mem_cons.mpr ⟨lw_p9, List.forall_mem_cons.mpr ⟨lw_p10, List.forall_mem_cons.mpr ⟨lw_p11, List.forall_mem_cons.mpr ⟨lw_p12, List.forall_mem_cons.mpr ⟨lw_p13, List.forall_mem_cons.mpr ⟨lw_p14, List.forall_mem_cons.mpr ⟨lw_p15, fun _ h => absurd h List.not_mem_nil⟩⟩⟩⟩⟩⟩⟩⟩⟩⟩⟩⟩⟩⟩⟩⟩
theorem lw_p16 : lw_okq (⟨"LastCloud$Reader", "lineKind", "()I"⟩, 10) := ⟨⟨by decide +kernel, by decide +kernel⟩, List.mem_of_getElem? (i := 31) (by decide +kernel), List.mem_of_getElem? (i := 670) (by decide +kernel), List.mem_of_getElem? (i := 671) (by decide +kernel)⟩
theorem lw_p17 : lw_okq (⟨"LastCloud$Reader", "isWord", "(Ljava/lang/String;)Z"⟩, 10) := ⟨⟨by decide +kernel, by decide +kernel⟩, List.mem_of_getElem? (i := 31) (by decide +kernel), List.mem_of_getElem? (i := 675) (by decide +kernel), List.mem_of_getElem? (i := 676) (by decide +kernel)⟩
theorem lw_p18 : lw_okq (⟨"LastCloud$Reader", "fail", "(I)V"⟩, 10) := ⟨⟨by decide +kernel, by decide +kernel⟩, List.mem_of_getElem? (i := 31) (by decide +kernel), List.mem_of_getElem? (i := 737) (by decide +kernel), List.mem_of_getElem? (i := 738) (by decide +kernel)⟩
theorem lw_p19 : lw_okq (⟨"LastCloud$Reader", "isFull", "(I)Z"⟩, 10) := ⟨⟨by decide +kernel, by decide +kernel⟩, List.mem_of_getElem? (i := 31) (by decide +kernel), List.mem_of_getElem? (i := 741) (by decide +kernel), List.mem_of_getElem? (i := 742) (by decide +kernel)⟩
theorem lw_p20 : lw_okq (⟨"LastCloud$Reader", "goOn", "()V"⟩, 10) := ⟨⟨by decide +kernel, by decide +kernel⟩, List.mem_of_getElem? (i := 31) (by decide +kernel), List.mem_of_getElem? (i := 751) (by decide +kernel), List.mem_of_getElem? (i := 752) (by decide +kernel)⟩
theorem lw_p21 : lw_okq (⟨"LastCloud$Reader", "readRest", "(I)V"⟩, 10) := ⟨⟨by decide +kernel, by decide +kernel⟩, List.mem_of_getElem? (i := 31) (by decide +kernel), List.mem_of_getElem? (i := 755) (by decide +kernel), List.mem_of_getElem? (i := 756) (by decide +kernel)⟩
theorem lw_p22 : lw_okq (⟨"LastCloud$Reader", "readPlace", "()V"⟩, 10) := ⟨⟨by decide +kernel, by decide +kernel⟩, List.mem_of_getElem? (i := 31) (by decide +kernel), List.mem_of_getElem? (i := 759) (by decide +kernel), List.mem_of_getElem? (i := 760) (by decide +kernel)⟩
theorem lw_p23 : lw_okq (⟨"LastCloud$Reader", "takeWord", "(Ljava/lang/String;)V"⟩, 10) := ⟨⟨by decide +kernel, by decide +kernel⟩, List.mem_of_getElem? (i := 31) (by decide +kernel), List.mem_of_getElem? (i := 764) (by decide +kernel), List.mem_of_getElem? (i := 765) (by decide +kernel)⟩
theorem lw_p24 : lw_okq (⟨"LastCloud$Reader", "takeNumber", "(II)I"⟩, 10) := ⟨⟨by decide +kernel, by decide +kernel⟩, List.mem_of_getElem? (i := 31) (by decide +kernel), List.mem_of_getElem? (i := 768) (by decide +kernel), List.mem_of_getElem? (i := 769) (by decide +kernel)⟩
theorem lw_p25 : lw_okq (⟨"LastCloud$Reader", "takeIf", "(Ljava/lang/String;)Z"⟩, 10) := ⟨⟨by decide +kernel, by decide +kernel⟩, List.mem_of_getElem? (i := 31) (by decide +kernel), List.mem_of_getElem? (i := 774) (by decide +kernel), List.mem_of_getElem? (i := 775) (by decide +kernel)⟩
theorem lw_p26 : lw_okq (⟨"LastCloud$Reader", "readLeg", "()V"⟩, 10) := ⟨⟨by decide +kernel, by decide +kernel⟩, List.mem_of_getElem? (i := 31) (by decide +kernel), List.mem_of_getElem? (i := 779) (by decide +kernel), List.mem_of_getElem? (i := 780) (by decide +kernel)⟩
theorem lw_p27 : lw_okq (⟨"LastCloud$Reader", "takePlace", "(I)I"⟩, 10) := ⟨⟨by decide +kernel, by decide +kernel⟩, List.mem_of_getElem? (i := 31) (by decide +kernel), List.mem_of_getElem? (i := 783) (by decide +kernel), List.mem_of_getElem? (i := 784) (by decide +kernel)⟩
theorem lw_p28 : lw_okq (⟨"LastCloud$Reader", "takeSigned", "(I)I"⟩, 10) := ⟨⟨by decide +kernel, by decide +kernel⟩, List.mem_of_getElem? (i := 31) (by decide +kernel), List.mem_of_getElem? (i := 789) (by decide +kernel), List.mem_of_getElem? (i := 790) (by decide +kernel)⟩
theorem lw_p29 : lw_okq (⟨"LastCloud$Reader", "readLift", "()V"⟩, 10) := ⟨⟨by decide +kernel, by decide +kernel⟩, List.mem_of_getElem? (i := 31) (by decide +kernel), List.mem_of_getElem? (i := 796) (by decide +kernel), List.mem_of_getElem? (i := 797) (by decide +kernel)⟩
theorem lw_p30 : lw_okq (⟨"LastCloud$Sky", "liftBits", "()I"⟩, 19) := ⟨⟨by decide +kernel, by decide +kernel⟩, List.mem_of_getElem? (i := 71) (by decide +kernel), List.mem_of_getElem? (i := 800) (by decide +kernel), List.mem_of_getElem? (i := 801) (by decide +kernel)⟩
theorem lw_p31 : lw_okq (⟨"LastCloud$Sky", "hasPlace", "(I)Z"⟩, 19) := ⟨⟨by decide +kernel, by decide +kernel⟩, List.mem_of_getElem? (i := 71) (by decide +kernel), List.mem_of_getElem? (i := 807) (by decide +kernel), List.mem_of_getElem? (i := 808) (by decide +kernel)⟩
def lw_privs_2 : List (MethodName × Nat) := [(⟨"LastCloud$Reader", "lineKind", "()I"⟩, 10), (⟨"LastCloud$Reader", "isWord", "(Ljava/lang/String;)Z"⟩, 10), (⟨"LastCloud$Reader", "fail", "(I)V"⟩, 10), (⟨"LastCloud$Reader", "isFull", "(I)Z"⟩, 10), (⟨"LastCloud$Reader", "goOn", "()V"⟩, 10), (⟨"LastCloud$Reader", "readRest", "(I)V"⟩, 10), (⟨"LastCloud$Reader", "readPlace", "()V"⟩, 10), (⟨"LastCloud$Reader", "takeWord", "(Ljava/lang/String;)V"⟩, 10), (⟨"LastCloud$Reader", "takeNumber", "(II)I"⟩, 10), (⟨"LastCloud$Reader", "takeIf", "(Ljava/lang/String;)Z"⟩, 10), (⟨"LastCloud$Reader", "readLeg", "()V"⟩, 10), (⟨"LastCloud$Reader", "takePlace", "(I)I"⟩, 10), (⟨"LastCloud$Reader", "takeSigned", "(I)I"⟩, 10), (⟨"LastCloud$Reader", "readLift", "()V"⟩, 10), (⟨"LastCloud$Sky", "liftBits", "()I"⟩, 19), (⟨"LastCloud$Sky", "hasPlace", "(I)Z"⟩, 19)]
theorem lw_r2 : ∀ q ∈ lw_privs_2, lw_okq q := List.forall_mem_cons.mpr ⟨lw_p16, List.forall_mem_cons.mpr ⟨lw_p17, List.forall_mem_cons.mpr ⟨lw_p18, List.forall_mem_cons.mpr ⟨lw_p19, List.forall_mem_cons.mpr ⟨lw_p20, List.forall_mem_cons.mpr ⟨lw_p21, List.forall_mem_cons.mpr ⟨lw_p22, List.forall_mem_cons.mpr ⟨lw_p23, List.forall_mem_cons.mpr ⟨lw_p24, List.forall_mem_cons.mpr ⟨lw_p25, List.forall_mem_cons.mpr ⟨lw_p26, List.forall_mem_cons.mpr ⟨lw_p27, List.forall_mem_cons.mpr ⟨lw_p28, List.forall_mem_cons.mpr ⟨lw_p29, List.forall_mem_cons.mpr ⟨lw_p30, List.forall_mem_cons.mpr ⟨lw_p31, fun _ h => absurd h List.not_mem_nil⟩⟩⟩⟩⟩⟩⟩⟩⟩⟩⟩⟩⟩⟩⟩⟩
theorem lw_p32 : lw_okq (⟨"LastCloud$Reader", "readSpeed", "()V"⟩, 10) := ⟨⟨by decide +kernel, by decide +kernel⟩, List.mem_of_getElem? (i := 31) (by decide +kernel), List.mem_of_getElem? (i := 811) (by decide +kernel), List.mem_of_getElem? (i := 812) (by decide +kernel)⟩
theorem lw_p33 : lw_okq (⟨"LastCloud$Polar", "add", "(II)V"⟩, 3) := ⟨⟨by decide +kernel, by decide +kernel⟩, List.mem_of_getElem? (i := 81) (by decide +kernel), List.mem_of_getElem? (i := 816) (by decide +kernel), List.mem_of_getElem? (i := 817) (by decide +kernel)⟩
theorem lw_p34 : lw_okq (⟨"LastCloud$Reader", "readWorth", "()V"⟩, 10) := ⟨⟨by decide +kernel, by decide +kernel⟩, List.mem_of_getElem? (i := 31) (by decide +kernel), List.mem_of_getElem? (i := 820) (by decide +kernel), List.mem_of_getElem? (i := 821) (by decide +kernel)⟩
theorem lw_p35 : lw_okq (⟨"LastCloud$Reader", "readStart", "()V"⟩, 10) := ⟨⟨by decide +kernel, by decide +kernel⟩, List.mem_of_getElem? (i := 31) (by decide +kernel), List.mem_of_getElem? (i := 826) (by decide +kernel), List.mem_of_getElem? (i := 827) (by decide +kernel)⟩
theorem lw_p36 : lw_okq (⟨"LastCloud$Sky", "hasStart", "()Z"⟩, 19) := ⟨⟨by decide +kernel, by decide +kernel⟩, List.mem_of_getElem? (i := 71) (by decide +kernel), List.mem_of_getElem? (i := 832) (by decide +kernel), List.mem_of_getElem? (i := 833) (by decide +kernel)⟩
theorem lw_p37 : lw_okq (⟨"LastCloud", "forgetPlans", "()V"⟩, 18) := ⟨⟨by decide +kernel, by decide +kernel⟩, List.mem_of_getElem? (i := 23) (by decide +kernel), List.mem_of_getElem? (i := 838) (by decide +kernel), List.mem_of_getElem? (i := 839) (by decide +kernel)⟩
theorem lw_p38 : lw_okq (⟨"LastCloud$Sky", "hasLeg", "(I)Z"⟩, 19) := ⟨⟨by decide +kernel, by decide +kernel⟩, List.mem_of_getElem? (i := 71) (by decide +kernel), List.mem_of_getElem? (i := 850) (by decide +kernel), List.mem_of_getElem? (i := 851) (by decide +kernel)⟩
theorem lw_p39 : lw_okq (⟨"LastCloud$Sky", "hasSpeed", "(I)Z"⟩, 19) := ⟨⟨by decide +kernel, by decide +kernel⟩, List.mem_of_getElem? (i := 71) (by decide +kernel), List.mem_of_getElem? (i := 854) (by decide +kernel), List.mem_of_getElem? (i := 855) (by decide +kernel)⟩
theorem lw_p40 : lw_okq (⟨"LastCloud$Sky", "wins", "(IZ)I"⟩, 19) := ⟨⟨by decide +kernel, by decide +kernel⟩, List.mem_of_getElem? (i := 71) (by decide +kernel), List.mem_of_getElem? (i := 870) (by decide +kernel), List.mem_of_getElem? (i := 871) (by decide +kernel)⟩
theorem lw_p41 : lw_okq (⟨"LastCloud$Sky", "winsBy", "(IZ)I"⟩, 19) := ⟨⟨by decide +kernel, by decide +kernel⟩, List.mem_of_getElem? (i := 71) (by decide +kernel), List.mem_of_getElem? (i := 874) (by decide +kernel), List.mem_of_getElem? (i := 875) (by decide +kernel)⟩
theorem lw_p42 : lw_okq (⟨"LastCloud$Sky", "chanceNow", "(I)I"⟩, 19) := ⟨⟨by decide +kernel, by decide +kernel⟩, List.mem_of_getElem? (i := 71) (by decide +kernel), List.mem_of_getElem? (i := 883) (by decide +kernel), List.mem_of_getElem? (i := 884) (by decide +kernel)⟩
theorem lw_p43 : lw_okq (⟨"LastCloud$Place", "afterSight", "(II)I"⟩, 7) := ⟨⟨by decide +kernel, by decide +kernel⟩, List.mem_of_getElem? (i := 122) (by decide +kernel), List.mem_of_getElem? (i := 887) (by decide +kernel), List.mem_of_getElem? (i := 888) (by decide +kernel)⟩
theorem lw_p44 : lw_okq (⟨"LastCloud$Place", "bySign", "(IZI)I"⟩, 7) := ⟨⟨by decide +kernel, by decide +kernel⟩, List.mem_of_getElem? (i := 122) (by decide +kernel), List.mem_of_getElem? (i := 891) (by decide +kernel), List.mem_of_getElem? (i := 892) (by decide +kernel)⟩
theorem lw_p45 : lw_okq (⟨"LastCloud$Sights", "add", "(II)V"⟩, 3) := ⟨⟨by decide +kernel, by decide +kernel⟩, List.mem_of_getElem? (i := 103) (by decide +kernel), List.mem_of_getElem? (i := 899) (by decide +kernel), List.mem_of_getElem? (i := 900) (by decide +kernel)⟩
theorem lw_p46 : lw_okq (⟨"LastCloud$Sky", "hasHeight", "(I)Z"⟩, 19) := ⟨⟨by decide +kernel, by decide +kernel⟩, List.mem_of_getElem? (i := 71) (by decide +kernel), List.mem_of_getElem? (i := 916) (by decide +kernel), List.mem_of_getElem? (i := 917) (by decide +kernel)⟩
theorem lw_p47 : lw_okq (⟨"LastCloud$Hops", "glide", "(LLastCloud$Sky;IIZ)V"⟩, 10) := ⟨⟨by decide +kernel, by decide +kernel⟩, List.mem_of_getElem? (i := 343) (by decide +kernel), List.mem_of_getElem? (i := 920) (by decide +kernel), List.mem_of_getElem? (i := 921) (by decide +kernel)⟩
def lw_privs_3 : List (MethodName × Nat) := [(⟨"LastCloud$Reader", "readSpeed", "()V"⟩, 10), (⟨"LastCloud$Polar", "add", "(II)V"⟩, 3), (⟨"LastCloud$Reader", "readWorth", "()V"⟩, 10), (⟨"LastCloud$Reader", "readStart", "()V"⟩, 10), (⟨"LastCloud$Sky", "hasStart", "()Z"⟩, 19), (⟨"LastCloud", "forgetPlans", "()V"⟩, 18), (⟨"LastCloud$Sky", "hasLeg", "(I)Z"⟩, 19), (⟨"LastCloud$Sky", "hasSpeed", "(I)Z"⟩, 19), (⟨"LastCloud$Sky", "wins", "(IZ)I"⟩, 19), (⟨"LastCloud$Sky", "winsBy", "(IZ)I"⟩, 19), (⟨"LastCloud$Sky", "chanceNow", "(I)I"⟩, 19), (⟨"LastCloud$Place", "afterSight", "(II)I"⟩, 7), (⟨"LastCloud$Place", "bySign", "(IZI)I"⟩, 7), (⟨"LastCloud$Sights", "add", "(II)V"⟩, 3), (⟨"LastCloud$Sky", "hasHeight", "(I)Z"⟩, 19), (⟨"LastCloud$Hops", "glide", "(LLastCloud$Sky;IIZ)V"⟩, 10)]
theorem lw_r3 : ∀ q ∈ lw_privs_3, lw_okq q := List.forall_mem_cons.mpr ⟨lw_p32, List.forall_mem_cons.mpr ⟨lw_p33, List.forall_mem_cons.mpr ⟨lw_p34, List.forall_mem_cons.mpr ⟨lw_p35, List.forall_mem_cons.mpr ⟨lw_p36, List.forall_mem_cons.mpr ⟨lw_p37, List.forall_mem_cons.mpr ⟨lw_p38, List.forall_mem_cons.mpr ⟨lw_p39, List.forall_mem_cons.mpr ⟨lw_p40, List.forall_mem_cons.mpr ⟨lw_p41, List.forall_mem_cons.mpr ⟨lw_p42, List.forall_mem_cons.mpr ⟨lw_p43, List.forall_mem_cons.mpr ⟨lw_p44, List.forall_mem_cons.mpr ⟨lw_p45, List.forall_mem_cons.mpr ⟨lw_p46, List.forall_mem_cons.mpr ⟨lw_p47, fun _ h => absurd h List.not_mem_nil⟩⟩⟩⟩⟩⟩⟩⟩⟩⟩⟩⟩⟩⟩⟩⟩
theorem lw_p48 : lw_okq (⟨"LastCloud$Hops", "raiseFrom", "(LLastCloud$Sky;II)Z"⟩, 10) := ⟨⟨by decide +kernel, by decide +kernel⟩, List.mem_of_getElem? (i := 343) (by decide +kernel), List.mem_of_getElem? (i := 925) (by decide +kernel), List.mem_of_getElem? (i := 926) (by decide +kernel)⟩
theorem lw_p49 : lw_okq (⟨"LastCloud$Sky", "capped", "(I)I"⟩, 19) := ⟨⟨by decide +kernel, by decide +kernel⟩, List.mem_of_getElem? (i := 71) (by decide +kernel), List.mem_of_getElem? (i := 929) (by decide +kernel), List.mem_of_getElem? (i := 930) (by decide +kernel)⟩
theorem lw_p50 : lw_okq (⟨"LastCloud$Hops", "longestStreet", "(LLastCloud$Sky;)I"⟩, 10) := ⟨⟨by decide +kernel, by decide +kernel⟩, List.mem_of_getElem? (i := 343) (by decide +kernel), List.mem_of_getElem? (i := 953) (by decide +kernel), List.mem_of_getElem? (i := 954) (by decide +kernel)⟩
theorem lw_p51 : lw_okq (⟨"LastCloud$Sky", "allPlaces", "()I"⟩, 19) := ⟨⟨by decide +kernel, by decide +kernel⟩, List.mem_of_getElem? (i := 71) (by decide +kernel), List.mem_of_getElem? (i := 957) (by decide +kernel), List.mem_of_getElem? (i := 958) (by decide +kernel)⟩
theorem lw_p52 : lw_okq (⟨"LastCloud$Hops", "growStreets", "(II)V"⟩, 10) := ⟨⟨by decide +kernel, by decide +kernel⟩, List.mem_of_getElem? (i := 343) (by decide +kernel), List.mem_of_getElem? (i := 962) (by decide +kernel), List.mem_of_getElem? (i := 963) (by decide +kernel)⟩
theorem lw_p53 : lw_okq (⟨"LastCloud$Polar", "fastest", "(I)I"⟩, 3) := ⟨⟨by decide +kernel, by decide +kernel⟩, List.mem_of_getElem? (i := 81) (by decide +kernel), List.mem_of_getElem? (i := 973) (by decide +kernel), List.mem_of_getElem? (i := 974) (by decide +kernel)⟩
theorem lw_p54 : lw_okq (⟨"LastCloud$Polar", "tenHours", "(II)I"⟩, 3) := ⟨⟨by decide +kernel, by decide +kernel⟩, List.mem_of_getElem? (i := 81) (by decide +kernel), List.mem_of_getElem? (i := 981) (by decide +kernel), List.mem_of_getElem? (i := 982) (by decide +kernel)⟩
theorem lw_p55 : lw_okq (⟨"LastCloud$Polar", "flattest", "()I"⟩, 3) := ⟨⟨by decide +kernel, by decide +kernel⟩, List.mem_of_getElem? (i := 81) (by decide +kernel), List.mem_of_getElem? (i := 989) (by decide +kernel), List.mem_of_getElem? (i := 990) (by decide +kernel)⟩
theorem lw_p56 : lw_okq (⟨"LastCloud$Sky", "hasState", "(IIIZ)Z"⟩, 19) := ⟨⟨by decide +kernel, by decide +kernel⟩, List.mem_of_getElem? (i := 71) (by decide +kernel), List.mem_of_getElem? (i := 1000) (by decide +kernel), List.mem_of_getElem? (i := 1001) (by decide +kernel)⟩
theorem lw_p57 : lw_okq (⟨"LastCloud", "planOf", "(I)LLastCloud$Plan;"⟩, 18) := ⟨⟨by decide +kernel, by decide +kernel⟩, List.mem_of_getElem? (i := 23) (by decide +kernel), List.mem_of_getElem? (i := 1004) (by decide +kernel), List.mem_of_getElem? (i := 1005) (by decide +kernel)⟩
theorem lw_p58 : lw_okq (⟨"LastCloud$Plan", "begin", "(LLastCloud$Sky;LLastCloud$Hops;I)V"⟩, 15) := ⟨⟨by decide +kernel, by decide +kernel⟩, List.mem_of_getElem? (i := 1007) (by decide +kernel), List.mem_of_getElem? (i := 1066) (by decide +kernel), List.mem_of_getElem? (i := 1067) (by decide +kernel)⟩
theorem lw_p59 : lw_okq (⟨"LastCloud$Plan", "leastByRule", "(IZ)I"⟩, 15) := ⟨⟨by decide +kernel, by decide +kernel⟩, List.mem_of_getElem? (i := 1007) (by decide +kernel), List.mem_of_getElem? (i := 1072) (by decide +kernel), List.mem_of_getElem? (i := 1073) (by decide +kernel)⟩
theorem lw_p60 : lw_okq (⟨"LastCloud$Hops", "speedOf", "(I)I"⟩, 10) := ⟨⟨by decide +kernel, by decide +kernel⟩, List.mem_of_getElem? (i := 343) (by decide +kernel), List.mem_of_getElem? (i := 1079) (by decide +kernel), List.mem_of_getElem? (i := 1080) (by decide +kernel)⟩
theorem lw_p61 : lw_okq (⟨"LastCloud$Sky", "fastSpeedTo", "(I)I"⟩, 19) := ⟨⟨by decide +kernel, by decide +kernel⟩, List.mem_of_getElem? (i := 71) (by decide +kernel), List.mem_of_getElem? (i := 1083) (by decide +kernel), List.mem_of_getElem? (i := 1084) (by decide +kernel)⟩
theorem lw_p62 : lw_okq (⟨"LastCloud$Plan", "fill", "(IZ)V"⟩, 15) := ⟨⟨by decide +kernel, by decide +kernel⟩, List.mem_of_getElem? (i := 1007) (by decide +kernel), List.mem_of_getElem? (i := 1088) (by decide +kernel), List.mem_of_getElem? (i := 1089) (by decide +kernel)⟩
theorem lw_p63 : lw_okq (⟨"LastCloud$Plan", "fillPeriod", "(IZ)V"⟩, 15) := ⟨⟨by decide +kernel, by decide +kernel⟩, List.mem_of_getElem? (i := 1007) (by decide +kernel), List.mem_of_getElem? (i := 1092) (by decide +kernel), List.mem_of_getElem? (i := 1093) (by decide +kernel)⟩
def lw_privs_4 : List (MethodName × Nat) := [(⟨"LastCloud$Hops", "raiseFrom", "(LLastCloud$Sky;II)Z"⟩, 10), (⟨"LastCloud$Sky", "capped", "(I)I"⟩, 19), (⟨"LastCloud$Hops", "longestStreet", "(LLastCloud$Sky;)I"⟩, 10), (⟨"LastCloud$Sky", "allPlaces", "()I"⟩, 19), (⟨"LastCloud$Hops", "growStreets", "(II)V"⟩, 10), (⟨"LastCloud$Polar", "fastest", "(I)I"⟩, 3), (⟨"LastCloud$Polar", "tenHours", "(II)I"⟩, 3), (⟨"LastCloud$Polar", "flattest", "()I"⟩, 3), (⟨"LastCloud$Sky", "hasState", "(IIIZ)Z"⟩, 19), (⟨"LastCloud", "planOf", "(I)LLastCloud$Plan;"⟩, 18), (⟨"LastCloud$Plan", "begin", "(LLastCloud$Sky;LLastCloud$Hops;I)V"⟩, 15), (⟨"LastCloud$Plan", "leastByRule", "(IZ)I"⟩, 15), (⟨"LastCloud$Hops", "speedOf", "(I)I"⟩, 10), (⟨"LastCloud$Sky", "fastSpeedTo", "(I)I"⟩, 19), (⟨"LastCloud$Plan", "fill", "(IZ)V"⟩, 15), (⟨"LastCloud$Plan", "fillPeriod", "(IZ)V"⟩, 15)]
theorem lw_r4 : ∀ q ∈ lw_privs_4, lw_okq q := List.forall_mem_cons.mpr ⟨lw_p48, List.forall_mem_cons.mpr ⟨lw_p49, List.forall_mem_cons.mpr ⟨lw_p50, List.forall_mem_cons.mpr ⟨lw_p51, List.forall_mem_cons.mpr ⟨lw_p52, List.forall_mem_cons.mpr ⟨lw_p53, List.forall_mem_cons.mpr ⟨lw_p54, List.forall_mem_cons.mpr ⟨lw_p55, List.forall_mem_cons.mpr ⟨lw_p56, List.forall_mem_cons.mpr ⟨lw_p57, List.forall_mem_cons.mpr ⟨lw_p58, List.forall_mem_cons.mpr ⟨lw_p59, List.forall_mem_cons.mpr ⟨lw_p60, List.forall_mem_cons.mpr ⟨lw_p61, List.forall_mem_cons.mpr ⟨lw_p62, List.forall_mem_cons.mpr ⟨lw_p63, fun _ h => absurd h List.not_mem_nil⟩⟩⟩⟩⟩⟩⟩⟩⟩⟩⟩⟩⟩⟩⟩⟩
theorem lw_p64 : lw_okq (⟨"LastCloud$Plan", "bestHop", "(IZII)I"⟩, 15) := ⟨⟨by decide +kernel, by decide +kernel⟩, List.mem_of_getElem? (i := 1007) (by decide +kernel), List.mem_of_getElem? (i := 1096) (by decide +kernel), List.mem_of_getElem? (i := 1097) (by decide +kernel)⟩
theorem lw_p65 : lw_okq (⟨"LastCloud$Plan", "behind", "(IIZI)I"⟩, 15) := ⟨⟨by decide +kernel, by decide +kernel⟩, List.mem_of_getElem? (i := 1007) (by decide +kernel), List.mem_of_getElem? (i := 1100) (by decide +kernel), List.mem_of_getElem? (i := 1101) (by decide +kernel)⟩
theorem lw_p66 : lw_okq (⟨"LastCloud$Plan", "settle", "(IIIIIZ)V"⟩, 15) := ⟨⟨by decide +kernel, by decide +kernel⟩, List.mem_of_getElem? (i := 1007) (by decide +kernel), List.mem_of_getElem? (i := 1108) (by decide +kernel), List.mem_of_getElem? (i := 1109) (by decide +kernel)⟩
theorem lw_p67 : lw_okq (⟨"LastCloud$Sky", "landingWorth", "(III)I"⟩, 19) := ⟨⟨by decide +kernel, by decide +kernel⟩, List.mem_of_getElem? (i := 71) (by decide +kernel), List.mem_of_getElem? (i := 1112) (by decide +kernel), List.mem_of_getElem? (i := 1113) (by decide +kernel)⟩
theorem lw_p68 : lw_okq (⟨"LastCloud$Plan", "homeAt", "(IZ)I"⟩, 15) := ⟨⟨by decide +kernel, by decide +kernel⟩, List.mem_of_getElem? (i := 1007) (by decide +kernel), List.mem_of_getElem? (i := 1117) (by decide +kernel), List.mem_of_getElem? (i := 1118) (by decide +kernel)⟩
theorem lw_p69 : lw_okq (⟨"LastCloud$Plan", "worthAt", "(IZ)I"⟩, 15) := ⟨⟨by decide +kernel, by decide +kernel⟩, List.mem_of_getElem? (i := 1007) (by decide +kernel), List.mem_of_getElem? (i := 1121) (by decide +kernel), List.mem_of_getElem? (i := 1122) (by decide +kernel)⟩
theorem lw_p70 : lw_okq (⟨"LastCloud$Plan", "deedAt", "(IZ)I"⟩, 15) := ⟨⟨by decide +kernel, by decide +kernel⟩, List.mem_of_getElem? (i := 1007) (by decide +kernel), List.mem_of_getElem? (i := 1134) (by decide +kernel), List.mem_of_getElem? (i := 1135) (by decide +kernel)⟩
theorem lw_p71 : lw_okq (⟨"LastCloud$Sky", "startsWet", "()Z"⟩, 19) := ⟨⟨by decide +kernel, by decide +kernel⟩, List.mem_of_getElem? (i := 71) (by decide +kernel), List.mem_of_getElem? (i := 1148) (by decide +kernel), List.mem_of_getElem? (i := 1149) (by decide +kernel)⟩
theorem lw_p72 : lw_okq (⟨"LastCloud$Plan", "startWorth", "(Z)I"⟩, 15) := ⟨⟨by decide +kernel, by decide +kernel⟩, List.mem_of_getElem? (i := 1007) (by decide +kernel), List.mem_of_getElem? (i := 1152) (by decide +kernel), List.mem_of_getElem? (i := 1153) (by decide +kernel)⟩
theorem lw_p73 : lw_okq (⟨"LastCloud", "leastToLeave", "(IIZZ)I"⟩, 18) := ⟨⟨by decide +kernel, by decide +kernel⟩, List.mem_of_getElem? (i := 23) (by decide +kernel), List.mem_of_getElem? (i := 1165) (by decide +kernel), List.mem_of_getElem? (i := 1166) (by decide +kernel)⟩
theorem lw_p74 : lw_okq (⟨"LastCloud", "trialPlan", "()LLastCloud$Plan;"⟩, 18) := ⟨⟨by decide +kernel, by decide +kernel⟩, List.mem_of_getElem? (i := 23) (by decide +kernel), List.mem_of_getElem? (i := 1181) (by decide +kernel), List.mem_of_getElem? (i := 1182) (by decide +kernel)⟩
theorem lw_p75 : lw_okq (⟨"LastCloud$Plan", "setDryWin", "(II)V"⟩, 15) := ⟨⟨by decide +kernel, by decide +kernel⟩, List.mem_of_getElem? (i := 1007) (by decide +kernel), List.mem_of_getElem? (i := 1186) (by decide +kernel), List.mem_of_getElem? (i := 1187) (by decide +kernel)⟩
theorem lw_p76 : lw_okq (⟨"LastCloud$Outcomes", "spreadFromStart", "(LLastCloud$Plan;)V"⟩, 5) := ⟨⟨by decide +kernel, by decide +kernel⟩, List.mem_of_getElem? (i := 397) (by decide +kernel), List.mem_of_getElem? (i := 1194) (by decide +kernel), List.mem_of_getElem? (i := 1195) (by decide +kernel)⟩
theorem lw_p77 : lw_okq (⟨"LastCloud$Outcomes", "arrive", "(II)V"⟩, 5) := ⟨⟨by decide +kernel, by decide +kernel⟩, List.mem_of_getElem? (i := 397) (by decide +kernel), List.mem_of_getElem? (i := 1205) (by decide +kernel), List.mem_of_getElem? (i := 1206) (by decide +kernel)⟩
theorem lw_p78 : lw_okq (⟨"LastCloud$Outcomes", "spreadFrom", "(IZ)V"⟩, 5) := ⟨⟨by decide +kernel, by decide +kernel⟩, List.mem_of_getElem? (i := 397) (by decide +kernel), List.mem_of_getElem? (i := 1209) (by decide +kernel), List.mem_of_getElem? (i := 1210) (by decide +kernel)⟩
theorem lw_p79 : lw_okq (⟨"LastCloud$Outcomes", "follow", "(IZIIZ)V"⟩, 5) := ⟨⟨by decide +kernel, by decide +kernel⟩, List.mem_of_getElem? (i := 397) (by decide +kernel), List.mem_of_getElem? (i := 1213) (by decide +kernel), List.mem_of_getElem? (i := 1214) (by decide +kernel)⟩
def lw_privs_5 : List (MethodName × Nat) := [(⟨"LastCloud$Plan", "bestHop", "(IZII)I"⟩, 15), (⟨"LastCloud$Plan", "behind", "(IIZI)I"⟩, 15), (⟨"LastCloud$Plan", "settle", "(IIIIIZ)V"⟩, 15), (⟨"LastCloud$Sky", "landingWorth", "(III)I"⟩, 19), (⟨"LastCloud$Plan", "homeAt", "(IZ)I"⟩, 15), (⟨"LastCloud$Plan", "worthAt", "(IZ)I"⟩, 15), (⟨"LastCloud$Plan", "deedAt", "(IZ)I"⟩, 15), (⟨"LastCloud$Sky", "startsWet", "()Z"⟩, 19), (⟨"LastCloud$Plan", "startWorth", "(Z)I"⟩, 15), (⟨"LastCloud", "leastToLeave", "(IIZZ)I"⟩, 18), (⟨"LastCloud", "trialPlan", "()LLastCloud$Plan;"⟩, 18), (⟨"LastCloud$Plan", "setDryWin", "(II)V"⟩, 15), (⟨"LastCloud$Outcomes", "spreadFromStart", "(LLastCloud$Plan;)V"⟩, 5), (⟨"LastCloud$Outcomes", "arrive", "(II)V"⟩, 5), (⟨"LastCloud$Outcomes", "spreadFrom", "(IZ)V"⟩, 5), (⟨"LastCloud$Outcomes", "follow", "(IZIIZ)V"⟩, 5)]
theorem lw_r5 : ∀ q ∈ lw_privs_5, lw_okq q := List.forall_mem_cons.mpr ⟨lw_p64, List.forall_mem_cons.mpr ⟨lw_p65, List.forall_mem_cons.mpr ⟨lw_p66, List.forall_mem_cons.mpr ⟨lw_p67, List.forall_mem_cons.mpr ⟨lw_p68, List.forall_mem_cons.mpr ⟨lw_p69, List.forall_mem_cons.mpr ⟨lw_p70, List.forall_mem_cons.mpr ⟨lw_p71, List.forall_mem_cons.mpr ⟨lw_p72, List.forall_mem_cons.mpr ⟨lw_p73, List.forall_mem_cons.mpr ⟨lw_p74, List.forall_mem_cons.mpr ⟨lw_p75, List.forall_mem_cons.mpr ⟨lw_p76, List.forall_mem_cons.mpr ⟨lw_p77, List.forall_mem_cons.mpr ⟨lw_p78, List.forall_mem_cons.mpr ⟨lw_p79, fun _ h => absurd h List.not_mem_nil⟩⟩⟩⟩⟩⟩⟩⟩⟩⟩⟩⟩⟩⟩⟩⟩
theorem lw_p80 : lw_okq (⟨"LastCloud$Outcomes", "followLeg", "(IIZII)V"⟩, 5) := ⟨⟨by decide +kernel, by decide +kernel⟩, List.mem_of_getElem? (i := 397) (by decide +kernel), List.mem_of_getElem? (i := 1223) (by decide +kernel), List.mem_of_getElem? (i := 1224) (by decide +kernel)⟩
theorem lw_p81 : lw_okq (⟨"LastCloud", "startWorthWith", "(II)I"⟩, 18) := ⟨⟨by decide +kernel, by decide +kernel⟩, List.mem_of_getElem? (i := 23) (by decide +kernel), List.mem_of_getElem? (i := 1233) (by decide +kernel), List.mem_of_getElem? (i := 1234) (by decide +kernel)⟩
theorem lw_p82 : lw_okq (⟨"LastCloud$Plan", "setChance", "(II)V"⟩, 15) := ⟨⟨by decide +kernel, by decide +kernel⟩, List.mem_of_getElem? (i := 1007) (by decide +kernel), List.mem_of_getElem? (i := 1237) (by decide +kernel), List.mem_of_getElem? (i := 1238) (by decide +kernel)⟩
theorem lw_p83 : lw_okq (⟨"LastCloud", "bestStartWorth", "()I"⟩, 18) := ⟨⟨by decide +kernel, by decide +kernel⟩, List.mem_of_getElem? (i := 23) (by decide +kernel), List.mem_of_getElem? (i := 1241) (by decide +kernel), List.mem_of_getElem? (i := 1242) (by decide +kernel)⟩
theorem lw_p84 : lw_okq (⟨"LastCloud$Flight", "beginUnderAllLifts", "(LLastCloud$Sky;)V"⟩, 18) := ⟨⟨by decide +kernel, by decide +kernel⟩, List.mem_of_getElem? (i := 422) (by decide +kernel), List.mem_of_getElem? (i := 1263) (by decide +kernel), List.mem_of_getElem? (i := 1264) (by decide +kernel)⟩
theorem lw_p85 : lw_okq (⟨"LastCloud$Flight", "takeOff", "(LLastCloud$Sky;)V"⟩, 18) := ⟨⟨by decide +kernel, by decide +kernel⟩, List.mem_of_getElem? (i := 422) (by decide +kernel), List.mem_of_getElem? (i := 1267) (by decide +kernel), List.mem_of_getElem? (i := 1268) (by decide +kernel)⟩
theorem lw_p86 : lw_okq (⟨"LastCloud$Flight", "meetLift", "()V"⟩, 18) := ⟨⟨by decide +kernel, by decide +kernel⟩, List.mem_of_getElem? (i := 422) (by decide +kernel), List.mem_of_getElem? (i := 1273) (by decide +kernel), List.mem_of_getElem? (i := 1274) (by decide +kernel)⟩
theorem lw_p87 : lw_okq (⟨"LastCloud$Flight", "draw", "(I)I"⟩, 18) := ⟨⟨by decide +kernel, by decide +kernel⟩, List.mem_of_getElem? (i := 422) (by decide +kernel), List.mem_of_getElem? (i := 1277) (by decide +kernel), List.mem_of_getElem? (i := 1278) (by decide +kernel)⟩
theorem lw_p88 : lw_okq (⟨"LastCloud$Flight", "deedBy", "(LLastCloud$Plan;)I"⟩, 18) := ⟨⟨by decide +kernel, by decide +kernel⟩, List.mem_of_getElem? (i := 422) (by decide +kernel), List.mem_of_getElem? (i := 1285) (by decide +kernel), List.mem_of_getElem? (i := 1286) (by decide +kernel)⟩
theorem lw_p89 : lw_okq (⟨"LastCloud$Flight", "tryDeed", "(J)Z"⟩, 18) := ⟨⟨by decide +kernel, by decide +kernel⟩, List.mem_of_getElem? (i := 422) (by decide +kernel), List.mem_of_getElem? (i := 1291) (by decide +kernel), List.mem_of_getElem? (i := 1292) (by decide +kernel)⟩
theorem lw_p90 : lw_okq (⟨"LastCloud$Flight", "tryClimb", "()Z"⟩, 18) := ⟨⟨by decide +kernel, by decide +kernel⟩, List.mem_of_getElem? (i := 422) (by decide +kernel), List.mem_of_getElem? (i := 1296) (by decide +kernel), List.mem_of_getElem? (i := 1297) (by decide +kernel)⟩
theorem lw_p91 : lw_okq (⟨"LastCloud$Flight", "tryLeg", "(II)Z"⟩, 18) := ⟨⟨by decide +kernel, by decide +kernel⟩, List.mem_of_getElem? (i := 422) (by decide +kernel), List.mem_of_getElem? (i := 1304) (by decide +kernel), List.mem_of_getElem? (i := 1305) (by decide +kernel)⟩
theorem lw_p92 : lw_okq (⟨"LastCloud", "flyOnce", "(LLastCloud$Flight;II)V"⟩, 18) := ⟨⟨by decide +kernel, by decide +kernel⟩, List.mem_of_getElem? (i := 23) (by decide +kernel), List.mem_of_getElem? (i := 1320) (by decide +kernel), List.mem_of_getElem? (i := 1321) (by decide +kernel)⟩
theorem lw_p93 : lw_okq (⟨"LastCloud$Flight", "follow", "(LLastCloud$Plan;LLastCloud$Sky;I)V"⟩, 18) := ⟨⟨by decide +kernel, by decide +kernel⟩, List.mem_of_getElem? (i := 422) (by decide +kernel), List.mem_of_getElem? (i := 1324) (by decide +kernel), List.mem_of_getElem? (i := 1325) (by decide +kernel)⟩
theorem lw_p94 : lw_okq (⟨"LastCloud$Flight", "begin", "(LLastCloud$Sky;I)V"⟩, 18) := ⟨⟨by decide +kernel, by decide +kernel⟩, List.mem_of_getElem? (i := 422) (by decide +kernel), List.mem_of_getElem? (i := 1328) (by decide +kernel), List.mem_of_getElem? (i := 1329) (by decide +kernel)⟩
theorem lw_p95 : lw_okq (⟨"LastCloud$Flight", "note", "(I)V"⟩, 18) := ⟨⟨by decide +kernel, by decide +kernel⟩, List.mem_of_getElem? (i := 422) (by decide +kernel), List.mem_of_getElem? (i := 1333) (by decide +kernel), List.mem_of_getElem? (i := 1334) (by decide +kernel)⟩
def lw_privs_6 : List (MethodName × Nat) := [(⟨"LastCloud$Outcomes", "followLeg", "(IIZII)V"⟩, 5), (⟨"LastCloud", "startWorthWith", "(II)I"⟩, 18), (⟨"LastCloud$Plan", "setChance", "(II)V"⟩, 15), (⟨"LastCloud", "bestStartWorth", "()I"⟩, 18), (⟨"LastCloud$Flight", "beginUnderAllLifts", "(LLastCloud$Sky;)V"⟩, 18), (⟨"LastCloud$Flight", "takeOff", "(LLastCloud$Sky;)V"⟩, 18), (⟨"LastCloud$Flight", "meetLift", "()V"⟩, 18), (⟨"LastCloud$Flight", "draw", "(I)I"⟩, 18), (⟨"LastCloud$Flight", "deedBy", "(LLastCloud$Plan;)I"⟩, 18), (⟨"LastCloud$Flight", "tryDeed", "(J)Z"⟩, 18), (⟨"LastCloud$Flight", "tryClimb", "()Z"⟩, 18), (⟨"LastCloud$Flight", "tryLeg", "(II)Z"⟩, 18), (⟨"LastCloud", "flyOnce", "(LLastCloud$Flight;II)V"⟩, 18), (⟨"LastCloud$Flight", "follow", "(LLastCloud$Plan;LLastCloud$Sky;I)V"⟩, 18), (⟨"LastCloud$Flight", "begin", "(LLastCloud$Sky;I)V"⟩, 18), (⟨"LastCloud$Flight", "note", "(I)V"⟩, 18)]
theorem lw_r6 : ∀ q ∈ lw_privs_6, lw_okq q := List.forall_mem_cons.mpr ⟨lw_p80, List.forall_mem_cons.mpr ⟨lw_p81, List.forall_mem_cons.mpr ⟨lw_p82, List.forall_mem_cons.mpr ⟨lw_p83, List.forall_mem_cons.mpr ⟨lw_p84, List.forall_mem_cons.mpr ⟨lw_p85, List.forall_mem_cons.mpr ⟨lw_p86, List.forall_mem_cons.mpr ⟨lw_p87, List.forall_mem_cons.mpr ⟨lw_p88, List.forall_mem_cons.mpr ⟨lw_p89, List.forall_mem_cons.mpr ⟨lw_p90, List.forall_mem_cons.mpr ⟨lw_p91, List.forall_mem_cons.mpr ⟨lw_p92, List.forall_mem_cons.mpr ⟨lw_p93, List.forall_mem_cons.mpr ⟨lw_p94, List.forall_mem_cons.mpr ⟨lw_p95, fun _ h => absurd h List.not_mem_nil⟩⟩⟩⟩⟩⟩⟩⟩⟩⟩⟩⟩⟩⟩⟩⟩
theorem lw_p96 : lw_okq (⟨"LastCloud$Flight", "noted", "(II)I"⟩, 18) := ⟨⟨by decide +kernel, by decide +kernel⟩, List.mem_of_getElem? (i := 422) (by decide +kernel), List.mem_of_getElem? (i := 1344) (by decide +kernel), List.mem_of_getElem? (i := 1345) (by decide +kernel)⟩
theorem lw_p97 : lw_okq (⟨"LastCloud$Flight", "endOf", "(I)I"⟩, 18) := ⟨⟨by decide +kernel, by decide +kernel⟩, List.mem_of_getElem? (i := 422) (by decide +kernel), List.mem_of_getElem? (i := 1352) (by decide +kernel), List.mem_of_getElem? (i := 1353) (by decide +kernel)⟩
theorem lw_p98 : lw_okq (⟨"LastCloud", "areFlights", "(III)Z"⟩, 18) := ⟨⟨by decide +kernel, by decide +kernel⟩, List.mem_of_getElem? (i := 23) (by decide +kernel), List.mem_of_getElem? (i := 1368) (by decide +kernel), List.mem_of_getElem? (i := 1369) (by decide +kernel)⟩
theorem lw_p99 : lw_okq (⟨"LastCloud$Flight", "spreadValue", "(I)I"⟩, 18) := ⟨⟨by decide +kernel, by decide +kernel⟩, List.mem_of_getElem? (i := 422) (by decide +kernel), List.mem_of_getElem? (i := 1380) (by decide +kernel), List.mem_of_getElem? (i := 1381) (by decide +kernel)⟩
theorem lw_p100 : lw_okq (⟨"LastCloud$Route", "fewest", "(LLastCloud$Sky;LLastCloud$Hops;I)I"⟩, 9) := ⟨⟨by decide +kernel, by decide +kernel⟩, List.mem_of_getElem? (i := 488) (by decide +kernel), List.mem_of_getElem? (i := 1391) (by decide +kernel), List.mem_of_getElem? (i := 1392) (by decide +kernel)⟩
theorem lw_p101 : lw_okq (⟨"LastCloud$Route", "begin", "(LLastCloud$Sky;LLastCloud$Hops;I)V"⟩, 9) := ⟨⟨by decide +kernel, by decide +kernel⟩, List.mem_of_getElem? (i := 488) (by decide +kernel), List.mem_of_getElem? (i := 1395) (by decide +kernel), List.mem_of_getElem? (i := 1396) (by decide +kernel)⟩
theorem lw_p102 : lw_okq (⟨"LastCloud$Route", "fillPeriods", "(I)V"⟩, 9) := ⟨⟨by decide +kernel, by decide +kernel⟩, List.mem_of_getElem? (i := 488) (by decide +kernel), List.mem_of_getElem? (i := 1406) (by decide +kernel), List.mem_of_getElem? (i := 1407) (by decide +kernel)⟩
theorem lw_p103 : lw_okq (⟨"LastCloud$Route", "leastByHops", "(III)I"⟩, 9) := ⟨⟨by decide +kernel, by decide +kernel⟩, List.mem_of_getElem? (i := 488) (by decide +kernel), List.mem_of_getElem? (i := 1410) (by decide +kernel), List.mem_of_getElem? (i := 1411) (by decide +kernel)⟩
theorem lw_p104 : lw_okq (⟨"LastCloud$Route", "behind", "(III)I"⟩, 9) := ⟨⟨by decide +kernel, by decide +kernel⟩, List.mem_of_getElem? (i := 488) (by decide +kernel), List.mem_of_getElem? (i := 1415) (by decide +kernel), List.mem_of_getElem? (i := 1416) (by decide +kernel)⟩
theorem lw_p105 : lw_okq (⟨"LastCloud$Route", "walk", "(I)V"⟩, 9) := ⟨⟨by decide +kernel, by decide +kernel⟩, List.mem_of_getElem? (i := 488) (by decide +kernel), List.mem_of_getElem? (i := 1425) (by decide +kernel), List.mem_of_getElem? (i := 1426) (by decide +kernel)⟩
theorem lw_p106 : lw_okq (⟨"LastCloud$Route", "addToWay", "(I)V"⟩, 9) := ⟨⟨by decide +kernel, by decide +kernel⟩, List.mem_of_getElem? (i := 488) (by decide +kernel), List.mem_of_getElem? (i := 1429) (by decide +kernel), List.mem_of_getElem? (i := 1430) (by decide +kernel)⟩
theorem lw_p107 : lw_okq (⟨"LastCloud$Route", "firstHop", "(IIII)I"⟩, 9) := ⟨⟨by decide +kernel, by decide +kernel⟩, List.mem_of_getElem? (i := 488) (by decide +kernel), List.mem_of_getElem? (i := 1434) (by decide +kernel), List.mem_of_getElem? (i := 1435) (by decide +kernel)⟩
theorem lw_p108 : lw_okq (⟨"LastCloud", "slotsWithRow", "()I"⟩, 18) := ⟨⟨by decide +kernel, by decide +kernel⟩, List.mem_of_getElem? (i := 23) (by decide +kernel), List.mem_of_getElem? (i := 1452) (by decide +kernel), List.mem_of_getElem? (i := 1453) (by decide +kernel)⟩
theorem lw_p109 : lw_okq (⟨"LastCloud$Sky", "copyFrom", "(LLastCloud$Sky;)V"⟩, 19) := ⟨⟨by decide +kernel, by decide +kernel⟩, List.mem_of_getElem? (i := 71) (by decide +kernel), List.mem_of_getElem? (i := 1460) (by decide +kernel), List.mem_of_getElem? (i := 1461) (by decide +kernel)⟩
theorem lw_p110 : lw_okq (⟨"LastCloud$Place", "copyFrom", "(LLastCloud$Place;)V"⟩, 7) := ⟨⟨by decide +kernel, by decide +kernel⟩, List.mem_of_getElem? (i := 122) (by decide +kernel), List.mem_of_getElem? (i := 1464) (by decide +kernel), List.mem_of_getElem? (i := 1465) (by decide +kernel)⟩
theorem lw_p111 : lw_okq (⟨"LastCloud$Leg", "copyFrom", "(LLastCloud$Leg;)V"⟩, 6) := ⟨⟨by decide +kernel, by decide +kernel⟩, List.mem_of_getElem? (i := 171) (by decide +kernel), List.mem_of_getElem? (i := 1468) (by decide +kernel), List.mem_of_getElem? (i := 1469) (by decide +kernel)⟩
def lw_privs_7 : List (MethodName × Nat) := [(⟨"LastCloud$Flight", "noted", "(II)I"⟩, 18), (⟨"LastCloud$Flight", "endOf", "(I)I"⟩, 18), (⟨"LastCloud", "areFlights", "(III)Z"⟩, 18), (⟨"LastCloud$Flight", "spreadValue", "(I)I"⟩, 18), (⟨"LastCloud$Route", "fewest", "(LLastCloud$Sky;LLastCloud$Hops;I)I"⟩, 9), (⟨"LastCloud$Route", "begin", "(LLastCloud$Sky;LLastCloud$Hops;I)V"⟩, 9), (⟨"LastCloud$Route", "fillPeriods", "(I)V"⟩, 9), (⟨"LastCloud$Route", "leastByHops", "(III)I"⟩, 9), (⟨"LastCloud$Route", "behind", "(III)I"⟩, 9), (⟨"LastCloud$Route", "walk", "(I)V"⟩, 9), (⟨"LastCloud$Route", "addToWay", "(I)V"⟩, 9), (⟨"LastCloud$Route", "firstHop", "(IIII)I"⟩, 9), (⟨"LastCloud", "slotsWithRow", "()I"⟩, 18), (⟨"LastCloud$Sky", "copyFrom", "(LLastCloud$Sky;)V"⟩, 19), (⟨"LastCloud$Place", "copyFrom", "(LLastCloud$Place;)V"⟩, 7), (⟨"LastCloud$Leg", "copyFrom", "(LLastCloud$Leg;)V"⟩, 6)]
theorem lw_r7 : ∀ q ∈ lw_privs_7, lw_okq q := List.forall_mem_cons.mpr ⟨lw_p96, List.forall_mem_cons.mpr ⟨lw_p97, List.forall_mem_cons.mpr ⟨lw_p98, List.forall_mem_cons.mpr ⟨lw_p99, List.forall_mem_cons.mpr ⟨lw_p100, List.forall_mem_cons.mpr ⟨lw_p101, List.forall_mem_cons.mpr ⟨lw_p102, List.forall_mem_cons.mpr ⟨lw_p103, List.forall_mem_cons.mpr ⟨lw_p104, List.forall_mem_cons.mpr ⟨lw_p105, List.forall_mem_cons.mpr ⟨lw_p106, List.forall_mem_cons.mpr ⟨lw_p107, List.forall_mem_cons.mpr ⟨lw_p108, List.forall_mem_cons.mpr ⟨lw_p109, List.forall_mem_cons.mpr ⟨lw_p110, List.forall_mem_cons.mpr ⟨lw_p111, fun _ h => absurd h List.not_mem_nil⟩⟩⟩⟩⟩⟩⟩⟩⟩⟩⟩⟩⟩⟩⟩⟩
theorem lw_p112 : lw_okq (⟨"LastCloud$Polar", "copyFrom", "(LLastCloud$Polar;)V"⟩, 3) := ⟨⟨by decide +kernel, by decide +kernel⟩, List.mem_of_getElem? (i := 81) (by decide +kernel), List.mem_of_getElem? (i := 1472) (by decide +kernel), List.mem_of_getElem? (i := 1473) (by decide +kernel)⟩
theorem lw_p113 : lw_okq (⟨"LastCloud$Sights", "copyFrom", "(LLastCloud$Sights;)V"⟩, 3) := ⟨⟨by decide +kernel, by decide +kernel⟩, List.mem_of_getElem? (i := 103) (by decide +kernel), List.mem_of_getElem? (i := 1479) (by decide +kernel), List.mem_of_getElem? (i := 1480) (by decide +kernel)⟩
theorem lw_p114 : lw_okq (⟨"LastCloudModel", "forgets", "()V"⟩, 53) := ⟨⟨by decide +kernel, by decide +kernel⟩, List.mem_of_getElem? (i := 1510) (by decide +kernel), List.mem_of_getElem? (i := 1520) (by decide +kernel), List.mem_of_getElem? (i := 1521) (by decide +kernel)⟩
theorem lw_p115 : lw_okq (⟨"LastCloudModel", "advance", "()V"⟩, 53) := ⟨⟨by decide +kernel, by decide +kernel⟩, List.mem_of_getElem? (i := 1510) (by decide +kernel), List.mem_of_getElem? (i := 1711) (by decide +kernel), List.mem_of_getElem? (i := 1712) (by decide +kernel)⟩
theorem lw_p116 : lw_okq (⟨"LastCloudModel", "see", "(I)I"⟩, 53) := ⟨⟨by decide +kernel, by decide +kernel⟩, List.mem_of_getElem? (i := 1510) (by decide +kernel), List.mem_of_getElem? (i := 1715) (by decide +kernel), List.mem_of_getElem? (i := 1716) (by decide +kernel)⟩
theorem lw_p117 : lw_okq (⟨"LastCloudModel", "good", "()Z"⟩, 53) := ⟨⟨by decide +kernel, by decide +kernel⟩, List.mem_of_getElem? (i := 1510) (by decide +kernel), List.mem_of_getElem? (i := 1725) (by decide +kernel), List.mem_of_getElem? (i := 1726) (by decide +kernel)⟩
theorem lw_p118 : lw_okq (⟨"LastCloudModel", "readLine", "()V"⟩, 53) := ⟨⟨by decide +kernel, by decide +kernel⟩, List.mem_of_getElem? (i := 1510) (by decide +kernel), List.mem_of_getElem? (i := 1729) (by decide +kernel), List.mem_of_getElem? (i := 1730) (by decide +kernel)⟩
theorem lw_p119 : lw_okq (⟨"LastCloudModel", "onceHere", "()I"⟩, 53) := ⟨⟨by decide +kernel, by decide +kernel⟩, List.mem_of_getElem? (i := 1510) (by decide +kernel), List.mem_of_getElem? (i := 1733) (by decide +kernel), List.mem_of_getElem? (i := 1734) (by decide +kernel)⟩
theorem lw_p120 : lw_okq (⟨"LastCloudModel", "is", "(Ljava/lang/String;)Z"⟩, 53) := ⟨⟨by decide +kernel, by decide +kernel⟩, List.mem_of_getElem? (i := 1510) (by decide +kernel), List.mem_of_getElem? (i := 1738) (by decide +kernel), List.mem_of_getElem? (i := 1739) (by decide +kernel)⟩
theorem lw_p121 : lw_okq (⟨"LastCloudModel", "errs", "(I)V"⟩, 53) := ⟨⟨by decide +kernel, by decide +kernel⟩, List.mem_of_getElem? (i := 1510) (by decide +kernel), List.mem_of_getElem? (i := 1754) (by decide +kernel), List.mem_of_getElem? (i := 1755) (by decide +kernel)⟩
theorem lw_p122 : lw_okq (⟨"LastCloudModel", "readOnce", "(I)V"⟩, 53) := ⟨⟨by decide +kernel, by decide +kernel⟩, List.mem_of_getElem? (i := 1510) (by decide +kernel), List.mem_of_getElem? (i := 1764) (by decide +kernel), List.mem_of_getElem? (i := 1765) (by decide +kernel)⟩
theorem lw_p123 : lw_okq (⟨"LastCloudModel", "number", "(II)I"⟩, 53) := ⟨⟨by decide +kernel, by decide +kernel⟩, List.mem_of_getElem? (i := 1510) (by decide +kernel), List.mem_of_getElem? (i := 1768) (by decide +kernel), List.mem_of_getElem? (i := 1769) (by decide +kernel)⟩
theorem lw_p124 : lw_okq (⟨"LastCloudModel", "told", "(Ljava/lang/String;II)I"⟩, 53) := ⟨⟨by decide +kernel, by decide +kernel⟩, List.mem_of_getElem? (i := 1510) (by decide +kernel), List.mem_of_getElem? (i := 1773) (by decide +kernel), List.mem_of_getElem? (i := 1774) (by decide +kernel)⟩
theorem lw_p125 : lw_okq (⟨"LastCloudModel", "needs", "(Ljava/lang/String;)V"⟩, 53) := ⟨⟨by decide +kernel, by decide +kernel⟩, List.mem_of_getElem? (i := 1510) (by decide +kernel), List.mem_of_getElem? (i := 1777) (by decide +kernel), List.mem_of_getElem? (i := 1778) (by decide +kernel)⟩
theorem lw_p126 : lw_okq (⟨"LastCloudModel", "takes", "(Ljava/lang/String;)Z"⟩, 53) := ⟨⟨by decide +kernel, by decide +kernel⟩, List.mem_of_getElem? (i := 1510) (by decide +kernel), List.mem_of_getElem? (i := 1781) (by decide +kernel), List.mem_of_getElem? (i := 1782) (by decide +kernel)⟩
theorem lw_p127 : lw_okq (⟨"LastCloudModel", "readStart", "()V"⟩, 53) := ⟨⟨by decide +kernel, by decide +kernel⟩, List.mem_of_getElem? (i := 1510) (by decide +kernel), List.mem_of_getElem? (i := 1787) (by decide +kernel), List.mem_of_getElem? (i := 1788) (by decide +kernel)⟩
def lw_privs_8 : List (MethodName × Nat) := [(⟨"LastCloud$Polar", "copyFrom", "(LLastCloud$Polar;)V"⟩, 3), (⟨"LastCloud$Sights", "copyFrom", "(LLastCloud$Sights;)V"⟩, 3), (⟨"LastCloudModel", "forgets", "()V"⟩, 53), (⟨"LastCloudModel", "advance", "()V"⟩, 53), (⟨"LastCloudModel", "see", "(I)I"⟩, 53), (⟨"LastCloudModel", "good", "()Z"⟩, 53), (⟨"LastCloudModel", "readLine", "()V"⟩, 53), (⟨"LastCloudModel", "onceHere", "()I"⟩, 53), (⟨"LastCloudModel", "is", "(Ljava/lang/String;)Z"⟩, 53), (⟨"LastCloudModel", "errs", "(I)V"⟩, 53), (⟨"LastCloudModel", "readOnce", "(I)V"⟩, 53), (⟨"LastCloudModel", "number", "(II)I"⟩, 53), (⟨"LastCloudModel", "told", "(Ljava/lang/String;II)I"⟩, 53), (⟨"LastCloudModel", "needs", "(Ljava/lang/String;)V"⟩, 53), (⟨"LastCloudModel", "takes", "(Ljava/lang/String;)Z"⟩, 53), (⟨"LastCloudModel", "readStart", "()V"⟩, 53)]
theorem lw_r8 : ∀ q ∈ lw_privs_8, lw_okq q := List.forall_mem_cons.mpr ⟨lw_p112, List.forall_mem_cons.mpr ⟨lw_p113, List.forall_mem_cons.mpr ⟨lw_p114, List.forall_mem_cons.mpr ⟨lw_p115, List.forall_mem_cons.mpr ⟨lw_p116, List.forall_mem_cons.mpr ⟨lw_p117, List.forall_mem_cons.mpr ⟨lw_p118, List.forall_mem_cons.mpr ⟨lw_p119, List.forall_mem_cons.mpr ⟨lw_p120, List.forall_mem_cons.mpr ⟨lw_p121, List.forall_mem_cons.mpr ⟨lw_p122, List.forall_mem_cons.mpr ⟨lw_p123, List.forall_mem_cons.mpr ⟨lw_p124, List.forall_mem_cons.mpr ⟨lw_p125, List.forall_mem_cons.mpr ⟨lw_p126, List.forall_mem_cons.mpr ⟨lw_p127, fun _ h => absurd h List.not_mem_nil⟩⟩⟩⟩⟩⟩⟩⟩⟩⟩⟩⟩⟩⟩⟩⟩
theorem lw_p128 : lw_okq (⟨"LastCloudModel", "place", "()I"⟩, 53) := ⟨⟨by decide +kernel, by decide +kernel⟩, List.mem_of_getElem? (i := 1510) (by decide +kernel), List.mem_of_getElem? (i := 1791) (by decide +kernel), List.mem_of_getElem? (i := 1792) (by decide +kernel)⟩
theorem lw_p129 : lw_okq (⟨"LastCloudModel", "readPlace", "()V"⟩, 53) := ⟨⟨by decide +kernel, by decide +kernel⟩, List.mem_of_getElem? (i := 1510) (by decide +kernel), List.mem_of_getElem? (i := 1797) (by decide +kernel), List.mem_of_getElem? (i := 1798) (by decide +kernel)⟩
theorem lw_p130 : lw_okq (⟨"LastCloudModel", "readLeg", "()V"⟩, 53) := ⟨⟨by decide +kernel, by decide +kernel⟩, List.mem_of_getElem? (i := 1510) (by decide +kernel), List.mem_of_getElem? (i := 1803) (by decide +kernel), List.mem_of_getElem? (i := 1804) (by decide +kernel)⟩
theorem lw_p131 : lw_okq (⟨"LastCloudModel", "signed", "(I)I"⟩, 53) := ⟨⟨by decide +kernel, by decide +kernel⟩, List.mem_of_getElem? (i := 1510) (by decide +kernel), List.mem_of_getElem? (i := 1809) (by decide +kernel), List.mem_of_getElem? (i := 1810) (by decide +kernel)⟩
theorem lw_p132 : lw_okq (⟨"LastCloudModel", "readLift", "()V"⟩, 53) := ⟨⟨by decide +kernel, by decide +kernel⟩, List.mem_of_getElem? (i := 1510) (by decide +kernel), List.mem_of_getElem? (i := 1816) (by decide +kernel), List.mem_of_getElem? (i := 1817) (by decide +kernel)⟩
theorem lw_p133 : lw_okq (⟨"LastCloudModel", "readPoint", "()V"⟩, 53) := ⟨⟨by decide +kernel, by decide +kernel⟩, List.mem_of_getElem? (i := 1510) (by decide +kernel), List.mem_of_getElem? (i := 1824) (by decide +kernel), List.mem_of_getElem? (i := 1825) (by decide +kernel)⟩
theorem lw_p134 : lw_okq (⟨"LastCloudModel", "ofPlace", "(II)I"⟩, 53) := ⟨⟨by decide +kernel, by decide +kernel⟩, List.mem_of_getElem? (i := 1510) (by decide +kernel), List.mem_of_getElem? (i := 1828) (by decide +kernel), List.mem_of_getElem? (i := 1829) (by decide +kernel)⟩
theorem lw_p135 : lw_okq (⟨"LastCloudModel", "isLeg", "(I)Z"⟩, 53) := ⟨⟨by decide +kernel, by decide +kernel⟩, List.mem_of_getElem? (i := 1510) (by decide +kernel), List.mem_of_getElem? (i := 1837) (by decide +kernel), List.mem_of_getElem? (i := 1838) (by decide +kernel)⟩
theorem lw_p136 : lw_okq (⟨"LastCloudModel", "isSpeed", "(I)Z"⟩, 53) := ⟨⟨by decide +kernel, by decide +kernel⟩, List.mem_of_getElem? (i := 1510) (by decide +kernel), List.mem_of_getElem? (i := 1841) (by decide +kernel), List.mem_of_getElem? (i := 1842) (by decide +kernel)⟩
theorem lw_p137 : lw_okq (⟨"LastCloudModel", "periodsOf", "(IZIZ)I"⟩, 53) := ⟨⟨by decide +kernel, by decide +kernel⟩, List.mem_of_getElem? (i := 1510) (by decide +kernel), List.mem_of_getElem? (i := 1845) (by decide +kernel), List.mem_of_getElem? (i := 1846) (by decide +kernel)⟩
theorem lw_p138 : lw_okq (⟨"LastCloudModel", "ofLeg", "(II)I"⟩, 53) := ⟨⟨by decide +kernel, by decide +kernel⟩, List.mem_of_getElem? (i := 1510) (by decide +kernel), List.mem_of_getElem? (i := 1849) (by decide +kernel), List.mem_of_getElem? (i := 1850) (by decide +kernel)⟩
theorem lw_p139 : lw_okq (⟨"LastCloudModel", "lossOf", "(III)I"⟩, 53) := ⟨⟨by decide +kernel, by decide +kernel⟩, List.mem_of_getElem? (i := 1510) (by decide +kernel), List.mem_of_getElem? (i := 1858) (by decide +kernel), List.mem_of_getElem? (i := 1859) (by decide +kernel)⟩
theorem lw_p140 : lw_okq (⟨"LastCloudModel", "isPlace", "(I)Z"⟩, 53) := ⟨⟨by decide +kernel, by decide +kernel⟩, List.mem_of_getElem? (i := 1510) (by decide +kernel), List.mem_of_getElem? (i := 1866) (by decide +kernel), List.mem_of_getElem? (i := 1867) (by decide +kernel)⟩
theorem lw_p141 : lw_okq (⟨"LastCloudModel", "climbOf", "(IZ)I"⟩, 53) := ⟨⟨by decide +kernel, by decide +kernel⟩, List.mem_of_getElem? (i := 1510) (by decide +kernel), List.mem_of_getElem? (i := 1870) (by decide +kernel), List.mem_of_getElem? (i := 1871) (by decide +kernel)⟩
theorem lw_p142 : lw_okq (⟨"LastCloudModel", "upOf", "(I)I"⟩, 53) := ⟨⟨by decide +kernel, by decide +kernel⟩, List.mem_of_getElem? (i := 1510) (by decide +kernel), List.mem_of_getElem? (i := 1874) (by decide +kernel), List.mem_of_getElem? (i := 1875) (by decide +kernel)⟩
theorem lw_p143 : lw_okq (⟨"LastCloudModel", "chanceNow", "(I)I"⟩, 53) := ⟨⟨by decide +kernel, by decide +kernel⟩, List.mem_of_getElem? (i := 1510) (by decide +kernel), List.mem_of_getElem? (i := 1882) (by decide +kernel), List.mem_of_getElem? (i := 1883) (by decide +kernel)⟩
def lw_privs_9 : List (MethodName × Nat) := [(⟨"LastCloudModel", "place", "()I"⟩, 53), (⟨"LastCloudModel", "readPlace", "()V"⟩, 53), (⟨"LastCloudModel", "readLeg", "()V"⟩, 53), (⟨"LastCloudModel", "signed", "(I)I"⟩, 53), (⟨"LastCloudModel", "readLift", "()V"⟩, 53), (⟨"LastCloudModel", "readPoint", "()V"⟩, 53), (⟨"LastCloudModel", "ofPlace", "(II)I"⟩, 53), (⟨"LastCloudModel", "isLeg", "(I)Z"⟩, 53), (⟨"LastCloudModel", "isSpeed", "(I)Z"⟩, 53), (⟨"LastCloudModel", "periodsOf", "(IZIZ)I"⟩, 53), (⟨"LastCloudModel", "ofLeg", "(II)I"⟩, 53), (⟨"LastCloudModel", "lossOf", "(III)I"⟩, 53), (⟨"LastCloudModel", "isPlace", "(I)Z"⟩, 53), (⟨"LastCloudModel", "climbOf", "(IZ)I"⟩, 53), (⟨"LastCloudModel", "upOf", "(I)I"⟩, 53), (⟨"LastCloudModel", "chanceNow", "(I)I"⟩, 53)]
theorem lw_r9 : ∀ q ∈ lw_privs_9, lw_okq q := List.forall_mem_cons.mpr ⟨lw_p128, List.forall_mem_cons.mpr ⟨lw_p129, List.forall_mem_cons.mpr ⟨lw_p130, List.forall_mem_cons.mpr ⟨lw_p131, List.forall_mem_cons.mpr ⟨lw_p132, List.forall_mem_cons.mpr ⟨lw_p133, List.forall_mem_cons.mpr ⟨lw_p134, List.forall_mem_cons.mpr ⟨lw_p135, List.forall_mem_cons.mpr ⟨lw_p136, List.forall_mem_cons.mpr ⟨lw_p137, List.forall_mem_cons.mpr ⟨lw_p138, List.forall_mem_cons.mpr ⟨lw_p139, List.forall_mem_cons.mpr ⟨lw_p140, List.forall_mem_cons.mpr ⟨lw_p141, List.forall_mem_cons.mpr ⟨lw_p142, List.forall_mem_cons.mpr ⟨lw_p143, fun _ h => absurd h List.not_mem_nil⟩⟩⟩⟩⟩⟩⟩⟩⟩⟩⟩⟩⟩⟩⟩⟩
theorem lw_p144 : lw_okq (⟨"LastCloudModel", "bySign", "(IIZI)I"⟩, 53) := ⟨⟨by decide +kernel, by decide +kernel⟩, List.mem_of_getElem? (i := 1510) (by decide +kernel), List.mem_of_getElem? (i := 1886) (by decide +kernel), List.mem_of_getElem? (i := 1887) (by decide +kernel)⟩
theorem lw_p145 : lw_okq (⟨"LastCloudModel", "isHeight", "(II)Z"⟩, 53) := ⟨⟨by decide +kernel, by decide +kernel⟩, List.mem_of_getElem? (i := 1510) (by decide +kernel), List.mem_of_getElem? (i := 1907) (by decide +kernel), List.mem_of_getElem? (i := 1908) (by decide +kernel)⟩
theorem lw_p146 : lw_okq (⟨"LastCloudModel", "glides", "(IIZ)V"⟩, 53) := ⟨⟨by decide +kernel, by decide +kernel⟩, List.mem_of_getElem? (i := 1510) (by decide +kernel), List.mem_of_getElem? (i := 1911) (by decide +kernel), List.mem_of_getElem? (i := 1912) (by decide +kernel)⟩
theorem lw_p147 : lw_okq (⟨"LastCloudModel", "laysWays", "()V"⟩, 53) := ⟨⟨by decide +kernel, by decide +kernel⟩, List.mem_of_getElem? (i := 1510) (by decide +kernel), List.mem_of_getElem? (i := 1915) (by decide +kernel), List.mem_of_getElem? (i := 1916) (by decide +kernel)⟩
theorem lw_p148 : lw_okq (⟨"LastCloudModel", "laysFrom", "(II)V"⟩, 53) := ⟨⟨by decide +kernel, by decide +kernel⟩, List.mem_of_getElem? (i := 1510) (by decide +kernel), List.mem_of_getElem? (i := 1919) (by decide +kernel), List.mem_of_getElem? (i := 1920) (by decide +kernel)⟩
theorem lw_p149 : lw_okq (⟨"LastCloudModel", "comesAt", "(II)I"⟩, 53) := ⟨⟨by decide +kernel, by decide +kernel⟩, List.mem_of_getElem? (i := 1510) (by decide +kernel), List.mem_of_getElem? (i := 1923) (by decide +kernel), List.mem_of_getElem? (i := 1924) (by decide +kernel)⟩
theorem lw_p150 : lw_okq (⟨"LastCloudModel", "fieldsOf", "(IIZ)I"⟩, 53) := ⟨⟨by decide +kernel, by decide +kernel⟩, List.mem_of_getElem? (i := 1510) (by decide +kernel), List.mem_of_getElem? (i := 1931) (by decide +kernel), List.mem_of_getElem? (i := 1932) (by decide +kernel)⟩
theorem lw_p151 : lw_okq (⟨"LastCloudModel", "fastOf", "(I)I"⟩, 53) := ⟨⟨by decide +kernel, by decide +kernel⟩, List.mem_of_getElem? (i := 1510) (by decide +kernel), List.mem_of_getElem? (i := 1955) (by decide +kernel), List.mem_of_getElem? (i := 1956) (by decide +kernel)⟩
theorem lw_p152 : lw_okq (⟨"LastCloudModel", "isState", "(IIIZ)Z"⟩, 53) := ⟨⟨by decide +kernel, by decide +kernel⟩, List.mem_of_getElem? (i := 1510) (by decide +kernel), List.mem_of_getElem? (i := 1974) (by decide +kernel), List.mem_of_getElem? (i := 1975) (by decide +kernel)⟩
theorem lw_p153 : lw_okq (⟨"LastCloudModel", "solves", "(I)V"⟩, 53) := ⟨⟨by decide +kernel, by decide +kernel⟩, List.mem_of_getElem? (i := 1510) (by decide +kernel), List.mem_of_getElem? (i := 1978) (by decide +kernel), List.mem_of_getElem? (i := 1979) (by decide +kernel)⟩
theorem lw_p154 : lw_okq (⟨"LastCloudModel", "looks", "(IIIIII)V"⟩, 53) := ⟨⟨by decide +kernel, by decide +kernel⟩, List.mem_of_getElem? (i := 1510) (by decide +kernel), List.mem_of_getElem? (i := 1982) (by decide +kernel), List.mem_of_getElem? (i := 1983) (by decide +kernel)⟩
theorem lw_p155 : lw_okq (⟨"LastCloudModel", "landingOf", "(II)I"⟩, 53) := ⟨⟨by decide +kernel, by decide +kernel⟩, List.mem_of_getElem? (i := 1510) (by decide +kernel), List.mem_of_getElem? (i := 1989) (by decide +kernel), List.mem_of_getElem? (i := 1990) (by decide +kernel)⟩
theorem lw_p156 : lw_okq (⟨"LastCloudModel", "higher", "(III)I"⟩, 53) := ⟨⟨by decide +kernel, by decide +kernel⟩, List.mem_of_getElem? (i := 1510) (by decide +kernel), List.mem_of_getElem? (i := 1993) (by decide +kernel), List.mem_of_getElem? (i := 1994) (by decide +kernel)⟩
theorem lw_p157 : lw_okq (⟨"LastCloudModel", "takesOver", "(III)V"⟩, 53) := ⟨⟨by decide +kernel, by decide +kernel⟩, List.mem_of_getElem? (i := 1510) (by decide +kernel), List.mem_of_getElem? (i := 1997) (by decide +kernel), List.mem_of_getElem? (i := 1998) (by decide +kernel)⟩
theorem lw_p158 : lw_okq (⟨"LastCloudModel", "isRuled", "(IIII)Z"⟩, 53) := ⟨⟨by decide +kernel, by decide +kernel⟩, List.mem_of_getElem? (i := 1510) (by decide +kernel), List.mem_of_getElem? (i := 2001) (by decide +kernel), List.mem_of_getElem? (i := 2002) (by decide +kernel)⟩
theorem lw_p159 : lw_okq (⟨"LastCloudModel", "mixed", "([IIIII)I"⟩, 53) := ⟨⟨by decide +kernel, by decide +kernel⟩, List.mem_of_getElem? (i := 1510) (by decide +kernel), List.mem_of_getElem? (i := 2005) (by decide +kernel), List.mem_of_getElem? (i := 2006) (by decide +kernel)⟩
def lw_privs_10 : List (MethodName × Nat) := [(⟨"LastCloudModel", "bySign", "(IIZI)I"⟩, 53), (⟨"LastCloudModel", "isHeight", "(II)Z"⟩, 53), (⟨"LastCloudModel", "glides", "(IIZ)V"⟩, 53), (⟨"LastCloudModel", "laysWays", "()V"⟩, 53), (⟨"LastCloudModel", "laysFrom", "(II)V"⟩, 53), (⟨"LastCloudModel", "comesAt", "(II)I"⟩, 53), (⟨"LastCloudModel", "fieldsOf", "(IIZ)I"⟩, 53), (⟨"LastCloudModel", "fastOf", "(I)I"⟩, 53), (⟨"LastCloudModel", "isState", "(IIIZ)Z"⟩, 53), (⟨"LastCloudModel", "solves", "(I)V"⟩, 53), (⟨"LastCloudModel", "looks", "(IIIIII)V"⟩, 53), (⟨"LastCloudModel", "landingOf", "(II)I"⟩, 53), (⟨"LastCloudModel", "higher", "(III)I"⟩, 53), (⟨"LastCloudModel", "takesOver", "(III)V"⟩, 53), (⟨"LastCloudModel", "isRuled", "(IIII)Z"⟩, 53), (⟨"LastCloudModel", "mixed", "([IIIII)I"⟩, 53)]
theorem lw_r10 : ∀ q ∈ lw_privs_10, lw_okq q := List.forall_mem_cons.mpr ⟨lw_p144, List.forall_mem_cons.mpr ⟨lw_p145, List.forall_mem_cons.mpr ⟨lw_p146, List.forall_mem_cons.mpr ⟨lw_p147, List.forall_mem_cons.mpr ⟨lw_p148, List.forall_mem_cons.mpr ⟨lw_p149, List.forall_mem_cons.mpr ⟨lw_p150, List.forall_mem_cons.mpr ⟨lw_p151, List.forall_mem_cons.mpr ⟨lw_p152, List.forall_mem_cons.mpr ⟨lw_p153, List.forall_mem_cons.mpr ⟨lw_p154, List.forall_mem_cons.mpr ⟨lw_p155, List.forall_mem_cons.mpr ⟨lw_p156, List.forall_mem_cons.mpr ⟨lw_p157, List.forall_mem_cons.mpr ⟨lw_p158, List.forall_mem_cons.mpr ⟨lw_p159, fun _ h => absurd h List.not_mem_nil⟩⟩⟩⟩⟩⟩⟩⟩⟩⟩⟩⟩⟩⟩⟩⟩
theorem lw_p160 : lw_okq (⟨"LastCloudModel", "chanceOf", "(I)I"⟩, 53) := ⟨⟨by decide +kernel, by decide +kernel⟩, List.mem_of_getElem? (i := 1510) (by decide +kernel), List.mem_of_getElem? (i := 2009) (by decide +kernel), List.mem_of_getElem? (i := 2010) (by decide +kernel)⟩
theorem lw_p161 : lw_okq (⟨"LastCloudModel", "hasStart", "()Z"⟩, 53) := ⟨⟨by decide +kernel, by decide +kernel⟩, List.mem_of_getElem? (i := 1510) (by decide +kernel), List.mem_of_getElem? (i := 2028) (by decide +kernel), List.mem_of_getElem? (i := 2029) (by decide +kernel)⟩
theorem lw_p162 : lw_okq (⟨"LastCloudModel", "startWet", "()I"⟩, 53) := ⟨⟨by decide +kernel, by decide +kernel⟩, List.mem_of_getElem? (i := 1510) (by decide +kernel), List.mem_of_getElem? (i := 2032) (by decide +kernel), List.mem_of_getElem? (i := 2033) (by decide +kernel)⟩
theorem lw_p163 : lw_okq (⟨"LastCloudModel", "startOf", "(II)I"⟩, 53) := ⟨⟨by decide +kernel, by decide +kernel⟩, List.mem_of_getElem? (i := 1510) (by decide +kernel), List.mem_of_getElem? (i := 2036) (by decide +kernel), List.mem_of_getElem? (i := 2037) (by decide +kernel)⟩
theorem lw_p164 : lw_okq (⟨"LastCloudModel", "leaves", "(IIZI)I"⟩, 53) := ⟨⟨by decide +kernel, by decide +kernel⟩, List.mem_of_getElem? (i := 1510) (by decide +kernel), List.mem_of_getElem? (i := 2048) (by decide +kernel), List.mem_of_getElem? (i := 2049) (by decide +kernel)⟩
theorem lw_p165 : lw_okq (⟨"LastCloudModel", "endOf", "(IIIIIZ)I"⟩, 53) := ⟨⟨by decide +kernel, by decide +kernel⟩, List.mem_of_getElem? (i := 1510) (by decide +kernel), List.mem_of_getElem? (i := 2068) (by decide +kernel), List.mem_of_getElem? (i := 2069) (by decide +kernel)⟩
theorem lw_p166 : lw_okq (⟨"LastCloudModel", "wayOf", "(III)I"⟩, 53) := ⟨⟨by decide +kernel, by decide +kernel⟩, List.mem_of_getElem? (i := 1510) (by decide +kernel), List.mem_of_getElem? (i := 2072) (by decide +kernel), List.mem_of_getElem? (i := 2073) (by decide +kernel)⟩
theorem lw_p167 : lw_okq (⟨"LastCloudModel", "endsBehind", "(IIIIZ)I"⟩, 53) := ⟨⟨by decide +kernel, by decide +kernel⟩, List.mem_of_getElem? (i := 1510) (by decide +kernel), List.mem_of_getElem? (i := 2076) (by decide +kernel), List.mem_of_getElem? (i := 2077) (by decide +kernel)⟩
theorem lw_p168 : lw_okq (⟨"LastCloudModel", "startWith", "(II)I"⟩, 53) := ⟨⟨by decide +kernel, by decide +kernel⟩, List.mem_of_getElem? (i := 1510) (by decide +kernel), List.mem_of_getElem? (i := 2084) (by decide +kernel), List.mem_of_getElem? (i := 2085) (by decide +kernel)⟩
theorem lw_p169 : lw_okq (⟨"LastCloudModel", "canFly", "(II)Z"⟩, 53) := ⟨⟨by decide +kernel, by decide +kernel⟩, List.mem_of_getElem? (i := 1510) (by decide +kernel), List.mem_of_getElem? (i := 2108) (by decide +kernel), List.mem_of_getElem? (i := 2109) (by decide +kernel)⟩
theorem lw_p170 : lw_okq (⟨"LastCloudModel", "flies", "(II)V"⟩, 53) := ⟨⟨by decide +kernel, by decide +kernel⟩, List.mem_of_getElem? (i := 1510) (by decide +kernel), List.mem_of_getElem? (i := 2113) (by decide +kernel), List.mem_of_getElem? (i := 2114) (by decide +kernel)⟩
theorem lw_p171 : lw_okq (⟨"LastCloudModel", "sets", "(I)V"⟩, 53) := ⟨⟨by decide +kernel, by decide +kernel⟩, List.mem_of_getElem? (i := 1510) (by decide +kernel), List.mem_of_getElem? (i := 2117) (by decide +kernel), List.mem_of_getElem? (i := 2118) (by decide +kernel)⟩
theorem lw_p172 : lw_okq (⟨"LastCloudModel", "draw", "(I)I"⟩, 53) := ⟨⟨by decide +kernel, by decide +kernel⟩, List.mem_of_getElem? (i := 1510) (by decide +kernel), List.mem_of_getElem? (i := 2121) (by decide +kernel), List.mem_of_getElem? (i := 2122) (by decide +kernel)⟩
theorem lw_p173 : lw_okq (⟨"LastCloudModel", "does", "(J)Z"⟩, 53) := ⟨⟨by decide +kernel, by decide +kernel⟩, List.mem_of_getElem? (i := 1510) (by decide +kernel), List.mem_of_getElem? (i := 2129) (by decide +kernel), List.mem_of_getElem? (i := 2130) (by decide +kernel)⟩
theorem lw_p174 : lw_okq (⟨"LastCloudModel", "canFlyAll", "(III)Z"⟩, 53) := ⟨⟨by decide +kernel, by decide +kernel⟩, List.mem_of_getElem? (i := 1510) (by decide +kernel), List.mem_of_getElem? (i := 2156) (by decide +kernel), List.mem_of_getElem? (i := 2157) (by decide +kernel)⟩
theorem lw_p175 : lw_okq (⟨"LastCloudModel", "fliesAll", "(III)V"⟩, 53) := ⟨⟨by decide +kernel, by decide +kernel⟩, List.mem_of_getElem? (i := 1510) (by decide +kernel), List.mem_of_getElem? (i := 2161) (by decide +kernel), List.mem_of_getElem? (i := 2162) (by decide +kernel)⟩
def lw_privs_11 : List (MethodName × Nat) := [(⟨"LastCloudModel", "chanceOf", "(I)I"⟩, 53), (⟨"LastCloudModel", "hasStart", "()Z"⟩, 53), (⟨"LastCloudModel", "startWet", "()I"⟩, 53), (⟨"LastCloudModel", "startOf", "(II)I"⟩, 53), (⟨"LastCloudModel", "leaves", "(IIZI)I"⟩, 53), (⟨"LastCloudModel", "endOf", "(IIIIIZ)I"⟩, 53), (⟨"LastCloudModel", "wayOf", "(III)I"⟩, 53), (⟨"LastCloudModel", "endsBehind", "(IIIIZ)I"⟩, 53), (⟨"LastCloudModel", "startWith", "(II)I"⟩, 53), (⟨"LastCloudModel", "canFly", "(II)Z"⟩, 53), (⟨"LastCloudModel", "flies", "(II)V"⟩, 53), (⟨"LastCloudModel", "sets", "(I)V"⟩, 53), (⟨"LastCloudModel", "draw", "(I)I"⟩, 53), (⟨"LastCloudModel", "does", "(J)Z"⟩, 53), (⟨"LastCloudModel", "canFlyAll", "(III)Z"⟩, 53), (⟨"LastCloudModel", "fliesAll", "(III)V"⟩, 53)]
theorem lw_r11 : ∀ q ∈ lw_privs_11, lw_okq q := List.forall_mem_cons.mpr ⟨lw_p160, List.forall_mem_cons.mpr ⟨lw_p161, List.forall_mem_cons.mpr ⟨lw_p162, List.forall_mem_cons.mpr ⟨lw_p163, List.forall_mem_cons.mpr ⟨lw_p164, List.forall_mem_cons.mpr ⟨lw_p165, List.forall_mem_cons.mpr ⟨lw_p166, List.forall_mem_cons.mpr ⟨lw_p167, List.forall_mem_cons.mpr ⟨lw_p168, List.forall_mem_cons.mpr ⟨lw_p169, List.forall_mem_cons.mpr ⟨lw_p170, List.forall_mem_cons.mpr ⟨lw_p171, List.forall_mem_cons.mpr ⟨lw_p172, List.forall_mem_cons.mpr ⟨lw_p173, List.forall_mem_cons.mpr ⟨lw_p174, List.forall_mem_cons.mpr ⟨lw_p175, fun _ h => absurd h List.not_mem_nil⟩⟩⟩⟩⟩⟩⟩⟩⟩⟩⟩⟩⟩⟩⟩⟩
theorem lw_p176 : lw_okq (⟨"LastCloudModel", "liftSet", "()I"⟩, 53) := ⟨⟨by decide +kernel, by decide +kernel⟩, List.mem_of_getElem? (i := 1510) (by decide +kernel), List.mem_of_getElem? (i := 2177) (by decide +kernel), List.mem_of_getElem? (i := 2178) (by decide +kernel)⟩
theorem lw_p177 : lw_okq (⟨"LastCloudModel", "soonBy", "(I)I"⟩, 53) := ⟨⟨by decide +kernel, by decide +kernel⟩, List.mem_of_getElem? (i := 1510) (by decide +kernel), List.mem_of_getElem? (i := 2181) (by decide +kernel), List.mem_of_getElem? (i := 2182) (by decide +kernel)⟩
theorem lw_p178 : lw_okq (⟨"LastCloudModel", "reckons", "(I)V"⟩, 53) := ⟨⟨by decide +kernel, by decide +kernel⟩, List.mem_of_getElem? (i := 1510) (by decide +kernel), List.mem_of_getElem? (i := 2185) (by decide +kernel), List.mem_of_getElem? (i := 2186) (by decide +kernel)⟩
theorem lw_p179 : lw_okq (⟨"LastCloudModel", "isIn", "(IIIII)Z"⟩, 53) := ⟨⟨by decide +kernel, by decide +kernel⟩, List.mem_of_getElem? (i := 1510) (by decide +kernel), List.mem_of_getElem? (i := 2192) (by decide +kernel), List.mem_of_getElem? (i := 2193) (by decide +kernel)⟩
theorem lw_p180 : lw_okq (⟨"LastCloudModel", "climbsIn", "(IIIII)Z"⟩, 53) := ⟨⟨by decide +kernel, by decide +kernel⟩, List.mem_of_getElem? (i := 1510) (by decide +kernel), List.mem_of_getElem? (i := 2196) (by decide +kernel), List.mem_of_getElem? (i := 2197) (by decide +kernel)⟩
theorem lw_p181 : lw_okq (⟨"LastCloudModel", "goesIn", "(IIII)Z"⟩, 53) := ⟨⟨by decide +kernel, by decide +kernel⟩, List.mem_of_getElem? (i := 1510) (by decide +kernel), List.mem_of_getElem? (i := 2200) (by decide +kernel), List.mem_of_getElem? (i := 2201) (by decide +kernel)⟩
def lw_privs_12 : List (MethodName × Nat) := [(⟨"LastCloudModel", "liftSet", "()I"⟩, 53), (⟨"LastCloudModel", "soonBy", "(I)I"⟩, 53), (⟨"LastCloudModel", "reckons", "(I)V"⟩, 53), (⟨"LastCloudModel", "isIn", "(IIIII)Z"⟩, 53), (⟨"LastCloudModel", "climbsIn", "(IIIII)Z"⟩, 53), (⟨"LastCloudModel", "goesIn", "(IIII)Z"⟩, 53)]
theorem lw_r12 : ∀ q ∈ lw_privs_12, lw_okq q := List.forall_mem_cons.mpr ⟨lw_p176, List.forall_mem_cons.mpr ⟨lw_p177, List.forall_mem_cons.mpr ⟨lw_p178, List.forall_mem_cons.mpr ⟨lw_p179, List.forall_mem_cons.mpr ⟨lw_p180, List.forall_mem_cons.mpr ⟨lw_p181, fun _ h => absurd h List.not_mem_nil⟩⟩⟩⟩⟩⟩
def lw_privs : List (MethodName × Nat) := lw_privs_1 ++ (lw_privs_2 ++ (lw_privs_3 ++ (lw_privs_4 ++ (lw_privs_5 ++ (lw_privs_6 ++ (lw_privs_7 ++ (lw_privs_8 ++ (lw_privs_9 ++ (lw_privs_10 ++ (lw_privs_11 ++ (lw_privs_12)))))))))))
def lw_tbl : List Cond := k2_sels lw_privs ++ tables_1
theorem lw_privs_ok : ∀ q ∈ lw_privs, lw_okq q := by
  show ∀ q ∈ lw_privs_1 ++ (lw_privs_2 ++ (lw_privs_3 ++ (lw_privs_4 ++ (lw_privs_5 ++ (lw_privs_6 ++ (lw_privs_7 ++ (lw_privs_8 ++ (lw_privs_9 ++ (lw_privs_10 ++ (lw_privs_11 ++ (lw_privs_12))))))))))), lw_okq q
  exact List.forall_mem_append.mpr ⟨lw_r1, List.forall_mem_append.mpr ⟨lw_r2, List.forall_mem_append.mpr ⟨lw_r3, List.forall_mem_append.mpr ⟨lw_r4, List.forall_mem_append.mpr ⟨lw_r5, List.forall_mem_append.mpr ⟨lw_r6, List.forall_mem_append.mpr ⟨lw_r7, List.forall_mem_append.mpr ⟨lw_r8, List.forall_mem_append.mpr ⟨lw_r9, List.forall_mem_append.mpr ⟨lw_r10, List.forall_mem_append.mpr ⟨lw_r11, lw_r12⟩⟩⟩⟩⟩⟩⟩⟩⟩⟩⟩

def RX0 : String := "LastCloud$Flight"
def TX0 : u_T := fun k => match k with
  | 0 => ("LastCloud$Flight", "deeds", "[I", true)
  | 1 => ("LastCloud$Flight", "places", "[I", true)
  | 2 => ("LastCloud$Flight", "heights", "[I", true)
  | 3 => ("LastCloud$Flight", "times", "[I", true)
  | 4 => ("LastCloud$Flight", "lifts", "[Z", true)
  | 5 => ("LastCloud$Flight", "chances", "[I", true)
  | 6 => ("LastCloud$Flight", "count", "I", false)
  | 7 => ("LastCloud$Flight", "sky", "LLastCloud$Sky;", false)
  | 8 => ("LastCloud$Flight", "drawn", "J", false)
  | 9 => ("LastCloud$Flight", "allLifts", "Z", false)
  | 10 => ("LastCloud$Flight", "place", "I", false)
  | 11 => ("LastCloud$Flight", "height", "I", false)
  | 12 => ("LastCloud$Flight", "period", "I", false)
  | 13 => ("LastCloud$Flight", "lift", "Z", false)
  | 14 => ("LastCloud$Flight", "wet", "Z", false)
  | 15 => ("LastCloud$Flight", "ended", "Z", false)
  | 16 => ("LastCloud$Flight", "endKind", "I", false)
  | _ => ("LastCloud$Flight", "endWorth", "I", false)
def tyX0 : Nat → FieldType := fun k => match k with
  | 0 => .array .int
  | 1 => .array .int
  | 2 => .array .int
  | 3 => .array .int
  | 4 => .array .boolean
  | 5 => .array .int
  | 6 => .int
  | 7 => .object "LastCloud$Sky"
  | 8 => .long
  | 9 => .boolean
  | 10 => .int
  | 11 => .int
  | 12 => .int
  | 13 => .boolean
  | 14 => .boolean
  | 15 => .boolean
  | 16 => .int
  | _ => .int
theorem nmX0 : ∀ a, a < 18 → ∀ b, b < 18 → a ≠ b → (TX0 a).2.1 ≠ (TX0 b).2.1 := by decide +kernel
theorem tyX0_ok : ∀ k, k < 18 → parseFieldDescriptor (TX0 k).2.2.1 = some (tyX0 k) := by decide +kernel
def RX1 : String := "LastCloud$Hops"
def TX1 : u_T := fun k => match k with
  | 0 => ("LastCloud$Hops", "firsts", "[I", true)
  | 1 => ("LastCloud$Hops", "tos", "[I", true)
  | 2 => ("LastCloud$Hops", "takes", "[I", true)
  | 3 => ("LastCloud$Hops", "losses", "[I", true)
  | 4 => ("LastCloud$Hops", "leasts", "[I", true)
  | 5 => ("LastCloud$Hops", "deeds", "[I", true)
  | 6 => ("LastCloud$Hops", "count", "I", false)
  | 7 => ("LastCloud$Hops", "edges", "[I", true)
  | 8 => ("LastCloud$Hops", "heights", "[I", true)
  | _ => ("LastCloud$Hops", "endings", "[I", true)
def tyX1 : Nat → FieldType := fun k => match k with
  | 0 => .array .int
  | 1 => .array .int
  | 2 => .array .int
  | 3 => .array .int
  | 4 => .array .int
  | 5 => .array .int
  | 6 => .int
  | 7 => .array .int
  | 8 => .array .int
  | _ => .array .int
theorem nmX1 : ∀ a, a < 10 → ∀ b, b < 10 → a ≠ b → (TX1 a).2.1 ≠ (TX1 b).2.1 := by decide +kernel
theorem tyX1_ok : ∀ k, k < 10 → parseFieldDescriptor (TX1 k).2.2.1 = some (tyX1 k) := by decide +kernel
def RX2 : String := "LastCloud$Leg"
def TX2 : u_T := fun k => match k with
  | 0 => ("LastCloud$Leg", "first", "I", false)
  | 1 => ("LastCloud$Leg", "second", "I", false)
  | 2 => ("LastCloud$Leg", "miles", "I", false)
  | 3 => ("LastCloud$Leg", "air", "I", false)
  | 4 => ("LastCloud$Leg", "wind", "I", false)
  | _ => ("LastCloud$Leg", "hill", "I", false)
def tyX2 : Nat → FieldType := fun k => match k with
  | 0 => .int
  | 1 => .int
  | 2 => .int
  | 3 => .int
  | 4 => .int
  | _ => .int
theorem nmX2 : ∀ a, a < 6 → ∀ b, b < 6 → a ≠ b → (TX2 a).2.1 ≠ (TX2 b).2.1 := by decide +kernel
theorem tyX2_ok : ∀ k, k < 6 → parseFieldDescriptor (TX2 k).2.2.1 = some (tyX2 k) := by decide +kernel
def RX3 : String := "LastCloud$Outcomes"
def TX3 : u_T := fun k => match k with
  | 0 => ("LastCloud$Outcomes", "reached", "[B", true)
  | 1 => ("LastCloud$Outcomes", "least", "I", false)
  | 2 => ("LastCloud$Outcomes", "greatest", "I", false)
  | 3 => ("LastCloud$Outcomes", "plan", "LLastCloud$Plan;", false)
  | _ => ("LastCloud$Outcomes", "sky", "LLastCloud$Sky;", false)
def tyX3 : Nat → FieldType := fun k => match k with
  | 0 => .array .byte
  | 1 => .int
  | 2 => .int
  | 3 => .object "LastCloud$Plan"
  | _ => .object "LastCloud$Sky"
theorem nmX3 : ∀ a, a < 5 → ∀ b, b < 5 → a ≠ b → (TX3 a).2.1 ≠ (TX3 b).2.1 := by decide +kernel
theorem tyX3_ok : ∀ k, k < 5 → parseFieldDescriptor (TX3 k).2.2.1 = some (tyX3 k) := by decide +kernel
def RX4 : String := "LastCloud$Place"
def TX4 : u_T := fun k => match k with
  | 0 => ("LastCloud$Place", "ground", "I", false)
  | 1 => ("LastCloud$Place", "field", "I", false)
  | 2 => ("LastCloud$Place", "hasLift", "Z", false)
  | 3 => ("LastCloud$Place", "chance", "I", false)
  | 4 => ("LastCloud$Place", "up", "I", false)
  | 5 => ("LastCloud$Place", "signThere", "I", false)
  | _ => ("LastCloud$Place", "signGone", "I", false)
def tyX4 : Nat → FieldType := fun k => match k with
  | 0 => .int
  | 1 => .int
  | 2 => .boolean
  | 3 => .int
  | 4 => .int
  | 5 => .int
  | _ => .int
theorem nmX4 : ∀ a, a < 7 → ∀ b, b < 7 → a ≠ b → (TX4 a).2.1 ≠ (TX4 b).2.1 := by decide +kernel
theorem tyX4_ok : ∀ k, k < 7 → parseFieldDescriptor (TX4 k).2.2.1 = some (tyX4 k) := by decide +kernel
def RX5 : String := "LastCloud$Plan"
def TX5 : u_T := fun k => match k with
  | 0 => ("LastCloud$Plan", "worthThere", "[I", true)
  | 1 => ("LastCloud$Plan", "worthGone", "[I", true)
  | 2 => ("LastCloud$Plan", "worthMixed", "[I", true)
  | 3 => ("LastCloud$Plan", "doneThere", "[I", true)
  | 4 => ("LastCloud$Plan", "doneGone", "[I", true)
  | 5 => ("LastCloud$Plan", "leasts", "[I", true)
  | 6 => ("LastCloud$Plan", "chances", "[I", true)
  | 7 => ("LastCloud$Plan", "winsDry", "[I", true)
  | 8 => ("LastCloud$Plan", "winsWet", "[I", true)
  | 9 => ("LastCloud$Plan", "begun", "Z", false)
  | 10 => ("LastCloud$Plan", "sky", "LLastCloud$Sky;", false)
  | 11 => ("LastCloud$Plan", "hops", "LLastCloud$Hops;", false)
  | 12 => ("LastCloud$Plan", "rule", "I", false)
  | 13 => ("LastCloud$Plan", "dryFrom", "I", false)
  | _ => ("LastCloud$Plan", "wetFrom", "I", false)
def tyX5 : Nat → FieldType := fun k => match k with
  | 0 => .array .int
  | 1 => .array .int
  | 2 => .array .int
  | 3 => .array .int
  | 4 => .array .int
  | 5 => .array .int
  | 6 => .array .int
  | 7 => .array .int
  | 8 => .array .int
  | 9 => .boolean
  | 10 => .object "LastCloud$Sky"
  | 11 => .object "LastCloud$Hops"
  | 12 => .int
  | 13 => .int
  | _ => .int
theorem nmX5 : ∀ a, a < 15 → ∀ b, b < 15 → a ≠ b → (TX5 a).2.1 ≠ (TX5 b).2.1 := by decide +kernel
theorem tyX5_ok : ∀ k, k < 15 → parseFieldDescriptor (TX5 k).2.2.1 = some (tyX5 k) := by decide +kernel
def RX6 : String := "LastCloud$Polar"
def TX6 : u_T := fun k => match k with
  | 0 => ("LastCloud$Polar", "count", "I", false)
  | 1 => ("LastCloud$Polar", "speeds", "[I", true)
  | _ => ("LastCloud$Polar", "sinks", "[I", true)
def tyX6 : Nat → FieldType := fun k => match k with
  | 0 => .int
  | 1 => .array .int
  | _ => .array .int
theorem nmX6 : ∀ a, a < 3 → ∀ b, b < 3 → a ≠ b → (TX6 a).2.1 ≠ (TX6 b).2.1 := by decide +kernel
theorem tyX6_ok : ∀ k, k < 3 → parseFieldDescriptor (TX6 k).2.2.1 = some (tyX6 k) := by decide +kernel
def RX7 : String := "LastCloud$Reader"
def TX7 : u_T := fun k => match k with
  | 0 => ("LastCloud$Reader", "text", "[B", true)
  | 1 => ("LastCloud$Reader", "kinds", "[I", true)
  | 2 => ("LastCloud$Reader", "froms", "[I", true)
  | 3 => ("LastCloud$Reader", "behinds", "[I", true)
  | 4 => ("LastCloud$Reader", "tokenCount", "I", false)
  | 5 => ("LastCloud$Reader", "at", "I", false)
  | 6 => ("LastCloud$Reader", "fault", "I", false)
  | 7 => ("LastCloud$Reader", "faultPlace", "I", false)
  | 8 => ("LastCloud$Reader", "toldOnce", "I", false)
  | _ => ("LastCloud$Reader", "sky", "LLastCloud$Sky;", false)
def tyX7 : Nat → FieldType := fun k => match k with
  | 0 => .array .byte
  | 1 => .array .int
  | 2 => .array .int
  | 3 => .array .int
  | 4 => .int
  | 5 => .int
  | 6 => .int
  | 7 => .int
  | 8 => .int
  | _ => .object "LastCloud$Sky"
theorem nmX7 : ∀ a, a < 10 → ∀ b, b < 10 → a ≠ b → (TX7 a).2.1 ≠ (TX7 b).2.1 := by decide +kernel
theorem tyX7_ok : ∀ k, k < 10 → parseFieldDescriptor (TX7 k).2.2.1 = some (tyX7 k) := by decide +kernel
def RX8 : String := "LastCloud$Route"
def TX8 : u_T := fun k => match k with
  | 0 => ("LastCloud$Route", "leasts", "[I", true)
  | 1 => ("LastCloud$Route", "pointBits", "[I", true)
  | 2 => ("LastCloud$Route", "wins", "[I", true)
  | 3 => ("LastCloud$Route", "way", "[I", true)
  | 4 => ("LastCloud$Route", "wayCount", "I", false)
  | 5 => ("LastCloud$Route", "allPoints", "I", false)
  | 6 => ("LastCloud$Route", "wet", "Z", false)
  | 7 => ("LastCloud$Route", "sky", "LLastCloud$Sky;", false)
  | _ => ("LastCloud$Route", "hops", "LLastCloud$Hops;", false)
def tyX8 : Nat → FieldType := fun k => match k with
  | 0 => .array .int
  | 1 => .array .int
  | 2 => .array .int
  | 3 => .array .int
  | 4 => .int
  | 5 => .int
  | 6 => .boolean
  | 7 => .object "LastCloud$Sky"
  | _ => .object "LastCloud$Hops"
theorem nmX8 : ∀ a, a < 9 → ∀ b, b < 9 → a ≠ b → (TX8 a).2.1 ≠ (TX8 b).2.1 := by decide +kernel
theorem tyX8_ok : ∀ k, k < 9 → parseFieldDescriptor (TX8 k).2.2.1 = some (tyX8 k) := by decide +kernel
def RX9 : String := "LastCloud$Sights"
def TX9 : u_T := fun k => match k with
  | 0 => ("LastCloud$Sights", "count", "I", false)
  | 1 => ("LastCloud$Sights", "places", "[I", true)
  | _ => ("LastCloud$Sights", "sorts", "[I", true)
def tyX9 : Nat → FieldType := fun k => match k with
  | 0 => .int
  | 1 => .array .int
  | _ => .array .int
theorem nmX9 : ∀ a, a < 3 → ∀ b, b < 3 → a ≠ b → (TX9 a).2.1 ≠ (TX9 b).2.1 := by decide +kernel
theorem tyX9_ok : ∀ k, k < 3 → parseFieldDescriptor (TX9 k).2.2.1 = some (tyX9 k) := by decide +kernel
def RX10 : String := "LastCloud$Sky"
def TX10 : u_T := fun k => match k with
  | 0 => ("LastCloud$Sky", "places", "[LLastCloud$Place;", true)
  | 1 => ("LastCloud$Sky", "legs", "[LLastCloud$Leg;", true)
  | 2 => ("LastCloud$Sky", "polar", "LLastCloud$Polar;", true)
  | 3 => ("LastCloud$Sky", "sights", "LLastCloud$Sights;", true)
  | 4 => ("LastCloud$Sky", "placeCount", "I", false)
  | 5 => ("LastCloud$Sky", "legCount", "I", false)
  | 6 => ("LastCloud$Sky", "lineCount", "I", false)
  | 7 => ("LastCloud$Sky", "turn", "I", false)
  | 8 => ("LastCloud$Sky", "water", "I", false)
  | 9 => ("LastCloud$Sky", "ceiling", "I", false)
  | 10 => ("LastCloud$Sky", "lastPeriod", "I", false)
  | 11 => ("LastCloud$Sky", "worthHome", "I", false)
  | 12 => ("LastCloud$Sky", "worthPeriod", "I", false)
  | 13 => ("LastCloud$Sky", "worthOut", "I", false)
  | 14 => ("LastCloud$Sky", "homePlace", "I", false)
  | 15 => ("LastCloud$Sky", "startPlace", "I", false)
  | 16 => ("LastCloud$Sky", "startHeight", "I", false)
  | 17 => ("LastCloud$Sky", "startWet", "Z", false)
  | _ => ("LastCloud$Sky", "pointBits", "I", false)
def tyX10 : Nat → FieldType := fun k => match k with
  | 0 => .array (.object "LastCloud$Place")
  | 1 => .array (.object "LastCloud$Leg")
  | 2 => .object "LastCloud$Polar"
  | 3 => .object "LastCloud$Sights"
  | 4 => .int
  | 5 => .int
  | 6 => .int
  | 7 => .int
  | 8 => .int
  | 9 => .int
  | 10 => .int
  | 11 => .int
  | 12 => .int
  | 13 => .int
  | 14 => .int
  | 15 => .int
  | 16 => .int
  | 17 => .boolean
  | _ => .int
theorem nmX10 : ∀ a, a < 19 → ∀ b, b < 19 → a ≠ b → (TX10 a).2.1 ≠ (TX10 b).2.1 := by decide +kernel
theorem tyX10_ok : ∀ k, k < 19 → parseFieldDescriptor (TX10 k).2.2.1 = some (tyX10 k) := by decide +kernel
def RX11 : String := "LastCloud"
def TX11 : u_T := fun k => match k with
  | 0 => ("LastCloud", "tape", "[B", true)
  | 1 => ("LastCloud", "tapeSize", "I", false)
  | 2 => ("LastCloud", "reader", "LLastCloud$Reader;", true)
  | 3 => ("LastCloud", "faultKind", "I", false)
  | 4 => ("LastCloud", "faultPlace", "I", false)
  | 5 => ("LastCloud", "now", "LLastCloud$Sky;", false)
  | 6 => ("LastCloud", "draft", "LLastCloud$Sky;", false)
  | 7 => ("LastCloud", "images", "[LLastCloud$Sky;", true)
  | 8 => ("LastCloud", "kept", "[Z", true)
  | 9 => ("LastCloud", "hops", "LLastCloud$Hops;", true)
  | 10 => ("LastCloud", "plans", "[LLastCloud$Plan;", true)
  | 11 => ("LastCloud", "outcomes", "LLastCloud$Outcomes;", true)
  | 12 => ("LastCloud", "latest", "LLastCloud$Flight;", true)
  | 13 => ("LastCloud", "other", "LLastCloud$Flight;", true)
  | 14 => ("LastCloud", "route", "LLastCloud$Route;", true)
  | 15 => ("LastCloud", "rows", "[[J", true)
  | 16 => ("LastCloud", "rowSizes", "[I", true)
  | _ => ("LastCloud", "rowWidths", "[I", true)
def tyX11 : Nat → FieldType := fun k => match k with
  | 0 => .array .byte
  | 1 => .int
  | 2 => .object "LastCloud$Reader"
  | 3 => .int
  | 4 => .int
  | 5 => .object "LastCloud$Sky"
  | 6 => .object "LastCloud$Sky"
  | 7 => .array (.object "LastCloud$Sky")
  | 8 => .array .boolean
  | 9 => .object "LastCloud$Hops"
  | 10 => .array (.object "LastCloud$Plan")
  | 11 => .object "LastCloud$Outcomes"
  | 12 => .object "LastCloud$Flight"
  | 13 => .object "LastCloud$Flight"
  | 14 => .object "LastCloud$Route"
  | 15 => .array (.array .long)
  | 16 => .array .int
  | _ => .array .int
theorem nmX11 : ∀ a, a < 18 → ∀ b, b < 18 → a ≠ b → (TX11 a).2.1 ≠ (TX11 b).2.1 := by decide +kernel
theorem tyX11_ok : ∀ k, k < 18 → parseFieldDescriptor (TX11 k).2.2.1 = some (tyX11 k) := by decide +kernel
def RX12 : String := "LastCloudModel"
def TX12 : u_T := fun k => match k with
  | 0 => ("LastCloudModel", "thrown", "I", false)
  | 1 => ("LastCloudModel", "world", "[I", true)
  | 2 => ("LastCloudModel", "images", "[I", true)
  | 3 => ("LastCloudModel", "hasImage", "[Z", true)
  | 4 => ("LastCloudModel", "tape", "[B", true)
  | 5 => ("LastCloudModel", "taped", "I", false)
  | 6 => ("LastCloudModel", "five", "[I", true)
  | 7 => ("LastCloudModel", "size", "I", false)
  | 8 => ("LastCloudModel", "at", "I", false)
  | 9 => ("LastCloudModel", "from", "I", false)
  | 10 => ("LastCloudModel", "token", "I", false)
  | 11 => ("LastCloudModel", "value", "I", false)
  | 12 => ("LastCloudModel", "faultKind", "I", false)
  | 13 => ("LastCloudModel", "faultPlace", "I", false)
  | 14 => ("LastCloudModel", "fresh", "[I", true)
  | 15 => ("LastCloudModel", "homeTold", "Z", false)
  | 16 => ("LastCloudModel", "triedPlace", "I", false)
  | 17 => ("LastCloudModel", "triedChance", "I", false)
  | 18 => ("LastCloudModel", "upPlace", "I", false)
  | 19 => ("LastCloudModel", "upTried", "I", false)
  | 20 => ("LastCloudModel", "wayMany", "[I", true)
  | 21 => ("LastCloudModel", "ways", "[I", true)
  | 22 => ("LastCloudModel", "waysLaid", "Z", false)
  | 23 => ("LastCloudModel", "highest", "[I", true)
  | 24 => ("LastCloudModel", "landable", "[I", true)
  | 25 => ("LastCloudModel", "streets", "[Z", true)
  | 26 => ("LastCloudModel", "worths", "[I", true)
  | 27 => ("LastCloudModel", "deeds", "[I", true)
  | 28 => ("LastCloudModel", "homes", "[I", true)
  | 29 => ("LastCloudModel", "solved", "I", false)
  | 30 => ("LastCloudModel", "fastTo", "[I", true)
  | 31 => ("LastCloudModel", "ends", "[I", true)
  | 32 => ("LastCloudModel", "drawn", "J", false)
  | 33 => ("LastCloudModel", "here", "I", false)
  | 34 => ("LastCloudModel", "high", "I", false)
  | 35 => ("LastCloudModel", "now", "I", false)
  | 36 => ("LastCloudModel", "lifted", "I", false)
  | 37 => ("LastCloudModel", "watered", "I", false)
  | 38 => ("LastCloudModel", "flownMany", "I", false)
  | 39 => ("LastCloudModel", "flights", "[I", true)
  | 40 => ("LastCloudModel", "toldMany", "I", false)
  | 41 => ("LastCloudModel", "toldFlight", "[I", true)
  | 42 => ("LastCloudModel", "toldEnd", "[I", true)
  | 43 => ("LastCloudModel", "homeMany", "I", false)
  | 44 => ("LastCloudModel", "worthSum", "I", false)
  | 45 => ("LastCloudModel", "spreads", "[I", true)
  | 46 => ("LastCloudModel", "left", "[I", true)
  | 47 => ("LastCloudModel", "pointBit", "[I", true)
  | 48 => ("LastCloudModel", "allPoints", "I", false)
  | 49 => ("LastCloudModel", "many", "[I", true)
  | 50 => ("LastCloudModel", "width", "[I", true)
  | 51 => ("LastCloudModel", "numbers", "[J", true)
  | _ => ("LastCloudModel", "moving", "[J", true)
def tyX12 : Nat → FieldType := fun k => match k with
  | 0 => .int
  | 1 => .array .int
  | 2 => .array .int
  | 3 => .array .boolean
  | 4 => .array .byte
  | 5 => .int
  | 6 => .array .int
  | 7 => .int
  | 8 => .int
  | 9 => .int
  | 10 => .int
  | 11 => .int
  | 12 => .int
  | 13 => .int
  | 14 => .array .int
  | 15 => .boolean
  | 16 => .int
  | 17 => .int
  | 18 => .int
  | 19 => .int
  | 20 => .array .int
  | 21 => .array .int
  | 22 => .boolean
  | 23 => .array .int
  | 24 => .array .int
  | 25 => .array .boolean
  | 26 => .array .int
  | 27 => .array .int
  | 28 => .array .int
  | 29 => .int
  | 30 => .array .int
  | 31 => .array .int
  | 32 => .long
  | 33 => .int
  | 34 => .int
  | 35 => .int
  | 36 => .int
  | 37 => .int
  | 38 => .int
  | 39 => .array .int
  | 40 => .int
  | 41 => .array .int
  | 42 => .array .int
  | 43 => .int
  | 44 => .int
  | 45 => .array .int
  | 46 => .array .int
  | 47 => .array .int
  | 48 => .int
  | 49 => .array .int
  | 50 => .array .int
  | 51 => .array .long
  | _ => .array .long
theorem nmX12 : ∀ a, a < 53 → ∀ b, b < 53 → a ≠ b → (TX12 a).2.1 ≠ (TX12 b).2.1 := by decide +kernel
theorem tyX12_ok : ∀ k, k < 53 → parseFieldDescriptor (TX12 k).2.2.1 = some (tyX12 k) := by decide +kernel
def RL : String := "LastCloudLaw"
abbrev vwCl : List vw_C := [(RX0, TX0, 18), (RX1, TX1, 10), (RX2, TX2, 6), (RX3, TX3, 5), (RX4, TX4, 7), (RX5, TX5, 15), (RX6, TX6, 3), (RX7, TX7, 10), (RX8, TX8, 9), (RX9, TX9, 3), (RX10, TX10, 19), (RX11, TX11, 18), (RX12, TX12, 53)]
theorem x_mem {big ws : List Cond} (ps : List Nat) (hp : ws = ps.filterMap (fun i => big[i]?)) : ∀ w ∈ ws, w ∈ big := by
  intro w hw
  rw [hp] at hw
  obtain ⟨i, -, hi⟩ := List.mem_filterMap.mp hw
  exact List.mem_of_getElem? hi
theorem x_in {w : Cond} (h : w ∈ tables_1) : w ∈ lw_tbl := List.mem_append_right _ h
theorem inX0 : ∀ w ∈ u_ws RX0 TX0 18, w ∈ tables_1 := x_mem [450, 452, 454, 456, 458, 460, 462, 464, 466, 468, 470, 472, 474, 476, 478, 480, 482, 484] (by decide +kernel)
theorem inX1 : ∀ w ∈ u_ws RX1 TX1 10, w ∈ tables_1 := x_mem [372, 374, 376, 378, 380, 382, 384, 386, 388, 390] (by decide +kernel)
theorem inX2 : ∀ w ∈ u_ws RX2 TX2 6, w ∈ tables_1 := x_mem [199, 201, 203, 205, 207, 209] (by decide +kernel)
theorem inX3 : ∀ w ∈ u_ws RX3 TX3 5, w ∈ tables_1 := x_mem [410, 412, 414, 416, 418] (by decide +kernel)
theorem inX4 : ∀ w ∈ u_ws RX4 TX4 7, w ∈ tables_1 := x_mem [156, 158, 160, 162, 164, 166, 168] (by decide +kernel)
theorem inX5 : ∀ w ∈ u_ws RX5 TX5 15, w ∈ tables_1 := x_mem [1034, 1036, 1038, 1040, 1042, 1044, 1046, 1048, 1050, 1052, 1054, 1056, 1058, 1060, 1062] (by decide +kernel)
theorem inX6 : ∀ w ∈ u_ws RX6 TX6 3, w ∈ tables_1 := x_mem [95, 97, 99] (by decide +kernel)
theorem inX7 : ∀ w ∈ u_ws RX7 TX7 10, w ∈ tables_1 := x_mem [47, 49, 51, 53, 55, 57, 59, 61, 63, 65] (by decide +kernel)
theorem inX8 : ∀ w ∈ u_ws RX8 TX8 9, w ∈ tables_1 := x_mem [504, 506, 508, 510, 512, 514, 516, 518, 520] (by decide +kernel)
theorem inX9 : ∀ w ∈ u_ws RX9 TX9 3, w ∈ tables_1 := x_mem [115, 117, 119] (by decide +kernel)
theorem inX10 : ∀ w ∈ u_ws RX10 TX10 19, w ∈ tables_1 := x_mem [302, 304, 306, 308, 310, 312, 314, 316, 318, 320, 322, 324, 326, 328, 330, 332, 334, 336, 338] (by decide +kernel)
theorem inX11 : ∀ w ∈ u_ws RX11 TX11 18, w ∈ tables_1 := x_mem [594, 596, 598, 600, 602, 604, 606, 608, 610, 612, 614, 616, 618, 620, 622, 624, 626, 628] (by decide +kernel)
theorem inX12 : ∀ w ∈ u_ws RX12 TX12 53, w ∈ tables_1 := x_mem [1575, 1577, 1579, 1581, 1583, 1585, 1587, 1589, 1591, 1593, 1595, 1597, 1599, 1601, 1603, 1605, 1607, 1609, 1611, 1613, 1615, 1617, 1619, 1621, 1623, 1625, 1627, 1629, 1631, 1633, 1635, 1637, 1639, 1641, 1643, 1645, 1647, 1649, 1651, 1653, 1655, 1657, 1659, 1661, 1663, 1665, 1667, 1669, 1671, 1673, 1675, 1677, 1679] (by decide +kernel)
end
section
/-! links of the class files (own class, constant pool number, what it names), methods; each with its row of the tables -/
theorem x_memA {α : Type} {big ws : List α} (ps : List Nat) (hp : ws = ps.filterMap (fun i => big[i]?)) : ∀ w ∈ ws, w ∈ big := by
  intro w hw
  rw [hp] at hw
  obtain ⟨i, -, hi⟩ := List.mem_filterMap.mp hw
  exact List.mem_of_getElem? hi
def xOwn : List String := [RX0, RX1, RX2, RX3, RX4, RX5, RX6, RX7, RX8, RX9, RX10, RX11, RX12, RL, "java/lang/Integer", "java/util/Arrays"]
def xo (k : Nat) : String := xOwn.getD k ""
def xCl (k : Nat) : vw_C := vwCl.getD k (RX0, TX0, 0)
def xF (c k : Nat) : String × String × String × Bool := (xCl c).2.1 k
/-- the types of the fields: 0 int, 1 long, 2 a reference, 3 boolean -/
def xFTs : List (List Nat) := [[2, 2, 2, 2, 2, 2, 0, 2, 1, 3, 0, 0, 0, 3, 3, 3, 0, 0], [2, 2, 2, 2, 2, 2, 0, 2, 2, 2], [0, 0, 0, 0, 0, 0], [2, 0, 0, 2, 2], [0, 0, 3, 0, 0, 0, 0], [2, 2, 2, 2, 2, 2, 2, 2, 2, 3, 2, 2, 0, 0, 0], [0, 2, 2], [2, 2, 2, 2, 0, 0, 0, 0, 0, 2], [2, 2, 2, 2, 0, 0, 3, 2, 2], [0, 2, 2], [2, 2, 2, 2, 0, 0, 0, 0, 0, 0, 0, 0, 0, 0, 0, 0, 0, 3, 0], [2, 0, 2, 0, 0, 2, 2, 2, 2, 2, 2, 2, 2, 2, 2, 2, 2, 2], [0, 2, 2, 2, 2, 0, 2, 0, 0, 0, 0, 0, 0, 0, 2, 3, 0, 0, 0, 0, 2, 2, 3, 2, 2, 2, 2, 2, 2, 0, 2, 2, 1, 0, 0, 0, 0, 0, 0, 2, 0, 2, 2, 0, 0, 2, 2, 2, 0, 2, 2, 2, 2]]
def xFT (c k : Nat) : Nat := (xFTs.getD c []).getD k 9
def xStr : List String := ["place", "leg", "lift", "speed", "point", "turn", "water", "ceiling", "last", "worth", "start", "ground", "home", "field", "miles", "air", "down", "wind", "hill", "chance", "up", "sign", "sink", "period", "out", "at", "wet"]
def xFl : List (Nat × Nat × Nat × Nat) := [
  (0, 11, 0, 0), (0, 15, 0, 1), (0, 18, 0, 2), (0, 21, 0, 3), (0, 24, 0, 4), (0, 28, 0, 5), (0, 31, 0, 9), (0, 35, 0, 8), (0, 43, 0, 7), (0, 57, 0, 6), (0, 63, 0, 10), (0, 69, 0, 11),
  (0, 72, 0, 12), (0, 79, 0, 14), (0, 82, 0, 15), (0, 91, 0, 13), (0, 127, 0, 17), (0, 133, 0, 16), (1, 11, 1, 0), (1, 15, 1, 1), (1, 18, 1, 2), (1, 21, 1, 3), (1, 24, 1, 4), (1, 27, 1, 5),
  (1, 30, 1, 7), (1, 33, 1, 8), (1, 36, 1, 9), (1, 39, 1, 6), (2, 7, 2, 0), (2, 13, 2, 1), (2, 16, 2, 2), (2, 19, 2, 3), (2, 22, 2, 4), (2, 25, 2, 5), (3, 12, 3, 0), (3, 18, 3, 3),
  (3, 26, 3, 4), (3, 36, 3, 1), (3, 41, 3, 2), (4, 9, 4, 0), (4, 15, 4, 1), (4, 18, 4, 2), (4, 22, 4, 3), (4, 25, 4, 4), (4, 28, 4, 5), (4, 31, 4, 6), (5, 12, 5, 0), (5, 16, 5, 1),
  (5, 19, 5, 2), (5, 22, 5, 3), (5, 25, 5, 4), (5, 28, 5, 5), (5, 31, 5, 6), (5, 34, 5, 7), (5, 37, 5, 8), (5, 40, 5, 10), (5, 44, 5, 11), (5, 48, 5, 12), (5, 57, 5, 13), (5, 60, 5, 14),
  (5, 82, 5, 9), (6, 9, 6, 1), (6, 15, 6, 2), (6, 18, 6, 0), (7, 9, 7, 1), (7, 15, 7, 2), (7, 18, 7, 3), (7, 21, 7, 0), (7, 25, 7, 9), (7, 29, 7, 5), (7, 33, 7, 6), (7, 36, 7, 7),
  (7, 39, 7, 8), (7, 52, 7, 4), (8, 11, 8, 0), (8, 15, 8, 1), (8, 18, 8, 2), (8, 21, 8, 3), (8, 35, 8, 7), (8, 45, 8, 5), (8, 74, 8, 8), (8, 82, 8, 6), (8, 130, 8, 4), (9, 9, 9, 1),
  (9, 15, 9, 2), (9, 18, 9, 0), (10, 11, 10, 0), (10, 19, 10, 1), (10, 26, 10, 2), (10, 33, 10, 3), (10, 48, 10, 4), (10, 51, 10, 5), (10, 54, 10, 6), (10, 57, 10, 7), (10, 60, 10, 8), (10, 63, 10, 9),
  (10, 66, 10, 10), (10, 69, 10, 11), (10, 72, 10, 12), (10, 75, 10, 13), (10, 78, 10, 14), (10, 81, 10, 15), (10, 84, 10, 16), (10, 87, 10, 17), (10, 91, 10, 18), (11, 9, 11, 0), (11, 18, 11, 2), (11, 22, 11, 4),
  (11, 29, 11, 5), (11, 33, 11, 6), (11, 36, 11, 7), (11, 40, 11, 8), (11, 47, 11, 9), (11, 53, 11, 10), (11, 60, 11, 11), (11, 67, 11, 12), (11, 71, 11, 13), (11, 77, 11, 14), (11, 83, 11, 15), (11, 86, 11, 16),
  (11, 90, 11, 17), (11, 103, 11, 1), (11, 117, 11, 3), (12, 13, 12, 1), (12, 17, 12, 2), (12, 20, 12, 3), (12, 24, 12, 4), (12, 28, 12, 6), (12, 31, 12, 13), (12, 34, 12, 14), (12, 37, 12, 16), (12, 40, 12, 18),
  (12, 43, 12, 20), (12, 46, 12, 21), (12, 49, 12, 23), (12, 52, 12, 24), (12, 55, 12, 25), (12, 59, 12, 26), (12, 62, 12, 27), (12, 65, 12, 28), (12, 68, 12, 29), (12, 71, 12, 30), (12, 74, 12, 31), (12, 77, 12, 39),
  (12, 80, 12, 41), (12, 83, 12, 42), (12, 86, 12, 45), (12, 89, 12, 46), (12, 92, 12, 47), (12, 95, 12, 49), (12, 98, 12, 50), (12, 101, 12, 51), (12, 105, 12, 52), (12, 121, 12, 5), (12, 124, 12, 7), (12, 127, 12, 8),
  (12, 134, 12, 9), (12, 137, 12, 10), (12, 148, 12, 11), (12, 158, 12, 12), (12, 208, 12, 15), (12, 318, 12, 19), (12, 335, 12, 17), (12, 343, 12, 22), (12, 446, 12, 32), (12, 456, 12, 33), (12, 459, 12, 34), (12, 462, 12, 35),
  (12, 465, 12, 37), (12, 471, 12, 36), (12, 474, 12, 38), (12, 498, 12, 40), (12, 506, 12, 43), (12, 509, 12, 44), (12, 521, 12, 48)]
def xFn : List (Nat × Nat × Nat × Nat) := [
  (0, 47, 10, 4), (0, 60, 10, 15), (0, 66, 10, 16), (0, 118, 5, 12), (0, 130, 10, 14), (0, 167, 10, 10), (0, 176, 10, 1), (0, 180, 2, 0), (0, 185, 2, 1), (0, 195, 2, 5), (0, 198, 10, 0), (0, 201, 4, 0),
  (1, 43, 10, 4), (1, 56, 10, 5), (1, 59, 10, 1), (1, 63, 2, 0), (1, 68, 2, 1), (1, 71, 10, 2), (1, 75, 6, 0), (1, 88, 2, 5), (1, 91, 10, 0), (1, 95, 4, 0), (1, 119, 10, 9), (3, 22, 5, 10),
  (3, 50, 10, 15), (3, 53, 10, 16), (3, 64, 10, 10), (3, 71, 5, 6), (3, 75, 10, 4), (3, 78, 10, 0), (3, 82, 4, 0), (3, 87, 10, 9), (3, 98, 5, 12), (3, 125, 10, 1), (3, 129, 2, 1), (3, 134, 2, 0),
  (5, 52, 10, 10), (5, 63, 10, 4), (5, 76, 1, 0), (5, 86, 1, 1), (5, 89, 1, 7), (5, 96, 1, 4), (5, 97, 1, 3), (5, 116, 10, 15), (5, 119, 10, 16), (5, 129, 10, 0), (5, 133, 4, 0), (5, 138, 10, 9),
  (5, 152, 1, 2), (5, 165, 10, 14), (5, 177, 1, 5), (7, 64, 10, 9), (7, 67, 10, 16), (7, 70, 10, 0), (7, 74, 10, 15), (7, 77, 4, 0), (7, 119, 10, 4), (7, 125, 10, 6), (7, 156, 10, 5), (7, 159, 10, 2),
  (7, 163, 6, 0), (7, 168, 10, 18), (7, 191, 10, 7), (7, 193, 10, 8), (7, 195, 10, 10), (7, 211, 10, 14), (7, 219, 4, 1), (7, 232, 10, 1), (7, 236, 2, 0), (7, 241, 2, 1), (7, 244, 2, 2), (7, 246, 2, 3),
  (7, 248, 2, 4), (7, 250, 2, 5), (7, 264, 4, 2), (7, 268, 4, 3), (7, 270, 4, 4), (7, 272, 4, 5), (7, 275, 4, 6), (7, 284, 10, 11), (7, 289, 10, 12), (7, 294, 10, 13), (7, 300, 10, 17), (8, 39, 10, 14),
  (8, 52, 10, 0), (8, 56, 4, 0), (8, 61, 10, 15), (8, 64, 10, 10), (8, 71, 10, 16), (8, 86, 10, 4), (8, 89, 10, 18), (8, 111, 1, 0), (8, 114, 1, 2), (8, 120, 1, 4), (8, 121, 1, 3), (8, 124, 10, 9),
  (8, 127, 1, 1), (10, 43, 6, 0), (10, 47, 9, 0), (10, 111, 4, 0), (10, 114, 4, 1), (10, 117, 4, 2), (10, 120, 6, 1), (10, 124, 2, 4), (10, 131, 2, 2), (10, 138, 6, 2), (10, 141, 2, 3), (10, 144, 4, 4),
  (10, 160, 4, 3), (10, 163, 9, 1), (10, 165, 9, 2), (11, 120, 7, 7), (11, 124, 10, 6), (11, 127, 5, 9), (11, 157, 10, 3), (11, 161, 9, 0), (11, 170, 10, 0), (11, 174, 4, 3), (11, 190, 1, 8), (11, 193, 10, 4),
  (11, 199, 1, 7), (11, 213, 10, 2), (11, 277, 10, 9), (11, 280, 4, 0), (11, 283, 10, 10), (11, 286, 4, 2), (11, 303, 3, 2), (11, 306, 3, 1), (11, 319, 4, 5), (11, 322, 4, 6), (11, 328, 5, 6), (11, 334, 10, 8),
  (11, 340, 0, 15), (11, 347, 0, 12), (11, 361, 0, 6), (11, 383, 0, 16), (11, 386, 0, 17), (11, 410, 8, 4), (11, 413, 8, 3), (11, 416, 10, 5), (11, 427, 6, 0), (11, 428, 10, 15)]
def xFlC (e : Nat × Nat × Nat × Nat) : Cond := Cond.fieldLink (xo e.1) e.2.1 (xF e.2.2.1 e.2.2.2).1 (xF e.2.2.1 e.2.2.2).2.1 (xF e.2.2.1 e.2.2.2).2.2.1
def xFnC (e : Nat × Nat × Nat × Nat) : Cond := Cond.fieldLinkNest (xo e.1) e.2.1 (xF e.2.2.1 e.2.2.2).1 (xF e.2.2.1 e.2.2.2).2.1 (xF e.2.2.1 e.2.2.2).2.2.1 "LastCloud"
theorem xFl_ok : ∀ e ∈ xFl, xFlC e ∈ tables_1 := by
  have h : ∀ w ∈ xFl.map xFlC, w ∈ tables_1 := x_mem [427, 428, 429, 430, 431, 432, 437, 436, 435, 433, 438, 439, 440, 443, 444, 442, 448, 446, 348, 351, 354, 357, 360, 363, 366, 369, 371, 365, 176, 181, 186, 189, 192, 195, 403, 408, 409, 404, 406, 127, 136, 139, 143, 147, 150, 153, 1013, 1014, 1015, 1016, 1017, 1018, 1019, 1022, 1023, 1027, 1028, 1029, 1032, 1033, 1024, 91, 93, 86, 37, 38, 39, 36, 46, 41, 42, 43, 45, 40, 493, 494, 495, 496, 502, 500, 503, 501, 498, 111, 113, 108, 220, 228, 233, 237, 239, 247, 251, 254, 256, 259, 266, 273, 275, 277, 279, 285, 293, 297, 299, 576, 578, 580, 581, 582, 583, 584, 585, 586, 587, 588, 589, 590, 591, 592, 593, 577, 579, 1523, 1524, 1525, 1526, 1528, 1535, 1536, 1538, 1540, 1542, 1543, 1545, 1546, 1547, 1548, 1549, 1550, 1551, 1552, 1553, 1561, 1563, 1564, 1567, 1568, 1569, 1571, 1572, 1573, 1574, 1527, 1529, 1530, 1531, 1532, 1533, 1534, 1537, 1541, 1539, 1544, 1554, 1555, 1556, 1557, 1559, 1558, 1560, 1562, 1565, 1566, 1570] (by decide +kernel)
  exact fun e he => h _ (List.mem_map.mpr ⟨e, he, rfl⟩)
theorem xFn_ok : ∀ e ∈ xFn, xFnC e ∈ tables_1 := by
  have h : ∀ w ∈ xFn.map xFnC, w ∈ tables_1 := x_mem [243, 288, 295, 1031, 281, 270, 231, 179, 184, 197, 226, 134, 240, 248, 229, 177, 182, 234, 88, 196, 224, 131, 263, 1026, 284, 291, 267, 1020, 242, 223, 130, 261, 1030, 230, 183, 178, 268, 241, 349, 352, 367, 361, 358, 289, 296, 225, 133, 264, 356, 282, 364, 260, 292, 221, 286, 128, 245, 253, 249, 235, 89, 301, 255, 257, 271, 283, 138, 232, 180, 185, 188, 191, 194, 198, 141, 146, 149, 151, 154, 274, 276, 278, 298, 280, 222, 129, 287, 269, 294, 244, 300, 350, 355, 362, 359, 262, 353, 87, 109, 132, 137, 140, 92, 193, 187, 94, 190, 148, 145, 112, 114, 44, 252, 1025, 238, 110, 227, 144, 370, 246, 368, 236, 265, 135, 272, 142, 407, 405, 152, 155, 1021, 258, 445, 441, 434, 447, 449, 499, 497, 250, 90, 290] (by decide +kernel)
  exact fun e he => h _ (List.mem_map.mpr ⟨e, he, rfl⟩)
abbrev xMT : Type := MethodName × ByteArray × Nat × Option FieldType × Bool × Nat
def xMt_0 : List (xMT) := [
  (⟨RX0, "<init>", "()V"⟩, prog_2_method_1_code, 1, none, false, 1),
  (⟨RX0, "begin", "(LLastCloud$Sky;I)V"⟩, prog_2_method_2_code, 3, none, false, 3),
  (⟨RX0, "beginUnderAllLifts", "(LLastCloud$Sky;)V"⟩, prog_2_method_3_code, 2, none, false, 2),
  (⟨RX0, "takeOff", "(LLastCloud$Sky;)V"⟩, prog_2_method_4_code, 3, none, false, 2),
  (⟨RX0, "meetLift", "()V"⟩, prog_2_method_5_code, 1, none, false, 1),
  (⟨RX0, "draw", "(I)I"⟩, prog_2_method_6_code, 2, (some .int), false, 2),
  (⟨RX0, "follow", "(LLastCloud$Plan;LLastCloud$Sky;I)V"⟩, prog_2_method_7_code, 6, none, false, 4),
  (⟨RX0, "deedBy", "(LLastCloud$Plan;)I"⟩, prog_2_method_8_code, 2, (some .int), false, 2),
  (⟨RX0, "note", "(I)V"⟩, prog_2_method_9_code, 2, none, false, 2),
  (⟨RX0, "tryDeed", "(J)Z"⟩, prog_2_method_10_code, 4, (some .boolean), false, 2),
  (⟨RX0, "tryClimb", "()Z"⟩, prog_2_method_11_code, 2, (some .boolean), false, 1),
  (⟨RX0, "tryLeg", "(II)Z"⟩, prog_2_method_12_code, 9, (some .boolean), false, 3),
  (⟨RX0, "noted", "(II)I"⟩, prog_2_method_13_code, 3, (some .int), false, 3),
  (⟨RX0, "endOf", "(I)I"⟩, prog_2_method_14_code, 2, (some .int), false, 2),
  (⟨RX0, "spreadValue", "(I)I"⟩, prog_2_method_15_code, 2, (some .int), false, 2),
  (⟨RX1, "<init>", "()V"⟩, prog_3_method_1_code, 1, none, false, 1),
  (⟨RX1, "group", "(IZ)I"⟩, prog_3_method_2_code, 2, (some .int), true, 2),
  (⟨RX1, "build", "(LLastCloud$Sky;)V"⟩, prog_3_method_3_code, 4, none, false, 2),
  (⟨RX1, "addFrom", "(LLastCloud$Sky;IZ)V"⟩, prog_3_method_4_code, 7, none, false, 4),
  (⟨RX1, "add", "(LLastCloud$Sky;IZIZ)V"⟩, prog_3_method_5_code, 12, none, false, 6)]
set_option maxRecDepth 100000 in
theorem xMc_0 : ∀ m ∈ xMt_0, Cond.code m.1 m.2.1 m.2.2.1 m.2.2.2.1 ∈ tables_1 := List.forall_mem_cons.mpr ⟨List.mem_of_getElem? (i := 425) rfl, List.forall_mem_cons.mpr ⟨List.mem_of_getElem? (i := 1330) rfl, List.forall_mem_cons.mpr ⟨List.mem_of_getElem? (i := 1265) rfl, List.forall_mem_cons.mpr ⟨List.mem_of_getElem? (i := 1269) rfl, List.forall_mem_cons.mpr ⟨List.mem_of_getElem? (i := 1275) rfl, List.forall_mem_cons.mpr ⟨List.mem_of_getElem? (i := 1279) rfl, List.forall_mem_cons.mpr ⟨List.mem_of_getElem? (i := 1326) rfl, List.forall_mem_cons.mpr ⟨List.mem_of_getElem? (i := 1287) rfl, List.forall_mem_cons.mpr ⟨List.mem_of_getElem? (i := 1335) rfl, List.forall_mem_cons.mpr ⟨List.mem_of_getElem? (i := 1293) rfl, List.forall_mem_cons.mpr ⟨List.mem_of_getElem? (i := 1298) rfl, List.forall_mem_cons.mpr ⟨List.mem_of_getElem? (i := 1306) rfl, List.forall_mem_cons.mpr ⟨List.mem_of_getElem? (i := 1346) rfl, List.forall_mem_cons.mpr ⟨List.mem_of_getElem? (i := 1354) rfl, List.forall_mem_cons.mpr ⟨List.mem_of_getElem? (i := 1382) rfl, List.forall_mem_cons.mpr ⟨List.mem_of_getElem? (i := 346) rfl, List.forall_mem_cons.mpr ⟨List.mem_of_getElem? (i := 563) rfl, List.forall_mem_cons.mpr ⟨List.mem_of_getElem? (i := 531) rfl, List.forall_mem_cons.mpr ⟨List.mem_of_getElem? (i := 535) rfl, List.forall_mem_cons.mpr ⟨List.mem_of_getElem? (i := 539) rfl, fun _ h => absurd h List.not_mem_nil⟩⟩⟩⟩⟩⟩⟩⟩⟩⟩⟩⟩⟩⟩⟩⟩⟩⟩⟩⟩
def xMt_1 : List (xMT) := [
  (⟨RX1, "speedOf", "(I)I"⟩, prog_3_method_6_code, 2, (some .int), false, 2),
  (⟨RX1, "findEdges", "(LLastCloud$Sky;Z)V"⟩, prog_3_method_7_code, 8, none, false, 3),
  (⟨RX1, "leastByHop", "(LLastCloud$Sky;I)I"⟩, prog_3_method_8_code, 8, (some .int), false, 3),
  (⟨RX1, "glide", "(LLastCloud$Sky;IIZ)V"⟩, prog_3_method_9_code, 8, none, false, 5),
  (⟨RX1, "raiseFrom", "(LLastCloud$Sky;II)Z"⟩, prog_3_method_10_code, 7, (some .boolean), false, 4),
  (⟨RX1, "longestStreet", "(LLastCloud$Sky;)I"⟩, prog_3_method_11_code, 5, (some .int), false, 2),
  (⟨RX1, "growStreets", "(II)V"⟩, prog_3_method_12_code, 5, none, false, 3),
  (⟨RX2, "<init>", "()V"⟩, prog_4_method_1_code, 1, none, false, 1),
  (⟨RX2, "copyFrom", "(LLastCloud$Leg;)V"⟩, prog_4_method_2_code, 2, none, false, 2),
  (⟨RX3, "<init>", "()V"⟩, prog_5_method_1_code, 1, none, false, 1),
  (⟨RX3, "spreadFromStart", "(LLastCloud$Plan;)V"⟩, prog_5_method_2_code, 3, none, false, 2),
  (⟨RX3, "arrive", "(II)V"⟩, prog_5_method_3_code, 3, none, false, 3),
  (⟨RX3, "spreadFrom", "(IZ)V"⟩, prog_5_method_4_code, 6, none, false, 3),
  (⟨RX3, "follow", "(IZIIZ)V"⟩, prog_5_method_5_code, 8, none, false, 6),
  (⟨RX3, "followLeg", "(IIZII)V"⟩, prog_5_method_6_code, 12, none, false, 6),
  (⟨RX4, "<init>", "()V"⟩, prog_6_method_1_code, 1, none, false, 1),
  (⟨RX4, "clear", "()V"⟩, prog_6_method_2_code, 1, none, false, 1),
  (⟨RX4, "copyFrom", "(LLastCloud$Place;)V"⟩, prog_6_method_3_code, 2, none, false, 2),
  (⟨RX4, "afterSight", "(II)I"⟩, prog_6_method_4_code, 4, (some .int), false, 3),
  (⟨RX4, "bySign", "(IZI)I"⟩, prog_6_method_5_code, 6, (some .int), false, 4)]
set_option maxRecDepth 100000 in
theorem xMc_1 : ∀ m ∈ xMt_1, Cond.code m.1 m.2.1 m.2.2.1 m.2.2.2.1 ∈ tables_1 := List.forall_mem_cons.mpr ⟨List.mem_of_getElem? (i := 1081) rfl, List.forall_mem_cons.mpr ⟨List.mem_of_getElem? (i := 560) rfl, List.forall_mem_cons.mpr ⟨List.mem_of_getElem? (i := 572) rfl, List.forall_mem_cons.mpr ⟨List.mem_of_getElem? (i := 922) rfl, List.forall_mem_cons.mpr ⟨List.mem_of_getElem? (i := 927) rfl, List.forall_mem_cons.mpr ⟨List.mem_of_getElem? (i := 955) rfl, List.forall_mem_cons.mpr ⟨List.mem_of_getElem? (i := 964) rfl, List.forall_mem_cons.mpr ⟨List.mem_of_getElem? (i := 174) rfl, List.forall_mem_cons.mpr ⟨List.mem_of_getElem? (i := 1470) rfl, List.forall_mem_cons.mpr ⟨List.mem_of_getElem? (i := 400) rfl, List.forall_mem_cons.mpr ⟨List.mem_of_getElem? (i := 1196) rfl, List.forall_mem_cons.mpr ⟨List.mem_of_getElem? (i := 1207) rfl, List.forall_mem_cons.mpr ⟨List.mem_of_getElem? (i := 1211) rfl, List.forall_mem_cons.mpr ⟨List.mem_of_getElem? (i := 1215) rfl, List.forall_mem_cons.mpr ⟨List.mem_of_getElem? (i := 1225) rfl, List.forall_mem_cons.mpr ⟨List.mem_of_getElem? (i := 125) rfl, List.forall_mem_cons.mpr ⟨List.mem_of_getElem? (i := 219) rfl, List.forall_mem_cons.mpr ⟨List.mem_of_getElem? (i := 1466) rfl, List.forall_mem_cons.mpr ⟨List.mem_of_getElem? (i := 889) rfl, List.forall_mem_cons.mpr ⟨List.mem_of_getElem? (i := 893) rfl, fun _ h => absurd h List.not_mem_nil⟩⟩⟩⟩⟩⟩⟩⟩⟩⟩⟩⟩⟩⟩⟩⟩⟩⟩⟩⟩
def xMt_2 : List (xMT) := [
  (⟨RX5, "<init>", "()V"⟩, prog_7_method_1_code, 1, none, false, 1),
  (⟨RX5, "spot", "(IZII)I"⟩, prog_7_method_2_code, 4, (some .int), true, 4),
  (⟨RX5, "begin", "(LLastCloud$Sky;LLastCloud$Hops;I)V"⟩, prog_7_method_3_code, 6, none, false, 4),
  (⟨RX5, "leastByRule", "(IZ)I"⟩, prog_7_method_4_code, 5, (some .int), false, 3),
  (⟨RX5, "setChance", "(II)V"⟩, prog_7_method_5_code, 3, none, false, 3),
  (⟨RX5, "setDryWin", "(II)V"⟩, prog_7_method_6_code, 3, none, false, 3),
  (⟨RX5, "worthAt", "(IZ)I"⟩, prog_7_method_7_code, 3, (some .int), false, 3),
  (⟨RX5, "deedAt", "(IZ)I"⟩, prog_7_method_8_code, 3, (some .int), false, 3),
  (⟨RX5, "homeAt", "(IZ)I"⟩, prog_7_method_9_code, 3, (some .int), false, 3),
  (⟨RX5, "startWorth", "(Z)I"⟩, prog_7_method_10_code, 2, (some .int), false, 2),
  (⟨RX5, "fill", "(IZ)V"⟩, prog_7_method_11_code, 4, none, false, 3),
  (⟨RX5, "fillPeriod", "(IZ)V"⟩, prog_7_method_12_code, 7, none, false, 3),
  (⟨RX5, "bestHop", "(IZII)I"⟩, prog_7_method_13_code, 10, (some .int), false, 5),
  (⟨RX5, "behind", "(IIZI)I"⟩, prog_7_method_14_code, 6, (some .int), false, 5),
  (⟨RX5, "settle", "(IIIIIZ)V"⟩, prog_7_method_15_code, 13, none, false, 7),
  (⟨RX6, "<init>", "()V"⟩, prog_8_method_1_code, 1, none, false, 1),
  (⟨RX6, "add", "(II)V"⟩, prog_8_method_2_code, 3, none, false, 3),
  (⟨RX6, "copyFrom", "(LLastCloud$Polar;)V"⟩, prog_8_method_3_code, 2, none, false, 2),
  (⟨RX6, "fastest", "(I)I"⟩, prog_8_method_4_code, 4, (some .int), false, 2),
  (⟨RX6, "tenHours", "(II)I"⟩, prog_8_method_5_code, 3, (some .int), false, 3)]
set_option maxRecDepth 100000 in
theorem xMc_2 : ∀ m ∈ xMt_2, Cond.code m.1 m.2.1 m.2.2.1 m.2.2.2.1 ∈ tables_1 := List.forall_mem_cons.mpr ⟨List.mem_of_getElem? (i := 1010) rfl, List.forall_mem_cons.mpr ⟨List.mem_of_getElem? (i := 1106) rfl, List.forall_mem_cons.mpr ⟨List.mem_of_getElem? (i := 1068) rfl, List.forall_mem_cons.mpr ⟨List.mem_of_getElem? (i := 1074) rfl, List.forall_mem_cons.mpr ⟨List.mem_of_getElem? (i := 1239) rfl, List.forall_mem_cons.mpr ⟨List.mem_of_getElem? (i := 1188) rfl, List.forall_mem_cons.mpr ⟨List.mem_of_getElem? (i := 1123) rfl, List.forall_mem_cons.mpr ⟨List.mem_of_getElem? (i := 1136) rfl, List.forall_mem_cons.mpr ⟨List.mem_of_getElem? (i := 1119) rfl, List.forall_mem_cons.mpr ⟨List.mem_of_getElem? (i := 1154) rfl, List.forall_mem_cons.mpr ⟨List.mem_of_getElem? (i := 1090) rfl, List.forall_mem_cons.mpr ⟨List.mem_of_getElem? (i := 1094) rfl, List.forall_mem_cons.mpr ⟨List.mem_of_getElem? (i := 1098) rfl, List.forall_mem_cons.mpr ⟨List.mem_of_getElem? (i := 1102) rfl, List.forall_mem_cons.mpr ⟨List.mem_of_getElem? (i := 1110) rfl, List.forall_mem_cons.mpr ⟨List.mem_of_getElem? (i := 84) rfl, List.forall_mem_cons.mpr ⟨List.mem_of_getElem? (i := 818) rfl, List.forall_mem_cons.mpr ⟨List.mem_of_getElem? (i := 1474) rfl, List.forall_mem_cons.mpr ⟨List.mem_of_getElem? (i := 975) rfl, List.forall_mem_cons.mpr ⟨List.mem_of_getElem? (i := 983) rfl, fun _ h => absurd h List.not_mem_nil⟩⟩⟩⟩⟩⟩⟩⟩⟩⟩⟩⟩⟩⟩⟩⟩⟩⟩⟩⟩
def xMt_3 : List (xMT) := [
  (⟨RX6, "flattest", "()I"⟩, prog_8_method_6_code, 3, (some .int), false, 1),
  (⟨RX7, "<init>", "([B)V"⟩, prog_9_method_1_code, 2, none, false, 2),
  (⟨RX7, "readAll", "(ILLastCloud$Sky;)I"⟩, prog_9_method_2_code, 4, (some .int), false, 3),
  (⟨RX7, "splitText", "(I)V"⟩, prog_9_method_3_code, 5, none, false, 2),
  (⟨RX7, "addToken", "(III)V"⟩, prog_9_method_4_code, 4, none, false, 4),
  (⟨RX7, "kindOf", "(I)I"⟩, prog_9_method_5_code, 1, (some .int), true, 1),
  (⟨RX7, "fail", "(I)V"⟩, prog_9_method_6_code, 2, none, false, 2),
  (⟨RX7, "goOn", "()V"⟩, prog_9_method_7_code, 1, none, false, 1),
  (⟨RX7, "isWord", "(Ljava/lang/String;)Z"⟩, prog_9_method_8_code, 3, (some .boolean), false, 2),
  (⟨RX7, "takeIf", "(Ljava/lang/String;)Z"⟩, prog_9_method_9_code, 2, (some .boolean), false, 2),
  (⟨RX7, "takeWord", "(Ljava/lang/String;)V"⟩, prog_9_method_10_code, 2, none, false, 2),
  (⟨RX7, "takeNumber", "(II)I"⟩, prog_9_method_11_code, 5, (some .int), false, 3),
  (⟨RX7, "takeSigned", "(I)I"⟩, prog_9_method_12_code, 3, (some .int), false, 2),
  (⟨RX7, "takePlace", "(I)I"⟩, prog_9_method_13_code, 4, (some .int), false, 2),
  (⟨RX7, "readLine", "()V"⟩, prog_9_method_14_code, 2, none, false, 1),
  (⟨RX7, "lineKind", "()I"⟩, prog_9_method_15_code, 1, (some .int), false, 1),
  (⟨RX7, "isFull", "(I)Z"⟩, prog_9_method_16_code, 2, (some .boolean), false, 2),
  (⟨RX7, "readRest", "(I)V"⟩, prog_9_method_17_code, 2, none, false, 2),
  (⟨RX7, "readPlace", "()V"⟩, prog_9_method_18_code, 4, none, false, 1),
  (⟨RX7, "readLeg", "()V"⟩, prog_9_method_19_code, 8, none, false, 1)]
set_option maxRecDepth 100000 in
theorem xMc_3 : ∀ m ∈ xMt_3, Cond.code m.1 m.2.1 m.2.2.1 m.2.2.2.1 ∈ tables_1 := List.forall_mem_cons.mpr ⟨List.mem_of_getElem? (i := 991) rfl, List.forall_mem_cons.mpr ⟨List.mem_of_getElem? (i := 34) rfl, List.forall_mem_cons.mpr ⟨List.mem_of_getElem? (i := 652) rfl, List.forall_mem_cons.mpr ⟨List.mem_of_getElem? (i := 657) rfl, List.forall_mem_cons.mpr ⟨List.mem_of_getElem? (i := 664) rfl, List.forall_mem_cons.mpr ⟨List.mem_of_getElem? (i := 660) rfl, List.forall_mem_cons.mpr ⟨List.mem_of_getElem? (i := 739) rfl, List.forall_mem_cons.mpr ⟨List.mem_of_getElem? (i := 753) rfl, List.forall_mem_cons.mpr ⟨List.mem_of_getElem? (i := 677) rfl, List.forall_mem_cons.mpr ⟨List.mem_of_getElem? (i := 776) rfl, List.forall_mem_cons.mpr ⟨List.mem_of_getElem? (i := 766) rfl, List.forall_mem_cons.mpr ⟨List.mem_of_getElem? (i := 770) rfl, List.forall_mem_cons.mpr ⟨List.mem_of_getElem? (i := 791) rfl, List.forall_mem_cons.mpr ⟨List.mem_of_getElem? (i := 785) rfl, List.forall_mem_cons.mpr ⟨List.mem_of_getElem? (i := 668) rfl, List.forall_mem_cons.mpr ⟨List.mem_of_getElem? (i := 672) rfl, List.forall_mem_cons.mpr ⟨List.mem_of_getElem? (i := 743) rfl, List.forall_mem_cons.mpr ⟨List.mem_of_getElem? (i := 757) rfl, List.forall_mem_cons.mpr ⟨List.mem_of_getElem? (i := 761) rfl, List.forall_mem_cons.mpr ⟨List.mem_of_getElem? (i := 781) rfl, fun _ h => absurd h List.not_mem_nil⟩⟩⟩⟩⟩⟩⟩⟩⟩⟩⟩⟩⟩⟩⟩⟩⟩⟩⟩⟩
def xMt_4 : List (xMT) := [
  (⟨RX7, "readLift", "()V"⟩, prog_9_method_20_code, 7, none, false, 1),
  (⟨RX7, "readSpeed", "()V"⟩, prog_9_method_21_code, 3, none, false, 1),
  (⟨RX7, "readWorth", "()V"⟩, prog_9_method_22_code, 1, none, false, 1),
  (⟨RX7, "readStart", "()V"⟩, prog_9_method_23_code, 4, none, false, 1),
  (⟨RX8, "<init>", "()V"⟩, prog_10_method_1_code, 1, none, false, 1),
  (⟨RX8, "spot", "(III)I"⟩, prog_10_method_2_code, 3, (some .int), true, 3),
  (⟨RX8, "fewest", "(LLastCloud$Sky;LLastCloud$Hops;I)I"⟩, prog_10_method_3_code, 6, (some .int), false, 4),
  (⟨RX8, "begin", "(LLastCloud$Sky;LLastCloud$Hops;I)V"⟩, prog_10_method_4_code, 7, none, false, 4),
  (⟨RX8, "fillPeriods", "(I)V"⟩, prog_10_method_5_code, 6, none, false, 2),
  (⟨RX8, "leastByHops", "(III)I"⟩, prog_10_method_6_code, 9, (some .int), false, 4),
  (⟨RX8, "behind", "(III)I"⟩, prog_10_method_7_code, 5, (some .int), false, 4),
  (⟨RX8, "walk", "(I)V"⟩, prog_10_method_8_code, 9, none, false, 2),
  (⟨RX8, "firstHop", "(IIII)I"⟩, prog_10_method_9_code, 7, (some .int), false, 5),
  (⟨RX8, "addToWay", "(I)V"⟩, prog_10_method_10_code, 2, none, false, 2),
  (⟨RX9, "<init>", "()V"⟩, prog_11_method_1_code, 1, none, false, 1),
  (⟨RX9, "add", "(II)V"⟩, prog_11_method_2_code, 3, none, false, 3),
  (⟨RX9, "copyFrom", "(LLastCloud$Sights;)V"⟩, prog_11_method_3_code, 2, none, false, 2),
  (⟨RX10, "<init>", "()V"⟩, prog_12_method_1_code, 2, none, false, 1),
  (⟨RX10, "clear", "()V"⟩, prog_12_method_2_code, 2, none, false, 1),
  (⟨RX10, "copyFrom", "(LLastCloud$Sky;)V"⟩, prog_12_method_3_code, 3, none, false, 2)]
set_option maxRecDepth 100000 in
theorem xMc_4 : ∀ m ∈ xMt_4, Cond.code m.1 m.2.1 m.2.2.1 m.2.2.2.1 ∈ tables_1 := List.forall_mem_cons.mpr ⟨List.mem_of_getElem? (i := 798) rfl, List.forall_mem_cons.mpr ⟨List.mem_of_getElem? (i := 813) rfl, List.forall_mem_cons.mpr ⟨List.mem_of_getElem? (i := 822) rfl, List.forall_mem_cons.mpr ⟨List.mem_of_getElem? (i := 828) rfl, List.forall_mem_cons.mpr ⟨List.mem_of_getElem? (i := 491) rfl, List.forall_mem_cons.mpr ⟨List.mem_of_getElem? (i := 1404) rfl, List.forall_mem_cons.mpr ⟨List.mem_of_getElem? (i := 1393) rfl, List.forall_mem_cons.mpr ⟨List.mem_of_getElem? (i := 1397) rfl, List.forall_mem_cons.mpr ⟨List.mem_of_getElem? (i := 1408) rfl, List.forall_mem_cons.mpr ⟨List.mem_of_getElem? (i := 1412) rfl, List.forall_mem_cons.mpr ⟨List.mem_of_getElem? (i := 1417) rfl, List.forall_mem_cons.mpr ⟨List.mem_of_getElem? (i := 1427) rfl, List.forall_mem_cons.mpr ⟨List.mem_of_getElem? (i := 1436) rfl, List.forall_mem_cons.mpr ⟨List.mem_of_getElem? (i := 1431) rfl, List.forall_mem_cons.mpr ⟨List.mem_of_getElem? (i := 106) rfl, List.forall_mem_cons.mpr ⟨List.mem_of_getElem? (i := 901) rfl, List.forall_mem_cons.mpr ⟨List.mem_of_getElem? (i := 1481) rfl, List.forall_mem_cons.mpr ⟨List.mem_of_getElem? (i := 74) rfl, List.forall_mem_cons.mpr ⟨List.mem_of_getElem? (i := 215) rfl, List.forall_mem_cons.mpr ⟨List.mem_of_getElem? (i := 1462) rfl, fun _ h => absurd h List.not_mem_nil⟩⟩⟩⟩⟩⟩⟩⟩⟩⟩⟩⟩⟩⟩⟩⟩⟩⟩⟩⟩
def xMt_5 : List (xMT) := [
  (⟨RX10, "hasPlace", "(I)Z"⟩, prog_12_method_4_code, 2, (some .boolean), false, 2),
  (⟨RX10, "hasLeg", "(I)Z"⟩, prog_12_method_5_code, 2, (some .boolean), false, 2),
  (⟨RX10, "hasSpeed", "(I)Z"⟩, prog_12_method_6_code, 2, (some .boolean), false, 2),
  (⟨RX10, "hasHeight", "(I)Z"⟩, prog_12_method_7_code, 2, (some .boolean), false, 2),
  (⟨RX10, "hasState", "(IIIZ)Z"⟩, prog_12_method_8_code, 5, (some .boolean), false, 5),
  (⟨RX10, "hasStart", "()Z"⟩, prog_12_method_9_code, 1, (some .boolean), false, 1),
  (⟨RX10, "startsWet", "()Z"⟩, prog_12_method_10_code, 1, (some .boolean), false, 1),
  (⟨RX10, "isToLandAt", "(I)Z"⟩, prog_12_method_11_code, 2, (some .boolean), false, 2),
  (⟨RX10, "allPlaces", "()I"⟩, prog_12_method_12_code, 1, (some .int), false, 1),
  (⟨RX10, "liftBits", "()I"⟩, prog_12_method_13_code, 3, (some .int), false, 1),
  (⟨RX10, "overGround", "(IZIZ)I"⟩, prog_12_method_14_code, 6, (some .int), false, 5),
  (⟨RX10, "takes", "(IZIZ)I"⟩, prog_12_method_15_code, 6, (some .int), false, 5),
  (⟨RX10, "loses", "(IZIZ)I"⟩, prog_12_method_16_code, 6, (some .int), false, 5),
  (⟨RX10, "wins", "(IZ)I"⟩, prog_12_method_17_code, 3, (some .int), false, 3),
  (⟨RX10, "winsBy", "(IZ)I"⟩, prog_12_method_18_code, 4, (some .int), false, 3),
  (⟨RX10, "capped", "(I)I"⟩, prog_12_method_19_code, 2, (some .int), false, 2),
  (⟨RX10, "chanceNow", "(I)I"⟩, prog_12_method_20_code, 4, (some .int), false, 2),
  (⟨RX10, "fastSpeedTo", "(I)I"⟩, prog_12_method_21_code, 3, (some .int), false, 2),
  (⟨RX10, "landingWorth", "(III)I"⟩, prog_12_method_22_code, 5, (some .int), false, 4),
  (⟨RX11, "<init>", "()V"⟩, prog_1_method_1_code, 2, none, false, 1)]
set_option maxRecDepth 100000 in
theorem xMc_5 : ∀ m ∈ xMt_5, Cond.code m.1 m.2.1 m.2.2.1 m.2.2.2.1 ∈ tables_1 := List.forall_mem_cons.mpr ⟨List.mem_of_getElem? (i := 809) rfl, List.forall_mem_cons.mpr ⟨List.mem_of_getElem? (i := 852) rfl, List.forall_mem_cons.mpr ⟨List.mem_of_getElem? (i := 856) rfl, List.forall_mem_cons.mpr ⟨List.mem_of_getElem? (i := 918) rfl, List.forall_mem_cons.mpr ⟨List.mem_of_getElem? (i := 1002) rfl, List.forall_mem_cons.mpr ⟨List.mem_of_getElem? (i := 834) rfl, List.forall_mem_cons.mpr ⟨List.mem_of_getElem? (i := 1150) rfl, List.forall_mem_cons.mpr ⟨List.mem_of_getElem? (i := 567) rfl, List.forall_mem_cons.mpr ⟨List.mem_of_getElem? (i := 959) rfl, List.forall_mem_cons.mpr ⟨List.mem_of_getElem? (i := 802) rfl, List.forall_mem_cons.mpr ⟨List.mem_of_getElem? (i := 547) rfl, List.forall_mem_cons.mpr ⟨List.mem_of_getElem? (i := 543) rfl, List.forall_mem_cons.mpr ⟨List.mem_of_getElem? (i := 551) rfl, List.forall_mem_cons.mpr ⟨List.mem_of_getElem? (i := 872) rfl, List.forall_mem_cons.mpr ⟨List.mem_of_getElem? (i := 876) rfl, List.forall_mem_cons.mpr ⟨List.mem_of_getElem? (i := 931) rfl, List.forall_mem_cons.mpr ⟨List.mem_of_getElem? (i := 885) rfl, List.forall_mem_cons.mpr ⟨List.mem_of_getElem? (i := 1085) rfl, List.forall_mem_cons.mpr ⟨List.mem_of_getElem? (i := 1114) rfl, List.forall_mem_cons.mpr ⟨List.mem_of_getElem? (i := 26) rfl, fun _ h => absurd h List.not_mem_nil⟩⟩⟩⟩⟩⟩⟩⟩⟩⟩⟩⟩⟩⟩⟩⟩⟩⟩⟩⟩
def xMt_6 : List (xMT) := [
  (⟨RX11, "feed", "(IIIII)I"⟩, prog_1_method_2_code, 6, (some .int), false, 6),
  (⟨RX11, "putNumber", "(I)V"⟩, prog_1_method_3_code, 3, none, false, 2),
  (⟨RX11, "end", "(I)I"⟩, prog_1_method_4_code, 2, (some .int), false, 2),
  (⟨RX11, "sky", "()I"⟩, prog_1_method_5_code, 2, (some .int), false, 1),
  (⟨RX11, "fault", "(I)I"⟩, prog_1_method_6_code, 2, (some .int), false, 2),
  (⟨RX11, "forgetPlans", "()V"⟩, prog_1_method_7_code, 2, none, false, 1),
  (⟨RX11, "periods", "(IZIZ)I"⟩, prog_1_method_8_code, 5, (some .int), false, 5),
  (⟨RX11, "loss", "(IZIZ)I"⟩, prog_1_method_9_code, 5, (some .int), false, 5),
  (⟨RX11, "climb", "(IZ)I"⟩, prog_1_method_10_code, 3, (some .int), false, 3),
  (⟨RX11, "chance", "(I)I"⟩, prog_1_method_11_code, 2, (some .int), false, 2),
  (⟨RX11, "sight", "(II)I"⟩, prog_1_method_12_code, 3, (some .int), false, 3),
  (⟨RX11, "unsee", "(I)I"⟩, prog_1_method_13_code, 2, (some .int), false, 2),
  (⟨RX11, "sign", "(IZ)I"⟩, prog_1_method_14_code, 4, (some .int), false, 3),
  (⟨RX11, "reach", "(IIIZ)I"⟩, prog_1_method_15_code, 5, (some .int), false, 5),
  (⟨RX11, "fields", "(IIZ)I"⟩, prog_1_method_16_code, 6, (some .int), false, 4),
  (⟨RX11, "edge", "(IZ)I"⟩, prog_1_method_17_code, 4, (some .int), false, 3),
  (⟨RX11, "tour", "(IIZ)I"⟩, prog_1_method_18_code, 7, (some .int), false, 4),
  (⟨RX11, "street", "()I"⟩, prog_1_method_19_code, 1, (some .int), false, 1),
  (⟨RX11, "fast", "(I)I"⟩, prog_1_method_20_code, 2, (some .int), false, 2),
  (⟨RX11, "average", "(I)I"⟩, prog_1_method_21_code, 3, (some .int), false, 2)]
set_option maxRecDepth 100000 in
theorem xMc_6 : ∀ m ∈ xMt_6, Cond.code m.1 m.2.1 m.2.2.1 m.2.2.2.1 ∈ tables_1 := List.forall_mem_cons.mpr ⟨List.mem_of_getElem? (i := 635) rfl, List.forall_mem_cons.mpr ⟨List.mem_of_getElem? (i := 639) rfl, List.forall_mem_cons.mpr ⟨List.mem_of_getElem? (i := 643) rfl, List.forall_mem_cons.mpr ⟨List.mem_of_getElem? (i := 647) rfl, List.forall_mem_cons.mpr ⟨List.mem_of_getElem? (i := 844) rfl, List.forall_mem_cons.mpr ⟨List.mem_of_getElem? (i := 840) rfl, List.forall_mem_cons.mpr ⟨List.mem_of_getElem? (i := 848) rfl, List.forall_mem_cons.mpr ⟨List.mem_of_getElem? (i := 861) rfl, List.forall_mem_cons.mpr ⟨List.mem_of_getElem? (i := 867) rfl, List.forall_mem_cons.mpr ⟨List.mem_of_getElem? (i := 881) rfl, List.forall_mem_cons.mpr ⟨List.mem_of_getElem? (i := 897) rfl, List.forall_mem_cons.mpr ⟨List.mem_of_getElem? (i := 905) rfl, List.forall_mem_cons.mpr ⟨List.mem_of_getElem? (i := 909) rfl, List.forall_mem_cons.mpr ⟨List.mem_of_getElem? (i := 914) rfl, List.forall_mem_cons.mpr ⟨List.mem_of_getElem? (i := 936) rfl, List.forall_mem_cons.mpr ⟨List.mem_of_getElem? (i := 941) rfl, List.forall_mem_cons.mpr ⟨List.mem_of_getElem? (i := 947) rfl, List.forall_mem_cons.mpr ⟨List.mem_of_getElem? (i := 951) rfl, List.forall_mem_cons.mpr ⟨List.mem_of_getElem? (i := 968) rfl, List.forall_mem_cons.mpr ⟨List.mem_of_getElem? (i := 979) rfl, fun _ h => absurd h List.not_mem_nil⟩⟩⟩⟩⟩⟩⟩⟩⟩⟩⟩⟩⟩⟩⟩⟩⟩⟩⟩⟩
def xMt_7 : List (xMT) := [
  (⟨RX11, "isClimb", "(I)Z"⟩, prog_1_method_22_code, 1, (some .boolean), true, 1),
  (⟨RX11, "farthest", "()I"⟩, prog_1_method_23_code, 1, (some .int), false, 1),
  (⟨RX11, "worth", "(IIIIZZ)I"⟩, prog_1_method_24_code, 8, (some .int), false, 7),
  (⟨RX11, "deed", "(IIIIZZ)I"⟩, prog_1_method_25_code, 8, (some .int), false, 7),
  (⟨RX11, "home", "(IIIIZZ)I"⟩, prog_1_method_26_code, 8, (some .int), false, 7),
  (⟨RX11, "isRule", "(I)Z"⟩, prog_1_method_27_code, 1, (some .boolean), true, 1),
  (⟨RX11, "planOf", "(I)LLastCloud$Plan;"⟩, prog_1_method_28_code, 3, (some (.object "LastCloud$Plan")), false, 2),
  (⟨RX11, "trialPlan", "()LLastCloud$Plan;"⟩, prog_1_method_29_code, 1, (some (.object "LastCloud$Plan")), false, 1),
  (⟨RX11, "start", "(I)I"⟩, prog_1_method_30_code, 2, (some .int), false, 2),
  (⟨RX11, "cost", "(I)I"⟩, prog_1_method_31_code, 3, (some .int), false, 2),
  (⟨RX11, "leave", "(IIZ)I"⟩, prog_1_method_32_code, 4, (some .int), false, 4),
  (⟨RX11, "on", "(IIZ)I"⟩, prog_1_method_33_code, 4, (some .int), false, 4),
  (⟨RX11, "leastToLeave", "(IIZZ)I"⟩, prog_1_method_34_code, 7, (some .int), false, 5),
  (⟨RX11, "last", "(II)I"⟩, prog_1_method_35_code, 5, (some .int), false, 3),
  (⟨RX11, "weak", "(III)I"⟩, prog_1_method_36_code, 7, (some .int), false, 4),
  (⟨RX11, "ends", "(IZ)I"⟩, prog_1_method_37_code, 4, (some .int), false, 3),
  (⟨RX11, "share", "(I)I"⟩, prog_1_method_38_code, 2, (some .int), false, 2),
  (⟨RX11, "known", "(I)I"⟩, prog_1_method_39_code, 5, (some .int), false, 2),
  (⟨RX11, "hawk", "(I)I"⟩, prog_1_method_40_code, 7, (some .int), false, 2),
  (⟨RX11, "startWorthWith", "(II)I"⟩, prog_1_method_41_code, 4, (some .int), false, 3)]
set_option maxRecDepth 100000 in
theorem xMc_7 : ∀ m ∈ xMt_7, Cond.code m.1 m.2.1 m.2.2.1 m.2.2.2.1 ∈ tables_1 := List.forall_mem_cons.mpr ⟨List.mem_of_getElem? (i := 971) rfl, List.forall_mem_cons.mpr ⟨List.mem_of_getElem? (i := 987) rfl, List.forall_mem_cons.mpr ⟨List.mem_of_getElem? (i := 995) rfl, List.forall_mem_cons.mpr ⟨List.mem_of_getElem? (i := 1132) rfl, List.forall_mem_cons.mpr ⟨List.mem_of_getElem? (i := 1140) rfl, List.forall_mem_cons.mpr ⟨List.mem_of_getElem? (i := 998) rfl, List.forall_mem_cons.mpr ⟨List.mem_of_getElem? (i := 1006) rfl, List.forall_mem_cons.mpr ⟨List.mem_of_getElem? (i := 1183) rfl, List.forall_mem_cons.mpr ⟨List.mem_of_getElem? (i := 1145) rfl, List.forall_mem_cons.mpr ⟨List.mem_of_getElem? (i := 1159) rfl, List.forall_mem_cons.mpr ⟨List.mem_of_getElem? (i := 1163) rfl, List.forall_mem_cons.mpr ⟨List.mem_of_getElem? (i := 1171) rfl, List.forall_mem_cons.mpr ⟨List.mem_of_getElem? (i := 1167) rfl, List.forall_mem_cons.mpr ⟨List.mem_of_getElem? (i := 1175) rfl, List.forall_mem_cons.mpr ⟨List.mem_of_getElem? (i := 1179) rfl, List.forall_mem_cons.mpr ⟨List.mem_of_getElem? (i := 1192) rfl, List.forall_mem_cons.mpr ⟨List.mem_of_getElem? (i := 1231) rfl, List.forall_mem_cons.mpr ⟨List.mem_of_getElem? (i := 1247) rfl, List.forall_mem_cons.mpr ⟨List.mem_of_getElem? (i := 1252) rfl, List.forall_mem_cons.mpr ⟨List.mem_of_getElem? (i := 1235) rfl, fun _ h => absurd h List.not_mem_nil⟩⟩⟩⟩⟩⟩⟩⟩⟩⟩⟩⟩⟩⟩⟩⟩⟩⟩⟩⟩
def xMt_8 : List (xMT) := [
  (⟨RX11, "bestStartWorth", "()I"⟩, prog_1_method_42_code, 1, (some .int), false, 1),
  (⟨RX11, "mixed", "(III)I"⟩, prog_1_method_43_code, 3, (some .int), true, 3),
  (⟨RX11, "water", "()I"⟩, prog_1_method_44_code, 2, (some .int), false, 1),
  (⟨RX11, "drop", "()I"⟩, prog_1_method_45_code, 4, (some .int), false, 1),
  (⟨RX11, "fly", "(II)I"⟩, prog_1_method_46_code, 3, (some .int), false, 3),
  (⟨RX11, "isSeed", "(I)Z"⟩, prog_1_method_47_code, 1, (some .boolean), true, 1),
  (⟨RX11, "flyOnce", "(LLastCloud$Flight;II)V"⟩, prog_1_method_48_code, 5, none, false, 4),
  (⟨RX11, "flown", "(II)I"⟩, prog_1_method_49_code, 3, (some .int), false, 3),
  (⟨RX11, "landed", "(I)I"⟩, prog_1_method_50_code, 2, (some .int), false, 2),
  (⟨RX11, "judge", "(II)I"⟩, prog_1_method_51_code, 5, (some .int), false, 3),
  (⟨RX11, "flights", "(III)I"⟩, prog_1_method_52_code, 6, (some .int), false, 4),
  (⟨RX11, "areFlights", "(III)Z"⟩, prog_1_method_53_code, 4, (some .boolean), false, 4),
  (⟨RX11, "sum", "(III)I"⟩, prog_1_method_54_code, 6, (some .int), false, 4),
  (⟨RX11, "spread", "(IIII)I"⟩, prog_1_method_55_code, 8, (some .int), false, 5),
  (⟨RX11, "soon", "()I"⟩, prog_1_method_56_code, 1, (some .int), false, 1),
  (⟨RX11, "way", "(I)I"⟩, prog_1_method_57_code, 3, (some .int), false, 2),
  (⟨RX11, "soonest", "(I)I"⟩, prog_1_method_58_code, 2, (some .int), false, 2),
  (⟨RX11, "key", "()I"⟩, prog_1_method_59_code, 7, (some .int), false, 1),
  (⟨RX11, "count", "(I)I"⟩, prog_1_method_60_code, 2, (some .int), false, 2),
  (⟨RX11, "slotsWithRow", "()I"⟩, prog_1_method_61_code, 3, (some .int), false, 1)]
set_option maxRecDepth 100000 in
theorem xMc_8 : ∀ m ∈ xMt_8, Cond.code m.1 m.2.1 m.2.2.1 m.2.2.2.1 ∈ tables_1 := List.forall_mem_cons.mpr ⟨List.mem_of_getElem? (i := 1243) rfl, List.forall_mem_cons.mpr ⟨List.mem_of_getElem? (i := 1126) rfl, List.forall_mem_cons.mpr ⟨List.mem_of_getElem? (i := 1257) rfl, List.forall_mem_cons.mpr ⟨List.mem_of_getElem? (i := 1261) rfl, List.forall_mem_cons.mpr ⟨List.mem_of_getElem? (i := 1314) rfl, List.forall_mem_cons.mpr ⟨List.mem_of_getElem? (i := 1317) rfl, List.forall_mem_cons.mpr ⟨List.mem_of_getElem? (i := 1322) rfl, List.forall_mem_cons.mpr ⟨List.mem_of_getElem? (i := 1342) rfl, List.forall_mem_cons.mpr ⟨List.mem_of_getElem? (i := 1350) rfl, List.forall_mem_cons.mpr ⟨List.mem_of_getElem? (i := 1358) rfl, List.forall_mem_cons.mpr ⟨List.mem_of_getElem? (i := 1366) rfl, List.forall_mem_cons.mpr ⟨List.mem_of_getElem? (i := 1370) rfl, List.forall_mem_cons.mpr ⟨List.mem_of_getElem? (i := 1374) rfl, List.forall_mem_cons.mpr ⟨List.mem_of_getElem? (i := 1378) rfl, List.forall_mem_cons.mpr ⟨List.mem_of_getElem? (i := 1388) rfl, List.forall_mem_cons.mpr ⟨List.mem_of_getElem? (i := 1423) rfl, List.forall_mem_cons.mpr ⟨List.mem_of_getElem? (i := 1440) rfl, List.forall_mem_cons.mpr ⟨List.mem_of_getElem? (i := 1444) rfl, List.forall_mem_cons.mpr ⟨List.mem_of_getElem? (i := 1448) rfl, List.forall_mem_cons.mpr ⟨List.mem_of_getElem? (i := 1454) rfl, fun _ h => absurd h List.not_mem_nil⟩⟩⟩⟩⟩⟩⟩⟩⟩⟩⟩⟩⟩⟩⟩⟩⟩⟩⟩⟩
def xMt_9 : List (xMT) := [
  (⟨RX11, "keep", "(I)I"⟩, prog_1_method_62_code, 2, (some .int), false, 2),
  (⟨RX11, "back", "(I)I"⟩, prog_1_method_63_code, 2, (some .int), false, 2),
  (⟨RX11, "isSlot", "(I)Z"⟩, prog_1_method_64_code, 1, (some .boolean), true, 1),
  (⟨RX11, "row", "(III)I"⟩, prog_1_method_65_code, 4, (some .int), false, 4),
  (⟨RX11, "write", "(IIJ)I"⟩, prog_1_method_66_code, 5, (some .int), false, 4),
  (⟨RX11, "cutTo", "(IJ)J"⟩, prog_1_method_67_code, 3, (some .long), true, 2),
  (⟨RX11, "paste", "(IIIII)I"⟩, prog_1_method_68_code, 6, (some .int), false, 6),
  (⟨RX11, "isPart", "(III)Z"⟩, prog_1_method_69_code, 3, (some .boolean), true, 3),
  (⟨RX12, "in", "(JJJ)Z"⟩, prog_14_method_2_code, 6, (some .boolean), true, 3),
  (⟨RX12, "holds", "(II)Z"⟩, prog_14_method_3_code, 2, (some .boolean), true, 2),
  (⟨RX12, "<init>", "()V"⟩, prog_14_method_4_code, 1, none, false, 1),
  (⟨RX12, "empties", "([I)V"⟩, prog_14_method_5_code, 2, none, true, 1),
  (⟨RX12, "keep", "(I)I"⟩, prog_14_method_6_code, 3, (some .int), false, 2),
  (⟨RX12, "back", "(I)I"⟩, prog_14_method_7_code, 3, (some .int), false, 2),
  (⟨RX12, "isPlace", "(I)Z"⟩, prog_14_method_8_code, 2, (some .boolean), false, 2),
  (⟨RX12, "ofPlace", "(II)I"⟩, prog_14_method_9_code, 3, (some .int), false, 3),
  (⟨RX12, "ofLeg", "(II)I"⟩, prog_14_method_10_code, 3, (some .int), false, 3),
  (⟨RX12, "feed", "(IIIII)I"⟩, prog_14_method_11_code, 7, (some .int), false, 6),
  (⟨RX12, "end", "(I)I"⟩, prog_14_method_12_code, 2, (some .int), false, 2),
  (⟨RX12, "see", "(I)I"⟩, prog_14_method_13_code, 2, (some .int), false, 2)]
set_option maxRecDepth 100000 in
theorem xMc_9 : ∀ m ∈ xMt_9, Cond.code m.1 m.2.1 m.2.2.1 m.2.2.2.1 ∈ tables_1 := List.forall_mem_cons.mpr ⟨List.mem_of_getElem? (i := 1458) rfl, List.forall_mem_cons.mpr ⟨List.mem_of_getElem? (i := 1486) rfl, List.forall_mem_cons.mpr ⟨List.mem_of_getElem? (i := 1361) rfl, List.forall_mem_cons.mpr ⟨List.mem_of_getElem? (i := 1490) rfl, List.forall_mem_cons.mpr ⟨List.mem_of_getElem? (i := 1497) rfl, List.forall_mem_cons.mpr ⟨List.mem_of_getElem? (i := 1500) rfl, List.forall_mem_cons.mpr ⟨List.mem_of_getElem? (i := 1504) rfl, List.forall_mem_cons.mpr ⟨List.mem_of_getElem? (i := 1507) rfl, List.forall_mem_cons.mpr ⟨List.mem_of_getElem? (i := 1689) rfl, List.forall_mem_cons.mpr ⟨List.mem_of_getElem? (i := 1759) rfl, List.forall_mem_cons.mpr ⟨List.mem_of_getElem? (i := 1513) rfl, List.forall_mem_cons.mpr ⟨List.mem_of_getElem? (i := 1518) rfl, List.forall_mem_cons.mpr ⟨List.mem_of_getElem? (i := 1685) rfl, List.forall_mem_cons.mpr ⟨List.mem_of_getElem? (i := 1693) rfl, List.forall_mem_cons.mpr ⟨List.mem_of_getElem? (i := 1868) rfl, List.forall_mem_cons.mpr ⟨List.mem_of_getElem? (i := 1830) rfl, List.forall_mem_cons.mpr ⟨List.mem_of_getElem? (i := 1851) rfl, List.forall_mem_cons.mpr ⟨List.mem_of_getElem? (i := 1697) rfl, List.forall_mem_cons.mpr ⟨List.mem_of_getElem? (i := 1701) rfl, List.forall_mem_cons.mpr ⟨List.mem_of_getElem? (i := 1717) rfl, fun _ h => absurd h List.not_mem_nil⟩⟩⟩⟩⟩⟩⟩⟩⟩⟩⟩⟩⟩⟩⟩⟩⟩⟩⟩⟩
def xMt_10 : List (xMT) := [
  (⟨RX12, "advance", "()V"⟩, prog_14_method_14_code, 2, none, false, 1),
  (⟨RX12, "good", "()Z"⟩, prog_14_method_15_code, 1, (some .boolean), false, 1),
  (⟨RX12, "errs", "(I)V"⟩, prog_14_method_16_code, 2, none, false, 2),
  (⟨RX12, "is", "(Ljava/lang/String;)Z"⟩, prog_14_method_17_code, 4, (some .boolean), false, 2),
  (⟨RX12, "takes", "(Ljava/lang/String;)Z"⟩, prog_14_method_18_code, 3, (some .boolean), false, 2),
  (⟨RX12, "needs", "(Ljava/lang/String;)V"⟩, prog_14_method_19_code, 2, none, false, 2),
  (⟨RX12, "number", "(II)I"⟩, prog_14_method_20_code, 4, (some .int), false, 3),
  (⟨RX12, "told", "(Ljava/lang/String;II)I"⟩, prog_14_method_21_code, 4, (some .int), false, 4),
  (⟨RX12, "fault", "(I)I"⟩, prog_14_method_22_code, 2, (some .int), false, 2),
  (⟨RX12, "place", "()I"⟩, prog_14_method_23_code, 1, (some .int), false, 1),
  (⟨RX12, "signed", "(I)I"⟩, prog_14_method_24_code, 3, (some .int), false, 2),
  (⟨RX12, "readPlace", "()V"⟩, prog_14_method_25_code, 2, none, false, 1),
  (⟨RX12, "readLeg", "()V"⟩, prog_14_method_26_code, 2, none, false, 1),
  (⟨RX12, "readLift", "()V"⟩, prog_14_method_27_code, 4, none, false, 1),
  (⟨RX12, "readPoint", "()V"⟩, prog_14_method_28_code, 2, none, false, 1),
  (⟨RX12, "readStart", "()V"⟩, prog_14_method_29_code, 3, none, false, 1),
  (⟨RX12, "ones", "(I)I"⟩, prog_14_method_30_code, 3, (some .int), true, 1),
  (⟨RX12, "onceHere", "()I"⟩, prog_14_method_31_code, 1, (some .int), false, 1),
  (⟨RX12, "readOnce", "(I)V"⟩, prog_14_method_32_code, 2, none, false, 2),
  (⟨RX12, "readLine", "()V"⟩, prog_14_method_33_code, 3, none, false, 1)]
set_option maxRecDepth 100000 in
theorem xMc_10 : ∀ m ∈ xMt_10, Cond.code m.1 m.2.1 m.2.2.1 m.2.2.2.1 ∈ tables_1 := List.forall_mem_cons.mpr ⟨List.mem_of_getElem? (i := 1713) rfl, List.forall_mem_cons.mpr ⟨List.mem_of_getElem? (i := 1727) rfl, List.forall_mem_cons.mpr ⟨List.mem_of_getElem? (i := 1756) rfl, List.forall_mem_cons.mpr ⟨List.mem_of_getElem? (i := 1740) rfl, List.forall_mem_cons.mpr ⟨List.mem_of_getElem? (i := 1783) rfl, List.forall_mem_cons.mpr ⟨List.mem_of_getElem? (i := 1779) rfl, List.forall_mem_cons.mpr ⟨List.mem_of_getElem? (i := 1770) rfl, List.forall_mem_cons.mpr ⟨List.mem_of_getElem? (i := 1775) rfl, List.forall_mem_cons.mpr ⟨List.mem_of_getElem? (i := 1705) rfl, List.forall_mem_cons.mpr ⟨List.mem_of_getElem? (i := 1793) rfl, List.forall_mem_cons.mpr ⟨List.mem_of_getElem? (i := 1811) rfl, List.forall_mem_cons.mpr ⟨List.mem_of_getElem? (i := 1799) rfl, List.forall_mem_cons.mpr ⟨List.mem_of_getElem? (i := 1805) rfl, List.forall_mem_cons.mpr ⟨List.mem_of_getElem? (i := 1818) rfl, List.forall_mem_cons.mpr ⟨List.mem_of_getElem? (i := 1826) rfl, List.forall_mem_cons.mpr ⟨List.mem_of_getElem? (i := 1789) rfl, List.forall_mem_cons.mpr ⟨List.mem_of_getElem? (i := 1762) rfl, List.forall_mem_cons.mpr ⟨List.mem_of_getElem? (i := 1735) rfl, List.forall_mem_cons.mpr ⟨List.mem_of_getElem? (i := 1766) rfl, List.forall_mem_cons.mpr ⟨List.mem_of_getElem? (i := 1731) rfl, fun _ h => absurd h List.not_mem_nil⟩⟩⟩⟩⟩⟩⟩⟩⟩⟩⟩⟩⟩⟩⟩⟩⟩⟩⟩⟩
def xMt_11 : List (xMT) := [
  (⟨RX12, "sky", "()I"⟩, prog_14_method_34_code, 2, (some .int), false, 1),
  (⟨RX12, "isLeg", "(I)Z"⟩, prog_14_method_35_code, 2, (some .boolean), false, 2),
  (⟨RX12, "isSpeed", "(I)Z"⟩, prog_14_method_36_code, 2, (some .boolean), false, 2),
  (⟨RX12, "periodsOf", "(IZIZ)I"⟩, prog_14_method_37_code, 7, (some .int), false, 5),
  (⟨RX12, "lossOf", "(III)I"⟩, prog_14_method_38_code, 4, (some .int), false, 4),
  (⟨RX12, "periods", "(IZIZ)I"⟩, prog_14_method_39_code, 5, (some .int), false, 5),
  (⟨RX12, "loss", "(IZIZ)I"⟩, prog_14_method_40_code, 6, (some .int), false, 5),
  (⟨RX12, "upOf", "(I)I"⟩, prog_14_method_41_code, 2, (some .int), false, 2),
  (⟨RX12, "climbOf", "(IZ)I"⟩, prog_14_method_42_code, 4, (some .int), false, 3),
  (⟨RX12, "climb", "(IZ)I"⟩, prog_14_method_43_code, 3, (some .int), false, 3),
  (⟨RX12, "bySign", "(IIZI)I"⟩, prog_14_method_44_code, 8, (some .int), false, 5),
  (⟨RX12, "chanceNow", "(I)I"⟩, prog_14_method_45_code, 6, (some .int), false, 2),
  (⟨RX12, "chanceOf", "(I)I"⟩, prog_14_method_46_code, 2, (some .int), false, 2),
  (⟨RX12, "chance", "(I)I"⟩, prog_14_method_47_code, 2, (some .int), false, 2),
  (⟨RX12, "sight", "(II)I"⟩, prog_14_method_48_code, 3, (some .int), false, 3),
  (⟨RX12, "unsee", "(I)I"⟩, prog_14_method_49_code, 2, (some .int), false, 2),
  (⟨RX12, "sign", "(IZ)I"⟩, prog_14_method_50_code, 3, (some .int), false, 3),
  (⟨RX12, "laysWays", "()V"⟩, prog_14_method_51_code, 3, none, false, 1),
  (⟨RX12, "laysFrom", "(II)V"⟩, prog_14_method_52_code, 9, none, false, 3),
  (⟨RX12, "comesAt", "(II)I"⟩, prog_14_method_53_code, 5, (some .int), false, 3)]
set_option maxRecDepth 100000 in
theorem xMc_11 : ∀ m ∈ xMt_11, Cond.code m.1 m.2.1 m.2.2.1 m.2.2.2.1 ∈ tables_1 := List.forall_mem_cons.mpr ⟨List.mem_of_getElem? (i := 1709) rfl, List.forall_mem_cons.mpr ⟨List.mem_of_getElem? (i := 1839) rfl, List.forall_mem_cons.mpr ⟨List.mem_of_getElem? (i := 1843) rfl, List.forall_mem_cons.mpr ⟨List.mem_of_getElem? (i := 1847) rfl, List.forall_mem_cons.mpr ⟨List.mem_of_getElem? (i := 1860) rfl, List.forall_mem_cons.mpr ⟨List.mem_of_getElem? (i := 1835) rfl, List.forall_mem_cons.mpr ⟨List.mem_of_getElem? (i := 1855) rfl, List.forall_mem_cons.mpr ⟨List.mem_of_getElem? (i := 1876) rfl, List.forall_mem_cons.mpr ⟨List.mem_of_getElem? (i := 1872) rfl, List.forall_mem_cons.mpr ⟨List.mem_of_getElem? (i := 1864) rfl, List.forall_mem_cons.mpr ⟨List.mem_of_getElem? (i := 1888) rfl, List.forall_mem_cons.mpr ⟨List.mem_of_getElem? (i := 1884) rfl, List.forall_mem_cons.mpr ⟨List.mem_of_getElem? (i := 2011) rfl, List.forall_mem_cons.mpr ⟨List.mem_of_getElem? (i := 1880) rfl, List.forall_mem_cons.mpr ⟨List.mem_of_getElem? (i := 1892) rfl, List.forall_mem_cons.mpr ⟨List.mem_of_getElem? (i := 1897) rfl, List.forall_mem_cons.mpr ⟨List.mem_of_getElem? (i := 1901) rfl, List.forall_mem_cons.mpr ⟨List.mem_of_getElem? (i := 1917) rfl, List.forall_mem_cons.mpr ⟨List.mem_of_getElem? (i := 1921) rfl, List.forall_mem_cons.mpr ⟨List.mem_of_getElem? (i := 1925) rfl, fun _ h => absurd h List.not_mem_nil⟩⟩⟩⟩⟩⟩⟩⟩⟩⟩⟩⟩⟩⟩⟩⟩⟩⟩⟩⟩
def xMt_12 : List (xMT) := [
  (⟨RX12, "glides", "(IIZ)V"⟩, prog_14_method_54_code, 10, none, false, 4),
  (⟨RX12, "isHeight", "(II)Z"⟩, prog_14_method_55_code, 3, (some .boolean), false, 3),
  (⟨RX12, "reach", "(IIIZ)I"⟩, prog_14_method_56_code, 5, (some .int), false, 5),
  (⟨RX12, "fieldsOf", "(IIZ)I"⟩, prog_14_method_57_code, 7, (some .int), false, 4),
  (⟨RX12, "fields", "(IIZ)I"⟩, prog_14_method_58_code, 4, (some .int), false, 4),
  (⟨RX12, "edge", "(IZ)I"⟩, prog_14_method_59_code, 4, (some .int), false, 3),
  (⟨RX12, "tour", "(IIZ)I"⟩, prog_14_method_60_code, 7, (some .int), false, 4),
  (⟨RX12, "street", "()I"⟩, prog_14_method_61_code, 6, (some .int), false, 1),
  (⟨RX12, "fastOf", "(I)I"⟩, prog_14_method_62_code, 6, (some .int), false, 2),
  (⟨RX12, "isClimb", "(I)Z"⟩, prog_14_method_63_code, 1, (some .boolean), true, 1),
  (⟨RX12, "fast", "(I)I"⟩, prog_14_method_64_code, 2, (some .int), false, 2),
  (⟨RX12, "average", "(I)I"⟩, prog_14_method_65_code, 3, (some .int), false, 2),
  (⟨RX12, "farthest", "()I"⟩, prog_14_method_66_code, 5, (some .int), false, 1),
  (⟨RX12, "forgets", "()V"⟩, prog_14_method_67_code, 2, none, false, 1),
  (⟨RX12, "state", "(IIIII)I"⟩, prog_14_method_68_code, 5, (some .int), true, 5),
  (⟨RX12, "landingOf", "(II)I"⟩, prog_14_method_69_code, 5, (some .int), false, 3),
  (⟨RX12, "higher", "(III)I"⟩, prog_14_method_70_code, 4, (some .int), false, 4),
  (⟨RX12, "mixed", "([IIIII)I"⟩, prog_14_method_71_code, 7, (some .int), false, 6),
  (⟨RX12, "isRuled", "(IIII)Z"⟩, prog_14_method_72_code, 5, (some .boolean), false, 5),
  (⟨RX12, "looks", "(IIIIII)V"⟩, prog_14_method_73_code, 16, none, false, 7)]
set_option maxRecDepth 100000 in
theorem xMc_12 : ∀ m ∈ xMt_12, Cond.code m.1 m.2.1 m.2.2.1 m.2.2.2.1 ∈ tables_1 := List.forall_mem_cons.mpr ⟨List.mem_of_getElem? (i := 1913) rfl, List.forall_mem_cons.mpr ⟨List.mem_of_getElem? (i := 1909) rfl, List.forall_mem_cons.mpr ⟨List.mem_of_getElem? (i := 1905) rfl, List.forall_mem_cons.mpr ⟨List.mem_of_getElem? (i := 1933) rfl, List.forall_mem_cons.mpr ⟨List.mem_of_getElem? (i := 1929) rfl, List.forall_mem_cons.mpr ⟨List.mem_of_getElem? (i := 1937) rfl, List.forall_mem_cons.mpr ⟨List.mem_of_getElem? (i := 1941) rfl, List.forall_mem_cons.mpr ⟨List.mem_of_getElem? (i := 1945) rfl, List.forall_mem_cons.mpr ⟨List.mem_of_getElem? (i := 1957) rfl, List.forall_mem_cons.mpr ⟨List.mem_of_getElem? (i := 1952) rfl, List.forall_mem_cons.mpr ⟨List.mem_of_getElem? (i := 1949) rfl, List.forall_mem_cons.mpr ⟨List.mem_of_getElem? (i := 1961) rfl, List.forall_mem_cons.mpr ⟨List.mem_of_getElem? (i := 1965) rfl, List.forall_mem_cons.mpr ⟨List.mem_of_getElem? (i := 1522) rfl, List.forall_mem_cons.mpr ⟨List.mem_of_getElem? (i := 1987) rfl, List.forall_mem_cons.mpr ⟨List.mem_of_getElem? (i := 1991) rfl, List.forall_mem_cons.mpr ⟨List.mem_of_getElem? (i := 1995) rfl, List.forall_mem_cons.mpr ⟨List.mem_of_getElem? (i := 2007) rfl, List.forall_mem_cons.mpr ⟨List.mem_of_getElem? (i := 2003) rfl, List.forall_mem_cons.mpr ⟨List.mem_of_getElem? (i := 1984) rfl, fun _ h => absurd h List.not_mem_nil⟩⟩⟩⟩⟩⟩⟩⟩⟩⟩⟩⟩⟩⟩⟩⟩⟩⟩⟩⟩
def xMt_13 : List (xMT) := [
  (⟨RX12, "takesOver", "(III)V"⟩, prog_14_method_74_code, 4, none, false, 4),
  (⟨RX12, "solves", "(I)V"⟩, prog_14_method_75_code, 7, none, false, 2),
  (⟨RX12, "isRule", "(I)Z"⟩, prog_14_method_76_code, 1, (some .boolean), true, 1),
  (⟨RX12, "isState", "(IIIZ)Z"⟩, prog_14_method_77_code, 5, (some .boolean), false, 5),
  (⟨RX12, "bit", "(Z)I"⟩, prog_14_method_78_code, 1, (some .int), true, 1),
  (⟨RX12, "worth", "(IIIIZZ)I"⟩, prog_14_method_79_code, 7, (some .int), false, 7),
  (⟨RX12, "deed", "(IIIIZZ)I"⟩, prog_14_method_80_code, 7, (some .int), false, 7),
  (⟨RX12, "home", "(IIIIZZ)I"⟩, prog_14_method_81_code, 7, (some .int), false, 7),
  (⟨RX12, "hasStart", "()Z"⟩, prog_14_method_82_code, 1, (some .boolean), false, 1),
  (⟨RX12, "startWet", "()I"⟩, prog_14_method_83_code, 1, (some .int), false, 1),
  (⟨RX12, "startOf", "(II)I"⟩, prog_14_method_84_code, 3, (some .int), false, 3),
  (⟨RX12, "start", "(I)I"⟩, prog_14_method_85_code, 2, (some .int), false, 2),
  (⟨RX12, "cost", "(I)I"⟩, prog_14_method_86_code, 3, (some .int), false, 2),
  (⟨RX12, "leaves", "(IIZI)I"⟩, prog_14_method_87_code, 6, (some .int), false, 5),
  (⟨RX12, "leave", "(IIZ)I"⟩, prog_14_method_88_code, 4, (some .int), false, 4),
  (⟨RX12, "on", "(IIZ)I"⟩, prog_14_method_89_code, 4, (some .int), false, 4),
  (⟨RX12, "last", "(II)I"⟩, prog_14_method_90_code, 4, (some .int), false, 3),
  (⟨RX12, "weak", "(III)I"⟩, prog_14_method_91_code, 5, (some .int), false, 4),
  (⟨RX12, "endsBehind", "(IIIIZ)I"⟩, prog_14_method_92_code, 9, (some .int), false, 6),
  (⟨RX12, "endOf", "(IIIIIZ)I"⟩, prog_14_method_93_code, 9, (some .int), false, 7)]
set_option maxRecDepth 100000 in
theorem xMc_13 : ∀ m ∈ xMt_13, Cond.code m.1 m.2.1 m.2.2.1 m.2.2.2.1 ∈ tables_1 := List.forall_mem_cons.mpr ⟨List.mem_of_getElem? (i := 1999) rfl, List.forall_mem_cons.mpr ⟨List.mem_of_getElem? (i := 1980) rfl, List.forall_mem_cons.mpr ⟨List.mem_of_getElem? (i := 1972) rfl, List.forall_mem_cons.mpr ⟨List.mem_of_getElem? (i := 1976) rfl, List.forall_mem_cons.mpr ⟨List.mem_of_getElem? (i := 2014) rfl, List.forall_mem_cons.mpr ⟨List.mem_of_getElem? (i := 1969) rfl, List.forall_mem_cons.mpr ⟨List.mem_of_getElem? (i := 2018) rfl, List.forall_mem_cons.mpr ⟨List.mem_of_getElem? (i := 2022) rfl, List.forall_mem_cons.mpr ⟨List.mem_of_getElem? (i := 2030) rfl, List.forall_mem_cons.mpr ⟨List.mem_of_getElem? (i := 2034) rfl, List.forall_mem_cons.mpr ⟨List.mem_of_getElem? (i := 2038) rfl, List.forall_mem_cons.mpr ⟨List.mem_of_getElem? (i := 2026) rfl, List.forall_mem_cons.mpr ⟨List.mem_of_getElem? (i := 2042) rfl, List.forall_mem_cons.mpr ⟨List.mem_of_getElem? (i := 2050) rfl, List.forall_mem_cons.mpr ⟨List.mem_of_getElem? (i := 2046) rfl, List.forall_mem_cons.mpr ⟨List.mem_of_getElem? (i := 2054) rfl, List.forall_mem_cons.mpr ⟨List.mem_of_getElem? (i := 2058) rfl, List.forall_mem_cons.mpr ⟨List.mem_of_getElem? (i := 2062) rfl, List.forall_mem_cons.mpr ⟨List.mem_of_getElem? (i := 2078) rfl, List.forall_mem_cons.mpr ⟨List.mem_of_getElem? (i := 2070) rfl, fun _ h => absurd h List.not_mem_nil⟩⟩⟩⟩⟩⟩⟩⟩⟩⟩⟩⟩⟩⟩⟩⟩⟩⟩⟩⟩
def xMt_14 : List (xMT) := [
  (⟨RX12, "wayOf", "(III)I"⟩, prog_14_method_94_code, 7, (some .int), false, 4),
  (⟨RX12, "ends", "(IZ)I"⟩, prog_14_method_95_code, 8, (some .int), false, 3),
  (⟨RX12, "startWith", "(II)I"⟩, prog_14_method_96_code, 4, (some .int), false, 3),
  (⟨RX12, "share", "(I)I"⟩, prog_14_method_97_code, 2, (some .int), false, 2),
  (⟨RX12, "known", "(I)I"⟩, prog_14_method_98_code, 5, (some .int), false, 2),
  (⟨RX12, "hawk", "(I)I"⟩, prog_14_method_99_code, 8, (some .int), false, 2),
  (⟨RX12, "water", "()I"⟩, prog_14_method_100_code, 1, (some .int), false, 1),
  (⟨RX12, "drop", "()I"⟩, prog_14_method_101_code, 6, (some .int), false, 1),
  (⟨RX12, "draw", "(I)I"⟩, prog_14_method_102_code, 2, (some .int), false, 2),
  (⟨RX12, "sets", "(I)V"⟩, prog_14_method_103_code, 2, none, false, 2),
  (⟨RX12, "does", "(J)Z"⟩, prog_14_method_104_code, 4, (some .boolean), false, 2),
  (⟨RX12, "flies", "(II)V"⟩, prog_14_method_105_code, 5, none, false, 3),
  (⟨RX12, "canFly", "(II)Z"⟩, prog_14_method_106_code, 3, (some .boolean), false, 3),
  (⟨RX12, "fly", "(II)I"⟩, prog_14_method_107_code, 4, (some .int), false, 3),
  (⟨RX12, "flown", "(II)I"⟩, prog_14_method_108_code, 3, (some .int), false, 3),
  (⟨RX12, "landed", "(I)I"⟩, prog_14_method_109_code, 2, (some .int), false, 2),
  (⟨RX12, "judge", "(II)I"⟩, prog_14_method_110_code, 6, (some .int), false, 3),
  (⟨RX12, "fliesAll", "(III)V"⟩, prog_14_method_111_code, 6, none, false, 4),
  (⟨RX12, "canFlyAll", "(III)Z"⟩, prog_14_method_112_code, 4, (some .boolean), false, 4),
  (⟨RX12, "flights", "(III)I"⟩, prog_14_method_113_code, 4, (some .int), false, 4)]
set_option maxRecDepth 100000 in
theorem xMc_14 : ∀ m ∈ xMt_14, Cond.code m.1 m.2.1 m.2.2.1 m.2.2.2.1 ∈ tables_1 := List.forall_mem_cons.mpr ⟨List.mem_of_getElem? (i := 2074) rfl, List.forall_mem_cons.mpr ⟨List.mem_of_getElem? (i := 2066) rfl, List.forall_mem_cons.mpr ⟨List.mem_of_getElem? (i := 2086) rfl, List.forall_mem_cons.mpr ⟨List.mem_of_getElem? (i := 2082) rfl, List.forall_mem_cons.mpr ⟨List.mem_of_getElem? (i := 2090) rfl, List.forall_mem_cons.mpr ⟨List.mem_of_getElem? (i := 2094) rfl, List.forall_mem_cons.mpr ⟨List.mem_of_getElem? (i := 2098) rfl, List.forall_mem_cons.mpr ⟨List.mem_of_getElem? (i := 2102) rfl, List.forall_mem_cons.mpr ⟨List.mem_of_getElem? (i := 2123) rfl, List.forall_mem_cons.mpr ⟨List.mem_of_getElem? (i := 2119) rfl, List.forall_mem_cons.mpr ⟨List.mem_of_getElem? (i := 2131) rfl, List.forall_mem_cons.mpr ⟨List.mem_of_getElem? (i := 2115) rfl, List.forall_mem_cons.mpr ⟨List.mem_of_getElem? (i := 2110) rfl, List.forall_mem_cons.mpr ⟨List.mem_of_getElem? (i := 2106) rfl, List.forall_mem_cons.mpr ⟨List.mem_of_getElem? (i := 2138) rfl, List.forall_mem_cons.mpr ⟨List.mem_of_getElem? (i := 2143) rfl, List.forall_mem_cons.mpr ⟨List.mem_of_getElem? (i := 2147) rfl, List.forall_mem_cons.mpr ⟨List.mem_of_getElem? (i := 2163) rfl, List.forall_mem_cons.mpr ⟨List.mem_of_getElem? (i := 2158) rfl, List.forall_mem_cons.mpr ⟨List.mem_of_getElem? (i := 2154) rfl, fun _ h => absurd h List.not_mem_nil⟩⟩⟩⟩⟩⟩⟩⟩⟩⟩⟩⟩⟩⟩⟩⟩⟩⟩⟩⟩
def xMt_15 : List (xMT) := [
  (⟨RX12, "sum", "(III)I"⟩, prog_14_method_114_code, 4, (some .int), false, 4),
  (⟨RX12, "spread", "(IIII)I"⟩, prog_14_method_115_code, 5, (some .int), false, 5),
  (⟨RX12, "spot", "(III)I"⟩, prog_14_method_116_code, 3, (some .int), true, 3),
  (⟨RX12, "reckons", "(I)V"⟩, prog_14_method_117_code, 8, none, false, 2),
  (⟨RX12, "isIn", "(IIIII)Z"⟩, prog_14_method_118_code, 8, (some .boolean), false, 6),
  (⟨RX12, "climbsIn", "(IIIII)Z"⟩, prog_14_method_119_code, 7, (some .boolean), false, 6),
  (⟨RX12, "goesIn", "(IIII)Z"⟩, prog_14_method_120_code, 6, (some .boolean), false, 5),
  (⟨RX12, "liftSet", "()I"⟩, prog_14_method_121_code, 3, (some .int), false, 1),
  (⟨RX12, "soonBy", "(I)I"⟩, prog_14_method_122_code, 3, (some .int), false, 2),
  (⟨RX12, "soon", "()I"⟩, prog_14_method_123_code, 1, (some .int), false, 1),
  (⟨RX12, "way", "(I)I"⟩, prog_14_method_124_code, 8, (some .int), false, 2),
  (⟨RX12, "soonest", "(I)I"⟩, prog_14_method_125_code, 2, (some .int), false, 2),
  (⟨RX12, "key", "()I"⟩, prog_14_method_126_code, 6, (some .int), false, 1),
  (⟨RX12, "count", "(I)I"⟩, prog_14_method_127_code, 4, (some .int), false, 2),
  (⟨RX12, "isSlot", "(I)Z"⟩, prog_14_method_128_code, 1, (some .boolean), true, 1),
  (⟨RX12, "cut", "(JI)J"⟩, prog_14_method_129_code, 4, (some .long), true, 2),
  (⟨RX12, "row", "(III)I"⟩, prog_14_method_130_code, 5, (some .int), false, 4),
  (⟨RX12, "write", "(IIJ)I"⟩, prog_14_method_131_code, 5, (some .int), false, 4),
  (⟨RX12, "paste", "(IIIII)I"⟩, prog_14_method_132_code, 7, (some .int), false, 6),
  (⟨"java/lang/Integer", "bitCount", "(I)I"⟩, prog_15_method_49_code, 1, (some .int), true, 1)]
set_option maxRecDepth 100000 in
theorem xMc_15 : ∀ m ∈ xMt_15, Cond.code m.1 m.2.1 m.2.2.1 m.2.2.2.1 ∈ tables_1 := List.forall_mem_cons.mpr ⟨List.mem_of_getElem? (i := 2167) rfl, List.forall_mem_cons.mpr ⟨List.mem_of_getElem? (i := 2171) rfl, List.forall_mem_cons.mpr ⟨List.mem_of_getElem? (i := 2190) rfl, List.forall_mem_cons.mpr ⟨List.mem_of_getElem? (i := 2187) rfl, List.forall_mem_cons.mpr ⟨List.mem_of_getElem? (i := 2194) rfl, List.forall_mem_cons.mpr ⟨List.mem_of_getElem? (i := 2198) rfl, List.forall_mem_cons.mpr ⟨List.mem_of_getElem? (i := 2202) rfl, List.forall_mem_cons.mpr ⟨List.mem_of_getElem? (i := 2179) rfl, List.forall_mem_cons.mpr ⟨List.mem_of_getElem? (i := 2183) rfl, List.forall_mem_cons.mpr ⟨List.mem_of_getElem? (i := 2175) rfl, List.forall_mem_cons.mpr ⟨List.mem_of_getElem? (i := 2206) rfl, List.forall_mem_cons.mpr ⟨List.mem_of_getElem? (i := 2210) rfl, List.forall_mem_cons.mpr ⟨List.mem_of_getElem? (i := 2214) rfl, List.forall_mem_cons.mpr ⟨List.mem_of_getElem? (i := 2218) rfl, List.forall_mem_cons.mpr ⟨List.mem_of_getElem? (i := 2150) rfl, List.forall_mem_cons.mpr ⟨List.mem_of_getElem? (i := 2229) rfl, List.forall_mem_cons.mpr ⟨List.mem_of_getElem? (i := 2222) rfl, List.forall_mem_cons.mpr ⟨List.mem_of_getElem? (i := 2226) rfl, List.forall_mem_cons.mpr ⟨List.mem_of_getElem? (i := 2233) rfl, List.forall_mem_cons.mpr ⟨List.mem_of_getElem? (i := 746) rfl, fun _ h => absurd h List.not_mem_nil⟩⟩⟩⟩⟩⟩⟩⟩⟩⟩⟩⟩⟩⟩⟩⟩⟩⟩⟩⟩
def xMt_16 : List (xMT) := [
  (⟨"java/util/Arrays", "fill", "([JJ)V"⟩, prog_21_method_101_code, 5, none, true, 2),
  (⟨"java/util/Arrays", "fill", "([II)V"⟩, prog_21_method_103_code, 4, none, true, 2),
  (⟨"java/util/Arrays", "fill", "([BB)V"⟩, prog_21_method_109_code, 4, none, true, 2)]
set_option maxRecDepth 100000 in
theorem xMc_16 : ∀ m ∈ xMt_16, Cond.code m.1 m.2.1 m.2.2.1 m.2.2.2.1 ∈ tables_1 := List.forall_mem_cons.mpr ⟨List.mem_of_getElem? (i := 1493) rfl, List.forall_mem_cons.mpr ⟨List.mem_of_getElem? (i := 527) rfl, List.forall_mem_cons.mpr ⟨List.mem_of_getElem? (i := 1199) rfl, fun _ h => absurd h List.not_mem_nil⟩⟩⟩
def xMt : List xMT := xMt_0 ++ (xMt_1 ++ (xMt_2 ++ (xMt_3 ++ (xMt_4 ++ (xMt_5 ++ (xMt_6 ++ (xMt_7 ++ (xMt_8 ++ (xMt_9 ++ (xMt_10 ++ (xMt_11 ++ (xMt_12 ++ (xMt_13 ++ (xMt_14 ++ (xMt_15 ++ (xMt_16))))))))))))))))
theorem xM_code : ∀ m ∈ xMt, Cond.code m.1 m.2.1 m.2.2.1 m.2.2.2.1 ∈ tables_1 := List.forall_mem_append.mpr ⟨xMc_0, List.forall_mem_append.mpr ⟨xMc_1, List.forall_mem_append.mpr ⟨xMc_2, List.forall_mem_append.mpr ⟨xMc_3, List.forall_mem_append.mpr ⟨xMc_4, List.forall_mem_append.mpr ⟨xMc_5, List.forall_mem_append.mpr ⟨xMc_6, List.forall_mem_append.mpr ⟨xMc_7, List.forall_mem_append.mpr ⟨xMc_8, List.forall_mem_append.mpr ⟨xMc_9, List.forall_mem_append.mpr ⟨xMc_10, List.forall_mem_append.mpr ⟨xMc_11, List.forall_mem_append.mpr ⟨xMc_12, List.forall_mem_append.mpr ⟨xMc_13, List.forall_mem_append.mpr ⟨xMc_14, List.forall_mem_append.mpr ⟨xMc_15, xMc_16⟩⟩⟩⟩⟩⟩⟩⟩⟩⟩⟩⟩⟩⟩⟩⟩
def xMd : xMT := (⟨"", "", ""⟩, ⟨#[]⟩, 0, none, false, 0)
def xM (j : Nat) : xMT := xMt.getD j xMd
theorem xM_init : ∀ m ∈ xMt.filter (fun _ => true), (fun m => Cond.initialized m.1.cls) m ∈ tables_1 := by
  have h : ∀ w ∈ (xMt.filter (fun _ => true)).map (fun m => Cond.initialized m.1.cls), w ∈ tables_1 := x_mem [10, 10, 10, 10, 10, 10, 10, 10, 10, 10, 10, 10, 10, 10, 10, 8, 8, 8, 8, 8, 8, 8, 8, 8, 8, 8, 8, 7, 7, 9, 9, 9, 9, 9, 9, 6, 6, 6, 6, 6, 20, 20, 20, 20, 20, 20, 20, 20, 20, 20, 20, 20, 20, 20, 20, 4, 4, 4, 4, 4, 4, 2, 2, 2, 2, 2, 2, 2, 2, 2, 2, 2, 2, 2, 2, 2, 2, 2, 2, 2, 2, 2, 2, 2, 11, 11, 11, 11, 11, 11, 11, 11, 11, 11, 5, 5, 5, 3, 3, 3, 3, 3, 3, 3, 3, 3, 3, 3, 3, 3, 3, 3, 3, 3, 3, 3, 3, 3, 3, 1, 1, 1, 1, 1, 1, 1, 1, 1, 1, 1, 1, 1, 1, 1, 1, 1, 1, 1, 1, 1, 1, 1, 1, 1, 1, 1, 1, 1, 1, 1, 1, 1, 1, 1, 1, 1, 1, 1, 1, 1, 1, 1, 1, 1, 1, 1, 1, 1, 1, 1, 1, 1, 1, 1, 1, 1, 1, 1, 1, 1, 1, 1, 1, 1, 1, 1, 1, 1, 14, 14, 14, 14, 14, 14, 14, 14, 14, 14, 14, 14, 14, 14, 14, 14, 14, 14, 14, 14, 14, 14, 14, 14, 14, 14, 14, 14, 14, 14, 14, 14, 14, 14, 14, 14, 14, 14, 14, 14, 14, 14, 14, 14, 14, 14, 14, 14, 14, 14, 14, 14, 14, 14, 14, 14, 14, 14, 14, 14, 14, 14, 14, 14, 14, 14, 14, 14, 14, 14, 14, 14, 14, 14, 14, 14, 14, 14, 14, 14, 14, 14, 14, 14, 14, 14, 14, 14, 14, 14, 14, 14, 14, 14, 14, 14, 14, 14, 14, 14, 14, 14, 14, 14, 14, 14, 14, 14, 14, 14, 14, 14, 14, 14, 14, 14, 14, 14, 14, 14, 14, 14, 14, 14, 14, 14, 14, 14, 14, 14, 14, 19, 12, 12, 12] (by decide +kernel)
  exact fun e he => h _ (List.mem_map.mpr ⟨e, he, rfl⟩)
theorem xM_stat : ∀ m ∈ xMt.filter (fun m => m.2.2.2.2.1), (fun m => Cond.static m.1) m ∈ tables_1 := by
  have h : ∀ w ∈ (xMt.filter (fun m => m.2.2.2.2.1)).map (fun m => Cond.static m.1), w ∈ tables_1 := x_mem [562, 1105, 659, 1403, 970, 997, 1125, 1316, 1360, 1499, 1506, 1688, 1758, 1517, 1761, 1951, 1986, 1971, 2013, 2189, 2149, 2228, 745, 1492, 526, 1198] (by decide +kernel)
  exact fun e he => h _ (List.mem_map.mpr ⟨e, he, rfl⟩)
theorem xM_inst : ∀ m ∈ xMt.filter (fun m => !m.2.2.2.2.1), (fun m => Cond.instanceMethod m.1) m ∈ tables_1 := by
  have h : ∀ w ∈ (xMt.filter (fun m => !m.2.2.2.2.1)).map (fun m => Cond.instanceMethod m.1), w ∈ tables_1 := x_mem [424, 1329, 1264, 1268, 1274, 1278, 1325, 1286, 1334, 1292, 1297, 1305, 1345, 1353, 1381, 345, 530, 534, 538, 1080, 559, 571, 921, 926, 954, 963, 173, 1469, 399, 1195, 1206, 1210, 1214, 1224, 124, 218, 1465, 888, 892, 1009, 1067, 1073, 1238, 1187, 1122, 1135, 1118, 1153, 1089, 1093, 1097, 1101, 1109, 83, 817, 1473, 974, 982, 990, 33, 651, 656, 663, 738, 752, 676, 775, 765, 769, 790, 784, 667, 671, 742, 756, 760, 780, 797, 812, 821, 827, 490, 1392, 1396, 1407, 1411, 1416, 1426, 1435, 1430, 105, 900, 1480, 73, 214, 1461, 808, 851, 855, 917, 1001, 833, 1149, 566, 958, 801, 546, 542, 550, 871, 875, 930, 884, 1084, 1113, 25, 633, 638, 641, 645, 842, 839, 846, 859, 865, 879, 895, 903, 907, 912, 934, 939, 945, 949, 966, 977, 985, 993, 1130, 1138, 1005, 1182, 1143, 1157, 1161, 1169, 1166, 1173, 1177, 1190, 1229, 1245, 1250, 1234, 1242, 1255, 1259, 1312, 1321, 1340, 1348, 1356, 1364, 1369, 1372, 1376, 1386, 1421, 1438, 1442, 1446, 1453, 1456, 1484, 1488, 1495, 1502, 1512, 1683, 1691, 1867, 1829, 1850, 1695, 1699, 1716, 1712, 1726, 1755, 1739, 1782, 1778, 1769, 1774, 1703, 1792, 1810, 1798, 1804, 1817, 1825, 1788, 1734, 1765, 1730, 1707, 1838, 1842, 1846, 1859, 1833, 1853, 1875, 1871, 1862, 1887, 1883, 2010, 1878, 1890, 1895, 1899, 1916, 1920, 1924, 1912, 1908, 1903, 1932, 1927, 1935, 1939, 1943, 1956, 1947, 1959, 1963, 1521, 1990, 1994, 2006, 2002, 1983, 1998, 1979, 1975, 1967, 2016, 2020, 2029, 2033, 2037, 2024, 2040, 2049, 2044, 2052, 2056, 2060, 2077, 2069, 2073, 2064, 2085, 2080, 2088, 2092, 2096, 2100, 2122, 2118, 2130, 2114, 2109, 2104, 2136, 2141, 2145, 2162, 2157, 2152, 2165, 2169, 2186, 2193, 2197, 2201, 2178, 2182, 2173, 2204, 2208, 2212, 2216, 2220, 2224, 2231] (by decide +kernel)
  exact fun e he => h _ (List.mem_map.mpr ⟨e, he, rfl⟩)
def xSel (m : MethodName) : Cond := Cond.selects m.cls m m
def xVpub : List Nat := [120, 122, 123, 124, 126, 127, 128, 129, 130, 131, 132, 133, 134, 135, 136, 137, 138, 139, 141, 142, 143, 144, 148, 149, 150, 151, 153, 154, 155, 156, 157, 158, 162, 163, 164, 167, 168, 169, 170, 172, 173, 174, 175, 176, 177, 178, 180, 181, 183, 184, 186, 192, 193, 197, 198, 208, 220, 225, 226, 229, 233, 234, 235, 236, 242, 244, 245, 246, 247, 250, 251, 252, 265, 266, 267, 271, 272, 274, 275, 276, 277, 281, 283, 284, 285, 286, 287, 293, 294, 295, 296, 299, 300, 301, 309, 310, 311, 312, 313, 316, 317, 318]
def xVpri : List Nat := [1, 2, 3, 4, 5, 6, 7, 8, 9, 10, 11, 12, 13, 14, 17, 18, 19, 20, 21, 22, 23, 24, 25, 26, 28, 30, 31, 32, 33, 34, 36, 37, 38, 39, 42, 43, 44, 45, 46, 47, 48, 49, 50, 51, 52, 53, 54, 56, 57, 58, 59, 60, 62, 63, 64, 66, 67, 68, 69, 70, 71, 72, 73, 74, 75, 76, 77, 78, 79, 80, 81, 82, 83, 86, 87, 88, 89, 90, 91, 92, 93, 95, 96, 98, 99, 100, 101, 102, 103, 104, 105, 106, 107, 108, 109, 110, 111, 112, 113, 114, 115, 116, 117, 118, 121, 125, 146, 147, 152, 159, 160, 166, 171, 179, 194, 195, 196, 199, 200, 201, 202, 203, 204, 205, 206, 207, 209, 210, 211, 212, 213, 214, 215, 217, 218, 219, 221, 222, 223, 224, 227, 228, 230, 231, 232, 237, 238, 239, 240, 241, 243, 248, 253, 255, 256, 257, 258, 259, 260, 261, 263, 268, 269, 270, 273, 278, 279, 280, 282, 288, 289, 290, 291, 292, 297, 298, 303, 304, 305, 306, 307, 308]
theorem xV_pub : ∀ j ∈ xVpub, xSel (xM j).1 ∈ lw_tbl := by
  have h : ∀ w ∈ xVpub.map (fun j => xSel (xM j).1), w ∈ tables_1 := x_mem [634, 642, 646, 843, 847, 860, 866, 880, 896, 904, 908, 913, 935, 940, 946, 950, 967, 978, 986, 994, 1131, 1139, 1144, 1158, 1162, 1170, 1174, 1178, 1191, 1230, 1246, 1251, 1256, 1260, 1313, 1341, 1349, 1357, 1365, 1373, 1377, 1387, 1422, 1439, 1443, 1447, 1457, 1485, 1489, 1496, 1503, 1684, 1692, 1696, 1700, 1704, 1708, 1834, 1854, 1863, 1879, 1891, 1896, 1900, 1904, 1928, 1936, 1940, 1944, 1948, 1960, 1964, 1968, 2017, 2021, 2025, 2041, 2045, 2053, 2057, 2061, 2065, 2081, 2089, 2093, 2097, 2101, 2105, 2137, 2142, 2146, 2153, 2166, 2170, 2174, 2205, 2209, 2213, 2217, 2221, 2225, 2232] (by decide +kernel)
  exact fun j hj => x_in (h _ (List.mem_map.mpr ⟨j, hj, rfl⟩))
theorem xV_pri : ∀ j ∈ xVpri, xSel (xM j).1 ∈ lw_tbl := by
  have h : ∀ w ∈ xVpri.map (fun j => (xM j).1), w ∈ lw_privs.map (fun q => q.1) := x_memA [94, 84, 85, 86, 87, 93, 88, 95, 89, 90, 91, 96, 97, 99, 2, 3, 4, 60, 8, 10, 47, 48, 50, 52, 111, 76, 77, 78, 79, 80, 1, 110, 43, 44, 58, 59, 82, 75, 69, 70, 68, 72, 62, 63, 64, 65, 66, 33, 112, 53, 54, 55, 12, 13, 14, 18, 20, 17, 25, 23, 24, 28, 27, 15, 16, 19, 21, 22, 26, 29, 32, 34, 35, 100, 101, 102, 103, 104, 105, 107, 106, 45, 113, 0, 109, 31, 38, 39, 46, 56, 36, 71, 9, 51, 30, 6, 5, 7, 40, 41, 49, 42, 61, 67, 11, 37, 57, 74, 73, 81, 83, 92, 98, 108, 140, 134, 138, 116, 115, 117, 121, 120, 126, 125, 123, 124, 128, 131, 129, 130, 132, 133, 127, 119, 122, 118, 135, 136, 137, 139, 142, 141, 144, 143, 160, 147, 148, 149, 146, 145, 150, 151, 114, 155, 156, 159, 158, 154, 157, 153, 152, 161, 162, 163, 164, 167, 165, 166, 168, 172, 171, 173, 170, 169, 175, 174, 178, 179, 180, 181, 176, 177] (by decide +kernel)
  intro j hj
  obtain ⟨q, hq, he⟩ := List.mem_map.mp (h _ (List.mem_map.mpr ⟨j, hj, rfl⟩))
  refine List.mem_append_left _ (List.mem_map.mpr ⟨q, hq, ?_⟩)
  rw [← he]
  rfl
def xMplain (m : xMT) : Bool := plainName m.1.cls && m.1.cls != "java/lang/invoke/MethodHandle" && m.1.cls != "java/lang/invoke/VarHandle" && (parseMethodDescriptor m.1.desc).map (fun d => d.parameters.length) == some (if m.2.2.2.2.1 then m.2.2.2.2.2 else m.2.2.2.2.2 - 1) && Nat.ble m.2.2.1 22
theorem xM_plain : xMt.all xMplain = true := by decide +kernel
def xMl : List (Nat × Nat × Nat) := [
  (0, 39, 3), (0, 85, 4), (0, 88, 5), (0, 102, 1), (0, 106, 7), (0, 110, 8), (0, 114, 9), (0, 150, 10), (0, 157, 11), (1, 48, 18), (1, 52, 21), (1, 78, 19),
  (1, 106, 16), (1, 115, 22), (1, 125, 321), (1, 131, 24), (1, 143, 319), (1, 148, 26), (3, 27, 322), (3, 60, 31), (3, 67, 32), (3, 90, 33), (3, 121, 34), (4, 34, 39),
  (5, 79, 43), (5, 112, 50), (5, 122, 41), (5, 126, 51), (5, 141, 52), (5, 144, 54), (5, 155, 53), (5, 171, 48), (5, 174, 46), (7, 48, 63), (7, 55, 74), (7, 85, 65),
  (7, 89, 64), (7, 103, 68), (7, 107, 67), (7, 110, 66), (7, 114, 71), (7, 122, 75), (7, 128, 76), (7, 132, 77), (7, 171, 319), (7, 176, 78), (7, 179, 79), (7, 182, 80),
  (7, 185, 81), (7, 188, 73), (7, 198, 82), (7, 201, 83), (7, 205, 70), (7, 214, 69), (7, 225, 72), (8, 24, 87), (8, 29, 321), (8, 48, 85), (8, 67, 88), (8, 94, 89),
  (8, 117, 90), (8, 133, 93), (8, 140, 92), (10, 39, 98), (10, 107, 100), (10, 127, 110), (10, 134, 111), (10, 147, 114), (11, 93, 321), (11, 106, 121), (11, 121, 125), (11, 210, 140),
  (11, 230, 145), (11, 237, 146), (11, 273, 152), (11, 289, 147), (11, 309, 159), (11, 312, 160), (11, 315, 161), (11, 354, 165), (11, 357, 166), (11, 373, 182), (11, 379, 171), (11, 422, 319),
  (11, 431, 179), (11, 437, 320), (11, 440, 185), (11, 444, 187), (12, 108, 191), (12, 112, 253), (12, 117, 188), (12, 130, 199), (12, 161, 201), (12, 175, 203), (12, 179, 200), (12, 182, 204),
  (12, 185, 202), (12, 189, 205), (12, 193, 206), (12, 200, 207), (12, 212, 209), (12, 219, 210), (12, 232, 189), (12, 255, 215), (12, 258, 217), (12, 270, 216), (12, 273, 218), (12, 276, 211),
  (12, 279, 212), (12, 282, 213), (12, 287, 214), (12, 290, 219), (12, 293, 195), (12, 299, 196), (12, 302, 221), (12, 306, 222), (12, 309, 223), (12, 314, 224), (12, 321, 227), (12, 324, 194),
  (12, 327, 228), (12, 331, 230), (12, 338, 231), (12, 346, 238), (12, 350, 237), (12, 353, 239), (12, 356, 241), (12, 359, 240), (12, 363, 243), (12, 369, 249), (12, 372, 248), (12, 375, 232),
  (12, 378, 254), (12, 382, 255), (12, 385, 256), (12, 388, 260), (12, 392, 258), (12, 396, 257), (12, 400, 259), (12, 404, 262), (12, 407, 263), (12, 411, 261), (12, 414, 264), (12, 418, 268),
  (12, 421, 269), (12, 424, 270), (12, 427, 273), (12, 430, 280), (12, 433, 278), (12, 437, 279), (12, 441, 282), (12, 468, 288), (12, 483, 289), (12, 486, 290), (12, 492, 292), (12, 495, 291),
  (12, 503, 314), (12, 514, 298), (12, 518, 297), (12, 524, 302), (12, 527, 304), (12, 531, 305), (12, 534, 306), (12, 537, 303), (12, 540, 307), (12, 543, 308), (12, 546, 315), (13, 9, 119),
  (13, 12, 190), (13, 13, 120), (13, 17, 197), (13, 18, 122), (13, 22, 198), (13, 23, 123), (13, 27, 220), (13, 28, 124), (13, 31, 208), (13, 32, 126), (13, 36, 225), (13, 37, 127),
  (13, 40, 226), (13, 41, 128), (13, 45, 229), (13, 46, 129), (13, 49, 233), (13, 50, 130), (13, 54, 234), (13, 55, 131), (13, 58, 235), (13, 59, 132), (13, 62, 236), (13, 63, 133),
  (13, 67, 242), (13, 68, 134), (13, 72, 244), (13, 73, 135), (13, 76, 245), (13, 77, 138), (13, 80, 250), (13, 81, 139), (13, 84, 251), (13, 85, 141), (13, 88, 252), (13, 89, 142),
  (13, 93, 265), (13, 94, 143), (13, 97, 266), (13, 98, 144), (13, 101, 267), (13, 102, 148), (13, 105, 271), (13, 106, 149), (13, 109, 272), (13, 110, 150), (13, 113, 274), (13, 114, 151),
  (13, 117, 275), (13, 118, 153), (13, 121, 276), (13, 122, 154), (13, 126, 277), (13, 127, 155), (13, 130, 281), (13, 131, 136), (13, 134, 246), (13, 135, 137), (13, 138, 247), (13, 139, 156),
  (13, 142, 283), (13, 143, 157), (13, 146, 284), (13, 147, 158), (13, 150, 285), (13, 151, 162), (13, 154, 286), (13, 155, 163), (13, 158, 287), (13, 159, 164), (13, 162, 293), (13, 163, 167),
  (13, 166, 294), (13, 167, 168), (13, 170, 295), (13, 171, 169), (13, 174, 296), (13, 175, 170), (13, 178, 299), (13, 179, 172), (13, 182, 300), (13, 183, 173), (13, 187, 301), (13, 188, 174),
  (13, 191, 309), (13, 192, 175), (13, 195, 310), (13, 196, 176), (13, 199, 311), (13, 200, 177), (13, 203, 312), (13, 204, 178), (13, 207, 313), (13, 208, 180), (13, 211, 192), (13, 212, 181),
  (13, 215, 193), (13, 216, 183), (13, 219, 316), (13, 222, 184), (13, 226, 317), (13, 227, 186), (13, 230, 318)]
def xMn : List (Nat × Nat × Nat) := [
  (0, 53, 116), (0, 75, 106), (0, 123, 118), (0, 136, 107), (0, 140, 41), (0, 144, 47), (0, 161, 113), (0, 164, 115), (0, 170, 101), (0, 173, 102), (0, 188, 111), (0, 192, 112),
  (1, 82, 111), (1, 85, 112), (1, 110, 107), (1, 135, 115), (1, 139, 108), (3, 44, 106), (3, 56, 41), (3, 94, 47), (3, 101, 118), (3, 114, 113), (3, 117, 115), (3, 137, 112),
  (3, 141, 111), (5, 66, 116), (5, 70, 113), (5, 92, 16), (5, 106, 20), (5, 109, 117), (5, 148, 161), (5, 162, 118), (5, 168, 115), (7, 58, 105), (7, 252, 109), (7, 261, 100),
  (7, 280, 56), (8, 78, 106), (8, 91, 113), (8, 106, 16), (8, 136, 115), (10, 25, 55), (10, 32, 94), (10, 37, 35), (10, 38, 27), (10, 42, 36), (10, 94, 37), (10, 98, 28),
  (10, 101, 57), (10, 104, 96), (10, 168, 38), (10, 171, 58), (11, 15, 61), (11, 28, 97), (11, 46, 15), (11, 59, 29), (11, 66, 0), (11, 76, 84), (11, 99, 17), (11, 110, 98),
  (11, 113, 62), (11, 131, 101), (11, 135, 102), (11, 138, 111), (11, 143, 112), (11, 146, 100), (11, 149, 113), (11, 153, 116), (11, 166, 95), (11, 179, 39), (11, 183, 103), (11, 186, 23),
  (11, 196, 107), (11, 202, 16), (11, 206, 25), (11, 217, 58), (11, 222, 59), (11, 226, 60), (11, 233, 104), (11, 241, 50), (11, 244, 41), (11, 248, 46), (11, 251, 47), (11, 254, 48),
  (11, 257, 40), (11, 258, 42), (11, 262, 105), (11, 266, 106), (11, 269, 49), (11, 293, 114), (11, 296, 45), (11, 299, 30), (11, 325, 38), (11, 331, 44), (11, 337, 2), (11, 343, 7),
  (11, 350, 9), (11, 363, 6), (11, 367, 12), (11, 370, 13), (11, 376, 1), (11, 389, 14), (11, 400, 108), (11, 403, 86), (11, 407, 91), (11, 419, 109), (11, 434, 99)]
def xMlC (e : Nat × Nat × Nat) : Cond := Cond.methodLink (xo e.1) e.2.1 (xM e.2.2).1
def xMnC (e : Nat × Nat × Nat) : Cond := Cond.methodLinkNest (xo e.1) e.2.1 (xM e.2.2).1 "LastCloud"
theorem xMl_ok : ∀ e ∈ xMl, xMlC e ∈ tables_1 := by
  have h : ∀ w ∈ xMl.map xMlC, w ∈ tables_1 := x_mem [1266, 1272, 1276, 1327, 1331, 1332, 1336, 1295, 1303, 532, 557, 536, 561, 569, 923, 924, 960, 961, 1197, 1204, 1208, 1212, 1222, 890, 1071, 1155, 1104, 1091, 1095, 1107, 1099, 1116, 1120, 654, 665, 658, 661, 674, 750, 736, 767, 669, 740, 754, 744, 758, 778, 795, 810, 782, 819, 825, 763, 773, 788, 1394, 1401, 1402, 1405, 1409, 1414, 1428, 1433, 212, 835, 544, 552, 873, 525, 636, 837, 969, 996, 1003, 1164, 1180, 1232, 1240, 1248, 1315, 1319, 1359, 1367, 1450, 1451, 1491, 1498, 1505, 1516, 1519, 1687, 1714, 1724, 1737, 1710, 1780, 1753, 1776, 1767, 1772, 1790, 1808, 1757, 1786, 1732, 1760, 1763, 1796, 1802, 1815, 1823, 1728, 1827, 1848, 1836, 1840, 1844, 1857, 1873, 1865, 1869, 1885, 1881, 1918, 1914, 1922, 1906, 1910, 1930, 1950, 1954, 2008, 1985, 1988, 1992, 1996, 2000, 2004, 1981, 1970, 1973, 1977, 2012, 2027, 2031, 2035, 2047, 2071, 2075, 2067, 2083, 2120, 2116, 2128, 2107, 2112, 2148, 2155, 2160, 2188, 2191, 2195, 2199, 2184, 2176, 2180, 2227, 24, 1511, 632, 1694, 640, 1698, 644, 1706, 841, 1702, 845, 1832, 858, 1852, 864, 1861, 878, 1877, 894, 1889, 902, 1894, 906, 1898, 911, 1902, 933, 1926, 938, 1934, 965, 1946, 976, 1958, 984, 1962, 992, 1966, 1129, 2015, 1137, 2019, 1142, 2023, 1156, 2039, 1160, 2043, 1168, 2051, 1172, 2055, 1176, 2059, 1189, 2063, 944, 1938, 948, 1942, 1228, 2079, 1244, 2087, 1249, 2091, 1254, 2095, 1258, 2099, 1311, 2103, 1339, 2135, 1347, 2140, 1355, 2144, 1363, 2151, 1371, 2164, 1375, 2168, 1385, 2172, 1420, 2203, 1437, 2207, 1441, 2211, 1445, 2215, 1455, 1682, 1483, 1690, 1487, 2219, 1494, 2223, 1501, 2230] (by decide +kernel)
  exact fun e he => h _ (List.mem_map.mpr ⟨e, he, rfl⟩)
theorem xMn_ok : ∀ e ∈ xMn, xMnC e ∈ tables_1 := by
  have h : ∀ w ∈ xMn.map xMnC, w ∈ tables_1 := x_mem [1270, 1271, 1337, 1338, 1288, 1289, 1299, 1300, 1307, 1308, 1309, 1310, 540, 548, 564, 928, 956, 1202, 1203, 1216, 1217, 1220, 1221, 1226, 1227, 1069, 1070, 1075, 1078, 1082, 1124, 1111, 1115, 831, 799, 806, 815, 1398, 1399, 1413, 1432, 82, 104, 123, 172, 216, 1463, 1467, 1471, 1478, 886, 1086, 32, 72, 344, 398, 423, 489, 528, 648, 649, 849, 853, 857, 863, 868, 869, 882, 898, 910, 915, 919, 937, 942, 952, 972, 980, 988, 999, 1087, 1127, 1128, 1133, 1141, 1008, 1065, 1146, 1147, 1151, 1184, 1185, 1193, 1253, 1236, 1262, 1284, 1290, 1323, 1343, 1351, 1362, 1379, 1389, 1390, 1424, 1449, 1459] (by decide +kernel)
  exact fun e he => h _ (List.mem_map.mpr ⟨e, he, rfl⟩)
def xBn : List MethodName := [⟨"java/lang/Object", "<init>", "()V"⟩, ⟨"java/lang/Math", "max", "(II)I"⟩, ⟨"java/lang/Math", "min", "(II)I"⟩, ⟨"java/lang/System", "arraycopy", "(Ljava/lang/Object;ILjava/lang/Object;II)V"⟩, ⟨"java/lang/String", "length", "()I"⟩, ⟨"java/lang/String", "charAt", "(I)C"⟩]
def xBl : List (Nat × Nat × Nat) := [
  (0, 3, 0), (1, 3, 0), (1, 100, 1), (1, 122, 2), (2, 1, 0), (3, 3, 0), (3, 105, 2), (3, 111, 1), (4, 3, 0), (5, 3, 0), (5, 100, 1), (5, 159, 2),
  (6, 3, 0), (6, 22, 3), (7, 3, 0), (7, 42, 2), (7, 82, 1), (7, 93, 4), (7, 99, 5), (8, 3, 0), (8, 97, 2), (8, 103, 1), (9, 3, 0), (9, 22, 3),
  (10, 3, 0), (10, 151, 1), (10, 157, 2), (11, 3, 0), (11, 392, 2), (11, 397, 1), (11, 447, 3), (12, 7, 0), (12, 152, 2), (12, 165, 4), (12, 171, 5), (12, 296, 1)]
def xBlC (e : Nat × Nat × Nat) : Cond := Cond.methodLink (xo e.1) e.2.1 (xBn.getD e.2.2 ⟨"", "", ""⟩)
theorem xBl_ok : ∀ e ∈ xBl, xBlC e ∈ tables_1 := by
  have h : ∀ w ∈ xBl.map xBlC, w ∈ tables_1 := x_mem [426, 347, 554, 573, 175, 401, 1218, 1219, 126, 1011, 1077, 1103, 85, 1475, 35, 653, 836, 678, 688, 492, 1419, 1418, 107, 1482, 75, 877, 932, 27, 1383, 1384, 1508, 1514, 1723, 1741, 1742, 1831] (by decide +kernel)
  exact fun e he => h _ (List.mem_map.mpr ⟨e, he, rfl⟩)
def xKi : List (Nat × Nat × Int) := [
  (1, 114, 1000000), (3, 11, 46848), (3, 35, 2147483647), (3, 40, -2147483648), (5, 11, 46848), (5, 95, 1000000), (7, 113, 1000000), (8, 28, 1000000), (10, 137, -2000000000), (11, 142, -2000000000), (11, 205, 1000000), (11, 362, 2000000000),
  (12, 58, 93696), (12, 151, 99999), (12, 313, -2000000000), (14, 265, 1431655765), (14, 266, 858993459), (14, 267, 252645135)]
def xKiC (e : Nat × Nat × Int) : Cond := Cond.constant (xo e.1) e.2.1 (Int32.ofInt e.2.2)
theorem xKi_ok : ∀ e ∈ xKi, xKiC e ∈ tables_1 := by
  have h : ∀ w ∈ xKi.map xKiC, w ∈ tables_1 := x_mem [568, 402, 1200, 1201, 1012, 1076, 771, 1400, 553, 862, 943, 1318, 1515, 1722, 1856, 747, 748, 749] (by decide +kernel)
  exact fun e he => h _ (List.mem_map.mpr ⟨e, he, rfl⟩)
def xKl : List (Nat × Nat × Int) := [
  (0, 94, 1103515245), (0, 96, 12345), (0, 98, 2147483648), (0, 100, 65536), (0, 148, -1), (0, 153, 100), (0, 155, 200), (12, 115, 2), (12, 140, 97), (12, 142, 122), (12, 144, 48), (12, 146, 57),
  (12, 341, 3), (12, 367, 2000), (12, 444, 1103515245), (12, 450, 12345), (12, 452, 2147483648), (12, 454, 65536), (12, 477, -1), (12, 479, 100), (12, 481, 199), (12, 490, 2000000000), (12, 501, 4), (12, 512, 40),
  (13, 220, 4294967295)]
def xKlC (e : Nat × Nat × Int) : Cond := Cond.constantLong (xo e.1) e.2.1 (Int64.ofInt e.2.2)
theorem xKl_ok : ∀ e ∈ xKl, xKlC e ∈ tables_1 := by
  have h : ∀ w ∈ xKl.map xKlC, w ∈ tables_1 := x_mem [1280, 1281, 1282, 1283, 1294, 1301, 1302, 1686, 1718, 1719, 1720, 1721, 1893, 1953, 2124, 2125, 2126, 2127, 2132, 2133, 2134, 2111, 2139, 2159, 2234] (by decide +kernel)
  exact fun e he => h _ (List.mem_map.mpr ⟨e, he, rfl⟩)
def xKs : List (Nat × Nat × Nat) := [
  (7, 117, 16), (7, 135, 0), (7, 137, 1), (7, 139, 2), (7, 141, 3), (7, 143, 4), (7, 145, 5), (7, 147, 6), (7, 149, 7), (7, 150, 8), (7, 152, 9), (7, 154, 10),
  (7, 204, 11), (7, 209, 12), (7, 217, 13), (7, 221, 14), (7, 223, 15), (7, 228, 17), (7, 230, 18), (7, 255, 19), (7, 257, 20), (7, 259, 21), (7, 278, 22), (7, 287, 23),
  (7, 292, 24), (7, 297, 25), (7, 298, 26), (12, 196, 16), (12, 198, 11), (12, 204, 13), (12, 206, 12), (12, 215, 14), (12, 217, 15), (12, 222, 17), (12, 224, 18), (12, 226, 19),
  (12, 228, 20), (12, 230, 21), (12, 236, 25), (12, 237, 26), (12, 239, 5), (12, 241, 6), (12, 243, 7), (12, 245, 8), (12, 247, 9), (12, 249, 10), (12, 251, 23), (12, 253, 24),
  (12, 261, 0), (12, 262, 1), (12, 264, 2), (12, 266, 3), (12, 268, 4), (12, 285, 22)]
def xKsC (e : Nat × Nat × Nat) : Cond := Cond.stringRef (xo e.1) e.2.1 (xStr.getD e.2.2 "")
theorem xKs_ok : ∀ e ∈ xKs, xKsC e ∈ tables_1 := by
  have h : ∀ w ∈ xKs.map xKsC, w ∈ tables_1 := x_mem [792, 673, 726, 727, 728, 729, 730, 731, 732, 733, 734, 735, 762, 772, 777, 786, 787, 793, 794, 803, 804, 805, 814, 823, 824, 829, 830, 1812, 1800, 1801, 1771, 1806, 1807, 1813, 1814, 1819, 1820, 1821, 1794, 1795, 1736, 1743, 1744, 1745, 1746, 1747, 1784, 1785, 1748, 1749, 1750, 1751, 1752, 1822] (by decide +kernel)
  exact fun e he => h _ (List.mem_map.mpr ⟨e, he, rfl⟩)
def xKc : List (Nat × Nat × Nat) := [
  (10, 9, 4), (10, 17, 2), (10, 23, 6), (10, 30, 9), (11, 13, 7), (11, 26, 10), (11, 44, 1), (11, 51, 5), (11, 57, 3), (11, 64, 0), (11, 74, 8), (13, 7, 11),
  (13, 10, 12)]
def xKcC (e : Nat × Nat × Nat) : Cond := Cond.classLink (xo e.1) e.2.1 (xCl e.2.2).1
theorem xKc_ok : ∀ e ∈ xKc, xKcC e ∈ tables_1 := by
  have h : ∀ w ∈ xKc.map xKcC, w ∈ tables_1 := x_mem [76, 78, 80, 102, 30, 70, 342, 394, 396, 421, 487, 22, 1509] (by decide +kernel)
  exact fun e he => h _ (List.mem_map.mpr ⟨e, he, rfl⟩)
theorem xKm_81 : Cond.classLink (xo 11) 81 "[[J" ∈ tables_1 := List.mem_of_getElem? (i := 523) (by decide +kernel)
theorem xIns_0 : Cond.instantiable RX0 18 ∈ tables_1 := List.mem_of_getElem? (i := 422) (by decide +kernel)
theorem xIni_0 : Cond.initialized RX0 ∈ tables_1 := List.mem_of_getElem? (i := 10) (by decide +kernel)
theorem xIns_1 : Cond.instantiable RX1 10 ∈ tables_1 := List.mem_of_getElem? (i := 343) (by decide +kernel)
theorem xIni_1 : Cond.initialized RX1 ∈ tables_1 := List.mem_of_getElem? (i := 8) (by decide +kernel)
theorem xIns_2 : Cond.instantiable RX2 6 ∈ tables_1 := List.mem_of_getElem? (i := 171) (by decide +kernel)
theorem xIni_2 : Cond.initialized RX2 ∈ tables_1 := List.mem_of_getElem? (i := 7) (by decide +kernel)
theorem xIns_3 : Cond.instantiable RX3 5 ∈ tables_1 := List.mem_of_getElem? (i := 397) (by decide +kernel)
theorem xIni_3 : Cond.initialized RX3 ∈ tables_1 := List.mem_of_getElem? (i := 9) (by decide +kernel)
theorem xIns_4 : Cond.instantiable RX4 7 ∈ tables_1 := List.mem_of_getElem? (i := 122) (by decide +kernel)
theorem xIni_4 : Cond.initialized RX4 ∈ tables_1 := List.mem_of_getElem? (i := 6) (by decide +kernel)
theorem xIns_5 : Cond.instantiable RX5 15 ∈ tables_1 := List.mem_of_getElem? (i := 1007) (by decide +kernel)
theorem xIni_5 : Cond.initialized RX5 ∈ tables_1 := List.mem_of_getElem? (i := 20) (by decide +kernel)
theorem xIns_6 : Cond.instantiable RX6 3 ∈ tables_1 := List.mem_of_getElem? (i := 81) (by decide +kernel)
theorem xIni_6 : Cond.initialized RX6 ∈ tables_1 := List.mem_of_getElem? (i := 4) (by decide +kernel)
theorem xIns_7 : Cond.instantiable RX7 10 ∈ tables_1 := List.mem_of_getElem? (i := 31) (by decide +kernel)
theorem xIni_7 : Cond.initialized RX7 ∈ tables_1 := List.mem_of_getElem? (i := 2) (by decide +kernel)
theorem xIns_8 : Cond.instantiable RX8 9 ∈ tables_1 := List.mem_of_getElem? (i := 488) (by decide +kernel)
theorem xIni_8 : Cond.initialized RX8 ∈ tables_1 := List.mem_of_getElem? (i := 11) (by decide +kernel)
theorem xIns_9 : Cond.instantiable RX9 3 ∈ tables_1 := List.mem_of_getElem? (i := 103) (by decide +kernel)
theorem xIni_9 : Cond.initialized RX9 ∈ tables_1 := List.mem_of_getElem? (i := 5) (by decide +kernel)
theorem xIns_10 : Cond.instantiable RX10 19 ∈ tables_1 := List.mem_of_getElem? (i := 71) (by decide +kernel)
theorem xIni_10 : Cond.initialized RX10 ∈ tables_1 := List.mem_of_getElem? (i := 3) (by decide +kernel)
theorem xIns_11 : Cond.instantiable RX11 18 ∈ tables_1 := List.mem_of_getElem? (i := 23) (by decide +kernel)
theorem xIni_11 : Cond.initialized RX11 ∈ tables_1 := List.mem_of_getElem? (i := 1) (by decide +kernel)
theorem xIns_12 : Cond.instantiable RX12 53 ∈ tables_1 := List.mem_of_getElem? (i := 1510) (by decide +kernel)
theorem xIni_12 : Cond.initialized RX12 ∈ tables_1 := List.mem_of_getElem? (i := 14) (by decide +kernel)
end
section
/-! a machine over plain numbers: memory = what every place of every object holds, each object's kind (0 .. 12 a class of vwCl, 20 int[], 21 byte[], 22 boolean[], 23 long[], 24 long[][], 25 .. 28 arrays of Place, Leg, Sky, Plan), each array's length, the next object's number, the slots so far -/
abbrev xV : Type := Nat × Int
abbrev xD : Type := Int → Int → Int
abbrev xH : Type := xD × (Int → Int) × (Int → Int) × Nat × Nat
abbrev xS : Type := Nat × List xV × List xV × xH
abbrev xO : Type := xS ⊕ (Prop × xS) ⊕ (ClassFile.Cond × Int × Int × xS × xS) ⊕ (Prop × Nat × List xV × xH × (Int → xH → xS)) ⊕ (Prop × Int × xH) ⊕ (Int × Int × List xS × xS)
def w32 (x : Int) : Int := x.bmod 4294967296
def w64 (x : Int) : Int := x.bmod 18446744073709551616
def w16 (x : Int) : Int := x.bmod 65536
def w8 (x : Int) : Int := x.bmod 256
def xShl (x y : Int) : Int := (Int32.ofInt x <<< (Int32.ofInt y &&& 31)).toInt
def xShr (x y : Int) : Int := (Int32.ofInt x >>> (Int32.ofInt y &&& 31)).toInt
def xUsh (x y : Int) : Int := (((Int32.ofInt x).toUInt32 >>> ((Int32.ofInt y).toUInt32 &&& Int32.toUInt32 31)).toInt32).toInt
def xAnd (x y : Int) : Int := (Int32.ofInt x &&& Int32.ofInt y).toInt
def xOr (x y : Int) : Int := (Int32.ofInt x ||| Int32.ofInt y).toInt
def xXor (x y : Int) : Int := (Int32.ofInt x ^^^ Int32.ofInt y).toInt
def xLand (x y : Int) : Int := (Int64.ofInt x &&& Int64.ofInt y).toInt
def xLor (x y : Int) : Int := (Int64.ofInt x ||| Int64.ofInt y).toInt
def xLshl (x y : Int) : Int := (Int64.ofInt x <<< ((Int32.ofInt y).toInt64 &&& 63)).toInt
def xLshr (x y : Int) : Int := (Int64.ofInt x >>> ((Int32.ofInt y).toInt64 &&& 63)).toInt
def xLcmp (x y : Int) : Int := if x < y then -1 else if x = y then 0 else 1
def xUp (D : xD) (a i v : Int) : xD := fun b j => if b = a ∧ j = i then v else D b j
def xU1 (f : Int → Int) (a v : Int) : Int → Int := fun b => if b = a then v else f b
def xCpy (D : xD) (a sp b dp n : Int) : xD := fun c j => if c = b ∧ dp ≤ j ∧ j < dp + n then D a (sp + (j - dp)) else D c j
def xZr (D : xD) (a : Int) : xD := fun b j => if b = a then 0 else D b j
/-- a new object of class c, a new array of kind κ -/
def xNw (H : xH) (κ n : Int) (ns : Nat) : xH := (xZr H.1 (H.2.2.2.1 : Int), xU1 H.2.1 (H.2.2.2.1 : Int) κ, xU1 H.2.2.1 (H.2.2.2.1 : Int) n, H.2.2.2.1 + 1, H.2.2.2.2 + ns)
/-- new long[l][m] -/
def xNm (H : xH) (l m : Int) : xH :=
  (fun b j => if b = (H.2.2.2.1 : Int) then (if 0 ≤ j ∧ j < l then (H.2.2.2.1 : Int) + 1 + j else 0) else if (H.2.2.2.1 : Int) < b ∧ b ≤ (H.2.2.2.1 : Int) + l then 0 else H.1 b j,
   fun b => if b = (H.2.2.2.1 : Int) then 24 else if (H.2.2.2.1 : Int) < b ∧ b ≤ (H.2.2.2.1 : Int) + l then 23 else H.2.1 b,
   fun b => if b = (H.2.2.2.1 : Int) then l else if (H.2.2.2.1 : Int) < b ∧ b ≤ (H.2.2.2.1 : Int) + l then m else H.2.2.1 b,
   H.2.2.2.1 + 1 + l.toNat, H.2.2.2.2 + (l.toNat + l.toNat * m.toNat))
def xNs : List Nat := vwCl.map (fun q => q.2.2)
def xAk : ArrayType → Int
  | .int => 20
  | .byte => 21
  | .boolean => 22
  | .long => 23
  | _ => -1
def xEl (κ : Int) : Int := if κ = 25 then 4 else if κ = 26 then 2 else if κ = 27 then 10 else if κ = 28 then 5 else -1
def xT : ClassFile.Cond → Int → Int → Prop
  | .eq, x, y => x = y
  | .ne, x, y => x ≠ y
  | .lt, x, y => x < y
  | .ge, x, y => y ≤ x
  | .gt, x, y => y < x
  | .le, x, y => x ≤ y
def xN : ClassFile.Cond → Int → Int → Prop
  | .eq, x, y => x ≠ y
  | .ne, x, y => x = y
  | .lt, x, y => y ≤ x
  | .ge, x, y => x < y
  | .gt, x, y => x ≤ y
  | .le, x, y => y < x
theorem xT_or (c : ClassFile.Cond) (x y : Int) : xT c x y ∨ xN c x y := by
  cases c <;> simp only [xT, xN] <;> omega
theorem xT_not (c : ClassFile.Cond) (x y : Int) : ¬ (xT c x y ∧ xN c x y) := by
  cases c <;> simp only [xT, xN] <;> omega
/-- the constants' texts, as numbers -/
def xTx : List (List Int) := xStr.map (fun t => t.toList.map (fun c => (c.toNat : Int)))
def xTxt (s : Int) : List Int := xTx.getD (-2 - s).toNat []
def xLg (s : Int) : Int := ((xTxt s).length : Int)
def xCh (s i : Int) : Int := (xTxt s).getD i.toNat 0
def xBad (s : xS) : xO := .inr (.inl (False, s))
def xNx (s : xS) : xO := .inl s
def xCk (p : Prop) (s : xS) : xO := .inr (.inl (p, s))
def xBr (c : ClassFile.Cond) (x y : Int) (s t : xS) : xO := .inr (.inr (.inl (c, x, y, s, t)))
def xCl4 (p : Prop) (j : Nat) (as : List xV) (H : xH) (f : Int → xH → xS) : xO := .inr (.inr (.inr (.inl (p, j, as, H, f))))
def xRt (p : Prop) (x : Int) (H : xH) : xO := .inr (.inr (.inr (.inr (.inl (p, x, H)))))
def xSwt (x lo : Int) (ts : List xS) (t : xS) : xO := .inr (.inr (.inr (.inr (.inr (x, lo, ts, t)))))
def xSt1 (L : List xV) (i : Nat) (v : xV) : List xV := (match i with | 0 => L | k + 1 => match L.getD k (9, 0) with | (1, _) => L.set k (9, 0) | _ => L).set i v
def xSt2 (L : List xV) (i : Nat) (v : xV) : List xV := (xSt1 L i v).set (i + 1) (9, 0)
def xCat : List xV → Nat
  | [] => 0
  | (1, _) :: r => 2 + xCat r
  | _ :: r => 1 + xCat r
def xPush (rt : Nat) (x : Int) (r : List xV) : List xV := match rt with
  | 3 => r
  | t => (t, x) :: r
def xB1 (s : xS) (st : List xV) (f : Int → List xV → xO) : xO := match st with
  | (0, x) :: r => f x r
  | _ => xBad s
def xB2 (s : xS) (st : List xV) (f : Int → Int → List xV → xO) : xO := match st with
  | (0, y) :: (0, x) :: r => f x y r
  | _ => xBad s
def xJ1 (s : xS) (st : List xV) (f : Int → List xV → xO) : xO := match st with
  | (1, x) :: r => f x r
  | _ => xBad s
def xJ2 (s : xS) (st : List xV) (f : Int → Int → List xV → xO) : xO := match st with
  | (1, y) :: (1, x) :: r => f x y r
  | _ => xBad s
def xJi (s : xS) (st : List xV) (f : Int → Int → List xV → xO) : xO := match st with
  | (0, y) :: (1, x) :: r => f x y r
  | _ => xBad s
def xR1 (s : xS) (st : List xV) (f : Int → List xV → xO) : xO := match st with
  | (2, x) :: r => f x r
  | _ => xBad s
def xA2 (s : xS) (st : List xV) (f : Int → Int → List xV → xO) : xO := match st with
  | (0, i) :: (2, a) :: r => f a i r
  | _ => xBad s
def xA3 (s : xS) (t : Nat) (st : List xV) (f : Int → Int → Int → List xV → xO) : xO := match st with
  | (u, x) :: (0, i) :: (2, a) :: r => if u = t then f a i x r else xBad s
  | _ => xBad s
def xPt (ty t : Nat) (x : Int) (p : Prop) : Prop := match ty, t with
  | 0, 0 => p
  | 1, 1 => p
  | 2, 2 => p
  | 3, 0 => p ∧ (x = 0 ∨ x = 1)
  | _, _ => False
def xLo (L : List xV) (i t : Nat) (s : xS) (f : xV → xO) : xO := match L.getD i (9, 0) with
  | (u, x) => if u = t then f (u, x) else xBad s
/-- one instruction, the pc-th of its method: d frames are left -/
def xNext (d : Nat) (i : Instr) (pc : Nat) (L st : List xV) (H : xH) : xO := match i with
  | .iconst v => xNx (pc + 1, L, (0, v) :: st, H)
  | .jsr v => xNx (pc + 1, L, (1, v) :: st, H)
  | .ldc j => xNx (pc + 1, L, (2, -2 - (j : Int)) :: st, H)
  | .iload i => xLo L i 0 (pc, L, st, H) fun v => xNx (pc + 1, L, v :: st, H)
  | .lload i => xLo L i 1 (pc, L, st, H) fun v => xNx (pc + 1, L, v :: st, H)
  | .aload i => xLo L i 2 (pc, L, st, H) fun v => xNx (pc + 1, L, v :: st, H)
  | .istore i => xB1 (pc, L, st, H) st fun x r => xNx (pc + 1, xSt1 L i (0, x), r, H)
  | .lstore i => xJ1 (pc, L, st, H) st fun x r => xNx (pc + 1, xSt2 L i (1, x), r, H)
  | .astore i => xR1 (pc, L, st, H) st fun x r => xNx (pc + 1, xSt1 L i (2, x), r, H)
  | .iinc i c => xLo L i 0 (pc, L, st, H) fun v => xNx (pc + 1, L.set i (0, w32 (v.2 + c)), st, H)
  | .dup => match st with
    | (0, x) :: r => xNx (pc + 1, L, (0, x) :: (0, x) :: r, H)
    | (2, x) :: r => xNx (pc + 1, L, (2, x) :: (2, x) :: r, H)
    | _ => xBad (pc, L, st, H)
  | .dup2 => xA2 (pc, L, st, H) st fun a i r => xNx (pc + 1, L, (0, i) :: (2, a) :: (0, i) :: (2, a) :: r, H)
  | .pop => match st with
    | (0, _) :: r => xNx (pc + 1, L, r, H)
    | (2, _) :: r => xNx (pc + 1, L, r, H)
    | _ => xBad (pc, L, st, H)
  | .iadd => xB2 (pc, L, st, H) st fun x y r => xNx (pc + 1, L, (0, w32 (x + y)) :: r, H)
  | .isub => xB2 (pc, L, st, H) st fun x y r => xNx (pc + 1, L, (0, w32 (x - y)) :: r, H)
  | .imul => xB2 (pc, L, st, H) st fun x y r => xNx (pc + 1, L, (0, w32 (x * y)) :: r, H)
  | .idiv => xB2 (pc, L, st, H) st fun x y r => xCk (y ≠ 0) (pc + 1, L, (0, w32 (x.tdiv y)) :: r, H)
  | .irem => xB2 (pc, L, st, H) st fun x y r => xCk (y ≠ 0) (pc + 1, L, (0, x.tmod y) :: r, H)
  | .ineg => xB1 (pc, L, st, H) st fun x r => xNx (pc + 1, L, (0, w32 (-x)) :: r, H)
  | .ishl => xB2 (pc, L, st, H) st fun x y r => xNx (pc + 1, L, (0, xShl x y) :: r, H)
  | .ishr => xB2 (pc, L, st, H) st fun x y r => xNx (pc + 1, L, (0, xShr x y) :: r, H)
  | .iushr => xB2 (pc, L, st, H) st fun x y r => xNx (pc + 1, L, (0, xUsh x y) :: r, H)
  | .iand => xB2 (pc, L, st, H) st fun x y r => xNx (pc + 1, L, (0, xAnd x y) :: r, H)
  | .ior => xB2 (pc, L, st, H) st fun x y r => xNx (pc + 1, L, (0, xOr x y) :: r, H)
  | .ixor => xB2 (pc, L, st, H) st fun x y r => xNx (pc + 1, L, (0, xXor x y) :: r, H)
  | .i2l => xB1 (pc, L, st, H) st fun x r => xNx (pc + 1, L, (1, x) :: r, H)
  | .l2i => xJ1 (pc, L, st, H) st fun x r => xNx (pc + 1, L, (0, w32 x) :: r, H)
  | .i2b => xB1 (pc, L, st, H) st fun x r => xNx (pc + 1, L, (0, w8 x) :: r, H)
  | .i2s => xB1 (pc, L, st, H) st fun x r => xNx (pc + 1, L, (0, w16 x) :: r, H)
  | .ladd => xJ2 (pc, L, st, H) st fun x y r => xNx (pc + 1, L, (1, w64 (x + y)) :: r, H)
  | .lmul => xJ2 (pc, L, st, H) st fun x y r => xNx (pc + 1, L, (1, w64 (x * y)) :: r, H)
  | .ldiv => xJ2 (pc, L, st, H) st fun x y r => xCk (y ≠ 0) (pc + 1, L, (1, w64 (x.tdiv y)) :: r, H)
  | .lrem => xJ2 (pc, L, st, H) st fun x y r => xCk (y ≠ 0) (pc + 1, L, (1, x.tmod y) :: r, H)
  | .land => xJ2 (pc, L, st, H) st fun x y r => xNx (pc + 1, L, (1, xLand x y) :: r, H)
  | .lor => xJ2 (pc, L, st, H) st fun x y r => xNx (pc + 1, L, (1, xLor x y) :: r, H)
  | .lshl => xJi (pc, L, st, H) st fun x y r => xNx (pc + 1, L, (1, xLshl x y) :: r, H)
  | .lshr => xJi (pc, L, st, H) st fun x y r => xNx (pc + 1, L, (1, xLshr x y) :: r, H)
  | .lcmp => xJ2 (pc, L, st, H) st fun x y r => xNx (pc + 1, L, (0, xLcmp x y) :: r, H)
  | .ifCond c t => xB1 (pc, L, st, H) st fun x r => xBr c x 0 (t.toNat, L, r, H) (pc + 1, L, r, H)
  | .if_icmp c t => xB2 (pc, L, st, H) st fun x y r => xBr c x y (t.toNat, L, r, H) (pc + 1, L, r, H)
  | .ifnull t => xR1 (pc, L, st, H) st fun x r => xBr .eq x 0 (t.toNat, L, r, H) (pc + 1, L, r, H)
  | .ifnonnull t => xR1 (pc, L, st, H) st fun x r => xBr .ne x 0 (t.toNat, L, r, H) (pc + 1, L, r, H)
  | .goto t => xNx (t.toNat, L, st, H)
  | .tableswitch t lo _ ts => xB1 (pc, L, st, H) st fun x r => xSwt x lo (ts.toList.map fun u => (u.toNat, L, r, H)) (t.toNat, L, r, H)
  | .iaload => xA2 (pc, L, st, H) st fun a i r => xCk (H.2.1 a = 20 ∧ 0 ≤ i ∧ i < H.2.2.1 a) (pc + 1, L, (0, H.1 a i) :: r, H)
  | .baload => xA2 (pc, L, st, H) st fun a i r => xCk (H.2.1 a = 21 ∧ 0 ≤ i ∧ i < H.2.2.1 a) (pc + 1, L, (0, H.1 a i) :: r, H)
  | .caload => xA2 (pc, L, st, H) st fun a i r => xCk (H.2.1 a = 22 ∧ 0 ≤ i ∧ i < H.2.2.1 a) (pc + 1, L, (0, H.1 a i) :: r, H)
  | .laload => xA2 (pc, L, st, H) st fun a i r => xCk (H.2.1 a = 23 ∧ 0 ≤ i ∧ i < H.2.2.1 a) (pc + 1, L, (1, H.1 a i) :: r, H)
  | .aaload => xA2 (pc, L, st, H) st fun a i r => xCk (24 ≤ H.2.1 a ∧ 0 ≤ i ∧ i < H.2.2.1 a) (pc + 1, L, (2, H.1 a i) :: r, H)
  | .iastore => xA3 (pc, L, st, H) 0 st fun a i x r => xCk (0 < a ∧ H.2.1 a = 20 ∧ 0 ≤ i ∧ i < H.2.2.1 a) (pc + 1, L, r, (xUp H.1 a i x, H.2))
  | .bastore => xA3 (pc, L, st, H) 0 st fun a i x r => xCk (0 < a ∧ H.2.1 a = 21 ∧ 0 ≤ i ∧ i < H.2.2.1 a) (pc + 1, L, r, (xUp H.1 a i (w8 x), H.2))
  | .castore => xA3 (pc, L, st, H) 0 st fun a i x r => xCk (0 < a ∧ H.2.1 a = 22 ∧ 0 ≤ i ∧ i < H.2.2.1 a ∧ (x = 0 ∨ x = 1)) (pc + 1, L, r, (xUp H.1 a i x, H.2))
  | .lastore => xA3 (pc, L, st, H) 1 st fun a i x r => xCk (0 < a ∧ H.2.1 a = 23 ∧ 0 ≤ i ∧ i < H.2.2.1 a) (pc + 1, L, r, (xUp H.1 a i x, H.2))
  | .aastore => xA3 (pc, L, st, H) 2 st fun a i x r => xCk (0 < a ∧ xEl (H.2.1 a) = H.2.1 x ∧ 0 ≤ H.2.1 x ∧ 0 ≤ i ∧ i < H.2.2.1 a) (pc + 1, L, r, (xUp H.1 a i x, H.2))
  | .arraylength => xR1 (pc, L, st, H) st fun a r => xCk (20 ≤ H.2.1 a) (pc + 1, L, (0, H.2.2.1 a) :: r, H)
  | .newarray t => xB1 (pc, L, st, H) st fun x r => xCk (0 ≤ x ∧ x ≤ 1000000) (pc + 1, L, (2, (H.2.2.2.1 : Int)) :: r, xNw H (xAk t) x x.toNat)
  | .anewarray κ => xB1 (pc, L, st, H) st fun x r => xCk (0 ≤ x ∧ x ≤ 1000000) (pc + 1, L, (2, (H.2.2.2.1 : Int)) :: r, xNw H (κ : Int) x x.toNat)
  | .multianewarray _ _ => xB2 (pc, L, st, H) st fun l m r => xCk (0 ≤ l ∧ l ≤ 1000 ∧ 0 ≤ m ∧ m ≤ 1000) (pc + 1, L, (2, (H.2.2.2.1 : Int)) :: r, xNm H l m)
  | .new c => xNx (pc + 1, L, (2, (H.2.2.2.1 : Int)) :: st, xNw H (c : Int) 0 (xNs.getD c 0))
  | .getfield m => xR1 (pc, L, st, H) st fun a r => xCk (H.2.1 a = ((m / 1000 : Nat) : Int)) (pc + 1, L, (m % 10, H.1 a ((m / 10 % 100 : Nat) : Int)) :: r, H)
  | .putfield m => match st with
    | (t, x) :: (2, a) :: r => xCk (xPt (m % 10) t x (H.2.1 a = ((m / 1000 : Nat) : Int))) (pc + 1, L, r, (xUp H.1 a ((m / 10 % 100 : Nat) : Int) x, H.2))
    | _ => xBad (pc, L, st, H)
  | .invokevirtual m => match (st.take (m / 4 % 20)).reverse, Nat.ble (xCat (st.drop (m / 4 % 20))) 8 with
    | (2, a) :: as, true => xCl4 (H.2.1 a = ((m / 80 % 100 : Nat) : Int)) (m / 8000) ((2, a) :: as) H fun x H2 => (pc + 1, L, xPush (m % 4) x (st.drop (m / 4 % 20)), H2)
    | _, _ => xBad (pc, L, st, H)
  | .invokespecial m => match (st.take (m / 4 % 20)).reverse, Nat.ble (xCat (st.drop (m / 4 % 20))) 8 with
    | (2, a) :: as, true => xCl4 (H.2.1 a = ((m / 80 % 100 : Nat) : Int)) (m / 8000) ((2, a) :: as) H fun x H2 => (pc + 1, L, xPush (m % 4) x (st.drop (m / 4 % 20)), H2)
    | _, _ => xBad (pc, L, st, H)
  | .invokestatic m => match Nat.ble (xCat (st.drop (m / 4 % 20))) 8 with
    | true => xCl4 True (m / 8000) (st.take (m / 4 % 20)).reverse H fun x H2 => (pc + 1, L, xPush (m % 4) x (st.drop (m / 4 % 20)), H2)
    | _ => xBad (pc, L, st, H)
  | .dneg => xR1 (pc, L, st, H) st fun a r => xCk (0 < d ∧ 0 < a) (pc + 1, L, r, H)
  | .dadd => xB2 (pc, L, st, H) st fun x y r => xCk (0 < d) (pc + 1, L, (0, max x y) :: r, H)
  | .dsub => xB2 (pc, L, st, H) st fun x y r => xCk (0 < d) (pc + 1, L, (0, min x y) :: r, H)
  | .dmul => match st with
    | (0, l) :: (0, dp) :: (2, b) :: (0, sp) :: (2, a) :: r => xCk (0 < d ∧ 0 < a ∧ 0 < b ∧ H.2.1 a = 20 ∧ H.2.1 b = 20 ∧ 0 ≤ sp ∧ 0 ≤ dp ∧ 0 ≤ l ∧ sp + l ≤ H.2.2.1 a ∧ dp + l ≤ H.2.2.1 b) (pc + 1, L, r, (xCpy H.1 a sp b dp l, H.2))
    | _ => xBad (pc, L, st, H)
  | .ddiv => match st with
    | (0, l) :: (0, dp) :: (2, b) :: (0, sp) :: (2, a) :: r => xCk (0 < d ∧ 0 < a ∧ 0 < b ∧ H.2.1 a = 23 ∧ H.2.1 b = 23 ∧ 0 ≤ sp ∧ 0 ≤ dp ∧ 0 ≤ l ∧ sp + l ≤ H.2.2.1 a ∧ dp + l ≤ H.2.2.1 b) (pc + 1, L, r, (xCpy H.1 a sp b dp l, H.2))
    | _ => xBad (pc, L, st, H)
  | .d2i => xR1 (pc, L, st, H) st fun s r => xCk (4 < d ∧ s ≤ -2 ∧ -29 < s) (pc + 1, L, (0, xLg s) :: r, H)
  | .d2l => match st with
    | (0, i) :: (2, s) :: r => xCk (4 < d ∧ s ≤ -2 ∧ -29 < s ∧ 0 ≤ i ∧ i < xLg s) (pc + 1, L, (0, xCh s i) :: r, H)
    | _ => xBad (pc, L, st, H)
  | .ireturn => match st with
    | [(0, x)] => xRt True x H
    | _ => xBad (pc, L, st, H)
  | .freturn => match st with
    | [(0, x)] => xRt (x = 0 ∨ x = 1) x H
    | _ => xBad (pc, L, st, H)
  | .lreturn => match st with
    | [(1, x)] => xRt True x H
    | _ => xBad (pc, L, st, H)
  | .areturn => match st with
    | [(2, x)] => xRt True x H
    | _ => xBad (pc, L, st, H)
  | .return_ => match st with
    | [] => xRt True 0 H
    | _ => xBad (pc, L, st, H)
  | _ => xBad (pc, L, st, H)
def xSw (k : xS → Prop) (x : Int) : Int → List xS → Prop
  | _, [] => True
  | v, t :: ts => (x = v → k t) ∧ xSw k x (v + 1) ts
abbrev xCallT : Type := Nat → List xV → xH → (Int → xH → Prop) → Prop
def xGo (call : xCallT) (k : xS → Prop) (Q : Int → xH → Prop) : xO → Prop
  | .inl s => k s
  | .inr (.inl (p, s)) => p ∧ k s
  | .inr (.inr (.inl (c, x, y, s, t))) => (xT c x y → k s) ∧ (xN c x y → k t)
  | .inr (.inr (.inr (.inl (p, j, as, H, f)))) => p ∧ call j as H (fun x H2 => k (f x H2))
  | .inr (.inr (.inr (.inr (.inl (p, x, H))))) => p ∧ Q x H
  | .inr (.inr (.inr (.inr (.inr (x, lo, ts, t))))) => xSw k x lo ts ∧ (x < lo ∨ lo + (ts.length : Int) ≤ x → k t)
/-- what must hold for n instructions at most, from here on, to end in Q -/
def xWp (d : Nat) (call : xCallT) (code : List Instr) (Q : Int → xH → Prop) : Nat → Nat → List xV → List xV → xH → Prop
  | 0, _, _, _, _ => False
  | n + 1, pc, L, st, H => xGo call (fun s => xWp d call code Q n s.1 s.2.1 s.2.2.1 s.2.2.2) Q (xNext d (code.getD pc .nop) pc L st H)
def xFlat : List xV → List xV
  | [] => []
  | (1, x) :: r => (1, x) :: (9, 0) :: xFlat r
  | v :: r => v :: xFlat r
def xEntry (n : Nat) (as : List xV) : List xV := xFlat as ++ List.replicate (n - (xFlat as).length) (9, 0)
end
section
/-! is this abstract code what the bytes say? -/
def xRc : Option FieldType → Nat
  | none => 3
  | some .int => 0
  | some .boolean => 0
  | some .long => 1
  | _ => 2
def xJmp (ps : List Nat) (pc : Nat) (off t : Int) : Bool := decide (0 ≤ t) && decide (t.toNat < ps.length) && ((ps.getD t.toNat 0 : Nat) : Int) == (pc : Int) + off
def xIn32 (v : Int) : Bool := decide (-2147483648 ≤ v) && decide (v < 2147483648)
def xIn64 (v : Int) : Bool := decide (-9223372036854775808 ≤ v) && decide (v < 9223372036854775808)
def xFldOk (own k m : Nat) : Bool := xFl.contains (own, k, m / 1000, m / 10 % 100) || xFn.contains (own, k, m / 1000, m / 10 % 100)
def xCalOk (own k m : Nat) : Bool := (xMl.contains (own, k, m / 8000) || xMn.contains (own, k, m / 8000)) && Nat.blt (m / 8000) xMt.length && (xM (m / 8000)).2.2.2.2.2 == m / 4 % 20 && xRc (xM (m / 8000)).2.2.2.1 == m % 4
def xChk1 (own : Nat) (ini : Bool) (ret : Option FieldType) (ps : List Nat) (pc : Nat) (i a : Instr) : Bool := match a with
  | .aload n => match i with | .aload k => k == n | .aload_n k => k.val == n | _ => false
  | .iload n => match i with | .iload k => k == n | .iload_n k => k.val == n | _ => false
  | .lload n => match i with | .lload k => k == n | .lload_n k => k.val == n | _ => false
  | .astore n => match i with | .astore k => k == n | .astore_n k => k.val == n | _ => false
  | .istore n => match i with | .istore k => k == n | .istore_n k => k.val == n | _ => false
  | .lstore n => match i with | .lstore k => k == n | .lstore_n k => k.val == n | _ => false
  | .iconst v => xIn32 v && (match i with | .iconst w => w == v | .bipush w => w == v | .sipush w => w == v | .ldc k => xKi.contains (own, k, v) | .ldc_w k => xKi.contains (own, k, v) | _ => false)
  | .jsr v => xIn64 v && (match i with | .lconst w => ((w.val : Nat) : Int) == v | .ldc2_w k => xKl.contains (own, k, v) | _ => false)
  | .ldc j => match i with | .ldc k => xKs.contains (own, k, j) | .ldc_w k => xKs.contains (own, k, j) | _ => false
  | .iinc n c => (match i with | .iinc k w => k == n && w == c | _ => false) && xIn32 c
  | .ifCond c t => match i with | .ifCond e off => e == c && xJmp ps pc off t | _ => false
  | .if_icmp c t => match i with | .if_icmp e off => e == c && xJmp ps pc off t | _ => false
  | .ifnull t => match i with | .ifnull off => xJmp ps pc off t | _ => false
  | .ifnonnull t => match i with | .ifnonnull off => xJmp ps pc off t | _ => false
  | .goto t => match i with | .goto off => xJmp ps pc off t | _ => false
  | .tableswitch t lo hi ts => match i with | .tableswitch dd lo2 hi2 offs => lo2 == lo && hi2 == hi && xJmp ps pc dd t && xIn32 lo && xIn32 hi && hi - lo + 1 == (ts.size : Int) && ts.size == offs.size && (ts.toList.zip offs.toList).all (fun q => xJmp ps pc q.2 q.1) | _ => false
  | .baload => match i with | .baload => true | _ => false
  | .caload => match i with | .baload => true | _ => false
  | .bastore => match i with | .bastore => true | _ => false
  | .castore => match i with | .bastore => true | _ => false
  | .newarray t => match i with | .newarray t2 => t2 == t && decide (0 ≤ xAk t) | _ => false
  | .anewarray κ => match i with | .anewarray k => Nat.ble 25 κ && Nat.ble κ 28 && xKc.contains (own, k, (xEl (κ : Int)).toNat) | _ => false
  | .multianewarray _ _ => match i with | .multianewarray k n => own == 11 && k == 81 && n == 2 | _ => false
  | .new c => match i with | .new k => Nat.blt c 13 && xKc.contains (own, k, c) | _ => false
  | .getfield m => match i with | .getfield k => xFldOk own k m && m % 10 == (if xFT (m / 1000) (m / 10 % 100) == 3 then 0 else xFT (m / 1000) (m / 10 % 100)) | _ => false
  | .putfield m => match i with | .putfield k => xFldOk own k m && m % 10 == xFT (m / 1000) (m / 10 % 100) && (!(xF (m / 1000) (m / 10 % 100)).2.2.2 || (ini && own == m / 1000 && xFl.contains (own, k, m / 1000, m / 10 % 100))) | _ => false
  | .invokevirtual m => match i with | .invokevirtual k => xCalOk own k m && !(xM (m / 8000)).2.2.2.2.1 && (xCl (m / 80 % 100)).1 == (xM (m / 8000)).1.cls && Nat.blt (m / 80 % 100) 13 && (xVpub.contains (m / 8000) || xVpri.contains (m / 8000)) | _ => false
  | .invokespecial m => match i with | .invokespecial k => xCalOk own k m && !(xM (m / 8000)).2.2.2.2.1 && (xM (m / 8000)).1.name == "<init>" && (xM (m / 8000)).2.2.2.1 == none | _ => false
  | .invokestatic m => match i with | .invokestatic k => xCalOk own k m && (xM (m / 8000)).2.2.2.2.1 | _ => false
  | .dneg => match i with | .invokespecial k => xBl.contains (own, k, 0) | _ => false
  | .dadd => match i with | .invokestatic k => xBl.contains (own, k, 1) | _ => false
  | .dsub => match i with | .invokestatic k => xBl.contains (own, k, 2) | _ => false
  | .dmul => match i with | .invokestatic k => xBl.contains (own, k, 3) | _ => false
  | .ddiv => match i with | .invokestatic k => xBl.contains (own, k, 3) | _ => false
  | .d2i => match i with | .invokevirtual k => xBl.contains (own, k, 4) | _ => false
  | .d2l => match i with | .invokevirtual k => xBl.contains (own, k, 5) | _ => false
  | .ireturn => (match i with | .ireturn => true | _ => false) && ret == some .int
  | .freturn => (match i with | .ireturn => true | _ => false) && ret == some .boolean
  | .lreturn => (match i with | .lreturn => true | _ => false) && ret == some .long
  | .areturn => (match i with | .areturn => true | _ => false) && (match ret with | some (.object _) => true | some (.array _) => true | _ => false)
  | .return_ => (match i with | .return_ => true | _ => false) && ret == none
  | _ => i == a
def xChkP (own : Nat) (ini : Bool) (ret : Option FieldType) (bytes : ByteArray) (ps : List Nat) : List (Instr × Nat) → List Nat → Bool
  | [], _ => true
  | (a, pc) :: r, nx => (match decode bytes pc with
    | .ok (i, l) => xChk1 own ini ret ps pc i a && (match nx with | q :: _ => q == pc + l | [] => match a with | .ireturn => true | .freturn => true | .lreturn => true | .areturn => true | .return_ => true | .goto _ => true | _ => false)
    | .error _ => false) && xChkP own ini ret bytes ps r nx.tail
def xChkM (own : Nat) (ini : Bool) (ret : Option FieldType) (bytes : ByteArray) (cd : List Instr) (ps : List Nat) : Bool :=
  cd.length == ps.length && ps.head? == some 0 && xChkP own ini ret bytes ps (cd.zip ps) ps.tail
end
section
/-- LastCloud$Flight.<init>()V -/
def cd_0 : List Instr := [.aload 0, .dneg, .aload 0, .iconst 100, .newarray .int, .putfield 2, .aload 0, .iconst 100, .newarray .int, .putfield 12, .aload 0, .iconst 100, .newarray .int, .putfield 22, .aload 0, .iconst 100, 
  .newarray .int, .putfield 32, .aload 0, .iconst 100, .newarray .boolean, .putfield 42, .aload 0, .iconst 8, .newarray .int, .putfield 52, .return_]
def ps_0 : List Nat := [0, 1, 4, 5, 7, 9, 12, 13, 15, 17, 20, 21, 23, 25, 28, 29, 31, 33, 36, 37, 39, 41, 44, 45, 47, 49, 52]
theorem ck_0 : xChkM 0 true none prog_2_method_1_code cd_0 ps_0 = true := by decide +kernel
/-- LastCloud$Flight.begin(LLastCloud$Sky;I)V -/
def cd_1 : List Instr := [.aload 0, .iconst 0, .putfield 93, .aload 0, .iload 2, .i2l, .putfield 81, .aload 0, .aload 1, .invokevirtual 24011, .return_]
def ps_1 : List Nat := [0, 1, 2, 5, 6, 7, 8, 11, 12, 13, 16]
theorem ck_1 : xChkM 0 false none prog_2_method_2_code cd_1 ps_1 = true := by decide +kernel
/-- LastCloud$Flight.beginUnderAllLifts(LLastCloud$Sky;)V -/
def cd_2 : List Instr := [.aload 0, .iconst 1, .putfield 93, .aload 0, .aload 1, .invokevirtual 24011, .return_]
def ps_2 : List Nat := [0, 1, 2, 5, 6, 7, 10]
theorem ck_2 : xChkM 0 false none prog_2_method_3_code cd_2 ps_2 = true := by decide +kernel
/-- LastCloud$Flight.takeOff(LLastCloud$Sky;)V -/
def cd_3 : List Instr := [.aload 0, .aload 1, .putfield 72, .iconst 0, .istore 2, .iload 2, .aload 0, .getfield 72, .getfield 10040, .if_icmp .ge 20, .aload 0, .getfield 52, .iload 2, .aload 0, .getfield 72, .iload 2, 
  .invokevirtual 928808, .iastore, .iinc 2 1, .goto 5, .aload 0, .iconst 0, .putfield 60, .aload 0, .aload 0, .getfield 72, .getfield 10150, .putfield 100, .aload 0, .aload 0, .getfield 72, 
  .getfield 10160, .putfield 110, .aload 0, .iconst 0, .putfield 120, .aload 0, .aload 0, .getfield 72, .invokevirtual 848804, .putfield 143, .aload 0, .iconst 0, .putfield 153, .aload 0, 
  .invokevirtual 32007, .return_]
def ps_3 : List Nat := [0, 1, 2, 5, 6, 7, 8, 9, 12, 15, 18, 19, 22, 23, 24, 27, 28, 31, 32, 35, 38, 39, 40, 43, 44, 45, 48, 51, 54, 55, 56, 59, 62, 65, 66, 67, 70, 71, 72, 75, 78, 81, 82, 83, 86, 87, 90]
theorem ck_3 : xChkM 0 false none prog_2_method_4_code cd_3 ps_3 = true := by decide +kernel
/-- LastCloud$Flight.meetLift()V -/
def cd_4 : List Instr := [.aload 0, .aload 0, .getfield 90, .ifCond .ne 13, .aload 0, .iconst 100, .invokevirtual 40008, .aload 0, .getfield 52, .aload 0, .getfield 100, .iaload, .if_icmp .ge 15, .iconst 1, .goto 16, .iconst 0, 
  .putfield 133, .return_]
def ps_4 : List Nat := [0, 1, 2, 5, 8, 9, 11, 14, 15, 18, 19, 22, 23, 26, 27, 30, 31, 34]
theorem ck_4 : xChkM 0 false none prog_2_method_5_code cd_4 ps_4 = true := by decide +kernel
/-- LastCloud$Flight.draw(I)I -/
def cd_5 : List Instr := [.aload 0, .jsr 1103515245, .aload 0, .getfield 81, .lmul, .jsr 12345, .ladd, .jsr 2147483648, .lrem, .putfield 81, .aload 0, .getfield 81, .jsr 65536, .ldiv, .iload 1, .i2l, .lrem, .l2i, .ireturn]
def ps_5 : List Nat := [0, 1, 4, 5, 8, 9, 12, 13, 16, 17, 20, 21, 24, 27, 28, 29, 30, 31, 32]
theorem ck_5 : xChkM 0 false (some .int) prog_2_method_6_code cd_5 ps_5 = true := by decide +kernel
/-- LastCloud$Flight.follow(LLastCloud$Plan;LLastCloud$Sky;I)V -/
def cd_6 : List Instr := [.aload 0, .aload 2, .iload 3, .invokevirtual 8015, .iconst 0, .istore 4, .iload 4, .iconst 100, .if_icmp .ge 26, .aload 0, .getfield 150, .ifCond .ne 26, .aload 0, .aload 1, .invokevirtual 56008, 
  .istore 5, .aload 0, .iload 5, .invokevirtual 64011, .aload 0, .iload 5, .i2l, .invokevirtual 72008, .pop, .iinc 4 1, .goto 6, .aload 0, .aload 0, .getfield 72, .aload 1, .getfield 5120, .aload 0, 
  .getfield 100, .aload 0, .getfield 120, .invokevirtual 944816, .putfield 170, .aload 0, .getfield 100, .aload 0, .getfield 72, .getfield 10140, .if_icmp .ne 47, .aload 0, .iconst 1, .putfield 160, 
  .goto 58, .aload 0, .aload 0, .getfield 72, .aload 0, .getfield 100, .invokevirtual 856808, .ifCond .eq 56, .iconst 2, .goto 57, .iconst 3, .putfield 160, .return_]
def ps_6 : List Nat := [0, 1, 2, 3, 6, 7, 9, 11, 13, 16, 17, 20, 23, 24, 25, 28, 30, 31, 33, 36, 37, 39, 40, 43, 44, 47, 50, 51, 52, 55, 56, 59, 60, 63, 64, 67, 70, 73, 74, 77, 78, 81, 84, 87, 88, 89, 92, 95, 96, 97, 100, 
  101, 104, 107, 110, 111, 114, 115, 118]
theorem ck_6 : xChkM 0 false none prog_2_method_7_code cd_6 ps_6 = true := by decide +kernel
/-- LastCloud$Flight.deedBy(LLastCloud$Plan;)I -/
def cd_7 : List Instr := [.aload 1, .aload 0, .getfield 120, .aload 0, .getfield 140, .aload 0, .getfield 100, .aload 0, .getfield 110, .invokestatic 335936, .aload 0, .getfield 130, .invokevirtual 376412, .ireturn]
def ps_7 : List Nat := [0, 1, 2, 5, 6, 9, 10, 13, 14, 17, 20, 21, 24, 27]
theorem ck_7 : xChkM 0 false (some .int) prog_2_method_8_code cd_7 ps_7 = true := by decide +kernel
/-- LastCloud$Flight.note(I)V -/
def cd_8 : List Instr := [.aload 0, .getfield 60, .iconst 100, .if_icmp .ge 44, .aload 0, .getfield 2, .aload 0, .getfield 60, .iload 1, .iastore, .aload 0, .getfield 12, .aload 0, .getfield 60, .aload 0, .getfield 100, 
  .iastore, .aload 0, .getfield 22, .aload 0, .getfield 60, .aload 0, .getfield 110, .iastore, .aload 0, .getfield 32, .aload 0, .getfield 60, .aload 0, .getfield 120, .iastore, .aload 0, .getfield 42, 
  .aload 0, .getfield 60, .aload 0, .getfield 130, .castore, .aload 0, .dup, .getfield 60, .iconst 1, .iadd, .putfield 60, .return_]
def ps_8 : List Nat := [0, 1, 4, 6, 9, 10, 13, 14, 17, 18, 19, 20, 23, 24, 27, 28, 31, 32, 33, 36, 37, 40, 41, 44, 45, 46, 49, 50, 53, 54, 57, 58, 59, 62, 63, 66, 67, 70, 71, 72, 73, 76, 77, 78, 81]
theorem ck_8 : xChkM 0 false none prog_2_method_9_code cd_8 ps_8 = true := by decide +kernel
/-- LastCloud$Flight.tryDeed(J)Z -/
def cd_9 : List Instr := [.aload 0, .getfield 150, .ifCond .eq 5, .iconst 0, .freturn, .lload 1, .jsr (-1), .lcmp, .ifCond .ne 14, .aload 0, .iconst 1, .putfield 153, .iconst 1, .freturn, .lload 1, .jsr 0, .lcmp, 
  .ifCond .ne 21, .aload 0, .invokevirtual 80004, .freturn, .lload 1, .jsr 1, .lcmp, .ifCond .ne 33, .aload 0, .getfield 140, .istore 3, .aload 0, .iconst 0, .putfield 143, .iload 3, .freturn, .lload 1, 
  .jsr 100, .lcmp, .ifCond .lt 41, .lload 1, .jsr 200, .lcmp, .ifCond .lt 43, .iconst 0, .freturn, .lload 1, .l2i, .iconst 100, .isub, .istore 3, .aload 0, .iload 3, .iconst 10, .idiv, .iload 3, 
  .iconst 10, .irem, .invokevirtual 88012, .freturn]
def ps_9 : List Nat := [0, 1, 4, 7, 8, 9, 10, 13, 14, 17, 18, 19, 22, 23, 24, 25, 26, 27, 30, 31, 34, 35, 36, 37, 38, 41, 42, 45, 46, 47, 48, 51, 52, 53, 54, 57, 58, 61, 62, 65, 66, 69, 70, 71, 72, 73, 75, 76, 77, 78, 79, 81, 
  82, 83, 85, 86, 89]
theorem ck_9 : xChkM 0 false (some .boolean) prog_2_method_10_code cd_9 ps_9 = true := by decide +kernel
/-- LastCloud$Flight.tryClimb()Z -/
def cd_10 : List Instr := [.aload 0, .getfield 72, .aload 0, .getfield 110, .aload 0, .getfield 72, .aload 0, .getfield 100, .aload 0, .getfield 140, .invokevirtual 904812, .iadd, .invokevirtual 920808, .istore 1, .aload 0, 
  .getfield 130, .ifCond .eq 27, .iload 1, .aload 0, .getfield 110, .if_icmp .le 27, .aload 0, .getfield 120, .aload 0, .getfield 72, .getfield 10100, .if_icmp .lt 29, .iconst 0, .freturn, .aload 0, 
  .iload 1, .putfield 110, .aload 0, .dup, .getfield 120, .iconst 1, .iadd, .putfield 120, .iconst 1, .freturn]
def ps_10 : List Nat := [0, 1, 4, 5, 8, 9, 12, 13, 16, 17, 20, 23, 24, 27, 28, 29, 32, 35, 36, 37, 40, 43, 44, 47, 48, 51, 54, 57, 58, 59, 60, 61, 64, 65, 66, 69, 70, 71, 74, 75]
theorem ck_10 : xChkM 0 false (some .boolean) prog_2_method_11_code cd_10 ps_10 = true := by decide +kernel
/-- LastCloud$Flight.tryLeg(II)Z -/
def cd_11 : List Instr := [.aload 0, .getfield 72, .iload 1, .invokevirtual 808808, .ifCond .eq 10, .aload 0, .getfield 72, .iload 2, .invokevirtual 816808, .ifCond .ne 12, .iconst 0, .freturn, .aload 0, .getfield 72, 
  .getfield 10012, .iload 1, .aaload, .astore 3, .aload 3, .getfield 2000, .aload 0, .getfield 100, .if_icmp .eq 30, .aload 3, .getfield 2010, .aload 0, .getfield 100, .if_icmp .eq 30, .iconst 0, 
  .freturn, .aload 3, .getfield 2010, .aload 0, .getfield 100, .if_icmp .ne 37, .iconst 1, .goto 38, .iconst 0, .istore 4, .aload 0, .getfield 72, .iload 1, .iload 4, .iload 2, .aload 0, .getfield 140, 
  .invokevirtual 888820, .istore 5, .iload 5, .iconst (-1), .if_icmp .eq 59, .aload 0, .getfield 120, .iload 5, .iadd, .aload 0, .getfield 72, .getfield 10100, .if_icmp .le 61, .iconst 0, .freturn, 
  .iload 4, .ifCond .eq 66, .aload 3, .getfield 2000, .goto 68, .aload 3, .getfield 2010, .istore 6, .aload 0, .getfield 72, .iload 1, .iload 4, .iload 2, .aload 0, .getfield 140, .invokevirtual 896820, 
  .istore 7, .aload 0, .getfield 72, .aload 0, .getfield 110, .iload 7, .isub, .invokevirtual 920808, .istore 8, .aload 0, .getfield 110, .iload 7, .iconst 2, .idiv, .isub, .aload 3, .getfield 2050, 
  .if_icmp .lt 103, .iload 8, .aload 0, .getfield 72, .getfield 10002, .iload 6, .aaload, .getfield 4000, .if_icmp .ge 105, .iconst 0, .freturn, .aload 0, .iload 6, .putfield 100, .aload 0, .iload 8, 
  .putfield 110, .aload 0, .dup, .getfield 120, .iload 5, .iadd, .putfield 120, .aload 0, .invokevirtual 32007, .iconst 1, .freturn]
def ps_11 : List Nat := [0, 1, 4, 5, 8, 11, 12, 15, 16, 19, 22, 23, 24, 25, 28, 31, 32, 33, 34, 35, 38, 39, 42, 45, 46, 49, 50, 53, 56, 57, 58, 59, 62, 63, 66, 69, 70, 73, 74, 76, 77, 80, 81, 83, 84, 85, 88, 91, 93, 95, 96, 
  99, 100, 103, 105, 106, 107, 110, 113, 116, 117, 118, 120, 123, 124, 127, 130, 131, 134, 136, 137, 140, 141, 143, 144, 145, 148, 151, 153, 154, 157, 158, 161, 163, 164, 167, 169, 170, 173, 175, 176, 
  177, 178, 179, 182, 185, 187, 188, 191, 194, 196, 197, 200, 203, 204, 205, 206, 208, 211, 212, 214, 217, 218, 219, 222, 224, 225, 228, 229, 232, 233]
theorem ck_11 : xChkM 0 false (some .boolean) prog_2_method_12_code cd_11 ps_11 = true := by decide +kernel
/-- LastCloud$Flight.noted(II)I -/
def cd_12 : List Instr := [.iload 1, .ifCond .lt 6, .iload 1, .aload 0, .getfield 60, .if_icmp .lt 8, .iconst (-1), .ireturn, .iload 2, .tableswitch 39 0 4 #[10, 15, 20, 25, 30], .aload 0, .getfield 2, .iload 1, .iaload, 
  .ireturn, .aload 0, .getfield 12, .iload 1, .iaload, .ireturn, .aload 0, .getfield 22, .iload 1, .iaload, .ireturn, .aload 0, .getfield 32, .iload 1, .iaload, .ireturn, .aload 0, .getfield 42, 
  .iload 1, .caload, .ifCond .eq 37, .iconst 1, .goto 38, .iconst 0, .ireturn, .iconst (-1), .ireturn]
def ps_12 : List Nat := [0, 1, 4, 5, 6, 9, 12, 13, 14, 15, 48, 49, 52, 53, 54, 55, 56, 59, 60, 61, 62, 63, 66, 67, 68, 69, 70, 73, 74, 75, 76, 77, 80, 81, 82, 85, 86, 89, 90, 91, 92]
theorem ck_12 : xChkM 0 false (some .int) prog_2_method_13_code cd_12 ps_12 = true := by decide +kernel
/-- LastCloud$Flight.endOf(I)I -/
def cd_13 : List Instr := [.aload 0, .getfield 60, .ifCond .ne 5, .iconst (-1), .ireturn, .iload 1, .tableswitch 22 0 4 #[7, 10, 13, 16, 19], .aload 0, .getfield 100, .ireturn, .aload 0, .getfield 110, .ireturn, .aload 0, 
  .getfield 120, .ireturn, .aload 0, .getfield 170, .ireturn, .aload 0, .getfield 160, .ireturn, .iconst (-1), .ireturn]
def ps_13 : List Nat := [0, 1, 4, 7, 8, 9, 10, 44, 45, 48, 49, 50, 53, 54, 55, 58, 59, 60, 63, 64, 65, 68, 69, 70]
theorem ck_13 : xChkM 0 false (some .int) prog_2_method_14_code cd_13 ps_13 = true := by decide +kernel
/-- LastCloud$Flight.spreadValue(I)I -/
def cd_14 : List Instr := [.iload 1, .tableswitch 16 2 4 #[2, 10, 13], .aload 0, .getfield 160, .iconst 3, .if_icmp .ne 8, .iconst 1, .goto 9, .iconst 0, .ireturn, .aload 0, .getfield 120, .ireturn, .aload 0, .getfield 60, 
  .ireturn, .aload 0, .getfield 170, .ireturn]
def ps_14 : List Nat := [0, 1, 28, 29, 32, 33, 36, 37, 40, 41, 42, 43, 46, 47, 48, 51, 52, 53, 56]
theorem ck_14 : xChkM 0 false (some .int) prog_2_method_15_code cd_14 ps_14 = true := by decide +kernel
/-- LastCloud$Hops.<init>()V -/
def cd_15 : List Instr := [.aload 0, .dneg, .aload 0, .iconst 17, .newarray .int, .putfield 1002, .aload 0, .iconst 240, .newarray .int, .putfield 1012, .aload 0, .iconst 240, .newarray .int, .putfield 1022, .aload 0, 
  .iconst 240, .newarray .int, .putfield 1032, .aload 0, .iconst 240, .newarray .int, .putfield 1042, .aload 0, .iconst 240, .newarray .int, .putfield 1052, .aload 0, .iconst 16, .newarray .int, 
  .putfield 1072, .aload 0, .iconst 8, .newarray .int, .putfield 1082, .aload 0, .iconst 256, .newarray .int, .putfield 1092, .return_]
def ps_15 : List Nat := [0, 1, 4, 5, 7, 9, 12, 13, 16, 18, 21, 22, 25, 27, 30, 31, 34, 36, 39, 40, 43, 45, 48, 49, 52, 54, 57, 58, 60, 62, 65, 66, 68, 70, 73, 74, 77, 79, 82]
theorem ck_15 : xChkM 1 true none prog_3_method_1_code cd_15 ps_15 = true := by decide +kernel
/-- LastCloud$Hops.group(IZ)I -/
def cd_16 : List Instr := [.iload 1, .ifCond .eq 6, .iconst 8, .iload 0, .iadd, .goto 7, .iload 0, .ireturn]
def ps_16 : List Nat := [0, 1, 4, 6, 7, 8, 11, 12]
theorem ck_16 : xChkM 1 false (some .int) prog_3_method_2_code cd_16 ps_16 = true := by decide +kernel
/-- LastCloud$Hops.build(LLastCloud$Sky;)V -/
def cd_17 : List Instr := [.aload 0, .iconst 0, .putfield 1060, .iconst 0, .istore 2, .iload 2, .iconst 16, .if_icmp .ge 34, .aload 0, .getfield 1002, .iload 2, .aload 0, .getfield 1060, .iastore, .iload 2, .iconst 8, .irem, 
  .istore 3, .iload 3, .aload 1, .getfield 10040, .if_icmp .ge 32, .aload 0, .aload 1, .iload 3, .iload 2, .iconst 8, .if_icmp .lt 30, .iconst 1, .goto 31, .iconst 0, .invokevirtual 144099, .iinc 2 1, 
  .goto 5, .aload 0, .getfield 1002, .iconst 16, .aload 0, .getfield 1060, .iastore, .aload 0, .aload 1, .iconst 0, .invokevirtual 168095, .aload 0, .aload 1, .iconst 1, .invokevirtual 168095, .return_]
def ps_17 : List Nat := [0, 1, 2, 5, 6, 7, 8, 10, 13, 14, 17, 18, 19, 22, 23, 24, 26, 27, 28, 29, 30, 33, 36, 37, 38, 39, 40, 42, 45, 46, 49, 50, 53, 56, 59, 60, 63, 65, 66, 69, 70, 71, 72, 73, 76, 77, 78, 79, 82]
theorem ck_17 : xChkM 1 false none prog_3_method_3_code cd_17 ps_17 = true := by decide +kernel
/-- LastCloud$Hops.addFrom(LLastCloud$Sky;IZ)V -/
def cd_18 : List Instr := [.iconst 0, .istore 4, .iload 4, .aload 1, .getfield 10050, .if_icmp .ge 43, .aload 1, .getfield 10012, .iload 4, .aaload, .astore 5, .aload 5, .getfield 2000, .iload 2, .if_icmp .eq 19, .aload 5, 
  .getfield 2010, .iload 2, .if_icmp .ne 41, .iconst 0, .istore 6, .iload 6, .aload 1, .getfield 10022, .getfield 6000, .if_icmp .ge 41, .aload 0, .aload 1, .iload 4, .aload 5, .getfield 2010, .iload 2, 
  .if_icmp .ne 35, .iconst 1, .goto 36, .iconst 0, .iload 6, .iload 3, .invokevirtual 152107, .iinc 6 1, .goto 21, .iinc 4 1, .goto 2, .return_]
def ps_18 : List Nat := [0, 1, 3, 5, 6, 9, 12, 13, 16, 18, 19, 21, 23, 26, 27, 30, 32, 35, 36, 39, 40, 42, 44, 45, 48, 51, 54, 55, 56, 58, 60, 63, 64, 67, 68, 71, 72, 74, 75, 78, 81, 84, 87, 90]
theorem ck_18 : xChkM 1 false none prog_3_method_4_code cd_18 ps_18 = true := by decide +kernel
/-- LastCloud$Hops.add(LLastCloud$Sky;IZIZ)V -/
def cd_19 : List Instr := [.aload 1, .iload 2, .iload 3, .iload 4, .iload 5, .invokevirtual 888820, .istore 6, .iload 6, .iconst (-1), .if_icmp .eq 14, .aload 0, .getfield 1060, .iconst 240, .if_icmp .lt 15, .return_, .aload 1, 
  .getfield 10012, .iload 2, .aaload, .astore 7, .iload 3, .ifCond .eq 25, .aload 7, .getfield 2010, .goto 27, .aload 7, .getfield 2000, .istore 8, .iload 3, .ifCond .eq 33, .aload 7, .getfield 2000, 
  .goto 35, .aload 7, .getfield 2010, .istore 9, .aload 1, .iload 2, .iload 3, .iload 4, .iload 5, .invokevirtual 896820, .istore 10, .aload 7, .getfield 2050, .iload 10, .iconst 2, .idiv, .iadd, 
  .aload 1, .getfield 10002, .iload 9, .aaload, .getfield 4000, .iload 10, .iadd, .dadd, .istore 11, .aload 0, .getfield 1012, .aload 0, .getfield 1060, .iload 9, .iastore, .aload 0, .getfield 1022, 
  .aload 0, .getfield 1060, .iload 6, .iastore, .aload 0, .getfield 1032, .aload 0, .getfield 1060, .iload 10, .iastore, .aload 0, .getfield 1042, .aload 0, .getfield 1060, .iload 11, .aload 1, 
  .getfield 10002, .iload 8, .aaload, .getfield 4000, .dadd, .iastore, .aload 0, .getfield 1052, .aload 0, .getfield 1060, .iconst 100, .iconst 10, .iload 2, .imul, .iadd, .iload 4, .iadd, .iastore, 
  .aload 0, .dup, .getfield 1060, .iconst 1, .iadd, .putfield 1060, .return_]
def ps_19 : List Nat := [0, 1, 2, 3, 5, 7, 10, 12, 14, 15, 18, 19, 22, 25, 28, 29, 30, 33, 34, 35, 37, 38, 41, 43, 46, 49, 51, 54, 56, 57, 60, 62, 65, 68, 70, 73, 75, 76, 77, 78, 80, 82, 85, 87, 89, 92, 94, 95, 96, 97, 98, 
  101, 103, 104, 107, 109, 110, 113, 115, 116, 119, 120, 123, 125, 126, 127, 130, 131, 134, 136, 137, 138, 141, 142, 145, 147, 148, 149, 152, 153, 156, 158, 159, 162, 164, 165, 168, 171, 172, 173, 176, 
  177, 180, 182, 184, 185, 186, 187, 189, 190, 191, 192, 193, 196, 197, 198, 201]
theorem ck_19 : xChkM 1 false none prog_3_method_5_code cd_19 ps_19 = true := by decide +kernel
/-- LastCloud$Hops.speedOf(I)I -/
def cd_20 : List Instr := [.aload 0, .getfield 1052, .iload 1, .iaload, .iconst 100, .isub, .iconst 10, .irem, .ireturn]
def ps_20 : List Nat := [0, 1, 4, 5, 6, 8, 9, 11, 12]
theorem ck_20 : xChkM 1 false (some .int) prog_3_method_6_code cd_20 ps_20 = true := by decide +kernel
/-- LastCloud$Hops.findEdges(LLastCloud$Sky;Z)V -/
def cd_21 : List Instr := [.iconst 0, .istore 3, .iload 3, .aload 1, .getfield 10040, .if_icmp .ge 25, .aload 0, .getfield 1072, .iload 3, .iload 2, .invokestatic 135928, .aload 1, .iload 3, .invokevirtual 856808, 
  .ifCond .eq 21, .aload 1, .getfield 10002, .iload 3, .aaload, .getfield 4000, .goto 22, .iconst 1000000, .iastore, .iinc 3 1, .goto 2, .iconst 1, .istore 3, .iconst 0, .istore 4, .iload 4, .iconst 496, 
  .if_icmp .gt 68, .iload 3, .ifCond .eq 68, .iconst 0, .istore 3, .iconst 0, .istore 5, .iload 5, .aload 1, .getfield 10040, .if_icmp .ge 66, .iload 5, .iload 2, .invokestatic 135928, .istore 6, 
  .aload 0, .aload 1, .iload 6, .invokevirtual 176092, .istore 7, .iload 7, .aload 0, .getfield 1072, .iload 6, .iaload, .if_icmp .ge 64, .aload 0, .getfield 1072, .iload 6, .iload 7, .iastore, 
  .iconst 1, .istore 3, .iinc 5 1, .goto 38, .iinc 4 1, .goto 29, .return_]
def ps_21 : List Nat := [0, 1, 2, 3, 4, 7, 10, 11, 14, 15, 16, 19, 20, 21, 24, 27, 28, 31, 32, 33, 36, 39, 41, 42, 45, 48, 49, 50, 51, 53, 55, 58, 61, 62, 65, 66, 67, 68, 70, 72, 73, 76, 79, 81, 82, 85, 87, 88, 89, 91, 94, 96, 
  98, 99, 102, 104, 105, 108, 109, 112, 114, 116, 117, 118, 119, 122, 125, 128, 131]
theorem ck_21 : xChkM 1 false none prog_3_method_7_code cd_21 ps_21 = true := by decide +kernel
/-- LastCloud$Hops.leastByHop(LLastCloud$Sky;I)I -/
def cd_22 : List Instr := [.iconst 1000000, .istore 3, .iload 2, .iload 2, .iconst 8, .irem, .isub, .istore 4, .aload 0, .getfield 1002, .iload 2, .iaload, .istore 5, .iload 5, .aload 0, .getfield 1002, .iload 2, .iconst 1, 
  .iadd, .iaload, .if_icmp .ge 56, .aload 0, .getfield 1072, .iload 4, .aload 0, .getfield 1012, .iload 5, .iaload, .iadd, .iaload, .istore 6, .iload 6, .iconst 1000000, .if_icmp .eq 54, .aload 0, 
  .getfield 1042, .iload 5, .iaload, .iload 6, .aload 0, .getfield 1032, .iload 5, .iaload, .iadd, .dadd, .istore 7, .iload 7, .aload 1, .getfield 10090, .if_icmp .gt 54, .iload 3, .iload 7, .dsub, 
  .istore 3, .iinc 5 1, .goto 13, .iload 3, .ireturn]
def ps_22 : List Nat := [0, 2, 3, 4, 5, 7, 8, 9, 11, 12, 15, 16, 17, 19, 21, 22, 25, 26, 27, 28, 29, 32, 33, 36, 38, 39, 42, 44, 45, 46, 47, 49, 51, 53, 56, 57, 60, 62, 63, 65, 66, 69, 71, 72, 73, 76, 78, 80, 81, 84, 87, 88, 
  90, 93, 94, 97, 100, 101]
theorem ck_22 : xChkM 1 false (some .int) prog_3_method_8_code cd_22 ps_22 = true := by decide +kernel
/-- LastCloud$Hops.glide(LLastCloud$Sky;IIZ)V -/
def cd_23 : List Instr := [.aload 0, .getfield 1082, .iconst (-1), .invokestatic 2575931, .iload 3, .aload 1, .getfield 10002, .iload 2, .aaload, .getfield 4000, .if_icmp .ge 12, .return_, .aload 0, .getfield 1082, .iload 2, 
  .iload 3, .iastore, .iconst 1, .istore 5, .iconst 0, .istore 6, .iload 6, .iconst 496, .if_icmp .gt 54, .iload 5, .ifCond .eq 54, .iconst 0, .istore 5, .iconst 0, .istore 7, .iload 7, .aload 1, 
  .getfield 10040, .if_icmp .ge 52, .aload 0, .getfield 1082, .iload 7, .iaload, .iconst (-1), .if_icmp .eq 50, .aload 0, .aload 1, .iload 7, .iload 7, .iload 4, .invokestatic 135928, 
  .invokevirtual 192096, .ifCond .eq 50, .iconst 1, .istore 5, .iinc 7 1, .goto 30, .iinc 6 1, .goto 21, .return_]
def ps_23 : List Nat := [0, 1, 4, 5, 8, 9, 10, 13, 14, 15, 18, 21, 22, 23, 26, 27, 28, 29, 30, 32, 33, 35, 37, 40, 43, 45, 48, 49, 51, 52, 54, 56, 57, 60, 63, 64, 67, 69, 70, 71, 74, 75, 76, 78, 80, 82, 85, 88, 91, 92, 94, 97, 
  100, 103, 106]
theorem ck_23 : xChkM 1 false none prog_3_method_9_code cd_23 ps_23 = true := by decide +kernel
/-- LastCloud$Hops.raiseFrom(LLastCloud$Sky;II)Z -/
def cd_24 : List Instr := [.iconst 0, .istore 4, .aload 0, .getfield 1002, .iload 3, .iaload, .istore 5, .iload 5, .aload 0, .getfield 1002, .iload 3, .iconst 1, .iadd, .iaload, .if_icmp .ge 57, .aload 1, .aload 0, 
  .getfield 1082, .iload 2, .iaload, .aload 0, .getfield 1032, .iload 5, .iaload, .isub, .invokevirtual 920808, .istore 6, .aload 0, .getfield 1082, .iload 2, .iaload, .aload 0, .getfield 1042, .iload 5, 
  .iaload, .if_icmp .lt 55, .iload 6, .aload 0, .getfield 1082, .aload 0, .getfield 1012, .iload 5, .iaload, .iaload, .if_icmp .le 55, .aload 0, .getfield 1082, .aload 0, .getfield 1012, .iload 5, 
  .iaload, .iload 6, .iastore, .iconst 1, .istore 4, .iinc 5 1, .goto 7, .iload 4, .freturn]
def ps_24 : List Nat := [0, 1, 3, 4, 7, 8, 9, 11, 13, 14, 17, 18, 19, 20, 21, 24, 25, 26, 29, 30, 31, 32, 35, 37, 38, 39, 42, 44, 45, 48, 49, 50, 51, 54, 56, 57, 60, 62, 63, 66, 67, 70, 72, 73, 74, 77, 78, 81, 82, 85, 87, 88, 
  90, 91, 92, 94, 97, 100, 102]
theorem ck_24 : xChkM 1 false (some .boolean) prog_3_method_10_code cd_24 ps_24 = true := by decide +kernel
/-- LastCloud$Hops.longestStreet(LLastCloud$Sky;)I -/
def cd_25 : List Instr := [.iconst 0, .istore 2, .aload 0, .getfield 1092, .iconst 0, .invokestatic 2575931, .iconst 0, .istore 3, .iload 3, .aload 1, .getfield 10040, .if_icmp .ge 23, .aload 0, .getfield 1092, .iconst 1, 
  .iload 3, .ishl, .iconst 1, .iload 3, .ishl, .iastore, .iinc 3 1, .goto 8, .iconst 1, .istore 3, .iload 3, .aload 1, .invokevirtual 864804, .if_icmp .gt 62, .aload 0, .getfield 1092, .iload 3, .iaload, 
  .ifCond .eq 39, .iload 2, .iload 3, .invokestatic 2559924, .dadd, .istore 2, .iconst 0, .istore 4, .iload 4, .aload 1, .getfield 10040, .if_icmp .ge 60, .aload 0, .getfield 1092, .iload 3, .iaload, 
  .iload 4, .ishr, .iconst 1, .iand, .ifCond .eq 58, .aload 0, .iload 3, .iload 4, .invokevirtual 208095, .iinc 4 1, .goto 41, .iinc 3 1, .goto 25, .iload 2, .ireturn]
def ps_25 : List Nat := [0, 1, 2, 3, 6, 7, 10, 11, 12, 13, 14, 17, 20, 21, 24, 25, 26, 27, 28, 29, 30, 31, 34, 37, 38, 39, 40, 41, 44, 47, 48, 51, 52, 53, 56, 57, 58, 61, 64, 65, 66, 68, 70, 71, 74, 77, 78, 81, 82, 83, 85, 86, 
  87, 88, 91, 92, 93, 95, 98, 101, 104, 107, 110, 111]
theorem ck_25 : xChkM 1 false (some .int) prog_3_method_11_code cd_25 ps_25 = true := by decide +kernel
/-- LastCloud$Hops.growStreets(II)V -/
def cd_26 : List Instr := [.aload 0, .getfield 1002, .iload 2, .iaload, .istore 3, .iload 3, .aload 0, .getfield 1002, .iload 2, .iconst 1, .iadd, .iaload, .if_icmp .ge 41, .iconst 1, .aload 0, .getfield 1012, .iload 3, .iaload, 
  .ishl, .istore 4, .aload 0, .getfield 1032, .iload 3, .iaload, .ifCond .gt 39, .iload 1, .iload 4, .iand, .ifCond .ne 39, .aload 0, .getfield 1092, .iload 1, .iload 4, .ior, .dup2, .iaload, .iload 4, 
  .ior, .iastore, .iinc 3 1, .goto 5, .return_]
def ps_26 : List Nat := [0, 1, 4, 5, 6, 7, 8, 9, 12, 13, 14, 15, 16, 19, 20, 21, 24, 25, 26, 27, 29, 30, 33, 34, 35, 38, 39, 41, 42, 45, 46, 49, 50, 52, 53, 54, 55, 57, 58, 59, 62, 65]
theorem ck_26 : xChkM 1 false none prog_3_method_12_code cd_26 ps_26 = true := by decide +kernel
end
