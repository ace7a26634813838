section
-- ===== PART A: goes FIRST, ahead of the names: the tables' words, and 'selects' of the private methods out of them =====
/-- a private method of a class that the tables say can be made, by its rows of tables_1 -/
def lw_okq (q : MethodName × Nat) : Prop := (q.1.cls ≠ "java/lang/invoke/MethodHandle" ∧ q.1.cls ≠ "java/lang/invoke/VarHandle") ∧ Cond.instantiable q.1.cls q.2 ∈ tables_1 ∧ Cond.privateMethod q.1 ∈ tables_1 ∧ Cond.instanceMethod q.1 ∈ tables_1
theorem lw_p0 : lw_okq (⟨"LastCloud$Sky", "clear", "()V"⟩, 19) := ⟨⟨by decide +kernel, by decide +kernel⟩, List.mem_of_getElem? (i := 71) (by decide +kernel), List.mem_of_getElem? (i := 213) (by decide +kernel), List.mem_of_getElem? (i := 214) (by decide +kernel)⟩
theorem lw_p1 : lw_okq (⟨"LastCloud$Place", "clear", "()V"⟩, 7) := ⟨⟨by decide +kernel, by decide +kernel⟩, List.mem_of_getElem? (i := 122) (by decide +kernel), List.mem_of_getElem? (i := 217) (by decide +kernel), List.mem_of_getElem? (i := 218) (by decide +kernel)⟩
theorem lw_p2 : lw_okq (⟨"LastCloud$Hops", "build", "(LLastCloud$Sky;)V"⟩, 10) := ⟨⟨by decide +kernel, by decide +kernel⟩, List.mem_of_getElem? (i := 343) (by decide +kernel), List.mem_of_getElem? (i := 529) (by decide +kernel), List.mem_of_getElem? (i := 530) (by decide +kernel)⟩
theorem lw_p3 : lw_okq (⟨"LastCloud$Hops", "addFrom", "(LLastCloud$Sky;IZ)V"⟩, 10) := ⟨⟨by decide +kernel, by decide +kernel⟩, List.mem_of_getElem? (i := 343) (by decide +kernel), List.mem_of_getElem? (i := 533) (by decide +kernel), List.mem_of_getElem? (i := 534) (by decide +kernel)⟩
theorem lw_p4 : lw_okq (⟨"LastCloud$Hops", "add", "(LLastCloud$Sky;IZIZ)V"⟩, 10) := ⟨⟨by decide +kernel, by decide +kernel⟩, List.mem_of_getElem? (i := 343) (by decide +kernel), List.mem_of_getElem? (i := 537) (by decide +kernel), List.mem_of_getElem? (i := 538) (by decide +kernel)⟩
theorem lw_p5 : lw_okq (⟨"LastCloud$Sky", "takes", "(IZIZ)I"⟩, 19) := ⟨⟨by decide +kernel, by decide +kernel⟩, List.mem_of_getElem? (i := 71) (by decide +kernel), List.mem_of_getElem? (i := 541) (by decide +kernel), List.mem_of_getElem? (i := 542) (by decide +kernel)⟩
theorem lw_p6 : lw_okq (⟨"LastCloud$Sky", "overGround", "(IZIZ)I"⟩, 19) := ⟨⟨by decide +kernel, by decide +kernel⟩, List.mem_of_getElem? (i := 71) (by decide +kernel), List.mem_of_getElem? (i := 545) (by decide +kernel), List.mem_of_getElem? (i := 546) (by decide +kernel)⟩
theorem lw_p7 : lw_okq (⟨"LastCloud$Sky", "loses", "(IZIZ)I"⟩, 19) := ⟨⟨by decide +kernel, by decide +kernel⟩, List.mem_of_getElem? (i := 71) (by decide +kernel), List.mem_of_getElem? (i := 549) (by decide +kernel), List.mem_of_getElem? (i := 550) (by decide +kernel)⟩
theorem lw_p8 : lw_okq (⟨"LastCloud$Hops", "findEdges", "(LLastCloud$Sky;Z)V"⟩, 10) := ⟨⟨by decide +kernel, by decide +kernel⟩, List.mem_of_getElem? (i := 343) (by decide +kernel), List.mem_of_getElem? (i := 558) (by decide +kernel), List.mem_of_getElem? (i := 559) (by decide +kernel)⟩
theorem lw_p9 : lw_okq (⟨"LastCloud$Sky", "isToLandAt", "(I)Z"⟩, 19) := ⟨⟨by decide +kernel, by decide +kernel⟩, List.mem_of_getElem? (i := 71) (by decide +kernel), List.mem_of_getElem? (i := 565) (by decide +kernel), List.mem_of_getElem? (i := 566) (by decide +kernel)⟩
theorem lw_p10 : lw_okq (⟨"LastCloud$Hops", "leastByHop", "(LLastCloud$Sky;I)I"⟩, 10) := ⟨⟨by decide +kernel, by decide +kernel⟩, List.mem_of_getElem? (i := 343) (by decide +kernel), List.mem_of_getElem? (i := 570) (by decide +kernel), List.mem_of_getElem? (i := 571) (by decide +kernel)⟩
theorem lw_p11 : lw_okq (⟨"LastCloud", "putNumber", "(I)V"⟩, 18) := ⟨⟨by decide +kernel, by decide +kernel⟩, List.mem_of_getElem? (i := 23) (by decide +kernel), List.mem_of_getElem? (i := 637) (by decide +kernel), List.mem_of_getElem? (i := 638) (by decide +kernel)⟩
theorem lw_p12 : lw_okq (⟨"LastCloud$Reader", "readAll", "(ILLastCloud$Sky;)I"⟩, 10) := ⟨⟨by decide +kernel, by decide +kernel⟩, List.mem_of_getElem? (i := 31) (by decide +kernel), List.mem_of_getElem? (i := 650) (by decide +kernel), List.mem_of_getElem? (i := 651) (by decide +kernel)⟩
theorem lw_p13 : lw_okq (⟨"LastCloud$Reader", "splitText", "(I)V"⟩, 10) := ⟨⟨by decide +kernel, by decide +kernel⟩, List.mem_of_getElem? (i := 31) (by decide +kernel), List.mem_of_getElem? (i := 655) (by decide +kernel), List.mem_of_getElem? (i := 656) (by decide +kernel)⟩
theorem lw_p14 : lw_okq (⟨"LastCloud$Reader", "addToken", "(III)V"⟩, 10) := ⟨⟨by decide +kernel, by decide +kernel⟩, List.mem_of_getElem? (i := 31) (by decide +kernel), List.mem_of_getElem? (i := 662) (by decide +kernel), List.mem_of_getElem? (i := 663) (by decide +kernel)⟩
theorem lw_p15 : lw_okq (⟨"LastCloud$Reader", "readLine", "()V"⟩, 10) := ⟨⟨by decide +kernel, by decide +kernel⟩, List.mem_of_getElem? (i := 31) (by decide +kernel), List.mem_of_getElem? (i := 666) (by decide +kernel), List.mem_of_getElem? (i := 667) (by decide +kernel)⟩
def lw_privs_1 : List (MethodName × Nat) := [(⟨"LastCloud$Sky", "clear", "()V"⟩, 19), (⟨"LastCloud$Place", "clear", "()V"⟩, 7), (⟨"LastCloud$Hops", "build", "(LLastCloud$Sky;)V"⟩, 10), (⟨"LastCloud$Hops", "addFrom", "(LLastCloud$Sky;IZ)V"⟩, 10), (⟨"LastCloud$Hops", "add", "(LLastCloud$Sky;IZIZ)V"⟩, 10), (⟨"LastCloud$Sky", "takes", "(IZIZ)I"⟩, 19), (⟨"LastCloud$Sky", "overGround", "(IZIZ)I"⟩, 19), (⟨"LastCloud$Sky", "loses", "(IZIZ)I"⟩, 19), (⟨"LastCloud$Hops", "findEdges", "(LLastCloud$Sky;Z)V"⟩, 10), (⟨"LastCloud$Sky", "isToLandAt", "(I)Z"⟩, 19), (⟨"LastCloud$Hops", "leastByHop", "(LLastCloud$Sky;I)I"⟩, 10), (⟨"LastCloud", "putNumber", "(I)V"⟩, 18), (⟨"LastCloud$Reader", "readAll", "(ILLastCloud$Sky;)I"⟩, 10), (⟨"LastCloud$Reader", "splitText", "(I)V"⟩, 10), (⟨"LastCloud$Reader", "addToken", "(III)V"⟩, 10), (⟨"LastCloud$Reader", "readLine", "()V"⟩, 10)]
theorem lw_r1 : ∀ q ∈ lw_privs_1, lw_okq q := List.forall_mem_cons.mpr ⟨lw_p0, List.forall_mem_cons.mpr ⟨lw_p1, List.forall_mem_cons.mpr ⟨lw_p2, List.forall_mem_cons.mpr ⟨lw_p3, List.forall_mem_cons.mpr ⟨lw_p4, List.forall_mem_cons.mpr ⟨lw_p5, List.forall_mem_cons.mpr ⟨lw_p6, List.forall_mem_cons.mpr ⟨lw_p7, List.forall_mem_cons.mpr ⟨lw_p8, List.forall_mem_cons.mpr ⟨lw_p9, List.forall_mem_cons.mpr ⟨lw_p10, List.forall_mem_cons.mpr ⟨lw_p11, List.forall_mem_cons.mpr ⟨lw_p12, List.forall_mem_cons.mpr ⟨lw_p13, List.forall_mem_cons.mpr ⟨lw_p14, List.forall_mem_cons.mpr ⟨lw_p15, fun _ h => absurd h List.not_mem_nil⟩⟩⟩⟩⟩⟩⟩⟩⟩⟩⟩⟩⟩⟩⟩⟩
theorem lw_p16 : lw_okq (⟨"LastCloud$Reader", "lineKind", "()I"⟩, 10) := ⟨⟨by decide +kernel, by decide +kernel⟩, List.mem_of_getElem? (i := 31) (by decide +kernel), List.mem_of_getElem? (i := 670) (by decide +kernel), List.mem_of_getElem? (i := 671) (by decide +kernel)⟩
theorem lw_p17 : lw_okq (⟨"LastCloud$Reader", "isWord", "(Ljava/lang/String;)Z"⟩, 10) := ⟨⟨by decide +kernel, by decide +kernel⟩, List.mem_of_getElem? (i := 31) (by decide +kernel), List.mem_of_getElem? (i := 675) (by decide +kernel), List.mem_of_getElem? (i := 676) (by decide +kernel)⟩
theorem lw_p18 : lw_okq (⟨"LastCloud$Reader", "fail", "(I)V"⟩, 10) := ⟨⟨by decide +kernel, by decide +kernel⟩, List.mem_of_getElem? (i := 31) (by decide +kernel), List.mem_of_getElem? (i := 737) (by decide +kernel), List.mem_of_getElem? (i := 738) (by decide +kernel)⟩
theorem lw_p19 : lw_okq (⟨"LastCloud$Reader", "isFull", "(I)Z"⟩, 10) := ⟨⟨by decide +kernel, by decide +kernel⟩, List.mem_of_getElem? (i := 31) (by decide +kernel), List.mem_of_getElem? (i := 741) (by decide +kernel), List.mem_of_getElem? (i := 742) (by decide +kernel)⟩
theorem lw_p20 : lw_okq (⟨"LastCloud$Reader", "goOn", "()V"⟩, 10) := ⟨⟨by decide +kernel, by decide +kernel⟩, List.mem_of_getElem? (i := 31) (by decide +kernel), List.mem_of_getElem? (i := 751) (by decide +kernel), List.mem_of_getElem? (i := 752) (by decide +kernel)⟩
theorem lw_p21 : lw_okq (⟨"LastCloud$Reader", "readRest", "(I)V"⟩, 10) := ⟨⟨by decide +kernel, by decide +kernel⟩, List.mem_of_getElem? (i := 31) (by decide +kernel), List.mem_of_getElem? (i := 755) (by decide +kernel), List.mem_of_getElem? (i := 756) (by decide +kernel)⟩
theorem lw_p22 : lw_okq (⟨"LastCloud$Reader", "readPlace", "()V"⟩, 10) := ⟨⟨by decide +kernel, by decide +kernel⟩, List.mem_of_getElem? (i := 31) (by decide +kernel), List.mem_of_getElem? (i := 759) (by decide +kernel), List.mem_of_getElem? (i := 760) (by decide +kernel)⟩
theorem lw_p23 : lw_okq (⟨"LastCloud$Reader", "takeWord", "(Ljava/lang/String;)V"⟩, 10) := ⟨⟨by decide +kernel, by decide +kernel⟩, List.mem_of_getElem? (i := 31) (by decide +kernel), List.mem_of_getElem? (i := 764) (by decide +kernel), List.mem_of_getElem? (i := 765) (by decide +kernel)⟩
theorem lw_p24 : lw_okq (⟨"LastCloud$Reader", "takeNumber", "(II)I"⟩, 10) := ⟨⟨by decide +kernel, by decide +kernel⟩, List.mem_of_getElem? (i := 31) (by decide +kernel), List.mem_of_getElem? (i := 768) (by decide +kernel), List.mem_of_getElem? (i := 769) (by decide +kernel)⟩
theorem lw_p25 : lw_okq (⟨"LastCloud$Reader", "takeIf", "(Ljava/lang/String;)Z"⟩, 10) := ⟨⟨by decide +kernel, by decide +kernel⟩, List.mem_of_getElem? (i := 31) (by decide +kernel), List.mem_of_getElem? (i := 774) (by decide +kernel), List.mem_of_getElem? (i := 775) (by decide +kernel)⟩
theorem lw_p26 : lw_okq (⟨"LastCloud$Reader", "readLeg", "()V"⟩, 10) := ⟨⟨by decide +kernel, by decide +kernel⟩, List.mem_of_getElem? (i := 31) (by decide +kernel), List.mem_of_getElem? (i := 779) (by decide +kernel), List.mem_of_getElem? (i := 780) (by decide +kernel)⟩
theorem lw_p27 : lw_okq (⟨"LastCloud$Reader", "takePlace", "(I)I"⟩, 10) := ⟨⟨by decide +kernel, by decide +kernel⟩, List.mem_of_getElem? (i := 31) (by decide +kernel), List.mem_of_getElem? (i := 783) (by decide +kernel), List.mem_of_getElem? (i := 784) (by decide +kernel)⟩
theorem lw_p28 : lw_okq (⟨"LastCloud$Reader", "takeSigned", "(I)I"⟩, 10) := ⟨⟨by decide +kernel, by decide +kernel⟩, List.mem_of_getElem? (i := 31) (by decide +kernel), List.mem_of_getElem? (i := 789) (by decide +kernel), List.mem_of_getElem? (i := 790) (by decide +kernel)⟩
theorem lw_p29 : lw_okq (⟨"LastCloud$Reader", "readLift", "()V"⟩, 10) := ⟨⟨by decide +kernel, by decide +kernel⟩, List.mem_of_getElem? (i := 31) (by decide +kernel), List.mem_of_getElem? (i := 796) (by decide +kernel), List.mem_of_getElem? (i := 797) (by decide +kernel)⟩
theorem lw_p30 : lw_okq (⟨"LastCloud$Sky", "liftBits", "()I"⟩, 19) := ⟨⟨by decide +kernel, by decide +kernel⟩, List.mem_of_getElem? (i := 71) (by decide +kernel), List.mem_of_getElem? (i := 800) (by decide +kernel), List.mem_of_getElem? (i := 801) (by decide +kernel)⟩
theorem lw_p31 : lw_okq (⟨"LastCloud$Sky", "hasPlace", "(I)Z"⟩, 19) := ⟨⟨by decide +kernel, by decide +kernel⟩, List.mem_of_getElem? (i := 71) (by decide +kernel), List.mem_of_getElem? (i := 807) (by decide +kernel), List.mem_of_getElem? (i := 808) (by decide +kernel)⟩
def lw_privs_2 : List (MethodName × Nat) := [(⟨"LastCloud$Reader", "lineKind", "()I"⟩, 10), (⟨"LastCloud$Reader", "isWord", "(Ljava/lang/String;)Z"⟩, 10), (⟨"LastCloud$Reader", "fail", "(I)V"⟩, 10), (⟨"LastCloud$Reader", "isFull", "(I)Z"⟩, 10), (⟨"LastCloud$Reader", "goOn", "()V"⟩, 10), (⟨"LastCloud$Reader", "readRest", "(I)V"⟩, 10), (⟨"LastCloud$Reader", "readPlace", "()V"⟩, 10), (⟨"LastCloud$Reader", "takeWord", "(Ljava/lang/String;)V"⟩, 10), (⟨"LastCloud$Reader", "takeNumber", "(II)I"⟩, 10), (⟨"LastCloud$Reader", "takeIf", "(Ljava/lang/String;)Z"⟩, 10), (⟨"LastCloud$Reader", "readLeg", "()V"⟩, 10), (⟨"LastCloud$Reader", "takePlace", "(I)I"⟩, 10), (⟨"LastCloud$Reader", "takeSigned", "(I)I"⟩, 10), (⟨"LastCloud$Reader", "readLift", "()V"⟩, 10), (⟨"LastCloud$Sky", "liftBits", "()I"⟩, 19), (⟨"LastCloud$Sky", "hasPlace", "(I)Z"⟩, 19)]
theorem lw_r2 : ∀ q ∈ lw_privs_2, lw_okq q := List.forall_mem_cons.mpr ⟨lw_p16, List.forall_mem_cons.mpr ⟨lw_p17, List.forall_mem_cons.mpr ⟨lw_p18, List.forall_mem_cons.mpr ⟨lw_p19, List.forall_mem_cons.mpr ⟨lw_p20, List.forall_mem_cons.mpr ⟨lw_p21, List.forall_mem_cons.mpr ⟨lw_p22, List.forall_mem_cons.mpr ⟨lw_p23, List.forall_mem_cons.mpr ⟨lw_p24, List.forall_mem_cons.mpr ⟨lw_p25, List.forall_mem_cons.mpr ⟨lw_p26, List.forall_mem_cons.mpr ⟨lw_p27, List.forall_mem_cons.mpr ⟨lw_p28, List.forall_mem_cons.mpr ⟨lw_p29, List.forall_mem_cons.mpr ⟨lw_p30, List.forall_mem_cons.mpr ⟨lw_p31, fun _ h => absurd h List.not_mem_nil⟩⟩⟩⟩⟩⟩⟩⟩⟩⟩⟩⟩⟩⟩⟩⟩
theorem lw_p32 : lw_okq (⟨"LastCloud$Reader", "readSpeed", "()V"⟩, 10) := ⟨⟨by decide +kernel, by decide +kernel⟩, List.mem_of_getElem? (i := 31) (by decide +kernel), List.mem_of_getElem? (i := 811) (by decide +kernel), List.mem_of_getElem? (i := 812) (by decide +kernel)⟩
theorem lw_p33 : lw_okq (⟨"LastCloud$Polar", "add", "(II)V"⟩, 3) := ⟨⟨by decide +kernel, by decide +kernel⟩, List.mem_of_getElem? (i := 81) (by decide +kernel), List.mem_of_getElem? (i := 816) (by decide +kernel), List.mem_of_getElem? (i := 817) (by decide +kernel)⟩
theorem lw_p34 : lw_okq (⟨"LastCloud$Reader", "readWorth", "()V"⟩, 10) := ⟨⟨by decide +kernel, by decide +kernel⟩, List.mem_of_getElem? (i := 31) (by decide +kernel), List.mem_of_getElem? (i := 820) (by decide +kernel), List.mem_of_getElem? (i := 821) (by decide +kernel)⟩
theorem lw_p35 : lw_okq (⟨"LastCloud$Reader", "readStart", "()V"⟩, 10) := ⟨⟨by decide +kernel, by decide +kernel⟩, List.mem_of_getElem? (i := 31) (by decide +kernel), List.mem_of_getElem? (i := 826) (by decide +kernel), List.mem_of_getElem? (i := 827) (by decide +kernel)⟩
theorem lw_p36 : lw_okq (⟨"LastCloud$Sky", "hasStart", "()Z"⟩, 19) := ⟨⟨by decide +kernel, by decide +kernel⟩, List.mem_of_getElem? (i := 71) (by decide +kernel), List.mem_of_getElem? (i := 832) (by decide +kernel), List.mem_of_getElem? (i := 833) (by decide +kernel)⟩
theorem lw_p37 : lw_okq (⟨"LastCloud", "forgetPlans", "()V"⟩, 18) := ⟨⟨by decide +kernel, by decide +kernel⟩, List.mem_of_getElem? (i := 23) (by decide +kernel), List.mem_of_getElem? (i := 838) (by decide +kernel), List.mem_of_getElem? (i := 839) (by decide +kernel)⟩
theorem lw_p38 : lw_okq (⟨"LastCloud$Sky", "hasLeg", "(I)Z"⟩, 19) := ⟨⟨by decide +kernel, by decide +kernel⟩, List.mem_of_getElem? (i := 71) (by decide +kernel), List.mem_of_getElem? (i := 850) (by decide +kernel), List.mem_of_getElem? (i := 851) (by decide +kernel)⟩
theorem lw_p39 : lw_okq (⟨"LastCloud$Sky", "hasSpeed", "(I)Z"⟩, 19) := ⟨⟨by decide +kernel, by decide +kernel⟩, List.mem_of_getElem? (i := 71) (by decide +kernel), List.mem_of_getElem? (i := 854) (by decide +kernel), List.mem_of_getElem? (i := 855) (by decide +kernel)⟩
theorem lw_p40 : lw_okq (⟨"LastCloud$Sky", "wins", "(IZ)I"⟩, 19) := ⟨⟨by decide +kernel, by decide +kernel⟩, List.mem_of_getElem? (i := 71) (by decide +kernel), List.mem_of_getElem? (i := 870) (by decide +kernel), List.mem_of_getElem? (i := 871) (by decide +kernel)⟩
theorem lw_p41 : lw_okq (⟨"LastCloud$Sky", "winsBy", "(IZ)I"⟩, 19) := ⟨⟨by decide +kernel, by decide +kernel⟩, List.mem_of_getElem? (i := 71) (by decide +kernel), List.mem_of_getElem? (i := 874) (by decide +kernel), List.mem_of_getElem? (i := 875) (by decide +kernel)⟩
theorem lw_p42 : lw_okq (⟨"LastCloud$Sky", "chanceNow", "(I)I"⟩, 19) := ⟨⟨by decide +kernel, by decide +kernel⟩, List.mem_of_getElem? (i := 71) (by decide +kernel), List.mem_of_getElem? (i := 883) (by decide +kernel), List.mem_of_getElem? (i := 884) (by decide +kernel)⟩
theorem lw_p43 : lw_okq (⟨"LastCloud$Place", "afterSight", "(II)I"⟩, 7) := ⟨⟨by decide +kernel, by decide +kernel⟩, List.mem_of_getElem? (i := 122) (by decide +kernel), List.mem_of_getElem? (i := 887) (by decide +kernel), List.mem_of_getElem? (i := 888) (by decide +kernel)⟩
theorem lw_p44 : lw_okq (⟨"LastCloud$Place", "bySign", "(IZI)I"⟩, 7) := ⟨⟨by decide +kernel, by decide +kernel⟩, List.mem_of_getElem? (i := 122) (by decide +kernel), List.mem_of_getElem? (i := 891) (by decide +kernel), List.mem_of_getElem? (i := 892) (by decide +kernel)⟩
theorem lw_p45 : lw_okq (⟨"LastCloud$Sights", "add", "(II)V"⟩, 3) := ⟨⟨by decide +kernel, by decide +kernel⟩, List.mem_of_getElem? (i := 103) (by decide +kernel), List.mem_of_getElem? (i := 899) (by decide +kernel), List.mem_of_getElem? (i := 900) (by decide +kernel)⟩
theorem lw_p46 : lw_okq (⟨"LastCloud$Sky", "hasHeight", "(I)Z"⟩, 19) := ⟨⟨by decide +kernel, by decide +kernel⟩, List.mem_of_getElem? (i := 71) (by decide +kernel), List.mem_of_getElem? (i := 916) (by decide +kernel), List.mem_of_getElem? (i := 917) (by decide +kernel)⟩
theorem lw_p47 : lw_okq (⟨"LastCloud$Hops", "glide", "(LLastCloud$Sky;IIZ)V"⟩, 10) := ⟨⟨by decide +kernel, by decide +kernel⟩, List.mem_of_getElem? (i := 343) (by decide +kernel), List.mem_of_getElem? (i := 920) (by decide +kernel), List.mem_of_getElem? (i := 921) (by decide +kernel)⟩
def lw_privs_3 : List (MethodName × Nat) := [(⟨"LastCloud$Reader", "readSpeed", "()V"⟩, 10), (⟨"LastCloud$Polar", "add", "(II)V"⟩, 3), (⟨"LastCloud$Reader", "readWorth", "()V"⟩, 10), (⟨"LastCloud$Reader", "readStart", "()V"⟩, 10), (⟨"LastCloud$Sky", "hasStart", "()Z"⟩, 19), (⟨"LastCloud", "forgetPlans", "()V"⟩, 18), (⟨"LastCloud$Sky", "hasLeg", "(I)Z"⟩, 19), (⟨"LastCloud$Sky", "hasSpeed", "(I)Z"⟩, 19), (⟨"LastCloud$Sky", "wins", "(IZ)I"⟩, 19), (⟨"LastCloud$Sky", "winsBy", "(IZ)I"⟩, 19), (⟨"LastCloud$Sky", "chanceNow", "(I)I"⟩, 19), (⟨"LastCloud$Place", "afterSight", "(II)I"⟩, 7), (⟨"LastCloud$Place", "bySign", "(IZI)I"⟩, 7), (⟨"LastCloud$Sights", "add", "(II)V"⟩, 3), (⟨"LastCloud$Sky", "hasHeight", "(I)Z"⟩, 19), (⟨"LastCloud$Hops", "glide", "(LLastCloud$Sky;IIZ)V"⟩, 10)]
theorem lw_r3 : ∀ q ∈ lw_privs_3, lw_okq q := List.forall_mem_cons.mpr ⟨lw_p32, List.forall_mem_cons.mpr ⟨lw_p33, List.forall_mem_cons.mpr ⟨lw_p34, List.forall_mem_cons.mpr ⟨lw_p35, List.forall_mem_cons.mpr ⟨lw_p36, List.forall_mem_cons.mpr ⟨lw_p37, List.forall_mem_cons.mpr ⟨lw_p38, List.forall_mem_cons.mpr ⟨lw_p39, List.forall_mem_cons.mpr ⟨lw_p40, List.forall_mem_cons.mpr ⟨lw_p41, List.forall_mem_cons.mpr ⟨lw_p42, List.forall_mem_cons.mpr ⟨lw_p43, List.forall_mem_cons.mpr ⟨lw_p44, List.forall_mem_cons.mpr ⟨lw_p45, List.forall_mem_cons.mpr ⟨lw_p46, List.forall_mem_cons.mpr ⟨lw_p47, fun _ h => absurd h List.not_mem_nil⟩⟩⟩⟩⟩⟩⟩⟩⟩⟩⟩⟩⟩⟩⟩⟩
theorem lw_p48 : lw_okq (⟨"LastCloud$Hops", "raiseFrom", "(LLastCloud$Sky;II)Z"⟩, 10) := ⟨⟨by decide +kernel, by decide +kernel⟩, List.mem_of_getElem? (i := 343) (by decide +kernel), List.mem_of_getElem? (i := 925) (by decide +kernel), List.mem_of_getElem? (i := 926) (by decide +kernel)⟩
theorem lw_p49 : lw_okq (⟨"LastCloud$Sky", "capped", "(I)I"⟩, 19) := ⟨⟨by decide +kernel, by decide +kernel⟩, List.mem_of_getElem? (i := 71) (by decide +kernel), List.mem_of_getElem? (i := 929) (by decide +kernel), List.mem_of_getElem? (i := 930) (by decide +kernel)⟩
theorem lw_p50 : lw_okq (⟨"LastCloud$Hops", "longestStreet", "(LLastCloud$Sky;)I"⟩, 10) := ⟨⟨by decide +kernel, by decide +kernel⟩, List.mem_of_getElem? (i := 343) (by decide +kernel), List.mem_of_getElem? (i := 953) (by decide +kernel), List.mem_of_getElem? (i := 954) (by decide +kernel)⟩
theorem lw_p51 : lw_okq (⟨"LastCloud$Sky", "allPlaces", "()I"⟩, 19) := ⟨⟨by decide +kernel, by decide +kernel⟩, List.mem_of_getElem? (i := 71) (by decide +kernel), List.mem_of_getElem? (i := 957) (by decide +kernel), List.mem_of_getElem? (i := 958) (by decide +kernel)⟩
theorem lw_p52 : lw_okq (⟨"LastCloud$Hops", "growStreets", "(II)V"⟩, 10) := ⟨⟨by decide +kernel, by decide +kernel⟩, List.mem_of_getElem? (i := 343) (by decide +kernel), List.mem_of_getElem? (i := 962) (by decide +kernel), List.mem_of_getElem? (i := 963) (by decide +kernel)⟩
theorem lw_p53 : lw_okq (⟨"LastCloud$Polar", "fastest", "(I)I"⟩, 3) := ⟨⟨by decide +kernel, by decide +kernel⟩, List.mem_of_getElem? (i := 81) (by decide +kernel), List.mem_of_getElem? (i := 973) (by decide +kernel), List.mem_of_getElem? (i := 974) (by decide +kernel)⟩
theorem lw_p54 : lw_okq (⟨"LastCloud$Polar", "tenHours", "(II)I"⟩, 3) := ⟨⟨by decide +kernel, by decide +kernel⟩, List.mem_of_getElem? (i := 81) (by decide +kernel), List.mem_of_getElem? (i := 981) (by decide +kernel), List.mem_of_getElem? (i := 982) (by decide +kernel)⟩
theorem lw_p55 : lw_okq (⟨"LastCloud$Polar", "flattest", "()I"⟩, 3) := ⟨⟨by decide +kernel, by decide +kernel⟩, List.mem_of_getElem? (i := 81) (by decide +kernel), List.mem_of_getElem? (i := 989) (by decide +kernel), List.mem_of_getElem? (i := 990) (by decide +kernel)⟩
theorem lw_p56 : lw_okq (⟨"LastCloud$Sky", "hasState", "(IIIZ)Z"⟩, 19) := ⟨⟨by decide +kernel, by decide +kernel⟩, List.mem_of_getElem? (i := 71) (by decide +kernel), List.mem_of_getElem? (i := 1000) (by decide +kernel), List.mem_of_getElem? (i := 1001) (by decide +kernel)⟩
theorem lw_p57 : lw_okq (⟨"LastCloud", "planOf", "(I)LLastCloud$Plan;"⟩, 18) := ⟨⟨by decide +kernel, by decide +kernel⟩, List.mem_of_getElem? (i := 23) (by decide +kernel), List.mem_of_getElem? (i := 1004) (by decide +kernel), List.mem_of_getElem? (i := 1005) (by decide +kernel)⟩
theorem lw_p58 : lw_okq (⟨"LastCloud$Plan", "begin", "(LLastCloud$Sky;LLastCloud$Hops;I)V"⟩, 15) := ⟨⟨by decide +kernel, by decide +kernel⟩, List.mem_of_getElem? (i := 1007) (by decide +kernel), List.mem_of_getElem? (i := 1066) (by decide +kernel), List.mem_of_getElem? (i := 1067) (by decide +kernel)⟩
theorem lw_p59 : lw_okq (⟨"LastCloud$Plan", "leastByRule", "(IZ)I"⟩, 15) := ⟨⟨by decide +kernel, by decide +kernel⟩, List.mem_of_getElem? (i := 1007) (by decide +kernel), List.mem_of_getElem? (i := 1072) (by decide +kernel), List.mem_of_getElem? (i := 1073) (by decide +kernel)⟩
theorem lw_p60 : lw_okq (⟨"LastCloud$Hops", "speedOf", "(I)I"⟩, 10) := ⟨⟨by decide +kernel, by decide +kernel⟩, List.mem_of_getElem? (i := 343) (by decide +kernel), List.mem_of_getElem? (i := 1079) (by decide +kernel), List.mem_of_getElem? (i := 1080) (by decide +kernel)⟩
theorem lw_p61 : lw_okq (⟨"LastCloud$Sky", "fastSpeedTo", "(I)I"⟩, 19) := ⟨⟨by decide +kernel, by decide +kernel⟩, List.mem_of_getElem? (i := 71) (by decide +kernel), List.mem_of_getElem? (i := 1083) (by decide +kernel), List.mem_of_getElem? (i := 1084) (by decide +kernel)⟩
theorem lw_p62 : lw_okq (⟨"LastCloud$Plan", "fill", "(IZ)V"⟩, 15) := ⟨⟨by decide +kernel, by decide +kernel⟩, List.mem_of_getElem? (i := 1007) (by decide +kernel), List.mem_of_getElem? (i := 1088) (by decide +kernel), List.mem_of_getElem? (i := 1089) (by decide +kernel)⟩
theorem lw_p63 : lw_okq (⟨"LastCloud$Plan", "fillPeriod", "(IZ)V"⟩, 15) := ⟨⟨by decide +kernel, by decide +kernel⟩, List.mem_of_getElem? (i := 1007) (by decide +kernel), List.mem_of_getElem? (i := 1092) (by decide +kernel), List.mem_of_getElem? (i := 1093) (by decide +kernel)⟩
def lw_privs_4 : List (MethodName × Nat) := [(⟨"LastCloud$Hops", "raiseFrom", "(LLastCloud$Sky;II)Z"⟩, 10), (⟨"LastCloud$Sky", "capped", "(I)I"⟩, 19), (⟨"LastCloud$Hops", "longestStreet", "(LLastCloud$Sky;)I"⟩, 10), (⟨"LastCloud$Sky", "allPlaces", "()I"⟩, 19), (⟨"LastCloud$Hops", "growStreets", "(II)V"⟩, 10), (⟨"LastCloud$Polar", "fastest", "(I)I"⟩, 3), (⟨"LastCloud$Polar", "tenHours", "(II)I"⟩, 3), (⟨"LastCloud$Polar", "flattest", "()I"⟩, 3), (⟨"LastCloud$Sky", "hasState", "(IIIZ)Z"⟩, 19), (⟨"LastCloud", "planOf", "(I)LLastCloud$Plan;"⟩, 18), (⟨"LastCloud$Plan", "begin", "(LLastCloud$Sky;LLastCloud$Hops;I)V"⟩, 15), (⟨"LastCloud$Plan", "leastByRule", "(IZ)I"⟩, 15), (⟨"LastCloud$Hops", "speedOf", "(I)I"⟩, 10), (⟨"LastCloud$Sky", "fastSpeedTo", "(I)I"⟩, 19), (⟨"LastCloud$Plan", "fill", "(IZ)V"⟩, 15), (⟨"LastCloud$Plan", "fillPeriod", "(IZ)V"⟩, 15)]
theorem lw_r4 : ∀ q ∈ lw_privs_4, lw_okq q := List.forall_mem_cons.mpr ⟨lw_p48, List.forall_mem_cons.mpr ⟨lw_p49, List.forall_mem_cons.mpr ⟨lw_p50, List.forall_mem_cons.mpr ⟨lw_p51, List.forall_mem_cons.mpr ⟨lw_p52, List.forall_mem_cons.mpr ⟨lw_p53, List.forall_mem_cons.mpr ⟨lw_p54, List.forall_mem_cons.mpr ⟨lw_p55, List.forall_mem_cons.mpr ⟨lw_p56, List.forall_mem_cons.mpr ⟨lw_p57, List.forall_mem_cons.mpr ⟨lw_p58, List.forall_mem_cons.mpr ⟨lw_p59, List.forall_mem_cons.mpr ⟨lw_p60, List.forall_mem_cons.mpr ⟨lw_p61, List.forall_mem_cons.mpr ⟨lw_p62, List.forall_mem_cons.mpr ⟨lw_p63, fun _ h => absurd h List.not_mem_nil⟩⟩⟩⟩⟩⟩⟩⟩⟩⟩⟩⟩⟩⟩⟩⟩
theorem lw_p64 : lw_okq (⟨"LastCloud$Plan", "bestHop", "(IZII)I"⟩, 15) := ⟨⟨by decide +kernel, by decide +kernel⟩, List.mem_of_getElem? (i := 1007) (by decide +kernel), List.mem_of_getElem? (i := 1096) (by decide +kernel), List.mem_of_getElem? (i := 1097) (by decide +kernel)⟩
theorem lw_p65 : lw_okq (⟨"LastCloud$Plan", "behind", "(IIZI)I"⟩, 15) := ⟨⟨by decide +kernel, by decide +kernel⟩, List.mem_of_getElem? (i := 1007) (by decide +kernel), List.mem_of_getElem? (i := 1100) (by decide +kernel), List.mem_of_getElem? (i := 1101) (by decide +kernel)⟩
theorem lw_p66 : lw_okq (⟨"LastCloud$Plan", "settle", "(IIIIIZ)V"⟩, 15) := ⟨⟨by decide +kernel, by decide +kernel⟩, List.mem_of_getElem? (i := 1007) (by decide +kernel), List.mem_of_getElem? (i := 1108) (by decide +kernel), List.mem_of_getElem? (i := 1109) (by decide +kernel)⟩
theorem lw_p67 : lw_okq (⟨"LastCloud$Sky", "landingWorth", "(III)I"⟩, 19) := ⟨⟨by decide +kernel, by decide +kernel⟩, List.mem_of_getElem? (i := 71) (by decide +kernel), List.mem_of_getElem? (i := 1112) (by decide +kernel), List.mem_of_getElem? (i := 1113) (by decide +kernel)⟩
theorem lw_p68 : lw_okq (⟨"LastCloud$Plan", "homeAt", "(IZ)I"⟩, 15) := ⟨⟨by decide +kernel, by decide +kernel⟩, List.mem_of_getElem? (i := 1007) (by decide +kernel), List.mem_of_getElem? (i := 1117) (by decide +kernel), List.mem_of_getElem? (i := 1118) (by decide +kernel)⟩
theorem lw_p69 : lw_okq (⟨"LastCloud$Plan", "worthAt", "(IZ)I"⟩, 15) := ⟨⟨by decide +kernel, by decide +kernel⟩, List.mem_of_getElem? (i := 1007) (by decide +kernel), List.mem_of_getElem? (i := 1121) (by decide +kernel), List.mem_of_getElem? (i := 1122) (by decide +kernel)⟩
theorem lw_p70 : lw_okq (⟨"LastCloud$Plan", "deedAt", "(IZ)I"⟩, 15) := ⟨⟨by decide +kernel, by decide +kernel⟩, List.mem_of_getElem? (i := 1007) (by decide +kernel), List.mem_of_getElem? (i := 1134) (by decide +kernel), List.mem_of_getElem? (i := 1135) (by decide +kernel)⟩
theorem lw_p71 : lw_okq (⟨"LastCloud$Sky", "startsWet", "()Z"⟩, 19) := ⟨⟨by decide +kernel, by decide +kernel⟩, List.mem_of_getElem? (i := 71) (by decide +kernel), List.mem_of_getElem? (i := 1148) (by decide +kernel), List.mem_of_getElem? (i := 1149) (by decide +kernel)⟩
theorem lw_p72 : lw_okq (⟨"LastCloud$Plan", "startWorth", "(Z)I"⟩, 15) := ⟨⟨by decide +kernel, by decide +kernel⟩, List.mem_of_getElem? (i := 1007) (by decide +kernel), List.mem_of_getElem? (i := 1152) (by decide +kernel), List.mem_of_getElem? (i := 1153) (by decide +kernel)⟩
theorem lw_p73 : lw_okq (⟨"LastCloud", "leastToLeave", "(IIZZ)I"⟩, 18) := ⟨⟨by decide +kernel, by decide +kernel⟩, List.mem_of_getElem? (i := 23) (by decide +kernel), List.mem_of_getElem? (i := 1165) (by decide +kernel), List.mem_of_getElem? (i := 1166) (by decide +kernel)⟩
theorem lw_p74 : lw_okq (⟨"LastCloud", "trialPlan", "()LLastCloud$Plan;"⟩, 18) := ⟨⟨by decide +kernel, by decide +kernel⟩, List.mem_of_getElem? (i := 23) (by decide +kernel), List.mem_of_getElem? (i := 1181) (by decide +kernel), List.mem_of_getElem? (i := 1182) (by decide +kernel)⟩
theorem lw_p75 : lw_okq (⟨"LastCloud$Plan", "setDryWin", "(II)V"⟩, 15) := ⟨⟨by decide +kernel, by decide +kernel⟩, List.mem_of_getElem? (i := 1007) (by decide +kernel), List.mem_of_getElem? (i := 1186) (by decide +kernel), List.mem_of_getElem? (i := 1187) (by decide +kernel)⟩
theorem lw_p76 : lw_okq (⟨"LastCloud$Outcomes", "spreadFromStart", "(LLastCloud$Plan;)V"⟩, 5) := ⟨⟨by decide +kernel, by decide +kernel⟩, List.mem_of_getElem? (i := 397) (by decide +kernel), List.mem_of_getElem? (i := 1194) (by decide +kernel), List.mem_of_getElem? (i := 1195) (by decide +kernel)⟩
theorem lw_p77 : lw_okq (⟨"LastCloud$Outcomes", "arrive", "(II)V"⟩, 5) := ⟨⟨by decide +kernel, by decide +kernel⟩, List.mem_of_getElem? (i := 397) (by decide +kernel), List.mem_of_getElem? (i := 1205) (by decide +kernel), List.mem_of_getElem? (i := 1206) (by decide +kernel)⟩
theorem lw_p78 : lw_okq (⟨"LastCloud$Outcomes", "spreadFrom", "(IZ)V"⟩, 5) := ⟨⟨by decide +kernel, by decide +kernel⟩, List.mem_of_getElem? (i := 397) (by decide +kernel), List.mem_of_getElem? (i := 1209) (by decide +kernel), List.mem_of_getElem? (i := 1210) (by decide +kernel)⟩
theorem lw_p79 : lw_okq (⟨"LastCloud$Outcomes", "follow", "(IZIIZ)V"⟩, 5) := ⟨⟨by decide +kernel, by decide +kernel⟩, List.mem_of_getElem? (i := 397) (by decide +kernel), List.mem_of_getElem? (i := 1213) (by decide +kernel), List.mem_of_getElem? (i := 1214) (by decide +kernel)⟩
def lw_privs_5 : List (MethodName × Nat) := [(⟨"LastCloud$Plan", "bestHop", "(IZII)I"⟩, 15), (⟨"LastCloud$Plan", "behind", "(IIZI)I"⟩, 15), (⟨"LastCloud$Plan", "settle", "(IIIIIZ)V"⟩, 15), (⟨"LastCloud$Sky", "landingWorth", "(III)I"⟩, 19), (⟨"LastCloud$Plan", "homeAt", "(IZ)I"⟩, 15), (⟨"LastCloud$Plan", "worthAt", "(IZ)I"⟩, 15), (⟨"LastCloud$Plan", "deedAt", "(IZ)I"⟩, 15), (⟨"LastCloud$Sky", "startsWet", "()Z"⟩, 19), (⟨"LastCloud$Plan", "startWorth", "(Z)I"⟩, 15), (⟨"LastCloud", "leastToLeave", "(IIZZ)I"⟩, 18), (⟨"LastCloud", "trialPlan", "()LLastCloud$Plan;"⟩, 18), (⟨"LastCloud$Plan", "setDryWin", "(II)V"⟩, 15), (⟨"LastCloud$Outcomes", "spreadFromStart", "(LLastCloud$Plan;)V"⟩, 5), (⟨"LastCloud$Outcomes", "arrive", "(II)V"⟩, 5), (⟨"LastCloud$Outcomes", "spreadFrom", "(IZ)V"⟩, 5), (⟨"LastCloud$Outcomes", "follow", "(IZIIZ)V"⟩, 5)]
theorem lw_r5 : ∀ q ∈ lw_privs_5, lw_okq q := List.forall_mem_cons.mpr ⟨lw_p64, List.forall_mem_cons.mpr ⟨lw_p65, List.forall_mem_cons.mpr ⟨lw_p66, List.forall_mem_cons.mpr ⟨lw_p67, List.forall_mem_cons.mpr ⟨lw_p68, List.forall_mem_cons.mpr ⟨lw_p69, List.forall_mem_cons.mpr ⟨lw_p70, List.forall_mem_cons.mpr ⟨lw_p71, List.forall_mem_cons.mpr ⟨lw_p72, List.forall_mem_cons.mpr ⟨lw_p73, List.forall_mem_cons.mpr ⟨lw_p74, List.forall_mem_cons.mpr ⟨lw_p75, List.forall_mem_cons.mpr ⟨lw_p76, List.forall_mem_cons.mpr ⟨lw_p77, List.forall_mem_cons.mpr ⟨lw_p78, List.forall_mem_cons.mpr ⟨lw_p79, fun _ h => absurd h List.not_mem_nil⟩⟩⟩⟩⟩⟩⟩⟩⟩⟩⟩⟩⟩⟩⟩⟩
theorem lw_p80 : lw_okq (⟨"LastCloud$Outcomes", "followLeg", "(IIZII)V"⟩, 5) := ⟨⟨by decide +kernel, by decide +kernel⟩, List.mem_of_getElem? (i := 397) (by decide +kernel), List.mem_of_getElem? (i := 1223) (by decide +kernel), List.mem_of_getElem? (i := 1224) (by decide +kernel)⟩
theorem lw_p81 : lw_okq (⟨"LastCloud", "startWorthWith", "(II)I"⟩, 18) := ⟨⟨by decide +kernel, by decide +kernel⟩, List.mem_of_getElem? (i := 23) (by decide +kernel), List.mem_of_getElem? (i := 1233) (by decide +kernel), List.mem_of_getElem? (i := 1234) (by decide +kernel)⟩
theorem lw_p82 : lw_okq (⟨"LastCloud$Plan", "setChance", "(II)V"⟩, 15) := ⟨⟨by decide +kernel, by decide +kernel⟩, List.mem_of_getElem? (i := 1007) (by decide +kernel), List.mem_of_getElem? (i := 1237) (by decide +kernel), List.mem_of_getElem? (i := 1238) (by decide +kernel)⟩
theorem lw_p83 : lw_okq (⟨"LastCloud", "bestStartWorth", "()I"⟩, 18) := ⟨⟨by decide +kernel, by decide +kernel⟩, List.mem_of_getElem? (i := 23) (by decide +kernel), List.mem_of_getElem? (i := 1241) (by decide +kernel), List.mem_of_getElem? (i := 1242) (by decide +kernel)⟩
theorem lw_p84 : lw_okq (⟨"LastCloud$Flight", "beginUnderAllLifts", "(LLastCloud$Sky;)V"⟩, 18) := ⟨⟨by decide +kernel, by decide +kernel⟩, List.mem_of_getElem? (i := 422) (by decide +kernel), List.mem_of_getElem? (i := 1263) (by decide +kernel), List.mem_of_getElem? (i := 1264) (by decide +kernel)⟩
theorem lw_p85 : lw_okq (⟨"LastCloud$Flight", "takeOff", "(LLastCloud$Sky;)V"⟩, 18) := ⟨⟨by decide +kernel, by decide +kernel⟩, List.mem_of_getElem? (i := 422) (by decide +kernel), List.mem_of_getElem? (i := 1267) (by decide +kernel), List.mem_of_getElem? (i := 1268) (by decide +kernel)⟩
theorem lw_p86 : lw_okq (⟨"LastCloud$Flight", "meetLift", "()V"⟩, 18) := ⟨⟨by decide +kernel, by decide +kernel⟩, List.mem_of_getElem? (i := 422) (by decide +kernel), List.mem_of_getElem? (i := 1273) (by decide +kernel), List.mem_of_getElem? (i := 1274) (by decide +kernel)⟩
theorem lw_p87 : lw_okq (⟨"LastCloud$Flight", "draw", "(I)I"⟩, 18) := ⟨⟨by decide +kernel, by decide +kernel⟩, List.mem_of_getElem? (i := 422) (by decide +kernel), List.mem_of_getElem? (i := 1277) (by decide +kernel), List.mem_of_getElem? (i := 1278) (by decide +kernel)⟩
theorem lw_p88 : lw_okq (⟨"LastCloud$Flight", "deedBy", "(LLastCloud$Plan;)I"⟩, 18) := ⟨⟨by decide +kernel, by decide +kernel⟩, List.mem_of_getElem? (i := 422) (by decide +kernel), List.mem_of_getElem? (i := 1285) (by decide +kernel), List.mem_of_getElem? (i := 1286) (by decide +kernel)⟩
theorem lw_p89 : lw_okq (⟨"LastCloud$Flight", "tryDeed", "(J)Z"⟩, 18) := ⟨⟨by decide +kernel, by decide +kernel⟩, List.mem_of_getElem? (i := 422) (by decide +kernel), List.mem_of_getElem? (i := 1291) (by decide +kernel), List.mem_of_getElem? (i := 1292) (by decide +kernel)⟩
theorem lw_p90 : lw_okq (⟨"LastCloud$Flight", "tryClimb", "()Z"⟩, 18) := ⟨⟨by decide +kernel, by decide +kernel⟩, List.mem_of_getElem? (i := 422) (by decide +kernel), List.mem_of_getElem? (i := 1296) (by decide +kernel), List.mem_of_getElem? (i := 1297) (by decide +kernel)⟩
theorem lw_p91 : lw_okq (⟨"LastCloud$Flight", "tryLeg", "(II)Z"⟩, 18) := ⟨⟨by decide +kernel, by decide +kernel⟩, List.mem_of_getElem? (i := 422) (by decide +kernel), List.mem_of_getElem? (i := 1304) (by decide +kernel), List.mem_of_getElem? (i := 1305) (by decide +kernel)⟩
theorem lw_p92 : lw_okq (⟨"LastCloud", "flyOnce", "(LLastCloud$Flight;II)V"⟩, 18) := ⟨⟨by decide +kernel, by decide +kernel⟩, List.mem_of_getElem? (i := 23) (by decide +kernel), List.mem_of_getElem? (i := 1320) (by decide +kernel), List.mem_of_getElem? (i := 1321) (by decide +kernel)⟩
theorem lw_p93 : lw_okq (⟨"LastCloud$Flight", "follow", "(LLastCloud$Plan;LLastCloud$Sky;I)V"⟩, 18) := ⟨⟨by decide +kernel, by decide +kernel⟩, List.mem_of_getElem? (i := 422) (by decide +kernel), List.mem_of_getElem? (i := 1324) (by decide +kernel), List.mem_of_getElem? (i := 1325) (by decide +kernel)⟩
theorem lw_p94 : lw_okq (⟨"LastCloud$Flight", "begin", "(LLastCloud$Sky;I)V"⟩, 18) := ⟨⟨by decide +kernel, by decide +kernel⟩, List.mem_of_getElem? (i := 422) (by decide +kernel), List.mem_of_getElem? (i := 1328) (by decide +kernel), List.mem_of_getElem? (i := 1329) (by decide +kernel)⟩
theorem lw_p95 : lw_okq (⟨"LastCloud$Flight", "note", "(I)V"⟩, 18) := ⟨⟨by decide +kernel, by decide +kernel⟩, List.mem_of_getElem? (i := 422) (by decide +kernel), List.mem_of_getElem? (i := 1333) (by decide +kernel), List.mem_of_getElem? (i := 1334) (by decide +kernel)⟩
def lw_privs_6 : List (MethodName × Nat) := [(⟨"LastCloud$Outcomes", "followLeg", "(IIZII)V"⟩, 5), (⟨"LastCloud", "startWorthWith", "(II)I"⟩, 18), (⟨"LastCloud$Plan", "setChance", "(II)V"⟩, 15), (⟨"LastCloud", "bestStartWorth", "()I"⟩, 18), (⟨"LastCloud$Flight", "beginUnderAllLifts", "(LLastCloud$Sky;)V"⟩, 18), (⟨"LastCloud$Flight", "takeOff", "(LLastCloud$Sky;)V"⟩, 18), (⟨"LastCloud$Flight", "meetLift", "()V"⟩, 18), (⟨"LastCloud$Flight", "draw", "(I)I"⟩, 18), (⟨"LastCloud$Flight", "deedBy", "(LLastCloud$Plan;)I"⟩, 18), (⟨"LastCloud$Flight", "tryDeed", "(J)Z"⟩, 18), (⟨"LastCloud$Flight", "tryClimb", "()Z"⟩, 18), (⟨"LastCloud$Flight", "tryLeg", "(II)Z"⟩, 18), (⟨"LastCloud", "flyOnce", "(LLastCloud$Flight;II)V"⟩, 18), (⟨"LastCloud$Flight", "follow", "(LLastCloud$Plan;LLastCloud$Sky;I)V"⟩, 18), (⟨"LastCloud$Flight", "begin", "(LLastCloud$Sky;I)V"⟩, 18), (⟨"LastCloud$Flight", "note", "(I)V"⟩, 18)]
theorem lw_r6 : ∀ q ∈ lw_privs_6, lw_okq q := List.forall_mem_cons.mpr ⟨lw_p80, List.forall_mem_cons.mpr ⟨lw_p81, List.forall_mem_cons.mpr ⟨lw_p82, List.forall_mem_cons.mpr ⟨lw_p83, List.forall_mem_cons.mpr ⟨lw_p84, List.forall_mem_cons.mpr ⟨lw_p85, List.forall_mem_cons.mpr ⟨lw_p86, List.forall_mem_cons.mpr ⟨lw_p87, List.forall_mem_cons.mpr ⟨lw_p88, List.forall_mem_cons.mpr ⟨lw_p89, List.forall_mem_cons.mpr ⟨lw_p90, List.forall_mem_cons.mpr ⟨lw_p91, List.forall_mem_cons.mpr ⟨lw_p92, List.forall_mem_cons.mpr ⟨lw_p93, List.forall_mem_cons.mpr ⟨lw_p94, List.forall_mem_cons.mpr ⟨lw_p95, fun _ h => absurd h List.not_mem_nil⟩⟩⟩⟩⟩⟩⟩⟩⟩⟩⟩⟩⟩⟩⟩⟩
theorem lw_p96 : lw_okq (⟨"LastCloud$Flight", "noted", "(II)I"⟩, 18) := ⟨⟨by decide +kernel, by decide +kernel⟩, List.mem_of_getElem? (i := 422) (by decide +kernel), List.mem_of_getElem? (i := 1344) (by decide +kernel), List.mem_of_getElem? (i := 1345) (by decide +kernel)⟩
theorem lw_p97 : lw_okq (⟨"LastCloud$Flight", "endOf", "(I)I"⟩, 18) := ⟨⟨by decide +kernel, by decide +kernel⟩, List.mem_of_getElem? (i := 422) (by decide +kernel), List.mem_of_getElem? (i := 1352) (by decide +kernel), List.mem_of_getElem? (i := 1353) (by decide +kernel)⟩
theorem lw_p98 : lw_okq (⟨"LastCloud", "areFlights", "(III)Z"⟩, 18) := ⟨⟨by decide +kernel, by decide +kernel⟩, List.mem_of_getElem? (i := 23) (by decide +kernel), List.mem_of_getElem? (i := 1368) (by decide +kernel), List.mem_of_getElem? (i := 1369) (by decide +kernel)⟩
theorem lw_p99 : lw_okq (⟨"LastCloud$Flight", "spreadValue", "(I)I"⟩, 18) := ⟨⟨by decide +kernel, by decide +kernel⟩, List.mem_of_getElem? (i := 422) (by decide +kernel), List.mem_of_getElem? (i := 1380) (by decide +kernel), List.mem_of_getElem? (i := 1381) (by decide +kernel)⟩
theorem lw_p100 : lw_okq (⟨"LastCloud$Route", "fewest", "(LLastCloud$Sky;LLastCloud$Hops;I)I"⟩, 9) := ⟨⟨by decide +kernel, by decide +kernel⟩, List.mem_of_getElem? (i := 488) (by decide +kernel), List.mem_of_getElem? (i := 1391) (by decide +kernel), List.mem_of_getElem? (i := 1392) (by decide +kernel)⟩
theorem lw_p101 : lw_okq (⟨"LastCloud$Route", "begin", "(LLastCloud$Sky;LLastCloud$Hops;I)V"⟩, 9) := ⟨⟨by decide +kernel, by decide +kernel⟩, List.mem_of_getElem? (i := 488) (by decide +kernel), List.mem_of_getElem? (i := 1395) (by decide +kernel), List.mem_of_getElem? (i := 1396) (by decide +kernel)⟩
theorem lw_p102 : lw_okq (⟨"LastCloud$Route", "fillPeriods", "(I)V"⟩, 9) := ⟨⟨by decide +kernel, by decide +kernel⟩, List.mem_of_getElem? (i := 488) (by decide +kernel), List.mem_of_getElem? (i := 1406) (by decide +kernel), List.mem_of_getElem? (i := 1407) (by decide +kernel)⟩
theorem lw_p103 : lw_okq (⟨"LastCloud$Route", "leastByHops", "(III)I"⟩, 9) := ⟨⟨by decide +kernel, by decide +kernel⟩, List.mem_of_getElem? (i := 488) (by decide +kernel), List.mem_of_getElem? (i := 1410) (by decide +kernel), List.mem_of_getElem? (i := 1411) (by decide +kernel)⟩
theorem lw_p104 : lw_okq (⟨"LastCloud$Route", "behind", "(III)I"⟩, 9) := ⟨⟨by decide +kernel, by decide +kernel⟩, List.mem_of_getElem? (i := 488) (by decide +kernel), List.mem_of_getElem? (i := 1415) (by decide +kernel), List.mem_of_getElem? (i := 1416) (by decide +kernel)⟩
theorem lw_p105 : lw_okq (⟨"LastCloud$Route", "walk", "(I)V"⟩, 9) := ⟨⟨by decide +kernel, by decide +kernel⟩, List.mem_of_getElem? (i := 488) (by decide +kernel), List.mem_of_getElem? (i := 1425) (by decide +kernel), List.mem_of_getElem? (i := 1426) (by decide +kernel)⟩
theorem lw_p106 : lw_okq (⟨"LastCloud$Route", "addToWay", "(I)V"⟩, 9) := ⟨⟨by decide +kernel, by decide +kernel⟩, List.mem_of_getElem? (i := 488) (by decide +kernel), List.mem_of_getElem? (i := 1429) (by decide +kernel), List.mem_of_getElem? (i := 1430) (by decide +kernel)⟩
theorem lw_p107 : lw_okq (⟨"LastCloud$Route", "firstHop", "(IIII)I"⟩, 9) := ⟨⟨by decide +kernel, by decide +kernel⟩, List.mem_of_getElem? (i := 488) (by decide +kernel), List.mem_of_getElem? (i := 1434) (by decide +kernel), List.mem_of_getElem? (i := 1435) (by decide +kernel)⟩
theorem lw_p108 : lw_okq (⟨"LastCloud", "slotsWithRow", "()I"⟩, 18) := ⟨⟨by decide +kernel, by decide +kernel⟩, List.mem_of_getElem? (i := 23) (by decide +kernel), List.mem_of_getElem? (i := 1452) (by decide +kernel), List.mem_of_getElem? (i := 1453) (by decide +kernel)⟩
theorem lw_p109 : lw_okq (⟨"LastCloud$Sky", "copyFrom", "(LLastCloud$Sky;)V"⟩, 19) := ⟨⟨by decide +kernel, by decide +kernel⟩, List.mem_of_getElem? (i := 71) (by decide +kernel), List.mem_of_getElem? (i := 1460) (by decide +kernel), List.mem_of_getElem? (i := 1461) (by decide +kernel)⟩
theorem lw_p110 : lw_okq (⟨"LastCloud$Place", "copyFrom", "(LLastCloud$Place;)V"⟩, 7) := ⟨⟨by decide +kernel, by decide +kernel⟩, List.mem_of_getElem? (i := 122) (by decide +kernel), List.mem_of_getElem? (i := 1464) (by decide +kernel), List.mem_of_getElem? (i := 1465) (by decide +kernel)⟩
theorem lw_p111 : lw_okq (⟨"LastCloud$Leg", "copyFrom", "(LLastCloud$Leg;)V"⟩, 6) := ⟨⟨by decide +kernel, by decide +kernel⟩, List.mem_of_getElem? (i := 171) (by decide +kernel), List.mem_of_getElem? (i := 1468) (by decide +kernel), List.mem_of_getElem? (i := 1469) (by decide +kernel)⟩
def lw_privs_7 : List (MethodName × Nat) := [(⟨"LastCloud$Flight", "noted", "(II)I"⟩, 18), (⟨"LastCloud$Flight", "endOf", "(I)I"⟩, 18), (⟨"LastCloud", "areFlights", "(III)Z"⟩, 18), (⟨"LastCloud$Flight", "spreadValue", "(I)I"⟩, 18), (⟨"LastCloud$Route", "fewest", "(LLastCloud$Sky;LLastCloud$Hops;I)I"⟩, 9), (⟨"LastCloud$Route", "begin", "(LLastCloud$Sky;LLastCloud$Hops;I)V"⟩, 9), (⟨"LastCloud$Route", "fillPeriods", "(I)V"⟩, 9), (⟨"LastCloud$Route", "leastByHops", "(III)I"⟩, 9), (⟨"LastCloud$Route", "behind", "(III)I"⟩, 9), (⟨"LastCloud$Route", "walk", "(I)V"⟩, 9), (⟨"LastCloud$Route", "addToWay", "(I)V"⟩, 9), (⟨"LastCloud$Route", "firstHop", "(IIII)I"⟩, 9), (⟨"LastCloud", "slotsWithRow", "()I"⟩, 18), (⟨"LastCloud$Sky", "copyFrom", "(LLastCloud$Sky;)V"⟩, 19), (⟨"LastCloud$Place", "copyFrom", "(LLastCloud$Place;)V"⟩, 7), (⟨"LastCloud$Leg", "copyFrom", "(LLastCloud$Leg;)V"⟩, 6)]
theorem lw_r7 : ∀ q ∈ lw_privs_7, lw_okq q := List.forall_mem_cons.mpr ⟨lw_p96, List.forall_mem_cons.mpr ⟨lw_p97, List.forall_mem_cons.mpr ⟨lw_p98, List.forall_mem_cons.mpr ⟨lw_p99, List.forall_mem_cons.mpr ⟨lw_p100, List.forall_mem_cons.mpr ⟨lw_p101, List.forall_mem_cons.mpr ⟨lw_p102, List.forall_mem_cons.mpr ⟨lw_p103, List.forall_mem_cons.mpr ⟨lw_p104, List.forall_mem_cons.mpr ⟨lw_p105, List.forall_mem_cons.mpr ⟨lw_p106, List.forall_mem_cons.mpr ⟨lw_p107, List.forall_mem_cons.mpr ⟨lw_p108, List.forall_mem_cons.mpr ⟨lw_p109, List.forall_mem_cons.mpr ⟨lw_p110, List.forall_mem_cons.mpr ⟨lw_p111, fun _ h => absurd h List.not_mem_nil⟩⟩⟩⟩⟩⟩⟩⟩⟩⟩⟩⟩⟩⟩⟩⟩
theorem lw_p112 : lw_okq (⟨"LastCloud$Polar", "copyFrom", "(LLastCloud$Polar;)V"⟩, 3) := ⟨⟨by decide +kernel, by decide +kernel⟩, List.mem_of_getElem? (i := 81) (by decide +kernel), List.mem_of_getElem? (i := 1472) (by decide +kernel), List.mem_of_getElem? (i := 1473) (by decide +kernel)⟩
theorem lw_p113 : lw_okq (⟨"LastCloud$Sights", "copyFrom", "(LLastCloud$Sights;)V"⟩, 3) := ⟨⟨by decide +kernel, by decide +kernel⟩, List.mem_of_getElem? (i := 103) (by decide +kernel), List.mem_of_getElem? (i := 1479) (by decide +kernel), List.mem_of_getElem? (i := 1480) (by decide +kernel)⟩
theorem lw_p114 : lw_okq (⟨"LastCloudModel", "forgets", "()V"⟩, 53) := ⟨⟨by decide +kernel, by decide +kernel⟩, List.mem_of_getElem? (i := 1510) (by decide +kernel), List.mem_of_getElem? (i := 1520) (by decide +kernel), List.mem_of_getElem? (i := 1521) (by decide +kernel)⟩
theorem lw_p115 : lw_okq (⟨"LastCloudModel", "advance", "()V"⟩, 53) := ⟨⟨by decide +kernel, by decide +kernel⟩, List.mem_of_getElem? (i := 1510) (by decide +kernel), List.mem_of_getElem? (i := 1711) (by decide +kernel), List.mem_of_getElem? (i := 1712) (by decide +kernel)⟩
theorem lw_p116 : lw_okq (⟨"LastCloudModel", "see", "(I)I"⟩, 53) := ⟨⟨by decide +kernel, by decide +kernel⟩, List.mem_of_getElem? (i := 1510) (by decide +kernel), List.mem_of_getElem? (i := 1715) (by decide +kernel), List.mem_of_getElem? (i := 1716) (by decide +kernel)⟩
theorem lw_p117 : lw_okq (⟨"LastCloudModel", "good", "()Z"⟩, 53) := ⟨⟨by decide +kernel, by decide +kernel⟩, List.mem_of_getElem? (i := 1510) (by decide +kernel), List.mem_of_getElem? (i := 1725) (by decide +kernel), List.mem_of_getElem? (i := 1726) (by decide +kernel)⟩
theorem lw_p118 : lw_okq (⟨"LastCloudModel", "readLine", "()V"⟩, 53) := ⟨⟨by decide +kernel, by decide +kernel⟩, List.mem_of_getElem? (i := 1510) (by decide +kernel), List.mem_of_getElem? (i := 1729) (by decide +kernel), List.mem_of_getElem? (i := 1730) (by decide +kernel)⟩
theorem lw_p119 : lw_okq (⟨"LastCloudModel", "onceHere", "()I"⟩, 53) := ⟨⟨by decide +kernel, by decide +kernel⟩, List.mem_of_getElem? (i := 1510) (by decide +kernel), List.mem_of_getElem? (i := 1733) (by decide +kernel), List.mem_of_getElem? (i := 1734) (by decide +kernel)⟩
theorem lw_p120 : lw_okq (⟨"LastCloudModel", "is", "(Ljava/lang/String;)Z"⟩, 53) := ⟨⟨by decide +kernel, by decide +kernel⟩, List.mem_of_getElem? (i := 1510) (by decide +kernel), List.mem_of_getElem? (i := 1738) (by decide +kernel), List.mem_of_getElem? (i := 1739) (by decide +kernel)⟩
theorem lw_p121 : lw_okq (⟨"LastCloudModel", "errs", "(I)V"⟩, 53) := ⟨⟨by decide +kernel, by decide +kernel⟩, List.mem_of_getElem? (i := 1510) (by decide +kernel), List.mem_of_getElem? (i := 1754) (by decide +kernel), List.mem_of_getElem? (i := 1755) (by decide +kernel)⟩
theorem lw_p122 : lw_okq (⟨"LastCloudModel", "readOnce", "(I)V"⟩, 53) := ⟨⟨by decide +kernel, by decide +kernel⟩, List.mem_of_getElem? (i := 1510) (by decide +kernel), List.mem_of_getElem? (i := 1764) (by decide +kernel), List.mem_of_getElem? (i := 1765) (by decide +kernel)⟩
theorem lw_p123 : lw_okq (⟨"LastCloudModel", "number", "(II)I"⟩, 53) := ⟨⟨by decide +kernel, by decide +kernel⟩, List.mem_of_getElem? (i := 1510) (by decide +kernel), List.mem_of_getElem? (i := 1768) (by decide +kernel), List.mem_of_getElem? (i := 1769) (by decide +kernel)⟩
theorem lw_p124 : lw_okq (⟨"LastCloudModel", "told", "(Ljava/lang/String;II)I"⟩, 53) := ⟨⟨by decide +kernel, by decide +kernel⟩, List.mem_of_getElem? (i := 1510) (by decide +kernel), List.mem_of_getElem? (i := 1773) (by decide +kernel), List.mem_of_getElem? (i := 1774) (by decide +kernel)⟩
theorem lw_p125 : lw_okq (⟨"LastCloudModel", "needs", "(Ljava/lang/String;)V"⟩, 53) := ⟨⟨by decide +kernel, by decide +kernel⟩, List.mem_of_getElem? (i := 1510) (by decide +kernel), List.mem_of_getElem? (i := 1777) (by decide +kernel), List.mem_of_getElem? (i := 1778) (by decide +kernel)⟩
theorem lw_p126 : lw_okq (⟨"LastCloudModel", "takes", "(Ljava/lang/String;)Z"⟩, 53) := ⟨⟨by decide +kernel, by decide +kernel⟩, List.mem_of_getElem? (i := 1510) (by decide +kernel), List.mem_of_getElem? (i := 1781) (by decide +kernel), List.mem_of_getElem? (i := 1782) (by decide +kernel)⟩
theorem lw_p127 : lw_okq (⟨"LastCloudModel", "readStart", "()V"⟩, 53) := ⟨⟨by decide +kernel, by decide +kernel⟩, List.mem_of_getElem? (i := 1510) (by decide +kernel), List.mem_of_getElem? (i := 1787) (by decide +kernel), List.mem_of_getElem? (i := 1788) (by decide +kernel)⟩
def lw_privs_8 : List (MethodName × Nat) := [(⟨"LastCloud$Polar", "copyFrom", "(LLastCloud$Polar;)V"⟩, 3), (⟨"LastCloud$Sights", "copyFrom", "(LLastCloud$Sights;)V"⟩, 3), (⟨"LastCloudModel", "forgets", "()V"⟩, 53), (⟨"LastCloudModel", "advance", "()V"⟩, 53), (⟨"LastCloudModel", "see", "(I)I"⟩, 53), (⟨"LastCloudModel", "good", "()Z"⟩, 53), (⟨"LastCloudModel", "readLine", "()V"⟩, 53), (⟨"LastCloudModel", "onceHere", "()I"⟩, 53), (⟨"LastCloudModel", "is", "(Ljava/lang/String;)Z"⟩, 53), (⟨"LastCloudModel", "errs", "(I)V"⟩, 53), (⟨"LastCloudModel", "readOnce", "(I)V"⟩, 53), (⟨"LastCloudModel", "number", "(II)I"⟩, 53), (⟨"LastCloudModel", "told", "(Ljava/lang/String;II)I"⟩, 53), (⟨"LastCloudModel", "needs", "(Ljava/lang/String;)V"⟩, 53), (⟨"LastCloudModel", "takes", "(Ljava/lang/String;)Z"⟩, 53), (⟨"LastCloudModel", "readStart", "()V"⟩, 53)]
theorem lw_r8 : ∀ q ∈ lw_privs_8, lw_okq q := List.forall_mem_cons.mpr ⟨lw_p112, List.forall_mem_cons.mpr ⟨lw_p113, List.forall_mem_cons.mpr ⟨lw_p114, List.forall_mem_cons.mpr ⟨lw_p115, List.forall_mem_cons.mpr ⟨lw_p116, List.forall_mem_cons.mpr ⟨lw_p117, List.forall_mem_cons.mpr ⟨lw_p118, List.forall_mem_cons.mpr ⟨lw_p119, List.forall_mem_cons.mpr ⟨lw_p120, List.forall_mem_cons.mpr ⟨lw_p121, List.forall_mem_cons.mpr ⟨lw_p122, List.forall_mem_cons.mpr ⟨lw_p123, List.forall_mem_cons.mpr ⟨lw_p124, List.forall_mem_cons.mpr ⟨lw_p125, List.forall_mem_cons.mpr ⟨lw_p126, List.forall_mem_cons.mpr ⟨lw_p127, fun _ h => absurd h List.not_mem_nil⟩⟩⟩⟩⟩⟩⟩⟩⟩⟩⟩⟩⟩⟩⟩⟩
theorem lw_p128 : lw_okq (⟨"LastCloudModel", "place", "()I"⟩, 53) := ⟨⟨by decide +kernel, by decide +kernel⟩, List.mem_of_getElem? (i := 1510) (by decide +kernel), List.mem_of_getElem? (i := 1791) (by decide +kernel), List.mem_of_getElem? (i := 1792) (by decide +kernel)⟩
theorem lw_p129 : lw_okq (⟨"LastCloudModel", "readPlace", "()V"⟩, 53) := ⟨⟨by decide +kernel, by decide +kernel⟩, List.mem_of_getElem? (i := 1510) (by decide +kernel), List.mem_of_getElem? (i := 1797) (by decide +kernel), List.mem_of_getElem? (i := 1798) (by decide +kernel)⟩
theorem lw_p130 : lw_okq (⟨"LastCloudModel", "readLeg", "()V"⟩, 53) := ⟨⟨by decide +kernel, by decide +kernel⟩, List.mem_of_getElem? (i := 1510) (by decide +kernel), List.mem_of_getElem? (i := 1803) (by decide +kernel), List.mem_of_getElem? (i := 1804) (by decide +kernel)⟩
theorem lw_p131 : lw_okq (⟨"LastCloudModel", "signed", "(I)I"⟩, 53) := ⟨⟨by decide +kernel, by decide +kernel⟩, List.mem_of_getElem? (i := 1510) (by decide +kernel), List.mem_of_getElem? (i := 1809) (by decide +kernel), List.mem_of_getElem? (i := 1810) (by decide +kernel)⟩
theorem lw_p132 : lw_okq (⟨"LastCloudModel", "readLift", "()V"⟩, 53) := ⟨⟨by decide +kernel, by decide +kernel⟩, List.mem_of_getElem? (i := 1510) (by decide +kernel), List.mem_of_getElem? (i := 1816) (by decide +kernel), List.mem_of_getElem? (i := 1817) (by decide +kernel)⟩
theorem lw_p133 : lw_okq (⟨"LastCloudModel", "readPoint", "()V"⟩, 53) := ⟨⟨by decide +kernel, by decide +kernel⟩, List.mem_of_getElem? (i := 1510) (by decide +kernel), List.mem_of_getElem? (i := 1824) (by decide +kernel), List.mem_of_getElem? (i := 1825) (by decide +kernel)⟩
theorem lw_p134 : lw_okq (⟨"LastCloudModel", "ofPlace", "(II)I"⟩, 53) := ⟨⟨by decide +kernel, by decide +kernel⟩, List.mem_of_getElem? (i := 1510) (by decide +kernel), List.mem_of_getElem? (i := 1828) (by decide +kernel), List.mem_of_getElem? (i := 1829) (by decide +kernel)⟩
theorem lw_p135 : lw_okq (⟨"LastCloudModel", "isLeg", "(I)Z"⟩, 53) := ⟨⟨by decide +kernel, by decide +kernel⟩, List.mem_of_getElem? (i := 1510) (by decide +kernel), List.mem_of_getElem? (i := 1837) (by decide +kernel), List.mem_of_getElem? (i := 1838) (by decide +kernel)⟩
theorem lw_p136 : lw_okq (⟨"LastCloudModel", "isSpeed", "(I)Z"⟩, 53) := ⟨⟨by decide +kernel, by decide +kernel⟩, List.mem_of_getElem? (i := 1510) (by decide +kernel), List.mem_of_getElem? (i := 1841) (by decide +kernel), List.mem_of_getElem? (i := 1842) (by decide +kernel)⟩
theorem lw_p137 : lw_okq (⟨"LastCloudModel", "periodsOf", "(IZIZ)I"⟩, 53) := ⟨⟨by decide +kernel, by decide +kernel⟩, List.mem_of_getElem? (i := 1510) (by decide +kernel), List.mem_of_getElem? (i := 1845) (by decide +kernel), List.mem_of_getElem? (i := 1846) (by decide +kernel)⟩
theorem lw_p138 : lw_okq (⟨"LastCloudModel", "ofLeg", "(II)I"⟩, 53) := ⟨⟨by decide +kernel, by decide +kernel⟩, List.mem_of_getElem? (i := 1510) (by decide +kernel), List.mem_of_getElem? (i := 1849) (by decide +kernel), List.mem_of_getElem? (i := 1850) (by decide +kernel)⟩
theorem lw_p139 : lw_okq (⟨"LastCloudModel", "lossOf", "(III)I"⟩, 53) := ⟨⟨by decide +kernel, by decide +kernel⟩, List.mem_of_getElem? (i := 1510) (by decide +kernel), List.mem_of_getElem? (i := 1858) (by decide +kernel), List.mem_of_getElem? (i := 1859) (by decide +kernel)⟩
theorem lw_p140 : lw_okq (⟨"LastCloudModel", "isPlace", "(I)Z"⟩, 53) := ⟨⟨by decide +kernel, by decide +kernel⟩, List.mem_of_getElem? (i := 1510) (by decide +kernel), List.mem_of_getElem? (i := 1866) (by decide +kernel), List.mem_of_getElem? (i := 1867) (by decide +kernel)⟩
theorem lw_p141 : lw_okq (⟨"LastCloudModel", "climbOf", "(IZ)I"⟩, 53) := ⟨⟨by decide +kernel, by decide +kernel⟩, List.mem_of_getElem? (i := 1510) (by decide +kernel), List.mem_of_getElem? (i := 1870) (by decide +kernel), List.mem_of_getElem? (i := 1871) (by decide +kernel)⟩
theorem lw_p142 : lw_okq (⟨"LastCloudModel", "upOf", "(I)I"⟩, 53) := ⟨⟨by decide +kernel, by decide +kernel⟩, List.mem_of_getElem? (i := 1510) (by decide +kernel), List.mem_of_getElem? (i := 1874) (by decide +kernel), List.mem_of_getElem? (i := 1875) (by decide +kernel)⟩
theorem lw_p143 : lw_okq (⟨"LastCloudModel", "chanceNow", "(I)I"⟩, 53) := ⟨⟨by decide +kernel, by decide +kernel⟩, List.mem_of_getElem? (i := 1510) (by decide +kernel), List.mem_of_getElem? (i := 1882) (by decide +kernel), List.mem_of_getElem? (i := 1883) (by decide +kernel)⟩
def lw_privs_9 : List (MethodName × Nat) := [(⟨"LastCloudModel", "place", "()I"⟩, 53), (⟨"LastCloudModel", "readPlace", "()V"⟩, 53), (⟨"LastCloudModel", "readLeg", "()V"⟩, 53), (⟨"LastCloudModel", "signed", "(I)I"⟩, 53), (⟨"LastCloudModel", "readLift", "()V"⟩, 53), (⟨"LastCloudModel", "readPoint", "()V"⟩, 53), (⟨"LastCloudModel", "ofPlace", "(II)I"⟩, 53), (⟨"LastCloudModel", "isLeg", "(I)Z"⟩, 53), (⟨"LastCloudModel", "isSpeed", "(I)Z"⟩, 53), (⟨"LastCloudModel", "periodsOf", "(IZIZ)I"⟩, 53), (⟨"LastCloudModel", "ofLeg", "(II)I"⟩, 53), (⟨"LastCloudModel", "lossOf", "(III)I"⟩, 53), (⟨"LastCloudModel", "isPlace", "(I)Z"⟩, 53), (⟨"LastCloudModel", "climbOf", "(IZ)I"⟩, 53), (⟨"LastCloudModel", "upOf", "(I)I"⟩, 53), (⟨"LastCloudModel", "chanceNow", "(I)I"⟩, 53)]
theorem lw_r9 : ∀ q ∈ lw_privs_9, lw_okq q := List.forall_mem_cons.mpr ⟨lw_p128, List.forall_mem_cons.mpr ⟨lw_p129, List.forall_mem_cons.mpr ⟨lw_p130, List.forall_mem_cons.mpr ⟨lw_p131, List.forall_mem_cons.mpr ⟨lw_p132, List.forall_mem_cons.mpr ⟨lw_p133, List.forall_mem_cons.mpr ⟨lw_p134, List.forall_mem_cons.mpr ⟨lw_p135, List.forall_mem_cons.mpr ⟨lw_p136, List.forall_mem_cons.mpr ⟨lw_p137, List.forall_mem_cons.mpr ⟨lw_p138, List.forall_mem_cons.mpr ⟨lw_p139, List.forall_mem_cons.mpr ⟨lw_p140, List.forall_mem_cons.mpr ⟨lw_p141, List.forall_mem_cons.mpr ⟨lw_p142, List.forall_mem_cons.mpr ⟨lw_p143, fun _ h => absurd h List.not_mem_nil⟩⟩⟩⟩⟩⟩⟩⟩⟩⟩⟩⟩⟩⟩⟩⟩
theorem lw_p144 : lw_okq (⟨"LastCloudModel", "bySign", "(IIZI)I"⟩, 53) := ⟨⟨by decide +kernel, by decide +kernel⟩, List.mem_of_getElem? (i := 1510) (by decide +kernel), List.mem_of_getElem? (i := 1886) (by decide +kernel), List.mem_of_getElem? (i := 1887) (by decide +kernel)⟩
theorem lw_p145 : lw_okq (⟨"LastCloudModel", "isHeight", "(II)Z"⟩, 53) := ⟨⟨by decide +kernel, by decide +kernel⟩, List.mem_of_getElem? (i := 1510) (by decide +kernel), List.mem_of_getElem? (i := 1907) (by decide +kernel), List.mem_of_getElem? (i := 1908) (by decide +kernel)⟩
theorem lw_p146 : lw_okq (⟨"LastCloudModel", "glides", "(IIZ)V"⟩, 53) := ⟨⟨by decide +kernel, by decide +kernel⟩, List.mem_of_getElem? (i := 1510) (by decide +kernel), List.mem_of_getElem? (i := 1911) (by decide +kernel), List.mem_of_getElem? (i := 1912) (by decide +kernel)⟩
theorem lw_p147 : lw_okq (⟨"LastCloudModel", "laysWays", "()V"⟩, 53) := ⟨⟨by decide +kernel, by decide +kernel⟩, List.mem_of_getElem? (i := 1510) (by decide +kernel), List.mem_of_getElem? (i := 1915) (by decide +kernel), List.mem_of_getElem? (i := 1916) (by decide +kernel)⟩
theorem lw_p148 : lw_okq (⟨"LastCloudModel", "laysFrom", "(II)V"⟩, 53) := ⟨⟨by decide +kernel, by decide +kernel⟩, List.mem_of_getElem? (i := 1510) (by decide +kernel), List.mem_of_getElem? (i := 1919) (by decide +kernel), List.mem_of_getElem? (i := 1920) (by decide +kernel)⟩
theorem lw_p149 : lw_okq (⟨"LastCloudModel", "comesAt", "(II)I"⟩, 53) := ⟨⟨by decide +kernel, by decide +kernel⟩, List.mem_of_getElem? (i := 1510) (by decide +kernel), List.mem_of_getElem? (i := 1923) (by decide +kernel), List.mem_of_getElem? (i := 1924) (by decide +kernel)⟩
theorem lw_p150 : lw_okq (⟨"LastCloudModel", "fieldsOf", "(IIZ)I"⟩, 53) := ⟨⟨by decide +kernel, by decide +kernel⟩, List.mem_of_getElem? (i := 1510) (by decide +kernel), List.mem_of_getElem? (i := 1931) (by decide +kernel), List.mem_of_getElem? (i := 1932) (by decide +kernel)⟩
theorem lw_p151 : lw_okq (⟨"LastCloudModel", "fastOf", "(I)I"⟩, 53) := ⟨⟨by decide +kernel, by decide +kernel⟩, List.mem_of_getElem? (i := 1510) (by decide +kernel), List.mem_of_getElem? (i := 1955) (by decide +kernel), List.mem_of_getElem? (i := 1956) (by decide +kernel)⟩
theorem lw_p152 : lw_okq (⟨"LastCloudModel", "isState", "(IIIZ)Z"⟩, 53) := ⟨⟨by decide +kernel, by decide +kernel⟩, List.mem_of_getElem? (i := 1510) (by decide +kernel), List.mem_of_getElem? (i := 1974) (by decide +kernel), List.mem_of_getElem? (i := 1975) (by decide +kernel)⟩
theorem lw_p153 : lw_okq (⟨"LastCloudModel", "solves", "(I)V"⟩, 53) := ⟨⟨by decide +kernel, by decide +kernel⟩, List.mem_of_getElem? (i := 1510) (by decide +kernel), List.mem_of_getElem? (i := 1978) (by decide +kernel), List.mem_of_getElem? (i := 1979) (by decide +kernel)⟩
theorem lw_p154 : lw_okq (⟨"LastCloudModel", "looks", "(IIIIII)V"⟩, 53) := ⟨⟨by decide +kernel, by decide +kernel⟩, List.mem_of_getElem? (i := 1510) (by decide +kernel), List.mem_of_getElem? (i := 1982) (by decide +kernel), List.mem_of_getElem? (i := 1983) (by decide +kernel)⟩
theorem lw_p155 : lw_okq (⟨"LastCloudModel", "landingOf", "(II)I"⟩, 53) := ⟨⟨by decide +kernel, by decide +kernel⟩, List.mem_of_getElem? (i := 1510) (by decide +kernel), List.mem_of_getElem? (i := 1989) (by decide +kernel), List.mem_of_getElem? (i := 1990) (by decide +kernel)⟩
theorem lw_p156 : lw_okq (⟨"LastCloudModel", "higher", "(III)I"⟩, 53) := ⟨⟨by decide +kernel, by decide +kernel⟩, List.mem_of_getElem? (i := 1510) (by decide +kernel), List.mem_of_getElem? (i := 1993) (by decide +kernel), List.mem_of_getElem? (i := 1994) (by decide +kernel)⟩
theorem lw_p157 : lw_okq (⟨"LastCloudModel", "takesOver", "(III)V"⟩, 53) := ⟨⟨by decide +kernel, by decide +kernel⟩, List.mem_of_getElem? (i := 1510) (by decide +kernel), List.mem_of_getElem? (i := 1997) (by decide +kernel), List.mem_of_getElem? (i := 1998) (by decide +kernel)⟩
theorem lw_p158 : lw_okq (⟨"LastCloudModel", "isRuled", "(IIII)Z"⟩, 53) := ⟨⟨by decide +kernel, by decide +kernel⟩, List.mem_of_getElem? (i := 1510) (by decide +kernel), List.mem_of_getElem? (i := 2001) (by decide +kernel), List.mem_of_getElem? (i := 2002) (by decide +kernel)⟩
theorem lw_p159 : lw_okq (⟨"LastCloudModel", "mixed", "([IIIII)I"⟩, 53) := ⟨⟨by decide +kernel, by decide +kernel⟩, List.mem_of_getElem? (i := 1510) (by decide +kernel), List.mem_of_getElem? (i := 2005) (by decide +kernel), List.mem_of_getElem? (i := 2006) (by decide +kernel)⟩
def lw_privs_10 : List (MethodName × Nat) := [(⟨"LastCloudModel", "bySign", "(IIZI)I"⟩, 53), (⟨"LastCloudModel", "isHeight", "(II)Z"⟩, 53), (⟨"LastCloudModel", "glides", "(IIZ)V"⟩, 53), (⟨"LastCloudModel", "laysWays", "()V"⟩, 53), (⟨"LastCloudModel", "laysFrom", "(II)V"⟩, 53), (⟨"LastCloudModel", "comesAt", "(II)I"⟩, 53), (⟨"LastCloudModel", "fieldsOf", "(IIZ)I"⟩, 53), (⟨"LastCloudModel", "fastOf", "(I)I"⟩, 53), (⟨"LastCloudModel", "isState", "(IIIZ)Z"⟩, 53), (⟨"LastCloudModel", "solves", "(I)V"⟩, 53), (⟨"LastCloudModel", "looks", "(IIIIII)V"⟩, 53), (⟨"LastCloudModel", "landingOf", "(II)I"⟩, 53), (⟨"LastCloudModel", "higher", "(III)I"⟩, 53), (⟨"LastCloudModel", "takesOver", "(III)V"⟩, 53), (⟨"LastCloudModel", "isRuled", "(IIII)Z"⟩, 53), (⟨"LastCloudModel", "mixed", "([IIIII)I"⟩, 53)]
theorem lw_r10 : ∀ q ∈ lw_privs_10, lw_okq q := List.forall_mem_cons.mpr ⟨lw_p144, List.forall_mem_cons.mpr ⟨lw_p145, List.forall_mem_cons.mpr ⟨lw_p146, List.forall_mem_cons.mpr ⟨lw_p147, List.forall_mem_cons.mpr ⟨lw_p148, List.forall_mem_cons.mpr ⟨lw_p149, List.forall_mem_cons.mpr ⟨lw_p150, List.forall_mem_cons.mpr ⟨lw_p151, List.forall_mem_cons.mpr ⟨lw_p152, List.forall_mem_cons.mpr ⟨lw_p153, List.forall_mem_cons.mpr ⟨lw_p154, List.forall_mem_cons.mpr ⟨lw_p155, List.forall_mem_cons.mpr ⟨lw_p156, List.forall_mem_cons.mpr ⟨lw_p157, List.forall_mem_cons.mpr ⟨lw_p158, List.forall_mem_cons.mpr ⟨lw_p159, fun _ h => absurd h List.not_mem_nil⟩⟩⟩⟩⟩⟩⟩⟩⟩⟩⟩⟩⟩⟩⟩⟩
theorem lw_p160 : lw_okq (⟨"LastCloudModel", "chanceOf", "(I)I"⟩, 53) := ⟨⟨by decide +kernel, by decide +kernel⟩, List.mem_of_getElem? (i := 1510) (by decide +kernel), List.mem_of_getElem? (i := 2009) (by decide +kernel), List.mem_of_getElem? (i := 2010) (by decide +kernel)⟩
theorem lw_p161 : lw_okq (⟨"LastCloudModel", "hasStart", "()Z"⟩, 53) := ⟨⟨by decide +kernel, by decide +kernel⟩, List.mem_of_getElem? (i := 1510) (by decide +kernel), List.mem_of_getElem? (i := 2028) (by decide +kernel), List.mem_of_getElem? (i := 2029) (by decide +kernel)⟩
theorem lw_p162 : lw_okq (⟨"LastCloudModel", "startWet", "()I"⟩, 53) := ⟨⟨by decide +kernel, by decide +kernel⟩, List.mem_of_getElem? (i := 1510) (by decide +kernel), List.mem_of_getElem? (i := 2032) (by decide +kernel), List.mem_of_getElem? (i := 2033) (by decide +kernel)⟩
theorem lw_p163 : lw_okq (⟨"LastCloudModel", "startOf", "(II)I"⟩, 53) := ⟨⟨by decide +kernel, by decide +kernel⟩, List.mem_of_getElem? (i := 1510) (by decide +kernel), List.mem_of_getElem? (i := 2036) (by decide +kernel), List.mem_of_getElem? (i := 2037) (by decide +kernel)⟩
theorem lw_p164 : lw_okq (⟨"LastCloudModel", "leaves", "(IIZI)I"⟩, 53) := ⟨⟨by decide +kernel, by decide +kernel⟩, List.mem_of_getElem? (i := 1510) (by decide +kernel), List.mem_of_getElem? (i := 2048) (by decide +kernel), List.mem_of_getElem? (i := 2049) (by decide +kernel)⟩
theorem lw_p165 : lw_okq (⟨"LastCloudModel", "endOf", "(IIIIIZ)I"⟩, 53) := ⟨⟨by decide +kernel, by decide +kernel⟩, List.mem_of_getElem? (i := 1510) (by decide +kernel), List.mem_of_getElem? (i := 2068) (by decide +kernel), List.mem_of_getElem? (i := 2069) (by decide +kernel)⟩
theorem lw_p166 : lw_okq (⟨"LastCloudModel", "wayOf", "(III)I"⟩, 53) := ⟨⟨by decide +kernel, by decide +kernel⟩, List.mem_of_getElem? (i := 1510) (by decide +kernel), List.mem_of_getElem? (i := 2072) (by decide +kernel), List.mem_of_getElem? (i := 2073) (by decide +kernel)⟩
theorem lw_p167 : lw_okq (⟨"LastCloudModel", "endsBehind", "(IIIIZ)I"⟩, 53) := ⟨⟨by decide +kernel, by decide +kernel⟩, List.mem_of_getElem? (i := 1510) (by decide +kernel), List.mem_of_getElem? (i := 2076) (by decide +kernel), List.mem_of_getElem? (i := 2077) (by decide +kernel)⟩
theorem lw_p168 : lw_okq (⟨"LastCloudModel", "startWith", "(II)I"⟩, 53) := ⟨⟨by decide +kernel, by decide +kernel⟩, List.mem_of_getElem? (i := 1510) (by decide +kernel), List.mem_of_getElem? (i := 2084) (by decide +kernel), List.mem_of_getElem? (i := 2085) (by decide +kernel)⟩
theorem lw_p169 : lw_okq (⟨"LastCloudModel", "canFly", "(II)Z"⟩, 53) := ⟨⟨by decide +kernel, by decide +kernel⟩, List.mem_of_getElem? (i := 1510) (by decide +kernel), List.mem_of_getElem? (i := 2108) (by decide +kernel), List.mem_of_getElem? (i := 2109) (by decide +kernel)⟩
theorem lw_p170 : lw_okq (⟨"LastCloudModel", "flies", "(II)V"⟩, 53) := ⟨⟨by decide +kernel, by decide +kernel⟩, List.mem_of_getElem? (i := 1510) (by decide +kernel), List.mem_of_getElem? (i := 2113) (by decide +kernel), List.mem_of_getElem? (i := 2114) (by decide +kernel)⟩
theorem lw_p171 : lw_okq (⟨"LastCloudModel", "sets", "(I)V"⟩, 53) := ⟨⟨by decide +kernel, by decide +kernel⟩, List.mem_of_getElem? (i := 1510) (by decide +kernel), List.mem_of_getElem? (i := 2117) (by decide +kernel), List.mem_of_getElem? (i := 2118) (by decide +kernel)⟩
theorem lw_p172 : lw_okq (⟨"LastCloudModel", "draw", "(I)I"⟩, 53) := ⟨⟨by decide +kernel, by decide +kernel⟩, List.mem_of_getElem? (i := 1510) (by decide +kernel), List.mem_of_getElem? (i := 2121) (by decide +kernel), List.mem_of_getElem? (i := 2122) (by decide +kernel)⟩
theorem lw_p173 : lw_okq (⟨"LastCloudModel", "does", "(J)Z"⟩, 53) := ⟨⟨by decide +kernel, by decide +kernel⟩, List.mem_of_getElem? (i := 1510) (by decide +kernel), List.mem_of_getElem? (i := 2129) (by decide +kernel), List.mem_of_getElem? (i := 2130) (by decide +kernel)⟩
theorem lw_p174 : lw_okq (⟨"LastCloudModel", "canFlyAll", "(III)Z"⟩, 53) := ⟨⟨by decide +kernel, by decide +kernel⟩, List.mem_of_getElem? (i := 1510) (by decide +kernel), List.mem_of_getElem? (i := 2156) (by decide +kernel), List.mem_of_getElem? (i := 2157) (by decide +kernel)⟩
theorem lw_p175 : lw_okq (⟨"LastCloudModel", "fliesAll", "(III)V"⟩, 53) := ⟨⟨by decide +kernel, by decide +kernel⟩, List.mem_of_getElem? (i := 1510) (by decide +kernel), List.mem_of_getElem? (i := 2161) (by decide +kernel), List.mem_of_getElem? (i := 2162) (by decide +kernel)⟩
def lw_privs_11 : List (MethodName × Nat) := [(⟨"LastCloudModel", "chanceOf", "(I)I"⟩, 53), (⟨"LastCloudModel", "hasStart", "()Z"⟩, 53), (⟨"LastCloudModel", "startWet", "()I"⟩, 53), (⟨"LastCloudModel", "startOf", "(II)I"⟩, 53), (⟨"LastCloudModel", "leaves", "(IIZI)I"⟩, 53), (⟨"LastCloudModel", "endOf", "(IIIIIZ)I"⟩, 53), (⟨"LastCloudModel", "wayOf", "(III)I"⟩, 53), (⟨"LastCloudModel", "endsBehind", "(IIIIZ)I"⟩, 53), (⟨"LastCloudModel", "startWith", "(II)I"⟩, 53), (⟨"LastCloudModel", "canFly", "(II)Z"⟩, 53), (⟨"LastCloudModel", "flies", "(II)V"⟩, 53), (⟨"LastCloudModel", "sets", "(I)V"⟩, 53), (⟨"LastCloudModel", "draw", "(I)I"⟩, 53), (⟨"LastCloudModel", "does", "(J)Z"⟩, 53), (⟨"LastCloudModel", "canFlyAll", "(III)Z"⟩, 53), (⟨"LastCloudModel", "fliesAll", "(III)V"⟩, 53)]
theorem lw_r11 : ∀ q ∈ lw_privs_11, lw_okq q := List.forall_mem_cons.mpr ⟨lw_p160, List.forall_mem_cons.mpr ⟨lw_p161, List.forall_mem_cons.mpr ⟨lw_p162, List.forall_mem_cons.mpr ⟨lw_p163, List.forall_mem_cons.mpr ⟨lw_p164, List.forall_mem_cons.mpr ⟨lw_p165, List.forall_mem_cons.mpr ⟨lw_p166, List.forall_mem_cons.mpr ⟨lw_p167, List.forall_mem_cons.mpr ⟨lw_p168, List.forall_mem_cons.mpr ⟨lw_p169, List.forall_mem_cons.mpr ⟨lw_p170, List.forall_mem_cons.mpr ⟨lw_p171, List.forall_mem_cons.mpr ⟨lw_p172, List.forall_mem_cons.mpr ⟨lw_p173, List.forall_mem_cons.mpr ⟨lw_p174, List.forall_mem_cons.mpr ⟨lw_p175, fun _ h => absurd h List.not_mem_nil⟩⟩⟩⟩⟩⟩⟩⟩⟩⟩⟩⟩⟩⟩⟩⟩
theorem lw_p176 : lw_okq (⟨"LastCloudModel", "liftSet", "()I"⟩, 53) := ⟨⟨by decide +kernel, by decide +kernel⟩, List.mem_of_getElem? (i := 1510) (by decide +kernel), List.mem_of_getElem? (i := 2177) (by decide +kernel), List.mem_of_getElem? (i := 2178) (by decide +kernel)⟩
theorem lw_p177 : lw_okq (⟨"LastCloudModel", "soonBy", "(I)I"⟩, 53) := ⟨⟨by decide +kernel, by decide +kernel⟩, List.mem_of_getElem? (i := 1510) (by decide +kernel), List.mem_of_getElem? (i := 2181) (by decide +kernel), List.mem_of_getElem? (i := 2182) (by decide +kernel)⟩
theorem lw_p178 : lw_okq (⟨"LastCloudModel", "reckons", "(I)V"⟩, 53) := ⟨⟨by decide +kernel, by decide +kernel⟩, List.mem_of_getElem? (i := 1510) (by decide +kernel), List.mem_of_getElem? (i := 2185) (by decide +kernel), List.mem_of_getElem? (i := 2186) (by decide +kernel)⟩
theorem lw_p179 : lw_okq (⟨"LastCloudModel", "isIn", "(IIIII)Z"⟩, 53) := ⟨⟨by decide +kernel, by decide +kernel⟩, List.mem_of_getElem? (i := 1510) (by decide +kernel), List.mem_of_getElem? (i := 2192) (by decide +kernel), List.mem_of_getElem? (i := 2193) (by decide +kernel)⟩
theorem lw_p180 : lw_okq (⟨"LastCloudModel", "climbsIn", "(IIIII)Z"⟩, 53) := ⟨⟨by decide +kernel, by decide +kernel⟩, List.mem_of_getElem? (i := 1510) (by decide +kernel), List.mem_of_getElem? (i := 2196) (by decide +kernel), List.mem_of_getElem? (i := 2197) (by decide +kernel)⟩
theorem lw_p181 : lw_okq (⟨"LastCloudModel", "goesIn", "(IIII)Z"⟩, 53) := ⟨⟨by decide +kernel, by decide +kernel⟩, List.mem_of_getElem? (i := 1510) (by decide +kernel), List.mem_of_getElem? (i := 2200) (by decide +kernel), List.mem_of_getElem? (i := 2201) (by decide +kernel)⟩
def lw_privs_12 : List (MethodName × Nat) := [(⟨"LastCloudModel", "liftSet", "()I"⟩, 53), (⟨"LastCloudModel", "soonBy", "(I)I"⟩, 53), (⟨"LastCloudModel", "reckons", "(I)V"⟩, 53), (⟨"LastCloudModel", "isIn", "(IIIII)Z"⟩, 53), (⟨"LastCloudModel", "climbsIn", "(IIIII)Z"⟩, 53), (⟨"LastCloudModel", "goesIn", "(IIII)Z"⟩, 53)]
theorem lw_r12 : ∀ q ∈ lw_privs_12, lw_okq q := List.forall_mem_cons.mpr ⟨lw_p176, List.forall_mem_cons.mpr ⟨lw_p177, List.forall_mem_cons.mpr ⟨lw_p178, List.forall_mem_cons.mpr ⟨lw_p179, List.forall_mem_cons.mpr ⟨lw_p180, List.forall_mem_cons.mpr ⟨lw_p181, fun _ h => absurd h List.not_mem_nil⟩⟩⟩⟩⟩⟩
def lw_privs : List (MethodName × Nat) := lw_privs_1 ++ (lw_privs_2 ++ (lw_privs_3 ++ (lw_privs_4 ++ (lw_privs_5 ++ (lw_privs_6 ++ (lw_privs_7 ++ (lw_privs_8 ++ (lw_privs_9 ++ (lw_privs_10 ++ (lw_privs_11 ++ (lw_privs_12)))))))))))
def lw_tbl : List Cond := k2_sels lw_privs ++ tables_1
theorem lw_privs_ok : ∀ q ∈ lw_privs, lw_okq q := by
  show ∀ q ∈ lw_privs_1 ++ (lw_privs_2 ++ (lw_privs_3 ++ (lw_privs_4 ++ (lw_privs_5 ++ (lw_privs_6 ++ (lw_privs_7 ++ (lw_privs_8 ++ (lw_privs_9 ++ (lw_privs_10 ++ (lw_privs_11 ++ (lw_privs_12))))))))))), lw_okq q
  exact List.forall_mem_append.mpr ⟨lw_r1, List.forall_mem_append.mpr ⟨lw_r2, List.forall_mem_append.mpr ⟨lw_r3, List.forall_mem_append.mpr ⟨lw_r4, List.forall_mem_append.mpr ⟨lw_r5, List.forall_mem_append.mpr ⟨lw_r6, List.forall_mem_append.mpr ⟨lw_r7, List.forall_mem_append.mpr ⟨lw_r8, List.forall_mem_append.mpr ⟨lw_r9, List.forall_mem_append.mpr ⟨lw_r10, List.forall_mem_append.mpr ⟨lw_r11, lw_r12⟩⟩⟩⟩⟩⟩⟩⟩⟩⟩⟩

def RX0 : String := "LastCloud$Flight"
def TX0 : u_T := fun k => match k with
  | 0 => ("LastCloud$Flight", "deeds", "[I", true)
  | 1 => ("LastCloud$Flight", "places", "[I", true)
  | 2 => ("LastCloud$Flight", "heights", "[I", true)
  | 3 => ("LastCloud$Flight", "times", "[I", true)
  | 4 => ("LastCloud$Flight", "lifts", "[Z", true)
  | 5 => ("LastCloud$Flight", "chances", "[I", true)
  | 6 => ("LastCloud$Flight", "count", "I", false)
  | 7 => ("LastCloud$Flight", "sky", "LLastCloud$Sky;", false)
  | 8 => ("LastCloud$Flight", "drawn", "J", false)
  | 9 => ("LastCloud$Flight", "allLifts", "Z", false)
  | 10 => ("LastCloud$Flight", "place", "I", false)
  | 11 => ("LastCloud$Flight", "height", "I", false)
  | 12 => ("LastCloud$Flight", "period", "I", false)
  | 13 => ("LastCloud$Flight", "lift", "Z", false)
  | 14 => ("LastCloud$Flight", "wet", "Z", false)
  | 15 => ("LastCloud$Flight", "ended", "Z", false)
  | 16 => ("LastCloud$Flight", "endKind", "I", false)
  | _ => ("LastCloud$Flight", "endWorth", "I", false)
def tyX0 : Nat → FieldType := fun k => match k with
  | 0 => .array .int
  | 1 => .array .int
  | 2 => .array .int
  | 3 => .array .int
  | 4 => .array .boolean
  | 5 => .array .int
  | 6 => .int
  | 7 => .object "LastCloud$Sky"
  | 8 => .long
  | 9 => .boolean
  | 10 => .int
  | 11 => .int
  | 12 => .int
  | 13 => .boolean
  | 14 => .boolean
  | 15 => .boolean
  | 16 => .int
  | _ => .int
theorem nmX0 : ∀ a, a < 18 → ∀ b, b < 18 → a ≠ b → (TX0 a).2.1 ≠ (TX0 b).2.1 := by decide +kernel
theorem tyX0_ok : ∀ k, k < 18 → parseFieldDescriptor (TX0 k).2.2.1 = some (tyX0 k) := by decide +kernel
def RX1 : String := "LastCloud$Hops"
def TX1 : u_T := fun k => match k with
  | 0 => ("LastCloud$Hops", "firsts", "[I", true)
  | 1 => ("LastCloud$Hops", "tos", "[I", true)
  | 2 => ("LastCloud$Hops", "takes", "[I", true)
  | 3 => ("LastCloud$Hops", "losses", "[I", true)
  | 4 => ("LastCloud$Hops", "leasts", "[I", true)
  | 5 => ("LastCloud$Hops", "deeds", "[I", true)
  | 6 => ("LastCloud$Hops", "count", "I", false)
  | 7 => ("LastCloud$Hops", "edges", "[I", true)
  | 8 => ("LastCloud$Hops", "heights", "[I", true)
  | _ => ("LastCloud$Hops", "endings", "[I", true)
def tyX1 : Nat → FieldType := fun k => match k with
  | 0 => .array .int
  | 1 => .array .int
  | 2 => .array .int
  | 3 => .array .int
  | 4 => .array .int
  | 5 => .array .int
  | 6 => .int
  | 7 => .array .int
  | 8 => .array .int
  | _ => .array .int
theorem nmX1 : ∀ a, a < 10 → ∀ b, b < 10 → a ≠ b → (TX1 a).2.1 ≠ (TX1 b).2.1 := by decide +kernel
theorem tyX1_ok : ∀ k, k < 10 → parseFieldDescriptor (TX1 k).2.2.1 = some (tyX1 k) := by decide +kernel
def RX2 : String := "LastCloud$Leg"
def TX2 : u_T := fun k => match k with
  | 0 => ("LastCloud$Leg", "first", "I", false)
  | 1 => ("LastCloud$Leg", "second", "I", false)
  | 2 => ("LastCloud$Leg", "miles", "I", false)
  | 3 => ("LastCloud$Leg", "air", "I", false)
  | 4 => ("LastCloud$Leg", "wind", "I", false)
  | _ => ("LastCloud$Leg", "hill", "I", false)
def tyX2 : Nat → FieldType := fun k => match k with
  | 0 => .int
  | 1 => .int
  | 2 => .int
  | 3 => .int
  | 4 => .int
  | _ => .int
theorem nmX2 : ∀ a, a < 6 → ∀ b, b < 6 → a ≠ b → (TX2 a).2.1 ≠ (TX2 b).2.1 := by decide +kernel
theorem tyX2_ok : ∀ k, k < 6 → parseFieldDescriptor (TX2 k).2.2.1 = some (tyX2 k) := by decide +kernel
def RX3 : String := "LastCloud$Outcomes"
def TX3 : u_T := fun k => match k with
  | 0 => ("LastCloud$Outcomes", "reached", "[B", true)
  | 1 => ("LastCloud$Outcomes", "least", "I", false)
  | 2 => ("LastCloud$Outcomes", "greatest", "I", false)
  | 3 => ("LastCloud$Outcomes", "plan", "LLastCloud$Plan;", false)
  | _ => ("LastCloud$Outcomes", "sky", "LLastCloud$Sky;", false)
def tyX3 : Nat → FieldType := fun k => match k with
  | 0 => .array .byte
  | 1 => .int
  | 2 => .int
  | 3 => .object "LastCloud$Plan"
  | _ => .object "LastCloud$Sky"
theorem nmX3 : ∀ a, a < 5 → ∀ b, b < 5 → a ≠ b → (TX3 a).2.1 ≠ (TX3 b).2.1 := by decide +kernel
theorem tyX3_ok : ∀ k, k < 5 → parseFieldDescriptor (TX3 k).2.2.1 = some (tyX3 k) := by decide +kernel
def RX4 : String := "LastCloud$Place"
def TX4 : u_T := fun k => match k with
  | 0 => ("LastCloud$Place", "ground", "I", false)
  | 1 => ("LastCloud$Place", "field", "I", false)
  | 2 => ("LastCloud$Place", "hasLift", "Z", false)
  | 3 => ("LastCloud$Place", "chance", "I", false)
  | 4 => ("LastCloud$Place", "up", "I", false)
  | 5 => ("LastCloud$Place", "signThere", "I", false)
  | _ => ("LastCloud$Place", "signGone", "I", false)
def tyX4 : Nat → FieldType := fun k => match k with
  | 0 => .int
  | 1 => .int
  | 2 => .boolean
  | 3 => .int
  | 4 => .int
  | 5 => .int
  | _ => .int
theorem nmX4 : ∀ a, a < 7 → ∀ b, b < 7 → a ≠ b → (TX4 a).2.1 ≠ (TX4 b).2.1 := by decide +kernel
theorem tyX4_ok : ∀ k, k < 7 → parseFieldDescriptor (TX4 k).2.2.1 = some (tyX4 k) := by decide +kernel
def RX5 : String := "LastCloud$Plan"
def TX5 : u_T := fun k => match k with
  | 0 => ("LastCloud$Plan", "worthThere", "[I", true)
  | 1 => ("LastCloud$Plan", "worthGone", "[I", true)
  | 2 => ("LastCloud$Plan", "worthMixed", "[I", true)
  | 3 => ("LastCloud$Plan", "doneThere", "[I", true)
  | 4 => ("LastCloud$Plan", "doneGone", "[I", true)
  | 5 => ("LastCloud$Plan", "leasts", "[I", true)
  | 6 => ("LastCloud$Plan", "chances", "[I", true)
  | 7 => ("LastCloud$Plan", "winsDry", "[I", true)
  | 8 => ("LastCloud$Plan", "winsWet", "[I", true)
  | 9 => ("LastCloud$Plan", "begun", "Z", false)
  | 10 => ("LastCloud$Plan", "sky", "LLastCloud$Sky;", false)
  | 11 => ("LastCloud$Plan", "hops", "LLastCloud$Hops;", false)
  | 12 => ("LastCloud$Plan", "rule", "I", false)
  | 13 => ("LastCloud$Plan", "dryFrom", "I", false)
  | _ => ("LastCloud$Plan", "wetFrom", "I", false)
def tyX5 : Nat → FieldType := fun k => match k with
  | 0 => .array .int
  | 1 => .array .int
  | 2 => .array .int
  | 3 => .array .int
  | 4 => .array .int
  | 5 => .array .int
  | 6 => .array .int
  | 7 => .array .int
  | 8 => .array .int
  | 9 => .boolean
  | 10 => .object "LastCloud$Sky"
  | 11 => .object "LastCloud$Hops"
  | 12 => .int
  | 13 => .int
  | _ => .int
theorem nmX5 : ∀ a, a < 15 → ∀ b, b < 15 → a ≠ b → (TX5 a).2.1 ≠ (TX5 b).2.1 := by decide +kernel
theorem tyX5_ok : ∀ k, k < 15 → parseFieldDescriptor (TX5 k).2.2.1 = some (tyX5 k) := by decide +kernel
def RX6 : String := "LastCloud$Polar"
def TX6 : u_T := fun k => match k with
  | 0 => ("LastCloud$Polar", "count", "I", false)
  | 1 => ("LastCloud$Polar", "speeds", "[I", true)
  | _ => ("LastCloud$Polar", "sinks", "[I", true)
def tyX6 : Nat → FieldType := fun k => match k with
  | 0 => .int
  | 1 => .array .int
  | _ => .array .int
theorem nmX6 : ∀ a, a < 3 → ∀ b, b < 3 → a ≠ b → (TX6 a).2.1 ≠ (TX6 b).2.1 := by decide +kernel
theorem tyX6_ok : ∀ k, k < 3 → parseFieldDescriptor (TX6 k).2.2.1 = some (tyX6 k) := by decide +kernel
def RX7 : String := "LastCloud$Reader"
def TX7 : u_T := fun k => match k with
  | 0 => ("LastCloud$Reader", "text", "[B", true)
  | 1 => ("LastCloud$Reader", "kinds", "[I", true)
  | 2 => ("LastCloud$Reader", "froms", "[I", true)
  | 3 => ("LastCloud$Reader", "behinds", "[I", true)
  | 4 => ("LastCloud$Reader", "tokenCount", "I", false)
  | 5 => ("LastCloud$Reader", "at", "I", false)
  | 6 => ("LastCloud$Reader", "fault", "I", false)
  | 7 => ("LastCloud$Reader", "faultPlace", "I", false)
  | 8 => ("LastCloud$Reader", "toldOnce", "I", false)
  | _ => ("LastCloud$Reader", "sky", "LLastCloud$Sky;", false)
def tyX7 : Nat → FieldType := fun k => match k with
  | 0 => .array .byte
  | 1 => .array .int
  | 2 => .array .int
  | 3 => .array .int
  | 4 => .int
  | 5 => .int
  | 6 => .int
  | 7 => .int
  | 8 => .int
  | _ => .object "LastCloud$Sky"
theorem nmX7 : ∀ a, a < 10 → ∀ b, b < 10 → a ≠ b → (TX7 a).2.1 ≠ (TX7 b).2.1 := by decide +kernel
theorem tyX7_ok : ∀ k, k < 10 → parseFieldDescriptor (TX7 k).2.2.1 = some (tyX7 k) := by decide +kernel
def RX8 : String := "LastCloud$Route"
def TX8 : u_T := fun k => match k with
  | 0 => ("LastCloud$Route", "leasts", "[I", true)
  | 1 => ("LastCloud$Route", "pointBits", "[I", true)
  | 2 => ("LastCloud$Route", "wins", "[I", true)
  | 3 => ("LastCloud$Route", "way", "[I", true)
  | 4 => ("LastCloud$Route", "wayCount", "I", false)
  | 5 => ("LastCloud$Route", "allPoints", "I", false)
  | 6 => ("LastCloud$Route", "wet", "Z", false)
  | 7 => ("LastCloud$Route", "sky", "LLastCloud$Sky;", false)
  | _ => ("LastCloud$Route", "hops", "LLastCloud$Hops;", false)
def tyX8 : Nat → FieldType := fun k => match k with
  | 0 => .array .int
  | 1 => .array .int
  | 2 => .array .int
  | 3 => .array .int
  | 4 => .int
  | 5 => .int
  | 6 => .boolean
  | 7 => .object "LastCloud$Sky"
  | _ => .object "LastCloud$Hops"
theorem nmX8 : ∀ a, a < 9 → ∀ b, b < 9 → a ≠ b → (TX8 a).2.1 ≠ (TX8 b).2.1 := by decide +kernel
theorem tyX8_ok : ∀ k, k < 9 → parseFieldDescriptor (TX8 k).2.2.1 = some (tyX8 k) := by decide +kernel
def RX9 : String := "LastCloud$Sights"
def TX9 : u_T := fun k => match k with
  | 0 => ("LastCloud$Sights", "count", "I", false)
  | 1 => ("LastCloud$Sights", "places", "[I", true)
  | _ => ("LastCloud$Sights", "sorts", "[I", true)
def tyX9 : Nat → FieldType := fun k => match k with
  | 0 => .int
  | 1 => .array .int
  | _ => .array .int
theorem nmX9 : ∀ a, a < 3 → ∀ b, b < 3 → a ≠ b → (TX9 a).2.1 ≠ (TX9 b).2.1 := by decide +kernel
theorem tyX9_ok : ∀ k, k < 3 → parseFieldDescriptor (TX9 k).2.2.1 = some (tyX9 k) := by decide +kernel
def RX10 : String := "LastCloud$Sky"
def TX10 : u_T := fun k => match k with
  | 0 => ("LastCloud$Sky", "places", "[LLastCloud$Place;", true)
  | 1 => ("LastCloud$Sky", "legs", "[LLastCloud$Leg;", true)
  | 2 => ("LastCloud$Sky", "polar", "LLastCloud$Polar;", true)
  | 3 => ("LastCloud$Sky", "sights", "LLastCloud$Sights;", true)
  | 4 => ("LastCloud$Sky", "placeCount", "I", false)
  | 5 => ("LastCloud$Sky", "legCount", "I", false)
  | 6 => ("LastCloud$Sky", "lineCount", "I", false)
  | 7 => ("LastCloud$Sky", "turn", "I", false)
  | 8 => ("LastCloud$Sky", "water", "I", false)
  | 9 => ("LastCloud$Sky", "ceiling", "I", false)
  | 10 => ("LastCloud$Sky", "lastPeriod", "I", false)
  | 11 => ("LastCloud$Sky", "worthHome", "I", false)
  | 12 => ("LastCloud$Sky", "worthPeriod", "I", false)
  | 13 => ("LastCloud$Sky", "worthOut", "I", false)
  | 14 => ("LastCloud$Sky", "homePlace", "I", false)
  | 15 => ("LastCloud$Sky", "startPlace", "I", false)
  | 16 => ("LastCloud$Sky", "startHeight", "I", false)
  | 17 => ("LastCloud$Sky", "startWet", "Z", false)
  | _ => ("LastCloud$Sky", "pointBits", "I", false)
def tyX10 : Nat → FieldType := fun k => match k with
  | 0 => .array (.object "LastCloud$Place")
  | 1 => .array (.object "LastCloud$Leg")
  | 2 => .object "LastCloud$Polar"
  | 3 => .object "LastCloud$Sights"
  | 4 => .int
  | 5 => .int
  | 6 => .int
  | 7 => .int
  | 8 => .int
  | 9 => .int
  | 10 => .int
  | 11 => .int
  | 12 => .int
  | 13 => .int
  | 14 => .int
  | 15 => .int
  | 16 => .int
  | 17 => .boolean
  | _ => .int
theorem nmX10 : ∀ a, a < 19 → ∀ b, b < 19 → a ≠ b → (TX10 a).2.1 ≠ (TX10 b).2.1 := by decide +kernel
theorem tyX10_ok : ∀ k, k < 19 → parseFieldDescriptor (TX10 k).2.2.1 = some (tyX10 k) := by decide +kernel
def RX11 : String := "LastCloud"
def TX11 : u_T := fun k => match k with
  | 0 => ("LastCloud", "tape", "[B", true)
  | 1 => ("LastCloud", "tapeSize", "I", false)
  | 2 => ("LastCloud", "reader", "LLastCloud$Reader;", true)
  | 3 => ("LastCloud", "faultKind", "I", false)
  | 4 => ("LastCloud", "faultPlace", "I", false)
  | 5 => ("LastCloud", "now", "LLastCloud$Sky;", false)
  | 6 => ("LastCloud", "draft", "LLastCloud$Sky;", false)
  | 7 => ("LastCloud", "images", "[LLastCloud$Sky;", true)
  | 8 => ("LastCloud", "kept", "[Z", true)
  | 9 => ("LastCloud", "hops", "LLastCloud$Hops;", true)
  | 10 => ("LastCloud", "plans", "[LLastCloud$Plan;", true)
  | 11 => ("LastCloud", "outcomes", "LLastCloud$Outcomes;", true)
  | 12 => ("LastCloud", "latest", "LLastCloud$Flight;", true)
  | 13 => ("LastCloud", "other", "LLastCloud$Flight;", true)
  | 14 => ("LastCloud", "route", "LLastCloud$Route;", true)
  | 15 => ("LastCloud", "rows", "[[J", true)
  | 16 => ("LastCloud", "rowSizes", "[I", true)
  | _ => ("LastCloud", "rowWidths", "[I", true)
def tyX11 : Nat → FieldType := fun k => match k with
  | 0 => .array .byte
  | 1 => .int
  | 2 => .object "LastCloud$Reader"
  | 3 => .int
  | 4 => .int
  | 5 => .object "LastCloud$Sky"
  | 6 => .object "LastCloud$Sky"
  | 7 => .array (.object "LastCloud$Sky")
  | 8 => .array .boolean
  | 9 => .object "LastCloud$Hops"
  | 10 => .array (.object "LastCloud$Plan")
  | 11 => .object "LastCloud$Outcomes"
  | 12 => .object "LastCloud$Flight"
  | 13 => .object "LastCloud$Flight"
  | 14 => .object "LastCloud$Route"
  | 15 => .array (.array .long)
  | 16 => .array .int
  | _ => .array .int
theorem nmX11 : ∀ a, a < 18 → ∀ b, b < 18 → a ≠ b → (TX11 a).2.1 ≠ (TX11 b).2.1 := by decide +kernel
theorem tyX11_ok : ∀ k, k < 18 → parseFieldDescriptor (TX11 k).2.2.1 = some (tyX11 k) := by decide +kernel
def RX12 : String := "LastCloudModel"
def TX12 : u_T := fun k => match k with
  | 0 => ("LastCloudModel", "thrown", "I", false)
  | 1 => ("LastCloudModel", "world", "[I", true)
  | 2 => ("LastCloudModel", "images", "[I", true)
  | 3 => ("LastCloudModel", "hasImage", "[Z", true)
  | 4 => ("LastCloudModel", "tape", "[B", true)
  | 5 => ("LastCloudModel", "taped", "I", false)
  | 6 => ("LastCloudModel", "five", "[I", true)
  | 7 => ("LastCloudModel", "size", "I", false)
  | 8 => ("LastCloudModel", "at", "I", false)
  | 9 => ("LastCloudModel", "from", "I", false)
  | 10 => ("LastCloudModel", "token", "I", false)
  | 11 => ("LastCloudModel", "value", "I", false)
  | 12 => ("LastCloudModel", "faultKind", "I", false)
  | 13 => ("LastCloudModel", "faultPlace", "I", false)
  | 14 => ("LastCloudModel", "fresh", "[I", true)
  | 15 => ("LastCloudModel", "homeTold", "Z", false)
  | 16 => ("LastCloudModel", "triedPlace", "I", false)
  | 17 => ("LastCloudModel", "triedChance", "I", false)
  | 18 => ("LastCloudModel", "upPlace", "I", false)
  | 19 => ("LastCloudModel", "upTried", "I", false)
  | 20 => ("LastCloudModel", "wayMany", "[I", true)
  | 21 => ("LastCloudModel", "ways", "[I", true)
  | 22 => ("LastCloudModel", "waysLaid", "Z", false)
  | 23 => ("LastCloudModel", "highest", "[I", true)
  | 24 => ("LastCloudModel", "landable", "[I", true)
  | 25 => ("LastCloudModel", "streets", "[Z", true)
  | 26 => ("LastCloudModel", "worths", "[I", true)
  | 27 => ("LastCloudModel", "deeds", "[I", true)
  | 28 => ("LastCloudModel", "homes", "[I", true)
  | 29 => ("LastCloudModel", "solved", "I", false)
  | 30 => ("LastCloudModel", "fastTo", "[I", true)
  | 31 => ("LastCloudModel", "ends", "[I", true)
  | 32 => ("LastCloudModel", "drawn", "J", false)
  | 33 => ("LastCloudModel", "here", "I", false)
  | 34 => ("LastCloudModel", "high", "I", false)
  | 35 => ("LastCloudModel", "now", "I", false)
  | 36 => ("LastCloudModel", "lifted", "I", false)
  | 37 => ("LastCloudModel", "watered", "I", false)
  | 38 => ("LastCloudModel", "flownMany", "I", false)
  | 39 => ("LastCloudModel", "flights", "[I", true)
  | 40 => ("LastCloudModel", "toldMany", "I", false)
  | 41 => ("LastCloudModel", "toldFlight", "[I", true)
  | 42 => ("LastCloudModel", "toldEnd", "[I", true)
  | 43 => ("LastCloudModel", "homeMany", "I", false)
  | 44 => ("LastCloudModel", "worthSum", "I", false)
  | 45 => ("LastCloudModel", "spreads", "[I", true)
  | 46 => ("LastCloudModel", "left", "[I", true)
  | 47 => ("LastCloudModel", "pointBit", "[I", true)
  | 48 => ("LastCloudModel", "allPoints", "I", false)
  | 49 => ("LastCloudModel", "many", "[I", true)
  | 50 => ("LastCloudModel", "width", "[I", true)
  | 51 => ("LastCloudModel", "numbers", "[J", true)
  | _ => ("LastCloudModel", "moving", "[J", true)
def tyX12 : Nat → FieldType := fun k => match k with
  | 0 => .int
  | 1 => .array .int
  | 2 => .array .int
  | 3 => .array .boolean
  | 4 => .array .byte
  | 5 => .int
  | 6 => .array .int
  | 7 => .int
  | 8 => .int
  | 9 => .int
  | 10 => .int
  | 11 => .int
  | 12 => .int
  | 13 => .int
  | 14 => .array .int
  | 15 => .boolean
  | 16 => .int
  | 17 => .int
  | 18 => .int
  | 19 => .int
  | 20 => .array .int
  | 21 => .array .int
  | 22 => .boolean
  | 23 => .array .int
  | 24 => .array .int
  | 25 => .array .boolean
  | 26 => .array .int
  | 27 => .array .int
  | 28 => .array .int
  | 29 => .int
  | 30 => .array .int
  | 31 => .array .int
  | 32 => .long
  | 33 => .int
  | 34 => .int
  | 35 => .int
  | 36 => .int
  | 37 => .int
  | 38 => .int
  | 39 => .array .int
  | 40 => .int
  | 41 => .array .int
  | 42 => .array .int
  | 43 => .int
  | 44 => .int
  | 45 => .array .int
  | 46 => .array .int
  | 47 => .array .int
  | 48 => .int
  | 49 => .array .int
  | 50 => .array .int
  | 51 => .array .long
  | _ => .array .long
theorem nmX12 : ∀ a, a < 53 → ∀ b, b < 53 → a ≠ b → (TX12 a).2.1 ≠ (TX12 b).2.1 := by decide +kernel
theorem tyX12_ok : ∀ k, k < 53 → parseFieldDescriptor (TX12 k).2.2.1 = some (tyX12 k) := by decide +kernel
def RL : String := "LastCloudLaw"
abbrev vwCl : List vw_C := [(RX0, TX0, 18), (RX1, TX1, 10), (RX2, TX2, 6), (RX3, TX3, 5), (RX4, TX4, 7), (RX5, TX5, 15), (RX6, TX6, 3), (RX7, TX7, 10), (RX8, TX8, 9), (RX9, TX9, 3), (RX10, TX10, 19), (RX11, TX11, 18), (RX12, TX12, 53)]
theorem x_mem {big ws : List Cond} (ps : List Nat) (hp : ws = ps.filterMap (fun i => big[i]?)) : ∀ w ∈ ws, w ∈ big := by
  intro w hw
  rw [hp] at hw
  obtain ⟨i, -, hi⟩ := List.mem_filterMap.mp hw
  exact List.mem_of_getElem? hi
theorem x_in {w : Cond} (h : w ∈ tables_1) : w ∈ lw_tbl := List.mem_append_right _ h
theorem inX0 : ∀ w ∈ u_ws RX0 TX0 18, w ∈ tables_1 := x_mem [450, 452, 454, 456, 458, 460, 462, 464, 466, 468, 470, 472, 474, 476, 478, 480, 482, 484] (by decide +kernel)
theorem inX1 : ∀ w ∈ u_ws RX1 TX1 10, w ∈ tables_1 := x_mem [372, 374, 376, 378, 380, 382, 384, 386, 388, 390] (by decide +kernel)
theorem inX2 : ∀ w ∈ u_ws RX2 TX2 6, w ∈ tables_1 := x_mem [199, 201, 203, 205, 207, 209] (by decide +kernel)
theorem inX3 : ∀ w ∈ u_ws RX3 TX3 5, w ∈ tables_1 := x_mem [410, 412, 414, 416, 418] (by decide +kernel)
theorem inX4 : ∀ w ∈ u_ws RX4 TX4 7, w ∈ tables_1 := x_mem [156, 158, 160, 162, 164, 166, 168] (by decide +kernel)
theorem inX5 : ∀ w ∈ u_ws RX5 TX5 15, w ∈ tables_1 := x_mem [1034, 1036, 1038, 1040, 1042, 1044, 1046, 1048, 1050, 1052, 1054, 1056, 1058, 1060, 1062] (by decide +kernel)
theorem inX6 : ∀ w ∈ u_ws RX6 TX6 3, w ∈ tables_1 := x_mem [95, 97, 99] (by decide +kernel)
theorem inX7 : ∀ w ∈ u_ws RX7 TX7 10, w ∈ tables_1 := x_mem [47, 49, 51, 53, 55, 57, 59, 61, 63, 65] (by decide +kernel)
theorem inX8 : ∀ w ∈ u_ws RX8 TX8 9, w ∈ tables_1 := x_mem [504, 506, 508, 510, 512, 514, 516, 518, 520] (by decide +kernel)
theorem inX9 : ∀ w ∈ u_ws RX9 TX9 3, w ∈ tables_1 := x_mem [115, 117, 119] (by decide +kernel)
theorem inX10 : ∀ w ∈ u_ws RX10 TX10 19, w ∈ tables_1 := x_mem [302, 304, 306, 308, 310, 312, 314, 316, 318, 320, 322, 324, 326, 328, 330, 332, 334, 336, 338] (by decide +kernel)
theorem inX11 : ∀ w ∈ u_ws RX11 TX11 18, w ∈ tables_1 := x_mem [594, 596, 598, 600, 602, 604, 606, 608, 610, 612, 614, 616, 618, 620, 622, 624, 626, 628] (by decide +kernel)
theorem inX12 : ∀ w ∈ u_ws RX12 TX12 53, w ∈ tables_1 := x_mem [1575, 1577, 1579, 1581, 1583, 1585, 1587, 1589, 1591, 1593, 1595, 1597, 1599, 1601, 1603, 1605, 1607, 1609, 1611, 1613, 1615, 1617, 1619, 1621, 1623, 1625, 1627, 1629, 1631, 1633, 1635, 1637, 1639, 1641, 1643, 1645, 1647, 1649, 1651, 1653, 1655, 1657, 1659, 1661, 1663, 1665, 1667, 1669, 1671, 1673, 1675, 1677, 1679] (by decide +kernel)
end
section
/-! links of the class files (own class, constant pool number, what it names), methods; each with its row of the tables -/
theorem x_memA {α : Type} {big ws : List α} (ps : List Nat) (hp : ws = ps.filterMap (fun i => big[i]?)) : ∀ w ∈ ws, w ∈ big := by
  intro w hw
  rw [hp] at hw
  obtain ⟨i, -, hi⟩ := List.mem_filterMap.mp hw
  exact List.mem_of_getElem? hi
def xOwn : List String := [RX0, RX1, RX2, RX3, RX4, RX5, RX6, RX7, RX8, RX9, RX10, RX11, RX12, RL, "java/lang/Integer", "java/util/Arrays"]
def xo (k : Nat) : String := xOwn.getD k ""
def xCl (k : Nat) : vw_C := vwCl.getD k (RX0, TX0, 0)
def xF (c k : Nat) : String × String × String × Bool := (xCl c).2.1 k
/-- the types of the fields: 0 int, 1 long, 2 a reference, 3 boolean -/
def xFTs : List (List Nat) := [[2, 2, 2, 2, 2, 2, 0, 2, 1, 3, 0, 0, 0, 3, 3, 3, 0, 0], [2, 2, 2, 2, 2, 2, 0, 2, 2, 2], [0, 0, 0, 0, 0, 0], [2, 0, 0, 2, 2], [0, 0, 3, 0, 0, 0, 0], [2, 2, 2, 2, 2, 2, 2, 2, 2, 3, 2, 2, 0, 0, 0], [0, 2, 2], [2, 2, 2, 2, 0, 0, 0, 0, 0, 2], [2, 2, 2, 2, 0, 0, 3, 2, 2], [0, 2, 2], [2, 2, 2, 2, 0, 0, 0, 0, 0, 0, 0, 0, 0, 0, 0, 0, 0, 3, 0], [2, 0, 2, 0, 0, 2, 2, 2, 2, 2, 2, 2, 2, 2, 2, 2, 2, 2], [0, 2, 2, 2, 2, 0, 2, 0, 0, 0, 0, 0, 0, 0, 2, 3, 0, 0, 0, 0, 2, 2, 3, 2, 2, 2, 2, 2, 2, 0, 2, 2, 1, 0, 0, 0, 0, 0, 0, 2, 0, 2, 2, 0, 0, 2, 2, 2, 0, 2, 2, 2, 2]]
def xFT (c k : Nat) : Nat := (xFTs.getD c []).getD k 9
def xStr : List String := ["place", "leg", "lift", "speed", "point", "turn", "water", "ceiling", "last", "worth", "start", "ground", "home", "field", "miles", "air", "down", "wind", "hill", "chance", "up", "sign", "sink", "period", "out", "at", "wet"]
def xFl : List (Nat × Nat × Nat × Nat) := [
  (0, 11, 0, 0), (0, 15, 0, 1), (0, 18, 0, 2), (0, 21, 0, 3), (0, 24, 0, 4), (0, 28, 0, 5), (0, 31, 0, 9), (0, 35, 0, 8), (0, 43, 0, 7), (0, 57, 0, 6), (0, 63, 0, 10), (0, 69, 0, 11),
  (0, 72, 0, 12), (0, 79, 0, 14), (0, 82, 0, 15), (0, 91, 0, 13), (0, 127, 0, 17), (0, 133, 0, 16), (1, 11, 1, 0), (1, 15, 1, 1), (1, 18, 1, 2), (1, 21, 1, 3), (1, 24, 1, 4), (1, 27, 1, 5),
  (1, 30, 1, 7), (1, 33, 1, 8), (1, 36, 1, 9), (1, 39, 1, 6), (2, 7, 2, 0), (2, 13, 2, 1), (2, 16, 2, 2), (2, 19, 2, 3), (2, 22, 2, 4), (2, 25, 2, 5), (3, 12, 3, 0), (3, 18, 3, 3),
  (3, 26, 3, 4), (3, 36, 3, 1), (3, 41, 3, 2), (4, 9, 4, 0), (4, 15, 4, 1), (4, 18, 4, 2), (4, 22, 4, 3), (4, 25, 4, 4), (4, 28, 4, 5), (4, 31, 4, 6), (5, 12, 5, 0), (5, 16, 5, 1),
  (5, 19, 5, 2), (5, 22, 5, 3), (5, 25, 5, 4), (5, 28, 5, 5), (5, 31, 5, 6), (5, 34, 5, 7), (5, 37, 5, 8), (5, 40, 5, 10), (5, 44, 5, 11), (5, 48, 5, 12), (5, 57, 5, 13), (5, 60, 5, 14),
  (5, 82, 5, 9), (6, 9, 6, 1), (6, 15, 6, 2), (6, 18, 6, 0), (7, 9, 7, 1), (7, 15, 7, 2), (7, 18, 7, 3), (7, 21, 7, 0), (7, 25, 7, 9), (7, 29, 7, 5), (7, 33, 7, 6), (7, 36, 7, 7),
  (7, 39, 7, 8), (7, 52, 7, 4), (8, 11, 8, 0), (8, 15, 8, 1), (8, 18, 8, 2), (8, 21, 8, 3), (8, 35, 8, 7), (8, 45, 8, 5), (8, 74, 8, 8), (8, 82, 8, 6), (8, 130, 8, 4), (9, 9, 9, 1),
  (9, 15, 9, 2), (9, 18, 9, 0), (10, 11, 10, 0), (10, 19, 10, 1), (10, 26, 10, 2), (10, 33, 10, 3), (10, 48, 10, 4), (10, 51, 10, 5), (10, 54, 10, 6), (10, 57, 10, 7), (10, 60, 10, 8), (10, 63, 10, 9),
  (10, 66, 10, 10), (10, 69, 10, 11), (10, 72, 10, 12), (10, 75, 10, 13), (10, 78, 10, 14), (10, 81, 10, 15), (10, 84, 10, 16), (10, 87, 10, 17), (10, 91, 10, 18), (11, 9, 11, 0), (11, 18, 11, 2), (11, 22, 11, 4),
  (11, 29, 11, 5), (11, 33, 11, 6), (11, 36, 11, 7), (11, 40, 11, 8), (11, 47, 11, 9), (11, 53, 11, 10), (11, 60, 11, 11), (11, 67, 11, 12), (11, 71, 11, 13), (11, 77, 11, 14), (11, 83, 11, 15), (11, 86, 11, 16),
  (11, 90, 11, 17), (11, 103, 11, 1), (11, 117, 11, 3), (12, 13, 12, 1), (12, 17, 12, 2), (12, 20, 12, 3), (12, 24, 12, 4), (12, 28, 12, 6), (12, 31, 12, 13), (12, 34, 12, 14), (12, 37, 12, 16), (12, 40, 12, 18),
  (12, 43, 12, 20), (12, 46, 12, 21), (12, 49, 12, 23), (12, 52, 12, 24), (12, 55, 12, 25), (12, 59, 12, 26), (12, 62, 12, 27), (12, 65, 12, 28), (12, 68, 12, 29), (12, 71, 12, 30), (12, 74, 12, 31), (12, 77, 12, 39),
  (12, 80, 12, 41), (12, 83, 12, 42), (12, 86, 12, 45), (12, 89, 12, 46), (12, 92, 12, 47), (12, 95, 12, 49), (12, 98, 12, 50), (12, 101, 12, 51), (12, 105, 12, 52), (12, 121, 12, 5), (12, 124, 12, 7), (12, 127, 12, 8),
  (12, 134, 12, 9), (12, 137, 12, 10), (12, 148, 12, 11), (12, 158, 12, 12), (12, 208, 12, 15), (12, 318, 12, 19), (12, 335, 12, 17), (12, 343, 12, 22), (12, 446, 12, 32), (12, 456, 12, 33), (12, 459, 12, 34), (12, 462, 12, 35),
  (12, 465, 12, 37), (12, 471, 12, 36), (12, 474, 12, 38), (12, 498, 12, 40), (12, 506, 12, 43), (12, 509, 12, 44), (12, 521, 12, 48)]
def xFn : List (Nat × Nat × Nat × Nat) := [
  (0, 47, 10, 4), (0, 60, 10, 15), (0, 66, 10, 16), (0, 118, 5, 12), (0, 130, 10, 14), (0, 167, 10, 10), (0, 176, 10, 1), (0, 180, 2, 0), (0, 185, 2, 1), (0, 195, 2, 5), (0, 198, 10, 0), (0, 201, 4, 0),
  (1, 43, 10, 4), (1, 56, 10, 5), (1, 59, 10, 1), (1, 63, 2, 0), (1, 68, 2, 1), (1, 71, 10, 2), (1, 75, 6, 0), (1, 88, 2, 5), (1, 91, 10, 0), (1, 95, 4, 0), (1, 119, 10, 9), (3, 22, 5, 10),
  (3, 50, 10, 15), (3, 53, 10, 16), (3, 64, 10, 10), (3, 71, 5, 6), (3, 75, 10, 4), (3, 78, 10, 0), (3, 82, 4, 0), (3, 87, 10, 9), (3, 98, 5, 12), (3, 125, 10, 1), (3, 129, 2, 1), (3, 134, 2, 0),
  (5, 52, 10, 10), (5, 63, 10, 4), (5, 76, 1, 0), (5, 86, 1, 1), (5, 89, 1, 7), (5, 96, 1, 4), (5, 97, 1, 3), (5, 116, 10, 15), (5, 119, 10, 16), (5, 129, 10, 0), (5, 133, 4, 0), (5, 138, 10, 9),
  (5, 152, 1, 2), (5, 165, 10, 14), (5, 177, 1, 5), (7, 64, 10, 9), (7, 67, 10, 16), (7, 70, 10, 0), (7, 74, 10, 15), (7, 77, 4, 0), (7, 119, 10, 4), (7, 125, 10, 6), (7, 156, 10, 5), (7, 159, 10, 2),
  (7, 163, 6, 0), (7, 168, 10, 18), (7, 191, 10, 7), (7, 193, 10, 8), (7, 195, 10, 10), (7, 211, 10, 14), (7, 219, 4, 1), (7, 232, 10, 1), (7, 236, 2, 0), (7, 241, 2, 1), (7, 244, 2, 2), (7, 246, 2, 3),
  (7, 248, 2, 4), (7, 250, 2, 5), (7, 264, 4, 2), (7, 268, 4, 3), (7, 270, 4, 4), (7, 272, 4, 5), (7, 275, 4, 6), (7, 284, 10, 11), (7, 289, 10, 12), (7, 294, 10, 13), (7, 300, 10, 17), (8, 39, 10, 14),
  (8, 52, 10, 0), (8, 56, 4, 0), (8, 61, 10, 15), (8, 64, 10, 10), (8, 71, 10, 16), (8, 86, 10, 4), (8, 89, 10, 18), (8, 111, 1, 0), (8, 114, 1, 2), (8, 120, 1, 4), (8, 121, 1, 3), (8, 124, 10, 9),
  (8, 127, 1, 1), (10, 43, 6, 0), (10, 47, 9, 0), (10, 111, 4, 0), (10, 114, 4, 1), (10, 117, 4, 2), (10, 120, 6, 1), (10, 124, 2, 4), (10, 131, 2, 2), (10, 138, 6, 2), (10, 141, 2, 3), (10, 144, 4, 4),
  (10, 160, 4, 3), (10, 163, 9, 1), (10, 165, 9, 2), (11, 120, 7, 7), (11, 124, 10, 6), (11, 127, 5, 9), (11, 157, 10, 3), (11, 161, 9, 0), (11, 170, 10, 0), (11, 174, 4, 3), (11, 190, 1, 8), (11, 193, 10, 4),
  (11, 199, 1, 7), (11, 213, 10, 2), (11, 277, 10, 9), (11, 280, 4, 0), (11, 283, 10, 10), (11, 286, 4, 2), (11, 303, 3, 2), (11, 306, 3, 1), (11, 319, 4, 5), (11, 322, 4, 6), (11, 328, 5, 6), (11, 334, 10, 8),
  (11, 340, 0, 15), (11, 347, 0, 12), (11, 361, 0, 6), (11, 383, 0, 16), (11, 386, 0, 17), (11, 410, 8, 4), (11, 413, 8, 3), (11, 416, 10, 5), (11, 427, 6, 0), (11, 428, 10, 15)]
def xFlC (e : Nat × Nat × Nat × Nat) : Cond := Cond.fieldLink (xo e.1) e.2.1 (xF e.2.2.1 e.2.2.2).1 (xF e.2.2.1 e.2.2.2).2.1 (xF e.2.2.1 e.2.2.2).2.2.1
def xFnC (e : Nat × Nat × Nat × Nat) : Cond := Cond.fieldLinkNest (xo e.1) e.2.1 (xF e.2.2.1 e.2.2.2).1 (xF e.2.2.1 e.2.2.2).2.1 (xF e.2.2.1 e.2.2.2).2.2.1 "LastCloud"
theorem xFl_ok : ∀ e ∈ xFl, xFlC e ∈ tables_1 := by
  have h : ∀ w ∈ xFl.map xFlC, w ∈ tables_1 := x_mem [427, 428, 429, 430, 431, 432, 437, 436, 435, 433, 438, 439, 440, 443, 444, 442, 448, 446, 348, 351, 354, 357, 360, 363, 366, 369, 371, 365, 176, 181, 186, 189, 192, 195, 403, 408, 409, 404, 406, 127, 136, 139, 143, 147, 150, 153, 1013, 1014, 1015, 1016, 1017, 1018, 1019, 1022, 1023, 1027, 1028, 1029, 1032, 1033, 1024, 91, 93, 86, 37, 38, 39, 36, 46, 41, 42, 43, 45, 40, 493, 494, 495, 496, 502, 500, 503, 501, 498, 111, 113, 108, 220, 228, 233, 237, 239, 247, 251, 254, 256, 259, 266, 273, 275, 277, 279, 285, 293, 297, 299, 576, 578, 580, 581, 582, 583, 584, 585, 586, 587, 588, 589, 590, 591, 592, 593, 577, 579, 1523, 1524, 1525, 1526, 1528, 1535, 1536, 1538, 1540, 1542, 1543, 1545, 1546, 1547, 1548, 1549, 1550, 1551, 1552, 1553, 1561, 1563, 1564, 1567, 1568, 1569, 1571, 1572, 1573, 1574, 1527, 1529, 1530, 1531, 1532, 1533, 1534, 1537, 1541, 1539, 1544, 1554, 1555, 1556, 1557, 1559, 1558, 1560, 1562, 1565, 1566, 1570] (by decide +kernel)
  exact fun e he => h _ (List.mem_map.mpr ⟨e, he, rfl⟩)
theorem xFn_ok : ∀ e ∈ xFn, xFnC e ∈ tables_1 := by
  have h : ∀ w ∈ xFn.map xFnC, w ∈ tables_1 := x_mem [243, 288, 295, 1031, 281, 270, 231, 179, 184, 197, 226, 134, 240, 248, 229, 177, 182, 234, 88, 196, 224, 131, 263, 1026, 284, 291, 267, 1020, 242, 223, 130, 261, 1030, 230, 183, 178, 268, 241, 349, 352, 367, 361, 358, 289, 296, 225, 133, 264, 356, 282, 364, 260, 292, 221, 286, 128, 245, 253, 249, 235, 89, 301, 255, 257, 271, 283, 138, 232, 180, 185, 188, 191, 194, 198, 141, 146, 149, 151, 154, 274, 276, 278, 298, 280, 222, 129, 287, 269, 294, 244, 300, 350, 355, 362, 359, 262, 353, 87, 109, 132, 137, 140, 92, 193, 187, 94, 190, 148, 145, 112, 114, 44, 252, 1025, 238, 110, 227, 144, 370, 246, 368, 236, 265, 135, 272, 142, 407, 405, 152, 155, 1021, 258, 445, 441, 434, 447, 449, 499, 497, 250, 90, 290] (by decide +kernel)
  exact fun e he => h _ (List.mem_map.mpr ⟨e, he, rfl⟩)
abbrev xMT : Type := MethodName × ByteArray × Nat × Option FieldType × Bool × Nat
def xMt_0 : List (xMT) := [
  (⟨RX0, "<init>", "()V"⟩, prog_2_method_1_code, 1, none, false, 1),
  (⟨RX0, "begin", "(LLastCloud$Sky;I)V"⟩, prog_2_method_2_code, 3, none, false, 3),
  (⟨RX0, "beginUnderAllLifts", "(LLastCloud$Sky;)V"⟩, prog_2_method_3_code, 2, none, false, 2),
  (⟨RX0, "takeOff", "(LLastCloud$Sky;)V"⟩, prog_2_method_4_code, 3, none, false, 2),
  (⟨RX0, "meetLift", "()V"⟩, prog_2_method_5_code, 1, none, false, 1),
  (⟨RX0, "draw", "(I)I"⟩, prog_2_method_6_code, 2, (some .int), false, 2),
  (⟨RX0, "follow", "(LLastCloud$Plan;LLastCloud$Sky;I)V"⟩, prog_2_method_7_code, 6, none, false, 4),
  (⟨RX0, "deedBy", "(LLastCloud$Plan;)I"⟩, prog_2_method_8_code, 2, (some .int), false, 2),
  (⟨RX0, "note", "(I)V"⟩, prog_2_method_9_code, 2, none, false, 2),
  (⟨RX0, "tryDeed", "(J)Z"⟩, prog_2_method_10_code, 4, (some .boolean), false, 2),
  (⟨RX0, "tryClimb", "()Z"⟩, prog_2_method_11_code, 2, (some .boolean), false, 1),
  (⟨RX0, "tryLeg", "(II)Z"⟩, prog_2_method_12_code, 9, (some .boolean), false, 3),
  (⟨RX0, "noted", "(II)I"⟩, prog_2_method_13_code, 3, (some .int), false, 3),
  (⟨RX0, "endOf", "(I)I"⟩, prog_2_method_14_code, 2, (some .int), false, 2),
  (⟨RX0, "spreadValue", "(I)I"⟩, prog_2_method_15_code, 2, (some .int), false, 2),
  (⟨RX1, "<init>", "()V"⟩, prog_3_method_1_code, 1, none, false, 1),
  (⟨RX1, "group", "(IZ)I"⟩, prog_3_method_2_code, 2, (some .int), true, 2),
  (⟨RX1, "build", "(LLastCloud$Sky;)V"⟩, prog_3_method_3_code, 4, none, false, 2),
  (⟨RX1, "addFrom", "(LLastCloud$Sky;IZ)V"⟩, prog_3_method_4_code, 7, none, false, 4),
  (⟨RX1, "add", "(LLastCloud$Sky;IZIZ)V"⟩, prog_3_method_5_code, 12, none, false, 6)]
set_option maxRecDepth 100000 in
theorem xMc_0 : ∀ m ∈ xMt_0, Cond.code m.1 m.2.1 m.2.2.1 m.2.2.2.1 ∈ tables_1 := List.forall_mem_cons.mpr ⟨List.mem_of_getElem? (i := 425) rfl, List.forall_mem_cons.mpr ⟨List.mem_of_getElem? (i := 1330) rfl, List.forall_mem_cons.mpr ⟨List.mem_of_getElem? (i := 1265) rfl, List.forall_mem_cons.mpr ⟨List.mem_of_getElem? (i := 1269) rfl, List.forall_mem_cons.mpr ⟨List.mem_of_getElem? (i := 1275) rfl, List.forall_mem_cons.mpr ⟨List.mem_of_getElem? (i := 1279) rfl, List.forall_mem_cons.mpr ⟨List.mem_of_getElem? (i := 1326) rfl, List.forall_mem_cons.mpr ⟨List.mem_of_getElem? (i := 1287) rfl, List.forall_mem_cons.mpr ⟨List.mem_of_getElem? (i := 1335) rfl, List.forall_mem_cons.mpr ⟨List.mem_of_getElem? (i := 1293) rfl, List.forall_mem_cons.mpr ⟨List.mem_of_getElem? (i := 1298) rfl, List.forall_mem_cons.mpr ⟨List.mem_of_getElem? (i := 1306) rfl, List.forall_mem_cons.mpr ⟨List.mem_of_getElem? (i := 1346) rfl, List.forall_mem_cons.mpr ⟨List.mem_of_getElem? (i := 1354) rfl, List.forall_mem_cons.mpr ⟨List.mem_of_getElem? (i := 1382) rfl, List.forall_mem_cons.mpr ⟨List.mem_of_getElem? (i := 346) rfl, List.forall_mem_cons.mpr ⟨List.mem_of_getElem? (i := 563) rfl, List.forall_mem_cons.mpr ⟨List.mem_of_getElem? (i := 531) rfl, List.forall_mem_cons.mpr ⟨List.mem_of_getElem? (i := 535) rfl, List.forall_mem_cons.mpr ⟨List.mem_of_getElem? (i := 539) rfl, fun _ h => absurd h List.not_mem_nil⟩⟩⟩⟩⟩⟩⟩⟩⟩⟩⟩⟩⟩⟩⟩⟩⟩⟩⟩⟩
def xMt_1 : List (xMT) := [
  (⟨RX1, "speedOf", "(I)I"⟩, prog_3_method_6_code, 2, (some .int), false, 2),
  (⟨RX1, "findEdges", "(LLastCloud$Sky;Z)V"⟩, prog_3_method_7_code, 8, none, false, 3),
  (⟨RX1, "leastByHop", "(LLastCloud$Sky;I)I"⟩, prog_3_method_8_code, 8, (some .int), false, 3),
  (⟨RX1, "glide", "(LLastCloud$Sky;IIZ)V"⟩, prog_3_method_9_code, 8, none, false, 5),
  (⟨RX1, "raiseFrom", "(LLastCloud$Sky;II)Z"⟩, prog_3_method_10_code, 7, (some .boolean), false, 4),
  (⟨RX1, "longestStreet", "(LLastCloud$Sky;)I"⟩, prog_3_method_11_code, 5, (some .int), false, 2),
  (⟨RX1, "growStreets", "(II)V"⟩, prog_3_method_12_code, 5, none, false, 3),
  (⟨RX2, "<init>", "()V"⟩, prog_4_method_1_code, 1, none, false, 1),
  (⟨RX2, "copyFrom", "(LLastCloud$Leg;)V"⟩, prog_4_method_2_code, 2, none, false, 2),
  (⟨RX3, "<init>", "()V"⟩, prog_5_method_1_code, 1, none, false, 1),
  (⟨RX3, "spreadFromStart", "(LLastCloud$Plan;)V"⟩, prog_5_method_2_code, 3, none, false, 2),
  (⟨RX3, "arrive", "(II)V"⟩, prog_5_method_3_code, 3, none, false, 3),
  (⟨RX3, "spreadFrom", "(IZ)V"⟩, prog_5_method_4_code, 6, none, false, 3),
  (⟨RX3, "follow", "(IZIIZ)V"⟩, prog_5_method_5_code, 8, none, false, 6),
  (⟨RX3, "followLeg", "(IIZII)V"⟩, prog_5_method_6_code, 12, none, false, 6),
  (⟨RX4, "<init>", "()V"⟩, prog_6_method_1_code, 1, none, false, 1),
  (⟨RX4, "clear", "()V"⟩, prog_6_method_2_code, 1, none, false, 1),
  (⟨RX4, "copyFrom", "(LLastCloud$Place;)V"⟩, prog_6_method_3_code, 2, none, false, 2),
  (⟨RX4, "afterSight", "(II)I"⟩, prog_6_method_4_code, 4, (some .int), false, 3),
  (⟨RX4, "bySign", "(IZI)I"⟩, prog_6_method_5_code, 6, (some .int), false, 4)]
set_option maxRecDepth 100000 in
theorem xMc_1 : ∀ m ∈ xMt_1, Cond.code m.1 m.2.1 m.2.2.1 m.2.2.2.1 ∈ tables_1 := List.forall_mem_cons.mpr ⟨List.mem_of_getElem? (i := 1081) rfl, List.forall_mem_cons.mpr ⟨List.mem_of_getElem? (i := 560) rfl, List.forall_mem_cons.mpr ⟨List.mem_of_getElem? (i := 572) rfl, List.forall_mem_cons.mpr ⟨List.mem_of_getElem? (i := 922) rfl, List.forall_mem_cons.mpr ⟨List.mem_of_getElem? (i := 927) rfl, List.forall_mem_cons.mpr ⟨List.mem_of_getElem? (i := 955) rfl, List.forall_mem_cons.mpr ⟨List.mem_of_getElem? (i := 964) rfl, List.forall_mem_cons.mpr ⟨List.mem_of_getElem? (i := 174) rfl, List.forall_mem_cons.mpr ⟨List.mem_of_getElem? (i := 1470) rfl, List.forall_mem_cons.mpr ⟨List.mem_of_getElem? (i := 400) rfl, List.forall_mem_cons.mpr ⟨List.mem_of_getElem? (i := 1196) rfl, List.forall_mem_cons.mpr ⟨List.mem_of_getElem? (i := 1207) rfl, List.forall_mem_cons.mpr ⟨List.mem_of_getElem? (i := 1211) rfl, List.forall_mem_cons.mpr ⟨List.mem_of_getElem? (i := 1215) rfl, List.forall_mem_cons.mpr ⟨List.mem_of_getElem? (i := 1225) rfl, List.forall_mem_cons.mpr ⟨List.mem_of_getElem? (i := 125) rfl, List.forall_mem_cons.mpr ⟨List.mem_of_getElem? (i := 219) rfl, List.forall_mem_cons.mpr ⟨List.mem_of_getElem? (i := 1466) rfl, List.forall_mem_cons.mpr ⟨List.mem_of_getElem? (i := 889) rfl, List.forall_mem_cons.mpr ⟨List.mem_of_getElem? (i := 893) rfl, fun _ h => absurd h List.not_mem_nil⟩⟩⟩⟩⟩⟩⟩⟩⟩⟩⟩⟩⟩⟩⟩⟩⟩⟩⟩⟩
def xMt_2 : List (xMT) := [
  (⟨RX5, "<init>", "()V"⟩, prog_7_method_1_code, 1, none, false, 1),
  (⟨RX5, "spot", "(IZII)I"⟩, prog_7_method_2_code, 4, (some .int), true, 4),
  (⟨RX5, "begin", "(LLastCloud$Sky;LLastCloud$Hops;I)V"⟩, prog_7_method_3_code, 6, none, false, 4),
  (⟨RX5, "leastByRule", "(IZ)I"⟩, prog_7_method_4_code, 5, (some .int), false, 3),
  (⟨RX5, "setChance", "(II)V"⟩, prog_7_method_5_code, 3, none, false, 3),
  (⟨RX5, "setDryWin", "(II)V"⟩, prog_7_method_6_code, 3, none, false, 3),
  (⟨RX5, "worthAt", "(IZ)I"⟩, prog_7_method_7_code, 3, (some .int), false, 3),
  (⟨RX5, "deedAt", "(IZ)I"⟩, prog_7_method_8_code, 3, (some .int), false, 3),
  (⟨RX5, "homeAt", "(IZ)I"⟩, prog_7_method_9_code, 3, (some .int), false, 3),
  (⟨RX5, "startWorth", "(Z)I"⟩, prog_7_method_10_code, 2, (some .int), false, 2),
  (⟨RX5, "fill", "(IZ)V"⟩, prog_7_method_11_code, 4, none, false, 3),
  (⟨RX5, "fillPeriod", "(IZ)V"⟩, prog_7_method_12_code, 7, none, false, 3),
  (⟨RX5, "bestHop", "(IZII)I"⟩, prog_7_method_13_code, 10, (some .int), false, 5),
  (⟨RX5, "behind", "(IIZI)I"⟩, prog_7_method_14_code, 6, (some .int), false, 5),
  (⟨RX5, "settle", "(IIIIIZ)V"⟩, prog_7_method_15_code, 13, none, false, 7),
  (⟨RX6, "<init>", "()V"⟩, prog_8_method_1_code, 1, none, false, 1),
  (⟨RX6, "add", "(II)V"⟩, prog_8_method_2_code, 3, none, false, 3),
  (⟨RX6, "copyFrom", "(LLastCloud$Polar;)V"⟩, prog_8_method_3_code, 2, none, false, 2),
  (⟨RX6, "fastest", "(I)I"⟩, prog_8_method_4_code, 4, (some .int), false, 2),
  (⟨RX6, "tenHours", "(II)I"⟩, prog_8_method_5_code, 3, (some .int), false, 3)]
set_option maxRecDepth 100000 in
theorem xMc_2 : ∀ m ∈ xMt_2, Cond.code m.1 m.2.1 m.2.2.1 m.2.2.2.1 ∈ tables_1 := List.forall_mem_cons.mpr ⟨List.mem_of_getElem? (i := 1010) rfl, List.forall_mem_cons.mpr ⟨List.mem_of_getElem? (i := 1106) rfl, List.forall_mem_cons.mpr ⟨List.mem_of_getElem? (i := 1068) rfl, List.forall_mem_cons.mpr ⟨List.mem_of_getElem? (i := 1074) rfl, List.forall_mem_cons.mpr ⟨List.mem_of_getElem? (i := 1239) rfl, List.forall_mem_cons.mpr ⟨List.mem_of_getElem? (i := 1188) rfl, List.forall_mem_cons.mpr ⟨List.mem_of_getElem? (i := 1123) rfl, List.forall_mem_cons.mpr ⟨List.mem_of_getElem? (i := 1136) rfl, List.forall_mem_cons.mpr ⟨List.mem_of_getElem? (i := 1119) rfl, List.forall_mem_cons.mpr ⟨List.mem_of_getElem? (i := 1154) rfl, List.forall_mem_cons.mpr ⟨List.mem_of_getElem? (i := 1090) rfl, List.forall_mem_cons.mpr ⟨List.mem_of_getElem? (i := 1094) rfl, List.forall_mem_cons.mpr ⟨List.mem_of_getElem? (i := 1098) rfl, List.forall_mem_cons.mpr ⟨List.mem_of_getElem? (i := 1102) rfl, List.forall_mem_cons.mpr ⟨List.mem_of_getElem? (i := 1110) rfl, List.forall_mem_cons.mpr ⟨List.mem_of_getElem? (i := 84) rfl, List.forall_mem_cons.mpr ⟨List.mem_of_getElem? (i := 818) rfl, List.forall_mem_cons.mpr ⟨List.mem_of_getElem? (i := 1474) rfl, List.forall_mem_cons.mpr ⟨List.mem_of_getElem? (i := 975) rfl, List.forall_mem_cons.mpr ⟨List.mem_of_getElem? (i := 983) rfl, fun _ h => absurd h List.not_mem_nil⟩⟩⟩⟩⟩⟩⟩⟩⟩⟩⟩⟩⟩⟩⟩⟩⟩⟩⟩⟩
def xMt_3 : List (xMT) := [
  (⟨RX6, "flattest", "()I"⟩, prog_8_method_6_code, 3, (some .int), false, 1),
  (⟨RX7, "<init>", "([B)V"⟩, prog_9_method_1_code, 2, none, false, 2),
  (⟨RX7, "readAll", "(ILLastCloud$Sky;)I"⟩, prog_9_method_2_code, 4, (some .int), false, 3),
  (⟨RX7, "splitText", "(I)V"⟩, prog_9_method_3_code, 5, none, false, 2),
  (⟨RX7, "addToken", "(III)V"⟩, prog_9_method_4_code, 4, none, false, 4),
  (⟨RX7, "kindOf", "(I)I"⟩, prog_9_method_5_code, 1, (some .int), true, 1),
  (⟨RX7, "fail", "(I)V"⟩, prog_9_method_6_code, 2, none, false, 2),
  (⟨RX7, "goOn", "()V"⟩, prog_9_method_7_code, 1, none, false, 1),
  (⟨RX7, "isWord", "(Ljava/lang/String;)Z"⟩, prog_9_method_8_code, 3, (some .boolean), false, 2),
  (⟨RX7, "takeIf", "(Ljava/lang/String;)Z"⟩, prog_9_method_9_code, 2, (some .boolean), false, 2),
  (⟨RX7, "takeWord", "(Ljava/lang/String;)V"⟩, prog_9_method_10_code, 2, none, false, 2),
  (⟨RX7, "takeNumber", "(II)I"⟩, prog_9_method_11_code, 5, (some .int), false, 3),
  (⟨RX7, "takeSigned", "(I)I"⟩, prog_9_method_12_code, 3, (some .int), false, 2),
  (⟨RX7, "takePlace", "(I)I"⟩, prog_9_method_13_code, 4, (some .int), false, 2),
  (⟨RX7, "readLine", "()V"⟩, prog_9_method_14_code, 2, none, false, 1),
  (⟨RX7, "lineKind", "()I"⟩, prog_9_method_15_code, 1, (some .int), false, 1),
  (⟨RX7, "isFull", "(I)Z"⟩, prog_9_method_16_code, 2, (some .boolean), false, 2),
  (⟨RX7, "readRest", "(I)V"⟩, prog_9_method_17_code, 2, none, false, 2),
  (⟨RX7, "readPlace", "()V"⟩, prog_9_method_18_code, 4, none, false, 1),
  (⟨RX7, "readLeg", "()V"⟩, prog_9_method_19_code, 8, none, false, 1)]
set_option maxRecDepth 100000 in
theorem xMc_3 : ∀ m ∈ xMt_3, Cond.code m.1 m.2.1 m.2.2.1 m.2.2.2.1 ∈ tables_1 := List.forall_mem_cons.mpr ⟨List.mem_of_getElem? (i := 991) rfl, List.forall_mem_cons.mpr ⟨List.mem_of_getElem? (i := 34) rfl, List.forall_mem_cons.mpr ⟨List.mem_of_getElem? (i := 652) rfl, List.forall_mem_cons.mpr ⟨List.mem_of_getElem? (i := 657) rfl, List.forall_mem_cons.mpr ⟨List.mem_of_getElem? (i := 664) rfl, List.forall_mem_cons.mpr ⟨List.mem_of_getElem? (i := 660) rfl, List.forall_mem_cons.mpr ⟨List.mem_of_getElem? (i := 739) rfl, List.forall_mem_cons.mpr ⟨List.mem_of_getElem? (i := 753) rfl, List.forall_mem_cons.mpr ⟨List.mem_of_getElem? (i := 677) rfl, List.forall_mem_cons.mpr ⟨List.mem_of_getElem? (i := 776) rfl, List.forall_mem_cons.mpr ⟨List.mem_of_getElem? (i := 766) rfl, List.forall_mem_cons.mpr ⟨List.mem_of_getElem? (i := 770) rfl, List.forall_mem_cons.mpr ⟨List.mem_of_getElem? (i := 791) rfl, List.forall_mem_cons.mpr ⟨List.mem_of_getElem? (i := 785) rfl, List.forall_mem_cons.mpr ⟨List.mem_of_getElem? (i := 668) rfl, List.forall_mem_cons.mpr ⟨List.mem_of_getElem? (i := 672) rfl, List.forall_mem_cons.mpr ⟨List.mem_of_getElem? (i := 743) rfl, List.forall_mem_cons.mpr ⟨List.mem_of_getElem? (i := 757) rfl, List.forall_mem_cons.mpr ⟨List.mem_of_getElem? (i := 761) rfl, List.forall_mem_cons.mpr ⟨List.mem_of_getElem? (i := 781) rfl, fun _ h => absurd h List.not_mem_nil⟩⟩⟩⟩⟩⟩⟩⟩⟩⟩⟩⟩⟩⟩⟩⟩⟩⟩⟩⟩
def xMt_4 : List (xMT) := [
  (⟨RX7, "readLift", "()V"⟩, prog_9_method_20_code, 7, none, false, 1),
  (⟨RX7, "readSpeed", "()V"⟩, prog_9_method_21_code, 3, none, false, 1),
  (⟨RX7, "readWorth", "()V"⟩, prog_9_method_22_code, 1, none, false, 1),
  (⟨RX7, "readStart", "()V"⟩, prog_9_method_23_code, 4, none, false, 1),
  (⟨RX8, "<init>", "()V"⟩, prog_10_method_1_code, 1, none, false, 1),
  (⟨RX8, "spot", "(III)I"⟩, prog_10_method_2_code, 3, (some .int), true, 3),
  (⟨RX8, "fewest", "(LLastCloud$Sky;LLastCloud$Hops;I)I"⟩, prog_10_method_3_code, 6, (some .int), false, 4),
  (⟨RX8, "begin", "(LLastCloud$Sky;LLastCloud$Hops;I)V"⟩, prog_10_method_4_code, 7, none, false, 4),
  (⟨RX8, "fillPeriods", "(I)V"⟩, prog_10_method_5_code, 6, none, false, 2),
  (⟨RX8, "leastByHops", "(III)I"⟩, prog_10_method_6_code, 9, (some .int), false, 4),
  (⟨RX8, "behind", "(III)I"⟩, prog_10_method_7_code, 5, (some .int), false, 4),
  (⟨RX8, "walk", "(I)V"⟩, prog_10_method_8_code, 9, none, false, 2),
  (⟨RX8, "firstHop", "(IIII)I"⟩, prog_10_method_9_code, 7, (some .int), false, 5),
  (⟨RX8, "addToWay", "(I)V"⟩, prog_10_method_10_code, 2, none, false, 2),
  (⟨RX9, "<init>", "()V"⟩, prog_11_method_1_code, 1, none, false, 1),
  (⟨RX9, "add", "(II)V"⟩, prog_11_method_2_code, 3, none, false, 3),
  (⟨RX9, "copyFrom", "(LLastCloud$Sights;)V"⟩, prog_11_method_3_code, 2, none, false, 2),
  (⟨RX10, "<init>", "()V"⟩, prog_12_method_1_code, 2, none, false, 1),
  (⟨RX10, "clear", "()V"⟩, prog_12_method_2_code, 2, none, false, 1),
  (⟨RX10, "copyFrom", "(LLastCloud$Sky;)V"⟩, prog_12_method_3_code, 3, none, false, 2)]
set_option maxRecDepth 100000 in
theorem xMc_4 : ∀ m ∈ xMt_4, Cond.code m.1 m.2.1 m.2.2.1 m.2.2.2.1 ∈ tables_1 := List.forall_mem_cons.mpr ⟨List.mem_of_getElem? (i := 798) rfl, List.forall_mem_cons.mpr ⟨List.mem_of_getElem? (i := 813) rfl, List.forall_mem_cons.mpr ⟨List.mem_of_getElem? (i := 822) rfl, List.forall_mem_cons.mpr ⟨List.mem_of_getElem? (i := 828) rfl, List.forall_mem_cons.mpr ⟨List.mem_of_getElem? (i := 491) rfl, List.forall_mem_cons.mpr ⟨List.mem_of_getElem? (i := 1404) rfl, List.forall_mem_cons.mpr ⟨List.mem_of_getElem? (i := 1393) rfl, List.forall_mem_cons.mpr ⟨List.mem_of_getElem? (i := 1397) rfl, List.forall_mem_cons.mpr ⟨List.mem_of_getElem? (i := 1408) rfl, List.forall_mem_cons.mpr ⟨List.mem_of_getElem? (i := 1412) rfl, List.forall_mem_cons.mpr ⟨List.mem_of_getElem? (i := 1417) rfl, List.forall_mem_cons.mpr ⟨List.mem_of_getElem? (i := 1427) rfl, List.forall_mem_cons.mpr ⟨List.mem_of_getElem? (i := 1436) rfl, List.forall_mem_cons.mpr ⟨List.mem_of_getElem? (i := 1431) rfl, List.forall_mem_cons.mpr ⟨List.mem_of_getElem? (i := 106) rfl, List.forall_mem_cons.mpr ⟨List.mem_of_getElem? (i := 901) rfl, List.forall_mem_cons.mpr ⟨List.mem_of_getElem? (i := 1481) rfl, List.forall_mem_cons.mpr ⟨List.mem_of_getElem? (i := 74) rfl, List.forall_mem_cons.mpr ⟨List.mem_of_getElem? (i := 215) rfl, List.forall_mem_cons.mpr ⟨List.mem_of_getElem? (i := 1462) rfl, fun _ h => absurd h List.not_mem_nil⟩⟩⟩⟩⟩⟩⟩⟩⟩⟩⟩⟩⟩⟩⟩⟩⟩⟩⟩⟩
def xMt_5 : List (xMT) := [
  (⟨RX10, "hasPlace", "(I)Z"⟩, prog_12_method_4_code, 2, (some .boolean), false, 2),
  (⟨RX10, "hasLeg", "(I)Z"⟩, prog_12_method_5_code, 2, (some .boolean), false, 2),
  (⟨RX10, "hasSpeed", "(I)Z"⟩, prog_12_method_6_code, 2, (some .boolean), false, 2),
  (⟨RX10, "hasHeight", "(I)Z"⟩, prog_12_method_7_code, 2, (some .boolean), false, 2),
  (⟨RX10, "hasState", "(IIIZ)Z"⟩, prog_12_method_8_code, 5, (some .boolean), false, 5),
  (⟨RX10, "hasStart", "()Z"⟩, prog_12_method_9_code, 1, (some .boolean), false, 1),
  (⟨RX10, "startsWet", "()Z"⟩, prog_12_method_10_code, 1, (some .boolean), false, 1),
  (⟨RX10, "isToLandAt", "(I)Z"⟩, prog_12_method_11_code, 2, (some .boolean), false, 2),
  (⟨RX10, "allPlaces", "()I"⟩, prog_12_method_12_code, 1, (some .int), false, 1),
  (⟨RX10, "liftBits", "()I"⟩, prog_12_method_13_code, 3, (some .int), false, 1),
  (⟨RX10, "overGround", "(IZIZ)I"⟩, prog_12_method_14_code, 6, (some .int), false, 5),
  (⟨RX10, "takes", "(IZIZ)I"⟩, prog_12_method_15_code, 6, (some .int), false, 5),
  (⟨RX10, "loses", "(IZIZ)I"⟩, prog_12_method_16_code, 6, (some .int), false, 5),
  (⟨RX10, "wins", "(IZ)I"⟩, prog_12_method_17_code, 3, (some .int), false, 3),
  (⟨RX10, "winsBy", "(IZ)I"⟩, prog_12_method_18_code, 4, (some .int), false, 3),
  (⟨RX10, "capped", "(I)I"⟩, prog_12_method_19_code, 2, (some .int), false, 2),
  (⟨RX10, "chanceNow", "(I)I"⟩, prog_12_method_20_code, 4, (some .int), false, 2),
  (⟨RX10, "fastSpeedTo", "(I)I"⟩, prog_12_method_21_code, 3, (some .int), false, 2),
  (⟨RX10, "landingWorth", "(III)I"⟩, prog_12_method_22_code, 5, (some .int), false, 4),
  (⟨RX11, "<init>", "()V"⟩, prog_1_method_1_code, 2, none, false, 1)]
set_option maxRecDepth 100000 in
theorem xMc_5 : ∀ m ∈ xMt_5, Cond.code m.1 m.2.1 m.2.2.1 m.2.2.2.1 ∈ tables_1 := List.forall_mem_cons.mpr ⟨List.mem_of_getElem? (i := 809) rfl, List.forall_mem_cons.mpr ⟨List.mem_of_getElem? (i := 852) rfl, List.forall_mem_cons.mpr ⟨List.mem_of_getElem? (i := 856) rfl, List.forall_mem_cons.mpr ⟨List.mem_of_getElem? (i := 918) rfl, List.forall_mem_cons.mpr ⟨List.mem_of_getElem? (i := 1002) rfl, List.forall_mem_cons.mpr ⟨List.mem_of_getElem? (i := 834) rfl, List.forall_mem_cons.mpr ⟨List.mem_of_getElem? (i := 1150) rfl, List.forall_mem_cons.mpr ⟨List.mem_of_getElem? (i := 567) rfl, List.forall_mem_cons.mpr ⟨List.mem_of_getElem? (i := 959) rfl, List.forall_mem_cons.mpr ⟨List.mem_of_getElem? (i := 802) rfl, List.forall_mem_cons.mpr ⟨List.mem_of_getElem? (i := 547) rfl, List.forall_mem_cons.mpr ⟨List.mem_of_getElem? (i := 543) rfl, List.forall_mem_cons.mpr ⟨List.mem_of_getElem? (i := 551) rfl, List.forall_mem_cons.mpr ⟨List.mem_of_getElem? (i := 872) rfl, List.forall_mem_cons.mpr ⟨List.mem_of_getElem? (i := 876) rfl, List.forall_mem_cons.mpr ⟨List.mem_of_getElem? (i := 931) rfl, List.forall_mem_cons.mpr ⟨List.mem_of_getElem? (i := 885) rfl, List.forall_mem_cons.mpr ⟨List.mem_of_getElem? (i := 1085) rfl, List.forall_mem_cons.mpr ⟨List.mem_of_getElem? (i := 1114) rfl, List.forall_mem_cons.mpr ⟨List.mem_of_getElem? (i := 26) rfl, fun _ h => absurd h List.not_mem_nil⟩⟩⟩⟩⟩⟩⟩⟩⟩⟩⟩⟩⟩⟩⟩⟩⟩⟩⟩⟩
def xMt_6 : List (xMT) := [
  (⟨RX11, "feed", "(IIIII)I"⟩, prog_1_method_2_code, 6, (some .int), false, 6),
  (⟨RX11, "putNumber", "(I)V"⟩, prog_1_method_3_code, 3, none, false, 2),
  (⟨RX11, "end", "(I)I"⟩, prog_1_method_4_code, 2, (some .int), false, 2),
  (⟨RX11, "sky", "()I"⟩, prog_1_method_5_code, 2, (some .int), false, 1),
  (⟨RX11, "fault", "(I)I"⟩, prog_1_method_6_code, 2, (some .int), false, 2),
  (⟨RX11, "forgetPlans", "()V"⟩, prog_1_method_7_code, 2, none, false, 1),
  (⟨RX11, "periods", "(IZIZ)I"⟩, prog_1_method_8_code, 5, (some .int), false, 5),
  (⟨RX11, "loss", "(IZIZ)I"⟩, prog_1_method_9_code, 5, (some .int), false, 5),
  (⟨RX11, "climb", "(IZ)I"⟩, prog_1_method_10_code, 3, (some .int), false, 3),
  (⟨RX11, "chance", "(I)I"⟩, prog_1_method_11_code, 2, (some .int), false, 2),
  (⟨RX11, "sight", "(II)I"⟩, prog_1_method_12_code, 3, (some .int), false, 3),
  (⟨RX11, "unsee", "(I)I"⟩, prog_1_method_13_code, 2, (some .int), false, 2),
  (⟨RX11, "sign", "(IZ)I"⟩, prog_1_method_14_code, 4, (some .int), false, 3),
  (⟨RX11, "reach", "(IIIZ)I"⟩, prog_1_method_15_code, 5, (some .int), false, 5),
  (⟨RX11, "fields", "(IIZ)I"⟩, prog_1_method_16_code, 6, (some .int), false, 4),
  (⟨RX11, "edge", "(IZ)I"⟩, prog_1_method_17_code, 4, (some .int), false, 3),
  (⟨RX11, "tour", "(IIZ)I"⟩, prog_1_method_18_code, 7, (some .int), false, 4),
  (⟨RX11, "street", "()I"⟩, prog_1_method_19_code, 1, (some .int), false, 1),
  (⟨RX11, "fast", "(I)I"⟩, prog_1_method_20_code, 2, (some .int), false, 2),
  (⟨RX11, "average", "(I)I"⟩, prog_1_method_21_code, 3, (some .int), false, 2)]
set_option maxRecDepth 100000 in
theorem xMc_6 : ∀ m ∈ xMt_6, Cond.code m.1 m.2.1 m.2.2.1 m.2.2.2.1 ∈ tables_1 := List.forall_mem_cons.mpr ⟨List.mem_of_getElem? (i := 635) rfl, List.forall_mem_cons.mpr ⟨List.mem_of_getElem? (i := 639) rfl, List.forall_mem_cons.mpr ⟨List.mem_of_getElem? (i := 643) rfl, List.forall_mem_cons.mpr ⟨List.mem_of_getElem? (i := 647) rfl, List.forall_mem_cons.mpr ⟨List.mem_of_getElem? (i := 844) rfl, List.forall_mem_cons.mpr ⟨List.mem_of_getElem? (i := 840) rfl, List.forall_mem_cons.mpr ⟨List.mem_of_getElem? (i := 848) rfl, List.forall_mem_cons.mpr ⟨List.mem_of_getElem? (i := 861) rfl, List.forall_mem_cons.mpr ⟨List.mem_of_getElem? (i := 867) rfl, List.forall_mem_cons.mpr ⟨List.mem_of_getElem? (i := 881) rfl, List.forall_mem_cons.mpr ⟨List.mem_of_getElem? (i := 897) rfl, List.forall_mem_cons.mpr ⟨List.mem_of_getElem? (i := 905) rfl, List.forall_mem_cons.mpr ⟨List.mem_of_getElem? (i := 909) rfl, List.forall_mem_cons.mpr ⟨List.mem_of_getElem? (i := 914) rfl, List.forall_mem_cons.mpr ⟨List.mem_of_getElem? (i := 936) rfl, List.forall_mem_cons.mpr ⟨List.mem_of_getElem? (i := 941) rfl, List.forall_mem_cons.mpr ⟨List.mem_of_getElem? (i := 947) rfl, List.forall_mem_cons.mpr ⟨List.mem_of_getElem? (i := 951) rfl, List.forall_mem_cons.mpr ⟨List.mem_of_getElem? (i := 968) rfl, List.forall_mem_cons.mpr ⟨List.mem_of_getElem? (i := 979) rfl, fun _ h => absurd h List.not_mem_nil⟩⟩⟩⟩⟩⟩⟩⟩⟩⟩⟩⟩⟩⟩⟩⟩⟩⟩⟩⟩
def xMt_7 : List (xMT) := [
  (⟨RX11, "isClimb", "(I)Z"⟩, prog_1_method_22_code, 1, (some .boolean), true, 1),
  (⟨RX11, "farthest", "()I"⟩, prog_1_method_23_code, 1, (some .int), false, 1),
  (⟨RX11, "worth", "(IIIIZZ)I"⟩, prog_1_method_24_code, 8, (some .int), false, 7),
  (⟨RX11, "deed", "(IIIIZZ)I"⟩, prog_1_method_25_code, 8, (some .int), false, 7),
  (⟨RX11, "home", "(IIIIZZ)I"⟩, prog_1_method_26_code, 8, (some .int), false, 7),
  (⟨RX11, "isRule", "(I)Z"⟩, prog_1_method_27_code, 1, (some .boolean), true, 1),
  (⟨RX11, "planOf", "(I)LLastCloud$Plan;"⟩, prog_1_method_28_code, 3, (some (.object "LastCloud$Plan")), false, 2),
  (⟨RX11, "trialPlan", "()LLastCloud$Plan;"⟩, prog_1_method_29_code, 1, (some (.object "LastCloud$Plan")), false, 1),
  (⟨RX11, "start", "(I)I"⟩, prog_1_method_30_code, 2, (some .int), false, 2),
  (⟨RX11, "cost", "(I)I"⟩, prog_1_method_31_code, 3, (some .int), false, 2),
  (⟨RX11, "leave", "(IIZ)I"⟩, prog_1_method_32_code, 4, (some .int), false, 4),
  (⟨RX11, "on", "(IIZ)I"⟩, prog_1_method_33_code, 4, (some .int), false, 4),
  (⟨RX11, "leastToLeave", "(IIZZ)I"⟩, prog_1_method_34_code, 7, (some .int), false, 5),
  (⟨RX11, "last", "(II)I"⟩, prog_1_method_35_code, 5, (some .int), false, 3),
  (⟨RX11, "weak", "(III)I"⟩, prog_1_method_36_code, 7, (some .int), false, 4),
  (⟨RX11, "ends", "(IZ)I"⟩, prog_1_method_37_code, 4, (some .int), false, 3),
  (⟨RX11, "share", "(I)I"⟩, prog_1_method_38_code, 2, (some .int), false, 2),
  (⟨RX11, "known", "(I)I"⟩, prog_1_method_39_code, 5, (some .int), false, 2),
  (⟨RX11, "hawk", "(I)I"⟩, prog_1_method_40_code, 7, (some .int), false, 2),
  (⟨RX11, "startWorthWith", "(II)I"⟩, prog_1_method_41_code, 4, (some .int), false, 3)]
set_option maxRecDepth 100000 in
theorem xMc_7 : ∀ m ∈ xMt_7, Cond.code m.1 m.2.1 m.2.2.1 m.2.2.2.1 ∈ tables_1 := List.forall_mem_cons.mpr ⟨List.mem_of_getElem? (i := 971) rfl, List.forall_mem_cons.mpr ⟨List.mem_of_getElem? (i := 987) rfl, List.forall_mem_cons.mpr ⟨List.mem_of_getElem? (i := 995) rfl, List.forall_mem_cons.mpr ⟨List.mem_of_getElem? (i := 1132) rfl, List.forall_mem_cons.mpr ⟨List.mem_of_getElem? (i := 1140) rfl, List.forall_mem_cons.mpr ⟨List.mem_of_getElem? (i := 998) rfl, List.forall_mem_cons.mpr ⟨List.mem_of_getElem? (i := 1006) rfl, List.forall_mem_cons.mpr ⟨List.mem_of_getElem? (i := 1183) rfl, List.forall_mem_cons.mpr ⟨List.mem_of_getElem? (i := 1145) rfl, List.forall_mem_cons.mpr ⟨List.mem_of_getElem? (i := 1159) rfl, List.forall_mem_cons.mpr ⟨List.mem_of_getElem? (i := 1163) rfl, List.forall_mem_cons.mpr ⟨List.mem_of_getElem? (i := 1171) rfl, List.forall_mem_cons.mpr ⟨List.mem_of_getElem? (i := 1167) rfl, List.forall_mem_cons.mpr ⟨List.mem_of_getElem? (i := 1175) rfl, List.forall_mem_cons.mpr ⟨List.mem_of_getElem? (i := 1179) rfl, List.forall_mem_cons.mpr ⟨List.mem_of_getElem? (i := 1192) rfl, List.forall_mem_cons.mpr ⟨List.mem_of_getElem? (i := 1231) rfl, List.forall_mem_cons.mpr ⟨List.mem_of_getElem? (i := 1247) rfl, List.forall_mem_cons.mpr ⟨List.mem_of_getElem? (i := 1252) rfl, List.forall_mem_cons.mpr ⟨List.mem_of_getElem? (i := 1235) rfl, fun _ h => absurd h List.not_mem_nil⟩⟩⟩⟩⟩⟩⟩⟩⟩⟩⟩⟩⟩⟩⟩⟩⟩⟩⟩⟩
def xMt_8 : List (xMT) := [
  (⟨RX11, "bestStartWorth", "()I"⟩, prog_1_method_42_code, 1, (some .int), false, 1),
  (⟨RX11, "mixed", "(III)I"⟩, prog_1_method_43_code, 3, (some .int), true, 3),
  (⟨RX11, "water", "()I"⟩, prog_1_method_44_code, 2, (some .int), false, 1),
  (⟨RX11, "drop", "()I"⟩, prog_1_method_45_code, 4, (some .int), false, 1),
  (⟨RX11, "fly", "(II)I"⟩, prog_1_method_46_code, 3, (some .int), false, 3),
  (⟨RX11, "isSeed", "(I)Z"⟩, prog_1_method_47_code, 1, (some .boolean), true, 1),
  (⟨RX11, "flyOnce", "(LLastCloud$Flight;II)V"⟩, prog_1_method_48_code, 5, none, false, 4),
  (⟨RX11, "flown", "(II)I"⟩, prog_1_method_49_code, 3, (some .int), false, 3),
  (⟨RX11, "landed", "(I)I"⟩, prog_1_method_50_code, 2, (some .int), false, 2),
  (⟨RX11, "judge", "(II)I"⟩, prog_1_method_51_code, 5, (some .int), false, 3),
  (⟨RX11, "flights", "(III)I"⟩, prog_1_method_52_code, 6, (some .int), false, 4),
  (⟨RX11, "areFlights", "(III)Z"⟩, prog_1_method_53_code, 4, (some .boolean), false, 4),
  (⟨RX11, "sum", "(III)I"⟩, prog_1_method_54_code, 6, (some .int), false, 4),
  (⟨RX11, "spread", "(IIII)I"⟩, prog_1_method_55_code, 8, (some .int), false, 5),
  (⟨RX11, "soon", "()I"⟩, prog_1_method_56_code, 1, (some .int), false, 1),
  (⟨RX11, "way", "(I)I"⟩, prog_1_method_57_code, 3, (some .int), false, 2),
  (⟨RX11, "soonest", "(I)I"⟩, prog_1_method_58_code, 2, (some .int), false, 2),
  (⟨RX11, "key", "()I"⟩, prog_1_method_59_code, 7, (some .int), false, 1),
  (⟨RX11, "count", "(I)I"⟩, prog_1_method_60_code, 2, (some .int), false, 2),
  (⟨RX11, "slotsWithRow", "()I"⟩, prog_1_method_61_code, 3, (some .int), false, 1)]
set_option maxRecDepth 100000 in
theorem xMc_8 : ∀ m ∈ xMt_8, Cond.code m.1 m.2.1 m.2.2.1 m.2.2.2.1 ∈ tables_1 := List.forall_mem_cons.mpr ⟨List.mem_of_getElem? (i := 1243) rfl, List.forall_mem_cons.mpr ⟨List.mem_of_getElem? (i := 1126) rfl, List.forall_mem_cons.mpr ⟨List.mem_of_getElem? (i := 1257) rfl, List.forall_mem_cons.mpr ⟨List.mem_of_getElem? (i := 1261) rfl, List.forall_mem_cons.mpr ⟨List.mem_of_getElem? (i := 1314) rfl, List.forall_mem_cons.mpr ⟨List.mem_of_getElem? (i := 1317) rfl, List.forall_mem_cons.mpr ⟨List.mem_of_getElem? (i := 1322) rfl, List.forall_mem_cons.mpr ⟨List.mem_of_getElem? (i := 1342) rfl, List.forall_mem_cons.mpr ⟨List.mem_of_getElem? (i := 1350) rfl, List.forall_mem_cons.mpr ⟨List.mem_of_getElem? (i := 1358) rfl, List.forall_mem_cons.mpr ⟨List.mem_of_getElem? (i := 1366) rfl, List.forall_mem_cons.mpr ⟨List.mem_of_getElem? (i := 1370) rfl, List.forall_mem_cons.mpr ⟨List.mem_of_getElem? (i := 1374) rfl, List.forall_mem_cons.mpr ⟨List.mem_of_getElem? (i := 1378) rfl, List.forall_mem_cons.mpr ⟨List.mem_of_getElem? (i := 1388) rfl, List.forall_mem_cons.mpr ⟨List.mem_of_getElem? (i := 1423) rfl, List.forall_mem_cons.mpr ⟨List.mem_of_getElem? (i := 1440) rfl, List.forall_mem_cons.mpr ⟨List.mem_of_getElem? (i := 1444) rfl, List.forall_mem_cons.mpr ⟨List.mem_of_getElem? (i := 1448) rfl, List.forall_mem_cons.mpr ⟨List.mem_of_getElem? (i := 1454) rfl, fun _ h => absurd h List.not_mem_nil⟩⟩⟩⟩⟩⟩⟩⟩⟩⟩⟩⟩⟩⟩⟩⟩⟩⟩⟩⟩
def xMt_9 : List (xMT) := [
  (⟨RX11, "keep", "(I)I"⟩, prog_1_method_62_code, 2, (some .int), false, 2),
  (⟨RX11, "back", "(I)I"⟩, prog_1_method_63_code, 2, (some .int), false, 2),
  (⟨RX11, "isSlot", "(I)Z"⟩, prog_1_method_64_code, 1, (some .boolean), true, 1),
  (⟨RX11, "row", "(III)I"⟩, prog_1_method_65_code, 4, (some .int), false, 4),
  (⟨RX11, "write", "(IIJ)I"⟩, prog_1_method_66_code, 5, (some .int), false, 4),
  (⟨RX11, "cutTo", "(IJ)J"⟩, prog_1_method_67_code, 3, (some .long), true, 2),
  (⟨RX11, "paste", "(IIIII)I"⟩, prog_1_method_68_code, 6, (some .int), false, 6),
  (⟨RX11, "isPart", "(III)Z"⟩, prog_1_method_69_code, 3, (some .boolean), true, 3),
  (⟨RX12, "in", "(JJJ)Z"⟩, prog_14_method_2_code, 6, (some .boolean), true, 3),
  (⟨RX12, "holds", "(II)Z"⟩, prog_14_method_3_code, 2, (some .boolean), true, 2),
  (⟨RX12, "<init>", "()V"⟩, prog_14_method_4_code, 1, none, false, 1),
  (⟨RX12, "empties", "([I)V"⟩, prog_14_method_5_code, 2, none, true, 1),
  (⟨RX12, "keep", "(I)I"⟩, prog_14_method_6_code, 3, (some .int), false, 2),
  (⟨RX12, "back", "(I)I"⟩, prog_14_method_7_code, 3, (some .int), false, 2),
  (⟨RX12, "isPlace", "(I)Z"⟩, prog_14_method_8_code, 2, (some .boolean), false, 2),
  (⟨RX12, "ofPlace", "(II)I"⟩, prog_14_method_9_code, 3, (some .int), false, 3),
  (⟨RX12, "ofLeg", "(II)I"⟩, prog_14_method_10_code, 3, (some .int), false, 3),
  (⟨RX12, "feed", "(IIIII)I"⟩, prog_14_method_11_code, 7, (some .int), false, 6),
  (⟨RX12, "end", "(I)I"⟩, prog_14_method_12_code, 2, (some .int), false, 2),
  (⟨RX12, "see", "(I)I"⟩, prog_14_method_13_code, 2, (some .int), false, 2)]
set_option maxRecDepth 100000 in
theorem xMc_9 : ∀ m ∈ xMt_9, Cond.code m.1 m.2.1 m.2.2.1 m.2.2.2.1 ∈ tables_1 := List.forall_mem_cons.mpr ⟨List.mem_of_getElem? (i := 1458) rfl, List.forall_mem_cons.mpr ⟨List.mem_of_getElem? (i := 1486) rfl, List.forall_mem_cons.mpr ⟨List.mem_of_getElem? (i := 1361) rfl, List.forall_mem_cons.mpr ⟨List.mem_of_getElem? (i := 1490) rfl, List.forall_mem_cons.mpr ⟨List.mem_of_getElem? (i := 1497) rfl, List.forall_mem_cons.mpr ⟨List.mem_of_getElem? (i := 1500) rfl, List.forall_mem_cons.mpr ⟨List.mem_of_getElem? (i := 1504) rfl, List.forall_mem_cons.mpr ⟨List.mem_of_getElem? (i := 1507) rfl, List.forall_mem_cons.mpr ⟨List.mem_of_getElem? (i := 1689) rfl, List.forall_mem_cons.mpr ⟨List.mem_of_getElem? (i := 1759) rfl, List.forall_mem_cons.mpr ⟨List.mem_of_getElem? (i := 1513) rfl, List.forall_mem_cons.mpr ⟨List.mem_of_getElem? (i := 1518) rfl, List.forall_mem_cons.mpr ⟨List.mem_of_getElem? (i := 1685) rfl, List.forall_mem_cons.mpr ⟨List.mem_of_getElem? (i := 1693) rfl, List.forall_mem_cons.mpr ⟨List.mem_of_getElem? (i := 1868) rfl, List.forall_mem_cons.mpr ⟨List.mem_of_getElem? (i := 1830) rfl, List.forall_mem_cons.mpr ⟨List.mem_of_getElem? (i := 1851) rfl, List.forall_mem_cons.mpr ⟨List.mem_of_getElem? (i := 1697) rfl, List.forall_mem_cons.mpr ⟨List.mem_of_getElem? (i := 1701) rfl, List.forall_mem_cons.mpr ⟨List.mem_of_getElem? (i := 1717) rfl, fun _ h => absurd h List.not_mem_nil⟩⟩⟩⟩⟩⟩⟩⟩⟩⟩⟩⟩⟩⟩⟩⟩⟩⟩⟩⟩
def xMt_10 : List (xMT) := [
  (⟨RX12, "advance", "()V"⟩, prog_14_method_14_code, 2, none, false, 1),
  (⟨RX12, "good", "()Z"⟩, prog_14_method_15_code, 1, (some .boolean), false, 1),
  (⟨RX12, "errs", "(I)V"⟩, prog_14_method_16_code, 2, none, false, 2),
  (⟨RX12, "is", "(Ljava/lang/String;)Z"⟩, prog_14_method_17_code, 4, (some .boolean), false, 2),
  (⟨RX12, "takes", "(Ljava/lang/String;)Z"⟩, prog_14_method_18_code, 3, (some .boolean), false, 2),
  (⟨RX12, "needs", "(Ljava/lang/String;)V"⟩, prog_14_method_19_code, 2, none, false, 2),
  (⟨RX12, "number", "(II)I"⟩, prog_14_method_20_code, 4, (some .int), false, 3),
  (⟨RX12, "told", "(Ljava/lang/String;II)I"⟩, prog_14_method_21_code, 4, (some .int), false, 4),
  (⟨RX12, "fault", "(I)I"⟩, prog_14_method_22_code, 2, (some .int), false, 2),
  (⟨RX12, "place", "()I"⟩, prog_14_method_23_code, 1, (some .int), false, 1),
  (⟨RX12, "signed", "(I)I"⟩, prog_14_method_24_code, 3, (some .int), false, 2),
  (⟨RX12, "readPlace", "()V"⟩, prog_14_method_25_code, 2, none, false, 1),
  (⟨RX12, "readLeg", "()V"⟩, prog_14_method_26_code, 2, none, false, 1),
  (⟨RX12, "readLift", "()V"⟩, prog_14_method_27_code, 4, none, false, 1),
  (⟨RX12, "readPoint", "()V"⟩, prog_14_method_28_code, 2, none, false, 1),
  (⟨RX12, "readStart", "()V"⟩, prog_14_method_29_code, 3, none, false, 1),
  (⟨RX12, "ones", "(I)I"⟩, prog_14_method_30_code, 3, (some .int), true, 1),
  (⟨RX12, "onceHere", "()I"⟩, prog_14_method_31_code, 1, (some .int), false, 1),
  (⟨RX12, "readOnce", "(I)V"⟩, prog_14_method_32_code, 2, none, false, 2),
  (⟨RX12, "readLine", "()V"⟩, prog_14_method_33_code, 3, none, false, 1)]
set_option maxRecDepth 100000 in
theorem xMc_10 : ∀ m ∈ xMt_10, Cond.code m.1 m.2.1 m.2.2.1 m.2.2.2.1 ∈ tables_1 := List.forall_mem_cons.mpr ⟨List.mem_of_getElem? (i := 1713) rfl, List.forall_mem_cons.mpr ⟨List.mem_of_getElem? (i := 1727) rfl, List.forall_mem_cons.mpr ⟨List.mem_of_getElem? (i := 1756) rfl, List.forall_mem_cons.mpr ⟨List.mem_of_getElem? (i := 1740) rfl, List.forall_mem_cons.mpr ⟨List.mem_of_getElem? (i := 1783) rfl, List.forall_mem_cons.mpr ⟨List.mem_of_getElem? (i := 1779) rfl, List.forall_mem_cons.mpr ⟨List.mem_of_getElem? (i := 1770) rfl, List.forall_mem_cons.mpr ⟨List.mem_of_getElem? (i := 1775) rfl, List.forall_mem_cons.mpr ⟨List.mem_of_getElem? (i := 1705) rfl, List.forall_mem_cons.mpr ⟨List.mem_of_getElem? (i := 1793) rfl, List.forall_mem_cons.mpr ⟨List.mem_of_getElem? (i := 1811) rfl, List.forall_mem_cons.mpr ⟨List.mem_of_getElem? (i := 1799) rfl, List.forall_mem_cons.mpr ⟨List.mem_of_getElem? (i := 1805) rfl, List.forall_mem_cons.mpr ⟨List.mem_of_getElem? (i := 1818) rfl, List.forall_mem_cons.mpr ⟨List.mem_of_getElem? (i := 1826) rfl, List.forall_mem_cons.mpr ⟨List.mem_of_getElem? (i := 1789) rfl, List.forall_mem_cons.mpr ⟨List.mem_of_getElem? (i := 1762) rfl, List.forall_mem_cons.mpr ⟨List.mem_of_getElem? (i := 1735) rfl, List.forall_mem_cons.mpr ⟨List.mem_of_getElem? (i := 1766) rfl, List.forall_mem_cons.mpr ⟨List.mem_of_getElem? (i := 1731) rfl, fun _ h => absurd h List.not_mem_nil⟩⟩⟩⟩⟩⟩⟩⟩⟩⟩⟩⟩⟩⟩⟩⟩⟩⟩⟩⟩
def xMt_11 : List (xMT) := [
  (⟨RX12, "sky", "()I"⟩, prog_14_method_34_code, 2, (some .int), false, 1),
  (⟨RX12, "isLeg", "(I)Z"⟩, prog_14_method_35_code, 2, (some .boolean), false, 2),
  (⟨RX12, "isSpeed", "(I)Z"⟩, prog_14_method_36_code, 2, (some .boolean), false, 2),
  (⟨RX12, "periodsOf", "(IZIZ)I"⟩, prog_14_method_37_code, 7, (some .int), false, 5),
  (⟨RX12, "lossOf", "(III)I"⟩, prog_14_method_38_code, 4, (some .int), false, 4),
  (⟨RX12, "periods", "(IZIZ)I"⟩, prog_14_method_39_code, 5, (some .int), false, 5),
  (⟨RX12, "loss", "(IZIZ)I"⟩, prog_14_method_40_code, 6, (some .int), false, 5),
  (⟨RX12, "upOf", "(I)I"⟩, prog_14_method_41_code, 2, (some .int), false, 2),
  (⟨RX12, "climbOf", "(IZ)I"⟩, prog_14_method_42_code, 4, (some .int), false, 3),
  (⟨RX12, "climb", "(IZ)I"⟩, prog_14_method_43_code, 3, (some .int), false, 3),
  (⟨RX12, "bySign", "(IIZI)I"⟩, prog_14_method_44_code, 8, (some .int), false, 5),
  (⟨RX12, "chanceNow", "(I)I"⟩, prog_14_method_45_code, 6, (some .int), false, 2),
  (⟨RX12, "chanceOf", "(I)I"⟩, prog_14_method_46_code, 2, (some .int), false, 2),
  (⟨RX12, "chance", "(I)I"⟩, prog_14_method_47_code, 2, (some .int), false, 2),
  (⟨RX12, "sight", "(II)I"⟩, prog_14_method_48_code, 3, (some .int), false, 3),
  (⟨RX12, "unsee", "(I)I"⟩, prog_14_method_49_code, 2, (some .int), false, 2),
  (⟨RX12, "sign", "(IZ)I"⟩, prog_14_method_50_code, 3, (some .int), false, 3),
  (⟨RX12, "laysWays", "()V"⟩, prog_14_method_51_code, 3, none, false, 1),
  (⟨RX12, "laysFrom", "(II)V"⟩, prog_14_method_52_code, 9, none, false, 3),
  (⟨RX12, "comesAt", "(II)I"⟩, prog_14_method_53_code, 5, (some .int), false, 3)]
set_option maxRecDepth 100000 in
theorem xMc_11 : ∀ m ∈ xMt_11, Cond.code m.1 m.2.1 m.2.2.1 m.2.2.2.1 ∈ tables_1 := List.forall_mem_cons.mpr ⟨List.mem_of_getElem? (i := 1709) rfl, List.forall_mem_cons.mpr ⟨List.mem_of_getElem? (i := 1839) rfl, List.forall_mem_cons.mpr ⟨List.mem_of_getElem? (i := 1843) rfl, List.forall_mem_cons.mpr ⟨List.mem_of_getElem? (i := 1847) rfl, List.forall_mem_cons.mpr ⟨List.mem_of_getElem? (i := 1860) rfl, List.forall_mem_cons.mpr ⟨List.mem_of_getElem? (i := 1835) rfl, List.forall_mem_cons.mpr ⟨List.mem_of_getElem? (i := 1855) rfl, List.forall_mem_cons.mpr ⟨List.mem_of_getElem? (i := 1876) rfl, List.forall_mem_cons.mpr ⟨List.mem_of_getElem? (i := 1872) rfl, List.forall_mem_cons.mpr ⟨List.mem_of_getElem? (i := 1864) rfl, List.forall_mem_cons.mpr ⟨List.mem_of_getElem? (i := 1888) rfl, List.forall_mem_cons.mpr ⟨List.mem_of_getElem? (i := 1884) rfl, List.forall_mem_cons.mpr ⟨List.mem_of_getElem? (i := 2011) rfl, List.forall_mem_cons.mpr ⟨List.mem_of_getElem? (i := 1880) rfl, List.forall_mem_cons.mpr ⟨List.mem_of_getElem? (i := 1892) rfl, List.forall_mem_cons.mpr ⟨List.mem_of_getElem? (i := 1897) rfl, List.forall_mem_cons.mpr ⟨List.mem_of_getElem? (i := 1901) rfl, List.forall_mem_cons.mpr ⟨List.mem_of_getElem? (i := 1917) rfl, List.forall_mem_cons.mpr ⟨List.mem_of_getElem? (i := 1921) rfl, List.forall_mem_cons.mpr ⟨List.mem_of_getElem? (i := 1925) rfl, fun _ h => absurd h List.not_mem_nil⟩⟩⟩⟩⟩⟩⟩⟩⟩⟩⟩⟩⟩⟩⟩⟩⟩⟩⟩⟩
def xMt_12 : List (xMT) := [
  (⟨RX12, "glides", "(IIZ)V"⟩, prog_14_method_54_code, 10, none, false, 4),
  (⟨RX12, "isHeight", "(II)Z"⟩, prog_14_method_55_code, 3, (some .boolean), false, 3),
  (⟨RX12, "reach", "(IIIZ)I"⟩, prog_14_method_56_code, 5, (some .int), false, 5),
  (⟨RX12, "fieldsOf", "(IIZ)I"⟩, prog_14_method_57_code, 7, (some .int), false, 4),
  (⟨RX12, "fields", "(IIZ)I"⟩, prog_14_method_58_code, 4, (some .int), false, 4),
  (⟨RX12, "edge", "(IZ)I"⟩, prog_14_method_59_code, 4, (some .int), false, 3),
  (⟨RX12, "tour", "(IIZ)I"⟩, prog_14_method_60_code, 7, (some .int), false, 4),
  (⟨RX12, "street", "()I"⟩, prog_14_method_61_code, 6, (some .int), false, 1),
  (⟨RX12, "fastOf", "(I)I"⟩, prog_14_method_62_code, 6, (some .int), false, 2),
  (⟨RX12, "isClimb", "(I)Z"⟩, prog_14_method_63_code, 1, (some .boolean), true, 1),
  (⟨RX12, "fast", "(I)I"⟩, prog_14_method_64_code, 2, (some .int), false, 2),
  (⟨RX12, "average", "(I)I"⟩, prog_14_method_65_code, 3, (some .int), false, 2),
  (⟨RX12, "farthest", "()I"⟩, prog_14_method_66_code, 5, (some .int), false, 1),
  (⟨RX12, "forgets", "()V"⟩, prog_14_method_67_code, 2, none, false, 1),
  (⟨RX12, "state", "(IIIII)I"⟩, prog_14_method_68_code, 5, (some .int), true, 5),
  (⟨RX12, "landingOf", "(II)I"⟩, prog_14_method_69_code, 5, (some .int), false, 3),
  (⟨RX12, "higher", "(III)I"⟩, prog_14_method_70_code, 4, (some .int), false, 4),
  (⟨RX12, "mixed", "([IIIII)I"⟩, prog_14_method_71_code, 7, (some .int), false, 6),
  (⟨RX12, "isRuled", "(IIII)Z"⟩, prog_14_method_72_code, 5, (some .boolean), false, 5),
  (⟨RX12, "looks", "(IIIIII)V"⟩, prog_14_method_73_code, 16, none, false, 7)]
set_option maxRecDepth 100000 in
theorem xMc_12 : ∀ m ∈ xMt_12, Cond.code m.1 m.2.1 m.2.2.1 m.2.2.2.1 ∈ tables_1 := List.forall_mem_cons.mpr ⟨List.mem_of_getElem? (i := 1913) rfl, List.forall_mem_cons.mpr ⟨List.mem_of_getElem? (i := 1909) rfl, List.forall_mem_cons.mpr ⟨List.mem_of_getElem? (i := 1905) rfl, List.forall_mem_cons.mpr ⟨List.mem_of_getElem? (i := 1933) rfl, List.forall_mem_cons.mpr ⟨List.mem_of_getElem? (i := 1929) rfl, List.forall_mem_cons.mpr ⟨List.mem_of_getElem? (i := 1937) rfl, List.forall_mem_cons.mpr ⟨List.mem_of_getElem? (i := 1941) rfl, List.forall_mem_cons.mpr ⟨List.mem_of_getElem? (i := 1945) rfl, List.forall_mem_cons.mpr ⟨List.mem_of_getElem? (i := 1957) rfl, List.forall_mem_cons.mpr ⟨List.mem_of_getElem? (i := 1952) rfl, List.forall_mem_cons.mpr ⟨List.mem_of_getElem? (i := 1949) rfl, List.forall_mem_cons.mpr ⟨List.mem_of_getElem? (i := 1961) rfl, List.forall_mem_cons.mpr ⟨List.mem_of_getElem? (i := 1965) rfl, List.forall_mem_cons.mpr ⟨List.mem_of_getElem? (i := 1522) rfl, List.forall_mem_cons.mpr ⟨List.mem_of_getElem? (i := 1987) rfl, List.forall_mem_cons.mpr ⟨List.mem_of_getElem? (i := 1991) rfl, List.forall_mem_cons.mpr ⟨List.mem_of_getElem? (i := 1995) rfl, List.forall_mem_cons.mpr ⟨List.mem_of_getElem? (i := 2007) rfl, List.forall_mem_cons.mpr ⟨List.mem_of_getElem? (i := 2003) rfl, List.forall_mem_cons.mpr ⟨List.mem_of_getElem? (i := 1984) rfl, fun _ h => absurd h List.not_mem_nil⟩⟩⟩⟩⟩⟩⟩⟩⟩⟩⟩⟩⟩⟩⟩⟩⟩⟩⟩⟩
def xMt_13 : List (xMT) := [
  (⟨RX12, "takesOver", "(III)V"⟩, prog_14_method_74_code, 4, none, false, 4),
  (⟨RX12, "solves", "(I)V"⟩, prog_14_method_75_code, 7, none, false, 2),
  (⟨RX12, "isRule", "(I)Z"⟩, prog_14_method_76_code, 1, (some .boolean), true, 1),
  (⟨RX12, "isState", "(IIIZ)Z"⟩, prog_14_method_77_code, 5, (some .boolean), false, 5),
  (⟨RX12, "bit", "(Z)I"⟩, prog_14_method_78_code, 1, (some .int), true, 1),
  (⟨RX12, "worth", "(IIIIZZ)I"⟩, prog_14_method_79_code, 7, (some .int), false, 7),
  (⟨RX12, "deed", "(IIIIZZ)I"⟩, prog_14_method_80_code, 7, (some .int), false, 7),
  (⟨RX12, "home", "(IIIIZZ)I"⟩, prog_14_method_81_code, 7, (some .int), false, 7),
  (⟨RX12, "hasStart", "()Z"⟩, prog_14_method_82_code, 1, (some .boolean), false, 1),
  (⟨RX12, "startWet", "()I"⟩, prog_14_method_83_code, 1, (some .int), false, 1),
  (⟨RX12, "startOf", "(II)I"⟩, prog_14_method_84_code, 3, (some .int), false, 3),
  (⟨RX12, "start", "(I)I"⟩, prog_14_method_85_code, 2, (some .int), false, 2),
  (⟨RX12, "cost", "(I)I"⟩, prog_14_method_86_code, 3, (some .int), false, 2),
  (⟨RX12, "leaves", "(IIZI)I"⟩, prog_14_method_87_code, 6, (some .int), false, 5),
  (⟨RX12, "leave", "(IIZ)I"⟩, prog_14_method_88_code, 4, (some .int), false, 4),
  (⟨RX12, "on", "(IIZ)I"⟩, prog_14_method_89_code, 4, (some .int), false, 4),
  (⟨RX12, "last", "(II)I"⟩, prog_14_method_90_code, 4, (some .int), false, 3),
  (⟨RX12, "weak", "(III)I"⟩, prog_14_method_91_code, 5, (some .int), false, 4),
  (⟨RX12, "endsBehind", "(IIIIZ)I"⟩, prog_14_method_92_code, 9, (some .int), false, 6),
  (⟨RX12, "endOf", "(IIIIIZ)I"⟩, prog_14_method_93_code, 9, (some .int), false, 7)]
set_option maxRecDepth 100000 in
theorem xMc_13 : ∀ m ∈ xMt_13, Cond.code m.1 m.2.1 m.2.2.1 m.2.2.2.1 ∈ tables_1 := List.forall_mem_cons.mpr ⟨List.mem_of_getElem? (i := 1999) rfl, List.forall_mem_cons.mpr ⟨List.mem_of_getElem? (i := 1980) rfl, List.forall_mem_cons.mpr ⟨List.mem_of_getElem? (i := 1972) rfl, List.forall_mem_cons.mpr ⟨List.mem_of_getElem? (i := 1976) rfl, List.forall_mem_cons.mpr ⟨List.mem_of_getElem? (i := 2014) rfl, List.forall_mem_cons.mpr ⟨List.mem_of_getElem? (i := 1969) rfl, List.forall_mem_cons.mpr ⟨List.mem_of_getElem? (i := 2018) rfl, List.forall_mem_cons.mpr ⟨List.mem_of_getElem? (i := 2022) rfl, List.forall_mem_cons.mpr ⟨List.mem_of_getElem? (i := 2030) rfl, List.forall_mem_cons.mpr ⟨List.mem_of_getElem? (i := 2034) rfl, List.forall_mem_cons.mpr ⟨List.mem_of_getElem? (i := 2038) rfl, List.forall_mem_cons.mpr ⟨List.mem_of_getElem? (i := 2026) rfl, List.forall_mem_cons.mpr ⟨List.mem_of_getElem? (i := 2042) rfl, List.forall_mem_cons.mpr ⟨List.mem_of_getElem? (i := 2050) rfl, List.forall_mem_cons.mpr ⟨List.mem_of_getElem? (i := 2046) rfl, List.forall_mem_cons.mpr ⟨List.mem_of_getElem? (i := 2054) rfl, List.forall_mem_cons.mpr ⟨List.mem_of_getElem? (i := 2058) rfl, List.forall_mem_cons.mpr ⟨List.mem_of_getElem? (i := 2062) rfl, List.forall_mem_cons.mpr ⟨List.mem_of_getElem? (i := 2078) rfl, List.forall_mem_cons.mpr ⟨List.mem_of_getElem? (i := 2070) rfl, fun _ h => absurd h List.not_mem_nil⟩⟩⟩⟩⟩⟩⟩⟩⟩⟩⟩⟩⟩⟩⟩⟩⟩⟩⟩⟩
def xMt_14 : List (xMT) := [
  (⟨RX12, "wayOf", "(III)I"⟩, prog_14_method_94_code, 7, (some .int), false, 4),
  (⟨RX12, "ends", "(IZ)I"⟩, prog_14_method_95_code, 8, (some .int), false, 3),
  (⟨RX12, "startWith", "(II)I"⟩, prog_14_method_96_code, 4, (some .int), false, 3),
  (⟨RX12, "share", "(I)I"⟩, prog_14_method_97_code, 2, (some .int), false, 2),
  (⟨RX12, "known", "(I)I"⟩, prog_14_method_98_code, 5, (some .int), false, 2),
  (⟨RX12, "hawk", "(I)I"⟩, prog_14_method_99_code, 8, (some .int), false, 2),
  (⟨RX12, "water", "()I"⟩, prog_14_method_100_code, 1, (some .int), false, 1),
  (⟨RX12, "drop", "()I"⟩, prog_14_method_101_code, 6, (some .int), false, 1),
  (⟨RX12, "draw", "(I)I"⟩, prog_14_method_102_code, 2, (some .int), false, 2),
  (⟨RX12, "sets", "(I)V"⟩, prog_14_method_103_code, 2, none, false, 2),
  (⟨RX12, "does", "(J)Z"⟩, prog_14_method_104_code, 4, (some .boolean), false, 2),
  (⟨RX12, "flies", "(II)V"⟩, prog_14_method_105_code, 5, none, false, 3),
  (⟨RX12, "canFly", "(II)Z"⟩, prog_14_method_106_code, 3, (some .boolean), false, 3),
  (⟨RX12, "fly", "(II)I"⟩, prog_14_method_107_code, 4, (some .int), false, 3),
  (⟨RX12, "flown", "(II)I"⟩, prog_14_method_108_code, 3, (some .int), false, 3),
  (⟨RX12, "landed", "(I)I"⟩, prog_14_method_109_code, 2, (some .int), false, 2),
  (⟨RX12, "judge", "(II)I"⟩, prog_14_method_110_code, 6, (some .int), false, 3),
  (⟨RX12, "fliesAll", "(III)V"⟩, prog_14_method_111_code, 6, none, false, 4),
  (⟨RX12, "canFlyAll", "(III)Z"⟩, prog_14_method_112_code, 4, (some .boolean), false, 4),
  (⟨RX12, "flights", "(III)I"⟩, prog_14_method_113_code, 4, (some .int), false, 4)]
set_option maxRecDepth 100000 in
theorem xMc_14 : ∀ m ∈ xMt_14, Cond.code m.1 m.2.1 m.2.2.1 m.2.2.2.1 ∈ tables_1 := List.forall_mem_cons.mpr ⟨List.mem_of_getElem? (i := 2074) rfl, List.forall_mem_cons.mpr ⟨List.mem_of_getElem? (i := 2066) rfl, List.forall_mem_cons.mpr ⟨List.mem_of_getElem? (i := 2086) rfl, List.forall_mem_cons.mpr ⟨List.mem_of_getElem? (i := 2082) rfl, List.forall_mem_cons.mpr ⟨List.mem_of_getElem? (i := 2090) rfl, List.forall_mem_cons.mpr ⟨List.mem_of_getElem? (i := 2094) rfl, List.forall_mem_cons.mpr ⟨List.mem_of_getElem? (i := 2098) rfl, List.forall_mem_cons.mpr ⟨List.mem_of_getElem? (i := 2102) rfl, List.forall_mem_cons.mpr ⟨List.mem_of_getElem? (i := 2123) rfl, List.forall_mem_cons.mpr ⟨List.mem_of_getElem? (i := 2119) rfl, List.forall_mem_cons.mpr ⟨List.mem_of_getElem? (i := 2131) rfl, List.forall_mem_cons.mpr ⟨List.mem_of_getElem? (i := 2115) rfl, List.forall_mem_cons.mpr ⟨List.mem_of_getElem? (i := 2110) rfl, List.forall_mem_cons.mpr ⟨List.mem_of_getElem? (i := 2106) rfl, List.forall_mem_cons.mpr ⟨List.mem_of_getElem? (i := 2138) rfl, List.forall_mem_cons.mpr ⟨List.mem_of_getElem? (i := 2143) rfl, List.forall_mem_cons.mpr ⟨List.mem_of_getElem? (i := 2147) rfl, List.forall_mem_cons.mpr ⟨List.mem_of_getElem? (i := 2163) rfl, List.forall_mem_cons.mpr ⟨List.mem_of_getElem? (i := 2158) rfl, List.forall_mem_cons.mpr ⟨List.mem_of_getElem? (i := 2154) rfl, fun _ h => absurd h List.not_mem_nil⟩⟩⟩⟩⟩⟩⟩⟩⟩⟩⟩⟩⟩⟩⟩⟩⟩⟩⟩⟩
def xMt_15 : List (xMT) := [
  (⟨RX12, "sum", "(III)I"⟩, prog_14_method_114_code, 4, (some .int), false, 4),
  (⟨RX12, "spread", "(IIII)I"⟩, prog_14_method_115_code, 5, (some .int), false, 5),
  (⟨RX12, "spot", "(III)I"⟩, prog_14_method_116_code, 3, (some .int), true, 3),
  (⟨RX12, "reckons", "(I)V"⟩, prog_14_method_117_code, 8, none, false, 2),
  (⟨RX12, "isIn", "(IIIII)Z"⟩, prog_14_method_118_code, 8, (some .boolean), false, 6),
  (⟨RX12, "climbsIn", "(IIIII)Z"⟩, prog_14_method_119_code, 7, (some .boolean), false, 6),
  (⟨RX12, "goesIn", "(IIII)Z"⟩, prog_14_method_120_code, 6, (some .boolean), false, 5),
  (⟨RX12, "liftSet", "()I"⟩, prog_14_method_121_code, 3, (some .int), false, 1),
  (⟨RX12, "soonBy", "(I)I"⟩, prog_14_method_122_code, 3, (some .int), false, 2),
  (⟨RX12, "soon", "()I"⟩, prog_14_method_123_code, 1, (some .int), false, 1),
  (⟨RX12, "way", "(I)I"⟩, prog_14_method_124_code, 8, (some .int), false, 2),
  (⟨RX12, "soonest", "(I)I"⟩, prog_14_method_125_code, 2, (some .int), false, 2),
  (⟨RX12, "key", "()I"⟩, prog_14_method_126_code, 6, (some .int), false, 1),
  (⟨RX12, "count", "(I)I"⟩, prog_14_method_127_code, 4, (some .int), false, 2),
  (⟨RX12, "isSlot", "(I)Z"⟩, prog_14_method_128_code, 1, (some .boolean), true, 1),
  (⟨RX12, "cut", "(JI)J"⟩, prog_14_method_129_code, 4, (some .long), true, 2),
  (⟨RX12, "row", "(III)I"⟩, prog_14_method_130_code, 5, (some .int), false, 4),
  (⟨RX12, "write", "(IIJ)I"⟩, prog_14_method_131_code, 5, (some .int), false, 4),
  (⟨RX12, "paste", "(IIIII)I"⟩, prog_14_method_132_code, 7, (some .int), false, 6),
  (⟨"java/lang/Integer", "bitCount", "(I)I"⟩, prog_15_method_49_code, 1, (some .int), true, 1)]
set_option maxRecDepth 100000 in
theorem xMc_15 : ∀ m ∈ xMt_15, Cond.code m.1 m.2.1 m.2.2.1 m.2.2.2.1 ∈ tables_1 := List.forall_mem_cons.mpr ⟨List.mem_of_getElem? (i := 2167) rfl, List.forall_mem_cons.mpr ⟨List.mem_of_getElem? (i := 2171) rfl, List.forall_mem_cons.mpr ⟨List.mem_of_getElem? (i := 2190) rfl, List.forall_mem_cons.mpr ⟨List.mem_of_getElem? (i := 2187) rfl, List.forall_mem_cons.mpr ⟨List.mem_of_getElem? (i := 2194) rfl, List.forall_mem_cons.mpr ⟨List.mem_of_getElem? (i := 2198) rfl, List.forall_mem_cons.mpr ⟨List.mem_of_getElem? (i := 2202) rfl, List.forall_mem_cons.mpr ⟨List.mem_of_getElem? (i := 2179) rfl, List.forall_mem_cons.mpr ⟨List.mem_of_getElem? (i := 2183) rfl, List.forall_mem_cons.mpr ⟨List.mem_of_getElem? (i := 2175) rfl, List.forall_mem_cons.mpr ⟨List.mem_of_getElem? (i := 2206) rfl, List.forall_mem_cons.mpr ⟨List.mem_of_getElem? (i := 2210) rfl, List.forall_mem_cons.mpr ⟨List.mem_of_getElem? (i := 2214) rfl, List.forall_mem_cons.mpr ⟨List.mem_of_getElem? (i := 2218) rfl, List.forall_mem_cons.mpr ⟨List.mem_of_getElem? (i := 2150) rfl, List.forall_mem_cons.mpr ⟨List.mem_of_getElem? (i := 2229) rfl, List.forall_mem_cons.mpr ⟨List.mem_of_getElem? (i := 2222) rfl, List.forall_mem_cons.mpr ⟨List.mem_of_getElem? (i := 2226) rfl, List.forall_mem_cons.mpr ⟨List.mem_of_getElem? (i := 2233) rfl, List.forall_mem_cons.mpr ⟨List.mem_of_getElem? (i := 746) rfl, fun _ h => absurd h List.not_mem_nil⟩⟩⟩⟩⟩⟩⟩⟩⟩⟩⟩⟩⟩⟩⟩⟩⟩⟩⟩⟩
def xMt_16 : List (xMT) := [
  (⟨"java/util/Arrays", "fill", "([JJ)V"⟩, prog_21_method_101_code, 5, none, true, 2),
  (⟨"java/util/Arrays", "fill", "([II)V"⟩, prog_21_method_103_code, 4, none, true, 2),
  (⟨"java/util/Arrays", "fill", "([BB)V"⟩, prog_21_method_109_code, 4, none, true, 2)]
set_option maxRecDepth 100000 in
theorem xMc_16 : ∀ m ∈ xMt_16, Cond.code m.1 m.2.1 m.2.2.1 m.2.2.2.1 ∈ tables_1 := List.forall_mem_cons.mpr ⟨List.mem_of_getElem? (i := 1493) rfl, List.forall_mem_cons.mpr ⟨List.mem_of_getElem? (i := 527) rfl, List.forall_mem_cons.mpr ⟨List.mem_of_getElem? (i := 1199) rfl, fun _ h => absurd h List.not_mem_nil⟩⟩⟩
def xMt : List xMT := xMt_0 ++ (xMt_1 ++ (xMt_2 ++ (xMt_3 ++ (xMt_4 ++ (xMt_5 ++ (xMt_6 ++ (xMt_7 ++ (xMt_8 ++ (xMt_9 ++ (xMt_10 ++ (xMt_11 ++ (xMt_12 ++ (xMt_13 ++ (xMt_14 ++ (xMt_15 ++ (xMt_16))))))))))))))))
theorem xM_code : ∀ m ∈ xMt, Cond.code m.1 m.2.1 m.2.2.1 m.2.2.2.1 ∈ tables_1 := List.forall_mem_append.mpr ⟨xMc_0, List.forall_mem_append.mpr ⟨xMc_1, List.forall_mem_append.mpr ⟨xMc_2, List.forall_mem_append.mpr ⟨xMc_3, List.forall_mem_append.mpr ⟨xMc_4, List.forall_mem_append.mpr ⟨xMc_5, List.forall_mem_append.mpr ⟨xMc_6, List.forall_mem_append.mpr ⟨xMc_7, List.forall_mem_append.mpr ⟨xMc_8, List.forall_mem_append.mpr ⟨xMc_9, List.forall_mem_append.mpr ⟨xMc_10, List.forall_mem_append.mpr ⟨xMc_11, List.forall_mem_append.mpr ⟨xMc_12, List.forall_mem_append.mpr ⟨xMc_13, List.forall_mem_append.mpr ⟨xMc_14, List.forall_mem_append.mpr ⟨xMc_15, xMc_16⟩⟩⟩⟩⟩⟩⟩⟩⟩⟩⟩⟩⟩⟩⟩⟩
def xMd : xMT := (⟨"", "", ""⟩, ⟨#[]⟩, 0, none, false, 0)
def xM (j : Nat) : xMT := xMt.getD j xMd
theorem xM_init : ∀ m ∈ xMt.filter (fun _ => true), (fun m => Cond.initialized m.1.cls) m ∈ tables_1 := by
  have h : ∀ w ∈ (xMt.filter (fun _ => true)).map (fun m => Cond.initialized m.1.cls), w ∈ tables_1 := x_mem [10, 10, 10, 10, 10, 10, 10, 10, 10, 10, 10, 10, 10, 10, 10, 8, 8, 8, 8, 8, 8, 8, 8, 8, 8, 8, 8, 7, 7, 9, 9, 9, 9, 9, 9, 6, 6, 6, 6, 6, 20, 20, 20, 20, 20, 20, 20, 20, 20, 20, 20, 20, 20, 20, 20, 4, 4, 4, 4, 4, 4, 2, 2, 2, 2, 2, 2, 2, 2, 2, 2, 2, 2, 2, 2, 2, 2, 2, 2, 2, 2, 2, 2, 2, 11, 11, 11, 11, 11, 11, 11, 11, 11, 11, 5, 5, 5, 3, 3, 3, 3, 3, 3, 3, 3, 3, 3, 3, 3, 3, 3, 3, 3, 3, 3, 3, 3, 3, 3, 1, 1, 1, 1, 1, 1, 1, 1, 1, 1, 1, 1, 1, 1, 1, 1, 1, 1, 1, 1, 1, 1, 1, 1, 1, 1, 1, 1, 1, 1, 1, 1, 1, 1, 1, 1, 1, 1, 1, 1, 1, 1, 1, 1, 1, 1, 1, 1, 1, 1, 1, 1, 1, 1, 1, 1, 1, 1, 1, 1, 1, 1, 1, 1, 1, 1, 1, 1, 1, 14, 14, 14, 14, 14, 14, 14, 14, 14, 14, 14, 14, 14, 14, 14, 14, 14, 14, 14, 14, 14, 14, 14, 14, 14, 14, 14, 14, 14, 14, 14, 14, 14, 14, 14, 14, 14, 14, 14, 14, 14, 14, 14, 14, 14, 14, 14, 14, 14, 14, 14, 14, 14, 14, 14, 14, 14, 14, 14, 14, 14, 14, 14, 14, 14, 14, 14, 14, 14, 14, 14, 14, 14, 14, 14, 14, 14, 14, 14, 14, 14, 14, 14, 14, 14, 14, 14, 14, 14, 14, 14, 14, 14, 14, 14, 14, 14, 14, 14, 14, 14, 14, 14, 14, 14, 14, 14, 14, 14, 14, 14, 14, 14, 14, 14, 14, 14, 14, 14, 14, 14, 14, 14, 14, 14, 14, 14, 14, 14, 14, 14, 19, 12, 12, 12] (by decide +kernel)
  exact fun e he => h _ (List.mem_map.mpr ⟨e, he, rfl⟩)
theorem xM_stat : ∀ m ∈ xMt.filter (fun m => m.2.2.2.2.1), (fun m => Cond.static m.1) m ∈ tables_1 := by
  have h : ∀ w ∈ (xMt.filter (fun m => m.2.2.2.2.1)).map (fun m => Cond.static m.1), w ∈ tables_1 := x_mem [562, 1105, 659, 1403, 970, 997, 1125, 1316, 1360, 1499, 1506, 1688, 1758, 1517, 1761, 1951, 1986, 1971, 2013, 2189, 2149, 2228, 745, 1492, 526, 1198] (by decide +kernel)
  exact fun e he => h _ (List.mem_map.mpr ⟨e, he, rfl⟩)
theorem xM_inst : ∀ m ∈ xMt.filter (fun m => !m.2.2.2.2.1), (fun m => Cond.instanceMethod m.1) m ∈ tables_1 := by
  have h : ∀ w ∈ (xMt.filter (fun m => !m.2.2.2.2.1)).map (fun m => Cond.instanceMethod m.1), w ∈ tables_1 := x_mem [424, 1329, 1264, 1268, 1274, 1278, 1325, 1286, 1334, 1292, 1297, 1305, 1345, 1353, 1381, 345, 530, 534, 538, 1080, 559, 571, 921, 926, 954, 963, 173, 1469, 399, 1195, 1206, 1210, 1214, 1224, 124, 218, 1465, 888, 892, 1009, 1067, 1073, 1238, 1187, 1122, 1135, 1118, 1153, 1089, 1093, 1097, 1101, 1109, 83, 817, 1473, 974, 982, 990, 33, 651, 656, 663, 738, 752, 676, 775, 765, 769, 790, 784, 667, 671, 742, 756, 760, 780, 797, 812, 821, 827, 490, 1392, 1396, 1407, 1411, 1416, 1426, 1435, 1430, 105, 900, 1480, 73, 214, 1461, 808, 851, 855, 917, 1001, 833, 1149, 566, 958, 801, 546, 542, 550, 871, 875, 930, 884, 1084, 1113, 25, 633, 638, 641, 645, 842, 839, 846, 859, 865, 879, 895, 903, 907, 912, 934, 939, 945, 949, 966, 977, 985, 993, 1130, 1138, 1005, 1182, 1143, 1157, 1161, 1169, 1166, 1173, 1177, 1190, 1229, 1245, 1250, 1234, 1242, 1255, 1259, 1312, 1321, 1340, 1348, 1356, 1364, 1369, 1372, 1376, 1386, 1421, 1438, 1442, 1446, 1453, 1456, 1484, 1488, 1495, 1502, 1512, 1683, 1691, 1867, 1829, 1850, 1695, 1699, 1716, 1712, 1726, 1755, 1739, 1782, 1778, 1769, 1774, 1703, 1792, 1810, 1798, 1804, 1817, 1825, 1788, 1734, 1765, 1730, 1707, 1838, 1842, 1846, 1859, 1833, 1853, 1875, 1871, 1862, 1887, 1883, 2010, 1878, 1890, 1895, 1899, 1916, 1920, 1924, 1912, 1908, 1903, 1932, 1927, 1935, 1939, 1943, 1956, 1947, 1959, 1963, 1521, 1990, 1994, 2006, 2002, 1983, 1998, 1979, 1975, 1967, 2016, 2020, 2029, 2033, 2037, 2024, 2040, 2049, 2044, 2052, 2056, 2060, 2077, 2069, 2073, 2064, 2085, 2080, 2088, 2092, 2096, 2100, 2122, 2118, 2130, 2114, 2109, 2104, 2136, 2141, 2145, 2162, 2157, 2152, 2165, 2169, 2186, 2193, 2197, 2201, 2178, 2182, 2173, 2204, 2208, 2212, 2216, 2220, 2224, 2231] (by decide +kernel)
  exact fun e he => h _ (List.mem_map.mpr ⟨e, he, rfl⟩)
def xSel (m : MethodName) : Cond := Cond.selects m.cls m m
def xVpub : List Nat := [120, 122, 123, 124, 126, 127, 128, 129, 130, 131, 132, 133, 134, 135, 136, 137, 138, 139, 141, 142, 143, 144, 148, 149, 150, 151, 153, 154, 155, 156, 157, 158, 162, 163, 164, 167, 168, 169, 170, 172, 173, 174, 175, 176, 177, 178, 180, 181, 183, 184, 186, 192, 193, 197, 198, 208, 220, 225, 226, 229, 233, 234, 235, 236, 242, 244, 245, 246, 247, 250, 251, 252, 265, 266, 267, 271, 272, 274, 275, 276, 277, 281, 283, 284, 285, 286, 287, 293, 294, 295, 296, 299, 300, 301, 309, 310, 311, 312, 313, 316, 317, 318]
def xVpri : List Nat := [1, 2, 3, 4, 5, 6, 7, 8, 9, 10, 11, 12, 13, 14, 17, 18, 19, 20, 21, 22, 23, 24, 25, 26, 28, 30, 31, 32, 33, 34, 36, 37, 38, 39, 42, 43, 44, 45, 46, 47, 48, 49, 50, 51, 52, 53, 54, 56, 57, 58, 59, 60, 62, 63, 64, 66, 67, 68, 69, 70, 71, 72, 73, 74, 75, 76, 77, 78, 79, 80, 81, 82, 83, 86, 87, 88, 89, 90, 91, 92, 93, 95, 96, 98, 99, 100, 101, 102, 103, 104, 105, 106, 107, 108, 109, 110, 111, 112, 113, 114, 115, 116, 117, 118, 121, 125, 146, 147, 152, 159, 160, 166, 171, 179, 194, 195, 196, 199, 200, 201, 202, 203, 204, 205, 206, 207, 209, 210, 211, 212, 213, 214, 215, 217, 218, 219, 221, 222, 223, 224, 227, 228, 230, 231, 232, 237, 238, 239, 240, 241, 243, 248, 253, 255, 256, 257, 258, 259, 260, 261, 263, 268, 269, 270, 273, 278, 279, 280, 282, 288, 289, 290, 291, 292, 297, 298, 303, 304, 305, 306, 307, 308]
theorem xV_pub : ∀ j ∈ xVpub, xSel (xM j).1 ∈ lw_tbl := by
  have h : ∀ w ∈ xVpub.map (fun j => xSel (xM j).1), w ∈ tables_1 := x_mem [634, 642, 646, 843, 847, 860, 866, 880, 896, 904, 908, 913, 935, 940, 946, 950, 967, 978, 986, 994, 1131, 1139, 1144, 1158, 1162, 1170, 1174, 1178, 1191, 1230, 1246, 1251, 1256, 1260, 1313, 1341, 1349, 1357, 1365, 1373, 1377, 1387, 1422, 1439, 1443, 1447, 1457, 1485, 1489, 1496, 1503, 1684, 1692, 1696, 1700, 1704, 1708, 1834, 1854, 1863, 1879, 1891, 1896, 1900, 1904, 1928, 1936, 1940, 1944, 1948, 1960, 1964, 1968, 2017, 2021, 2025, 2041, 2045, 2053, 2057, 2061, 2065, 2081, 2089, 2093, 2097, 2101, 2105, 2137, 2142, 2146, 2153, 2166, 2170, 2174, 2205, 2209, 2213, 2217, 2221, 2225, 2232] (by decide +kernel)
  exact fun j hj => x_in (h _ (List.mem_map.mpr ⟨j, hj, rfl⟩))
theorem xV_pri : ∀ j ∈ xVpri, xSel (xM j).1 ∈ lw_tbl := by
  have h : ∀ w ∈ xVpri.map (fun j => (xM j).1), w ∈ lw_privs.map (fun q => q.1) := x_memA [94, 84, 85, 86, 87, 93, 88, 95, 89, 90, 91, 96, 97, 99, 2, 3, 4, 60, 8, 10, 47, 48, 50, 52, 111, 76, 77, 78, 79, 80, 1, 110, 43, 44, 58, 59, 82, 75, 69, 70, 68, 72, 62, 63, 64, 65, 66, 33, 112, 53, 54, 55, 12, 13, 14, 18, 20, 17, 25, 23, 24, 28, 27, 15, 16, 19, 21, 22, 26, 29, 32, 34, 35, 100, 101, 102, 103, 104, 105, 107, 106, 45, 113, 0, 109, 31, 38, 39, 46, 56, 36, 71, 9, 51, 30, 6, 5, 7, 40, 41, 49, 42, 61, 67, 11, 37, 57, 74, 73, 81, 83, 92, 98, 108, 140, 134, 138, 116, 115, 117, 121, 120, 126, 125, 123, 124, 128, 131, 129, 130, 132, 133, 127, 119, 122, 118, 135, 136, 137, 139, 142, 141, 144, 143, 160, 147, 148, 149, 146, 145, 150, 151, 114, 155, 156, 159, 158, 154, 157, 153, 152, 161, 162, 163, 164, 167, 165, 166, 168, 172, 171, 173, 170, 169, 175, 174, 178, 179, 180, 181, 176, 177] (by decide +kernel)
  intro j hj
  obtain ⟨q, hq, he⟩ := List.mem_map.mp (h _ (List.mem_map.mpr ⟨j, hj, rfl⟩))
  refine List.mem_append_left _ (List.mem_map.mpr ⟨q, hq, ?_⟩)
  rw [← he]
  rfl
def xMplain (m : xMT) : Bool := plainName m.1.cls && m.1.cls != "java/lang/invoke/MethodHandle" && m.1.cls != "java/lang/invoke/VarHandle" && (parseMethodDescriptor m.1.desc).map (fun d => d.parameters.length) == some (if m.2.2.2.2.1 then m.2.2.2.2.2 else m.2.2.2.2.2 - 1) && Nat.ble m.2.2.1 22
theorem xM_plain : xMt.all xMplain = true := by decide +kernel
def xMl : List (Nat × Nat × Nat) := [
  (0, 39, 3), (0, 85, 4), (0, 88, 5), (0, 102, 1), (0, 106, 7), (0, 110, 8), (0, 114, 9), (0, 150, 10), (0, 157, 11), (1, 48, 18), (1, 52, 21), (1, 78, 19),
  (1, 106, 16), (1, 115, 22), (1, 125, 321), (1, 131, 24), (1, 143, 319), (1, 148, 26), (3, 27, 322), (3, 60, 31), (3, 67, 32), (3, 90, 33), (3, 121, 34), (4, 34, 39),
  (5, 79, 43), (5, 112, 50), (5, 122, 41), (5, 126, 51), (5, 141, 52), (5, 144, 54), (5, 155, 53), (5, 171, 48), (5, 174, 46), (7, 48, 63), (7, 55, 74), (7, 85, 65),
  (7, 89, 64), (7, 103, 68), (7, 107, 67), (7, 110, 66), (7, 114, 71), (7, 122, 75), (7, 128, 76), (7, 132, 77), (7, 171, 319), (7, 176, 78), (7, 179, 79), (7, 182, 80),
  (7, 185, 81), (7, 188, 73), (7, 198, 82), (7, 201, 83), (7, 205, 70), (7, 214, 69), (7, 225, 72), (8, 24, 87), (8, 29, 321), (8, 48, 85), (8, 67, 88), (8, 94, 89),
  (8, 117, 90), (8, 133, 93), (8, 140, 92), (10, 39, 98), (10, 107, 100), (10, 127, 110), (10, 134, 111), (10, 147, 114), (11, 93, 321), (11, 106, 121), (11, 121, 125), (11, 210, 140),
  (11, 230, 145), (11, 237, 146), (11, 273, 152), (11, 289, 147), (11, 309, 159), (11, 312, 160), (11, 315, 161), (11, 354, 165), (11, 357, 166), (11, 373, 182), (11, 379, 171), (11, 422, 319),
  (11, 431, 179), (11, 437, 320), (11, 440, 185), (11, 444, 187), (12, 108, 191), (12, 112, 253), (12, 117, 188), (12, 130, 199), (12, 161, 201), (12, 175, 203), (12, 179, 200), (12, 182, 204),
  (12, 185, 202), (12, 189, 205), (12, 193, 206), (12, 200, 207), (12, 212, 209), (12, 219, 210), (12, 232, 189), (12, 255, 215), (12, 258, 217), (12, 270, 216), (12, 273, 218), (12, 276, 211),
  (12, 279, 212), (12, 282, 213), (12, 287, 214), (12, 290, 219), (12, 293, 195), (12, 299, 196), (12, 302, 221), (12, 306, 222), (12, 309, 223), (12, 314, 224), (12, 321, 227), (12, 324, 194),
  (12, 327, 228), (12, 331, 230), (12, 338, 231), (12, 346, 238), (12, 350, 237), (12, 353, 239), (12, 356, 241), (12, 359, 240), (12, 363, 243), (12, 369, 249), (12, 372, 248), (12, 375, 232),
  (12, 378, 254), (12, 382, 255), (12, 385, 256), (12, 388, 260), (12, 392, 258), (12, 396, 257), (12, 400, 259), (12, 404, 262), (12, 407, 263), (12, 411, 261), (12, 414, 264), (12, 418, 268),
  (12, 421, 269), (12, 424, 270), (12, 427, 273), (12, 430, 280), (12, 433, 278), (12, 437, 279), (12, 441, 282), (12, 468, 288), (12, 483, 289), (12, 486, 290), (12, 492, 292), (12, 495, 291),
  (12, 503, 314), (12, 514, 298), (12, 518, 297), (12, 524, 302), (12, 527, 304), (12, 531, 305), (12, 534, 306), (12, 537, 303), (12, 540, 307), (12, 543, 308), (12, 546, 315), (13, 9, 119),
  (13, 12, 190), (13, 13, 120), (13, 17, 197), (13, 18, 122), (13, 22, 198), (13, 23, 123), (13, 27, 220), (13, 28, 124), (13, 31, 208), (13, 32, 126), (13, 36, 225), (13, 37, 127),
  (13, 40, 226), (13, 41, 128), (13, 45, 229), (13, 46, 129), (13, 49, 233), (13, 50, 130), (13, 54, 234), (13, 55, 131), (13, 58, 235), (13, 59, 132), (13, 62, 236), (13, 63, 133),
  (13, 67, 242), (13, 68, 134), (13, 72, 244), (13, 73, 135), (13, 76, 245), (13, 77, 138), (13, 80, 250), (13, 81, 139), (13, 84, 251), (13, 85, 141), (13, 88, 252), (13, 89, 142),
  (13, 93, 265), (13, 94, 143), (13, 97, 266), (13, 98, 144), (13, 101, 267), (13, 102, 148), (13, 105, 271), (13, 106, 149), (13, 109, 272), (13, 110, 150), (13, 113, 274), (13, 114, 151),
  (13, 117, 275), (13, 118, 153), (13, 121, 276), (13, 122, 154), (13, 126, 277), (13, 127, 155), (13, 130, 281), (13, 131, 136), (13, 134, 246), (13, 135, 137), (13, 138, 247), (13, 139, 156),
  (13, 142, 283), (13, 143, 157), (13, 146, 284), (13, 147, 158), (13, 150, 285), (13, 151, 162), (13, 154, 286), (13, 155, 163), (13, 158, 287), (13, 159, 164), (13, 162, 293), (13, 163, 167),
  (13, 166, 294), (13, 167, 168), (13, 170, 295), (13, 171, 169), (13, 174, 296), (13, 175, 170), (13, 178, 299), (13, 179, 172), (13, 182, 300), (13, 183, 173), (13, 187, 301), (13, 188, 174),
  (13, 191, 309), (13, 192, 175), (13, 195, 310), (13, 196, 176), (13, 199, 311), (13, 200, 177), (13, 203, 312), (13, 204, 178), (13, 207, 313), (13, 208, 180), (13, 211, 192), (13, 212, 181),
  (13, 215, 193), (13, 216, 183), (13, 219, 316), (13, 222, 184), (13, 226, 317), (13, 227, 186), (13, 230, 318)]
def xMn : List (Nat × Nat × Nat) := [
  (0, 53, 116), (0, 75, 106), (0, 123, 118), (0, 136, 107), (0, 140, 41), (0, 144, 47), (0, 161, 113), (0, 164, 115), (0, 170, 101), (0, 173, 102), (0, 188, 111), (0, 192, 112),
  (1, 82, 111), (1, 85, 112), (1, 110, 107), (1, 135, 115), (1, 139, 108), (3, 44, 106), (3, 56, 41), (3, 94, 47), (3, 101, 118), (3, 114, 113), (3, 117, 115), (3, 137, 112),
  (3, 141, 111), (5, 66, 116), (5, 70, 113), (5, 92, 16), (5, 106, 20), (5, 109, 117), (5, 148, 161), (5, 162, 118), (5, 168, 115), (7, 58, 105), (7, 252, 109), (7, 261, 100),
  (7, 280, 56), (8, 78, 106), (8, 91, 113), (8, 106, 16), (8, 136, 115), (10, 25, 55), (10, 32, 94), (10, 37, 35), (10, 38, 27), (10, 42, 36), (10, 94, 37), (10, 98, 28),
  (10, 101, 57), (10, 104, 96), (10, 168, 38), (10, 171, 58), (11, 15, 61), (11, 28, 97), (11, 46, 15), (11, 59, 29), (11, 66, 0), (11, 76, 84), (11, 99, 17), (11, 110, 98),
  (11, 113, 62), (11, 131, 101), (11, 135, 102), (11, 138, 111), (11, 143, 112), (11, 146, 100), (11, 149, 113), (11, 153, 116), (11, 166, 95), (11, 179, 39), (11, 183, 103), (11, 186, 23),
  (11, 196, 107), (11, 202, 16), (11, 206, 25), (11, 217, 58), (11, 222, 59), (11, 226, 60), (11, 233, 104), (11, 241, 50), (11, 244, 41), (11, 248, 46), (11, 251, 47), (11, 254, 48),
  (11, 257, 40), (11, 258, 42), (11, 262, 105), (11, 266, 106), (11, 269, 49), (11, 293, 114), (11, 296, 45), (11, 299, 30), (11, 325, 38), (11, 331, 44), (11, 337, 2), (11, 343, 7),
  (11, 350, 9), (11, 363, 6), (11, 367, 12), (11, 370, 13), (11, 376, 1), (11, 389, 14), (11, 400, 108), (11, 403, 86), (11, 407, 91), (11, 419, 109), (11, 434, 99)]
def xMlC (e : Nat × Nat × Nat) : Cond := Cond.methodLink (xo e.1) e.2.1 (xM e.2.2).1
def xMnC (e : Nat × Nat × Nat) : Cond := Cond.methodLinkNest (xo e.1) e.2.1 (xM e.2.2).1 "LastCloud"
theorem xMl_ok : ∀ e ∈ xMl, xMlC e ∈ tables_1 := by
  have h : ∀ w ∈ xMl.map xMlC, w ∈ tables_1 := x_mem [1266, 1272, 1276, 1327, 1331, 1332, 1336, 1295, 1303, 532, 557, 536, 561, 569, 923, 924, 960, 961, 1197, 1204, 1208, 1212, 1222, 890, 1071, 1155, 1104, 1091, 1095, 1107, 1099, 1116, 1120, 654, 665, 658, 661, 674, 750, 736, 767, 669, 740, 754, 744, 758, 778, 795, 810, 782, 819, 825, 763, 773, 788, 1394, 1401, 1402, 1405, 1409, 1414, 1428, 1433, 212, 835, 544, 552, 873, 525, 636, 837, 969, 996, 1003, 1164, 1180, 1232, 1240, 1248, 1315, 1319, 1359, 1367, 1450, 1451, 1491, 1498, 1505, 1516, 1519, 1687, 1714, 1724, 1737, 1710, 1780, 1753, 1776, 1767, 1772, 1790, 1808, 1757, 1786, 1732, 1760, 1763, 1796, 1802, 1815, 1823, 1728, 1827, 1848, 1836, 1840, 1844, 1857, 1873, 1865, 1869, 1885, 1881, 1918, 1914, 1922, 1906, 1910, 1930, 1950, 1954, 2008, 1985, 1988, 1992, 1996, 2000, 2004, 1981, 1970, 1973, 1977, 2012, 2027, 2031, 2035, 2047, 2071, 2075, 2067, 2083, 2120, 2116, 2128, 2107, 2112, 2148, 2155, 2160, 2188, 2191, 2195, 2199, 2184, 2176, 2180, 2227, 24, 1511, 632, 1694, 640, 1698, 644, 1706, 841, 1702, 845, 1832, 858, 1852, 864, 1861, 878, 1877, 894, 1889, 902, 1894, 906, 1898, 911, 1902, 933, 1926, 938, 1934, 965, 1946, 976, 1958, 984, 1962, 992, 1966, 1129, 2015, 1137, 2019, 1142, 2023, 1156, 2039, 1160, 2043, 1168, 2051, 1172, 2055, 1176, 2059, 1189, 2063, 944, 1938, 948, 1942, 1228, 2079, 1244, 2087, 1249, 2091, 1254, 2095, 1258, 2099, 1311, 2103, 1339, 2135, 1347, 2140, 1355, 2144, 1363, 2151, 1371, 2164, 1375, 2168, 1385, 2172, 1420, 2203, 1437, 2207, 1441, 2211, 1445, 2215, 1455, 1682, 1483, 1690, 1487, 2219, 1494, 2223, 1501, 2230] (by decide +kernel)
  exact fun e he => h _ (List.mem_map.mpr ⟨e, he, rfl⟩)
theorem xMn_ok : ∀ e ∈ xMn, xMnC e ∈ tables_1 := by
  have h : ∀ w ∈ xMn.map xMnC, w ∈ tables_1 := x_mem [1270, 1271, 1337, 1338, 1288, 1289, 1299, 1300, 1307, 1308, 1309, 1310, 540, 548, 564, 928, 956, 1202, 1203, 1216, 1217, 1220, 1221, 1226, 1227, 1069, 1070, 1075, 1078, 1082, 1124, 1111, 1115, 831, 799, 806, 815, 1398, 1399, 1413, 1432, 82, 104, 123, 172, 216, 1463, 1467, 1471, 1478, 886, 1086, 32, 72, 344, 398, 423, 489, 528, 648, 649, 849, 853, 857, 863, 868, 869, 882, 898, 910, 915, 919, 937, 942, 952, 972, 980, 988, 999, 1087, 1127, 1128, 1133, 1141, 1008, 1065, 1146, 1147, 1151, 1184, 1185, 1193, 1253, 1236, 1262, 1284, 1290, 1323, 1343, 1351, 1362, 1379, 1389, 1390, 1424, 1449, 1459] (by decide +kernel)
  exact fun e he => h _ (List.mem_map.mpr ⟨e, he, rfl⟩)
def xBn : List MethodName := [⟨"java/lang/Object", "<init>", "()V"⟩, ⟨"java/lang/Math", "max", "(II)I"⟩, ⟨"java/lang/Math", "min", "(II)I"⟩, ⟨"java/lang/System", "arraycopy", "(Ljava/lang/Object;ILjava/lang/Object;II)V"⟩, ⟨"java/lang/String", "length", "()I"⟩, ⟨"java/lang/String", "charAt", "(I)C"⟩]
def xBl : List (Nat × Nat × Nat) := [
  (0, 3, 0), (1, 3, 0), (1, 100, 1), (1, 122, 2), (2, 1, 0), (3, 3, 0), (3, 105, 2), (3, 111, 1), (4, 3, 0), (5, 3, 0), (5, 100, 1), (5, 159, 2),
  (6, 3, 0), (6, 22, 3), (7, 3, 0), (7, 42, 2), (7, 82, 1), (7, 93, 4), (7, 99, 5), (8, 3, 0), (8, 97, 2), (8, 103, 1), (9, 3, 0), (9, 22, 3),
  (10, 3, 0), (10, 151, 1), (10, 157, 2), (11, 3, 0), (11, 392, 2), (11, 397, 1), (11, 447, 3), (12, 7, 0), (12, 152, 2), (12, 165, 4), (12, 171, 5), (12, 296, 1)]
def xBlC (e : Nat × Nat × Nat) : Cond := Cond.methodLink (xo e.1) e.2.1 (xBn.getD e.2.2 ⟨"", "", ""⟩)
theorem xBl_ok : ∀ e ∈ xBl, xBlC e ∈ tables_1 := by
  have h : ∀ w ∈ xBl.map xBlC, w ∈ tables_1 := x_mem [426, 347, 554, 573, 175, 401, 1218, 1219, 126, 1011, 1077, 1103, 85, 1475, 35, 653, 836, 678, 688, 492, 1419, 1418, 107, 1482, 75, 877, 932, 27, 1383, 1384, 1508, 1514, 1723, 1741, 1742, 1831] (by decide +kernel)
  exact fun e he => h _ (List.mem_map.mpr ⟨e, he, rfl⟩)
def xKi : List (Nat × Nat × Int) := [
  (1, 114, 1000000), (3, 11, 46848), (3, 35, 2147483647), (3, 40, -2147483648), (5, 11, 46848), (5, 95, 1000000), (7, 113, 1000000), (8, 28, 1000000), (10, 137, -2000000000), (11, 142, -2000000000), (11, 205, 1000000), (11, 362, 2000000000),
  (12, 58, 93696), (12, 151, 99999), (12, 313, -2000000000), (14, 265, 1431655765), (14, 266, 858993459), (14, 267, 252645135)]
def xKiC (e : Nat × Nat × Int) : Cond := Cond.constant (xo e.1) e.2.1 (Int32.ofInt e.2.2)
theorem xKi_ok : ∀ e ∈ xKi, xKiC e ∈ tables_1 := by
  have h : ∀ w ∈ xKi.map xKiC, w ∈ tables_1 := x_mem [568, 402, 1200, 1201, 1012, 1076, 771, 1400, 553, 862, 943, 1318, 1515, 1722, 1856, 747, 748, 749] (by decide +kernel)
  exact fun e he => h _ (List.mem_map.mpr ⟨e, he, rfl⟩)
def xKl : List (Nat × Nat × Int) := [
  (0, 94, 1103515245), (0, 96, 12345), (0, 98, 2147483648), (0, 100, 65536), (0, 148, -1), (0, 153, 100), (0, 155, 200), (12, 115, 2), (12, 140, 97), (12, 142, 122), (12, 144, 48), (12, 146, 57),
  (12, 341, 3), (12, 367, 2000), (12, 444, 1103515245), (12, 450, 12345), (12, 452, 2147483648), (12, 454, 65536), (12, 477, -1), (12, 479, 100), (12, 481, 199), (12, 490, 2000000000), (12, 501, 4), (12, 512, 40),
  (13, 220, 4294967295)]
def xKlC (e : Nat × Nat × Int) : Cond := Cond.constantLong (xo e.1) e.2.1 (Int64.ofInt e.2.2)
theorem xKl_ok : ∀ e ∈ xKl, xKlC e ∈ tables_1 := by
  have h : ∀ w ∈ xKl.map xKlC, w ∈ tables_1 := x_mem [1280, 1281, 1282, 1283, 1294, 1301, 1302, 1686, 1718, 1719, 1720, 1721, 1893, 1953, 2124, 2125, 2126, 2127, 2132, 2133, 2134, 2111, 2139, 2159, 2234] (by decide +kernel)
  exact fun e he => h _ (List.mem_map.mpr ⟨e, he, rfl⟩)
def xKs : List (Nat × Nat × Nat) := [
  (7, 117, 16), (7, 135, 0), (7, 137, 1), (7, 139, 2), (7, 141, 3), (7, 143, 4), (7, 145, 5), (7, 147, 6), (7, 149, 7), (7, 150, 8), (7, 152, 9), (7, 154, 10),
  (7, 204, 11), (7, 209, 12), (7, 217, 13), (7, 221, 14), (7, 223, 15), (7, 228, 17), (7, 230, 18), (7, 255, 19), (7, 257, 20), (7, 259, 21), (7, 278, 22), (7, 287, 23),
  (7, 292, 24), (7, 297, 25), (7, 298, 26), (12, 196, 16), (12, 198, 11), (12, 204, 13), (12, 206, 12), (12, 215, 14), (12, 217, 15), (12, 222, 17), (12, 224, 18), (12, 226, 19),
  (12, 228, 20), (12, 230, 21), (12, 236, 25), (12, 237, 26), (12, 239, 5), (12, 241, 6), (12, 243, 7), (12, 245, 8), (12, 247, 9), (12, 249, 10), (12, 251, 23), (12, 253, 24),
  (12, 261, 0), (12, 262, 1), (12, 264, 2), (12, 266, 3), (12, 268, 4), (12, 285, 22)]
def xKsC (e : Nat × Nat × Nat) : Cond := Cond.stringRef (xo e.1) e.2.1 (xStr.getD e.2.2 "")
theorem xKs_ok : ∀ e ∈ xKs, xKsC e ∈ tables_1 := by
  have h : ∀ w ∈ xKs.map xKsC, w ∈ tables_1 := x_mem [792, 673, 726, 727, 728, 729, 730, 731, 732, 733, 734, 735, 762, 772, 777, 786, 787, 793, 794, 803, 804, 805, 814, 823, 824, 829, 830, 1812, 1800, 1801, 1771, 1806, 1807, 1813, 1814, 1819, 1820, 1821, 1794, 1795, 1736, 1743, 1744, 1745, 1746, 1747, 1784, 1785, 1748, 1749, 1750, 1751, 1752, 1822] (by decide +kernel)
  exact fun e he => h _ (List.mem_map.mpr ⟨e, he, rfl⟩)
def xKc : List (Nat × Nat × Nat) := [
  (10, 9, 4), (10, 17, 2), (10, 23, 6), (10, 30, 9), (11, 13, 7), (11, 26, 10), (11, 44, 1), (11, 51, 5), (11, 57, 3), (11, 64, 0), (11, 74, 8), (13, 7, 11),
  (13, 10, 12)]
def xKcC (e : Nat × Nat × Nat) : Cond := Cond.classLink (xo e.1) e.2.1 (xCl e.2.2).1
theorem xKc_ok : ∀ e ∈ xKc, xKcC e ∈ tables_1 := by
  have h : ∀ w ∈ xKc.map xKcC, w ∈ tables_1 := x_mem [76, 78, 80, 102, 30, 70, 342, 394, 396, 421, 487, 22, 1509] (by decide +kernel)
  exact fun e he => h _ (List.mem_map.mpr ⟨e, he, rfl⟩)
theorem xKm_81 : Cond.classLink (xo 11) 81 "[[J" ∈ tables_1 := List.mem_of_getElem? (i := 523) (by decide +kernel)
theorem xIns_0 : Cond.instantiable RX0 18 ∈ tables_1 := List.mem_of_getElem? (i := 422) (by decide +kernel)
theorem xIni_0 : Cond.initialized RX0 ∈ tables_1 := List.mem_of_getElem? (i := 10) (by decide +kernel)
theorem xIns_1 : Cond.instantiable RX1 10 ∈ tables_1 := List.mem_of_getElem? (i := 343) (by decide +kernel)
theorem xIni_1 : Cond.initialized RX1 ∈ tables_1 := List.mem_of_getElem? (i := 8) (by decide +kernel)
theorem xIns_2 : Cond.instantiable RX2 6 ∈ tables_1 := List.mem_of_getElem? (i := 171) (by decide +kernel)
theorem xIni_2 : Cond.initialized RX2 ∈ tables_1 := List.mem_of_getElem? (i := 7) (by decide +kernel)
theorem xIns_3 : Cond.instantiable RX3 5 ∈ tables_1 := List.mem_of_getElem? (i := 397) (by decide +kernel)
theorem xIni_3 : Cond.initialized RX3 ∈ tables_1 := List.mem_of_getElem? (i := 9) (by decide +kernel)
theorem xIns_4 : Cond.instantiable RX4 7 ∈ tables_1 := List.mem_of_getElem? (i := 122) (by decide +kernel)
theorem xIni_4 : Cond.initialized RX4 ∈ tables_1 := List.mem_of_getElem? (i := 6) (by decide +kernel)
theorem xIns_5 : Cond.instantiable RX5 15 ∈ tables_1 := List.mem_of_getElem? (i := 1007) (by decide +kernel)
theorem xIni_5 : Cond.initialized RX5 ∈ tables_1 := List.mem_of_getElem? (i := 20) (by decide +kernel)
theorem xIns_6 : Cond.instantiable RX6 3 ∈ tables_1 := List.mem_of_getElem? (i := 81) (by decide +kernel)
theorem xIni_6 : Cond.initialized RX6 ∈ tables_1 := List.mem_of_getElem? (i := 4) (by decide +kernel)
theorem xIns_7 : Cond.instantiable RX7 10 ∈ tables_1 := List.mem_of_getElem? (i := 31) (by decide +kernel)
theorem xIni_7 : Cond.initialized RX7 ∈ tables_1 := List.mem_of_getElem? (i := 2) (by decide +kernel)
theorem xIns_8 : Cond.instantiable RX8 9 ∈ tables_1 := List.mem_of_getElem? (i := 488) (by decide +kernel)
theorem xIni_8 : Cond.initialized RX8 ∈ tables_1 := List.mem_of_getElem? (i := 11) (by decide +kernel)
theorem xIns_9 : Cond.instantiable RX9 3 ∈ tables_1 := List.mem_of_getElem? (i := 103) (by decide +kernel)
theorem xIni_9 : Cond.initialized RX9 ∈ tables_1 := List.mem_of_getElem? (i := 5) (by decide +kernel)
theorem xIns_10 : Cond.instantiable RX10 19 ∈ tables_1 := List.mem_of_getElem? (i := 71) (by decide +kernel)
theorem xIni_10 : Cond.initialized RX10 ∈ tables_1 := List.mem_of_getElem? (i := 3) (by decide +kernel)
theorem xIns_11 : Cond.instantiable RX11 18 ∈ tables_1 := List.mem_of_getElem? (i := 23) (by decide +kernel)
theorem xIni_11 : Cond.initialized RX11 ∈ tables_1 := List.mem_of_getElem? (i := 1) (by decide +kernel)
theorem xIns_12 : Cond.instantiable RX12 53 ∈ tables_1 := List.mem_of_getElem? (i := 1510) (by decide +kernel)
theorem xIni_12 : Cond.initialized RX12 ∈ tables_1 := List.mem_of_getElem? (i := 14) (by decide +kernel)
end
section
/-! a machine over plain numbers: memory = what every place of every object holds, each object's kind (0 .. 12 a class of vwCl, 20 int[], 21 byte[], 22 boolean[], 23 long[], 24 long[][], 25 .. 28 arrays of Place, Leg, Sky, Plan), each array's length, the next object's number, the slots so far -/
abbrev xV : Type := Nat × Int
abbrev xD : Type := Int → Int → Int
abbrev xH : Type := xD × (Int → Int) × (Int → Int) × Nat × Nat
abbrev xS : Type := Nat × List xV × List xV × xH
abbrev xO : Type := xS ⊕ (Prop × xS) ⊕ (ClassFile.Cond × Int × Int × xS × xS) ⊕ (Prop × Nat × List xV × xH × (Int → xH → xS)) ⊕ (Prop × Int × xH) ⊕ (Int × Int × List xS × xS)
def w32 (x : Int) : Int := x.bmod 4294967296
def w64 (x : Int) : Int := x.bmod 18446744073709551616
def w16 (x : Int) : Int := x.bmod 65536
def w8 (x : Int) : Int := x.bmod 256
def xShl (x y : Int) : Int := (Int32.ofInt x <<< (Int32.ofInt y &&& 31)).toInt
def xShr (x y : Int) : Int := (Int32.ofInt x >>> (Int32.ofInt y &&& 31)).toInt
def xUsh (x y : Int) : Int := (((Int32.ofInt x).toUInt32 >>> ((Int32.ofInt y).toUInt32 &&& Int32.toUInt32 31)).toInt32).toInt
def xAnd (x y : Int) : Int := (Int32.ofInt x &&& Int32.ofInt y).toInt
def xOr (x y : Int) : Int := (Int32.ofInt x ||| Int32.ofInt y).toInt
def xXor (x y : Int) : Int := (Int32.ofInt x ^^^ Int32.ofInt y).toInt
def xLand (x y : Int) : Int := (Int64.ofInt x &&& Int64.ofInt y).toInt
def xLor (x y : Int) : Int := (Int64.ofInt x ||| Int64.ofInt y).toInt
def xLshl (x y : Int) : Int := (Int64.ofInt x <<< ((Int32.ofInt y).toInt64 &&& 63)).toInt
def xLshr (x y : Int) : Int := (Int64.ofInt x >>> ((Int32.ofInt y).toInt64 &&& 63)).toInt
def xLcmp (x y : Int) : Int := if x < y then -1 else if x = y then 0 else 1
def xUp (D : xD) (a i v : Int) : xD := fun b j => if b = a ∧ j = i then v else D b j
def xU1 (f : Int → Int) (a v : Int) : Int → Int := fun b => if b = a then v else f b
def xCpy (D : xD) (a sp b dp n : Int) : xD := fun c j => if c = b ∧ dp ≤ j ∧ j < dp + n then D a (sp + (j - dp)) else D c j
def xZr (D : xD) (a : Int) : xD := fun b j => if b = a then 0 else D b j
/-- a new object of class c, a new array of kind κ -/
def xNw (H : xH) (κ n : Int) (ns : Nat) : xH := (xZr H.1 (H.2.2.2.1 : Int), xU1 H.2.1 (H.2.2.2.1 : Int) κ, xU1 H.2.2.1 (H.2.2.2.1 : Int) n, H.2.2.2.1 + 1, H.2.2.2.2 + ns)
/-- new long[l][m] -/
def xNm (H : xH) (l m : Int) : xH :=
  (fun b j => if b = (H.2.2.2.1 : Int) then (if 0 ≤ j ∧ j < l then (H.2.2.2.1 : Int) + 1 + j else 0) else if (H.2.2.2.1 : Int) < b ∧ b ≤ (H.2.2.2.1 : Int) + l then 0 else H.1 b j,
   fun b => if b = (H.2.2.2.1 : Int) then 24 else if (H.2.2.2.1 : Int) < b ∧ b ≤ (H.2.2.2.1 : Int) + l then 23 else H.2.1 b,
   fun b => if b = (H.2.2.2.1 : Int) then l else if (H.2.2.2.1 : Int) < b ∧ b ≤ (H.2.2.2.1 : Int) + l then m else H.2.2.1 b,
   H.2.2.2.1 + 1 + l.toNat, H.2.2.2.2 + (l.toNat + l.toNat * m.toNat))
def xNs : List Nat := vwCl.map (fun q => q.2.2)
def xAk : ArrayType → Int
  | .int => 20
  | .byte => 21
  | .boolean => 22
  | .long => 23
  | _ => -1
def xEl (κ : Int) : Int := if κ = 25 then 4 else if κ = 26 then 2 else if κ = 27 then 10 else if κ = 28 then 5 else -1
def xT : ClassFile.Cond → Int → Int → Prop
  | .eq, x, y => x = y
  | .ne, x, y => x ≠ y
  | .lt, x, y => x < y
  | .ge, x, y => y ≤ x
  | .gt, x, y => y < x
  | .le, x, y => x ≤ y
def xN : ClassFile.Cond → Int → Int → Prop
  | .eq, x, y => x ≠ y
  | .ne, x, y => x = y
  | .lt, x, y => y ≤ x
  | .ge, x, y => x < y
  | .gt, x, y => x ≤ y
  | .le, x, y => y < x
theorem xT_or (c : ClassFile.Cond) (x y : Int) : xT c x y ∨ xN c x y := by
  cases c <;> simp only [xT, xN] <;> omega
theorem xT_not (c : ClassFile.Cond) (x y : Int) : ¬ (xT c x y ∧ xN c x y) := by
  cases c <;> simp only [xT, xN] <;> omega
/-- the constants' texts, as numbers -/
def xTx : List (List Int) := xStr.map (fun t => t.toList.map (fun c => (c.toNat : Int)))
def xTxt (s : Int) : List Int := xTx.getD (-2 - s).toNat []
def xLg (s : Int) : Int := ((xTxt s).length : Int)
def xCh (s i : Int) : Int := (xTxt s).getD i.toNat 0
def xBad (s : xS) : xO := .inr (.inl (False, s))
def xNx (s : xS) : xO := .inl s
def xCk (p : Prop) (s : xS) : xO := .inr (.inl (p, s))
def xBr (c : ClassFile.Cond) (x y : Int) (s t : xS) : xO := .inr (.inr (.inl (c, x, y, s, t)))
def xCl4 (p : Prop) (j : Nat) (as : List xV) (H : xH) (f : Int → xH → xS) : xO := .inr (.inr (.inr (.inl (p, j, as, H, f))))
def xRt (p : Prop) (x : Int) (H : xH) : xO := .inr (.inr (.inr (.inr (.inl (p, x, H)))))
def xSwt (x lo : Int) (ts : List xS) (t : xS) : xO := .inr (.inr (.inr (.inr (.inr (x, lo, ts, t)))))
def xSt1 (L : List xV) (i : Nat) (v : xV) : List xV := (match i with | 0 => L | k + 1 => match L.getD k (9, 0) with | (1, _) => L.set k (9, 0) | _ => L).set i v
def xSt2 (L : List xV) (i : Nat) (v : xV) : List xV := (xSt1 L i v).set (i + 1) (9, 0)
def xCat : List xV → Nat
  | [] => 0
  | (1, _) :: r => 2 + xCat r
  | _ :: r => 1 + xCat r
def xPush (rt : Nat) (x : Int) (r : List xV) : List xV := match rt with
  | 3 => r
  | t => (t, x) :: r
def xB1 (s : xS) (st : List xV) (f : Int → List xV → xO) : xO := match st with
  | (0, x) :: r => f x r
  | _ => xBad s
def xB2 (s : xS) (st : List xV) (f : Int → Int → List xV → xO) : xO := match st with
  | (0, y) :: (0, x) :: r => f x y r
  | _ => xBad s
def xJ1 (s : xS) (st : List xV) (f : Int → List xV → xO) : xO := match st with
  | (1, x) :: r => f x r
  | _ => xBad s
def xJ2 (s : xS) (st : List xV) (f : Int → Int → List xV → xO) : xO := match st with
  | (1, y) :: (1, x) :: r => f x y r
  | _ => xBad s
def xJi (s : xS) (st : List xV) (f : Int → Int → List xV → xO) : xO := match st with
  | (0, y) :: (1, x) :: r => f x y r
  | _ => xBad s
def xR1 (s : xS) (st : List xV) (f : Int → List xV → xO) : xO := match st with
  | (2, x) :: r => f x r
  | _ => xBad s
def xA2 (s : xS) (st : List xV) (f : Int → Int → List xV → xO) : xO := match st with
  | (0, i) :: (2, a) :: r => f a i r
  | _ => xBad s
def xA3 (s : xS) (t : Nat) (st : List xV) (f : Int → Int → Int → List xV → xO) : xO := match st with
  | (u, x) :: (0, i) :: (2, a) :: r => if u = t then f a i x r else xBad s
  | _ => xBad s
def xIf (b : Bool) (x y : xO) : xO := match b with
  | true => x
  | false => y
def xPt (ty t : Nat) (x : Int) (p : Prop) : Prop := match ty, t with
  | 0, 0 => p
  | 1, 1 => p
  | 2, 2 => p
  | 3, 0 => p ∧ (x = 0 ∨ x = 1)
  | _, _ => False
def xLo (L : List xV) (i t : Nat) (s : xS) (f : xV → xO) : xO := match L.getD i (9, 0) with
  | (u, x) => if u = t then f (u, x) else xBad s
/-- p, and no reference among these is null -/
def xNz (p : Prop) : List xV → Prop
  | [] => p
  | (2, x) :: r => x ≠ 0 ∧ xNz p r
  | _ :: r => xNz p r
/-- one instruction, the pc-th of its method: d frames are left -/
def xNext (d : Nat) (i : Instr) (pc : Nat) (L st : List xV) (H : xH) : xO := match i with
  | .iconst v => xNx (pc + 1, L, (0, v) :: st, H)
  | .jsr v => xNx (pc + 1, L, (1, v) :: st, H)
  | .ldc j => xNx (pc + 1, L, (2, -2 - (j : Int)) :: st, H)
  | .iload i => xLo L i 0 (pc, L, st, H) fun v => xNx (pc + 1, L, v :: st, H)
  | .lload i => xLo L i 1 (pc, L, st, H) fun v => xNx (pc + 1, L, v :: st, H)
  | .aload i => xLo L i 2 (pc, L, st, H) fun v => xNx (pc + 1, L, v :: st, H)
  | .istore i => xB1 (pc, L, st, H) st fun x r => xIf (Nat.blt i L.length) (xNx (pc + 1, xSt1 L i (0, x), r, H)) (xBad (pc, L, st, H))
  | .lstore i => xJ1 (pc, L, st, H) st fun x r => xIf (Nat.blt (i + 1) L.length) (xNx (pc + 1, xSt2 L i (1, x), r, H)) (xBad (pc, L, st, H))
  | .astore i => xR1 (pc, L, st, H) st fun x r => xIf (Nat.blt i L.length) (xCk (x ≠ 0) (pc + 1, xSt1 L i (2, x), r, H)) (xBad (pc, L, st, H))
  | .iinc i c => xLo L i 0 (pc, L, st, H) fun v => xIf (Nat.blt i L.length) (xNx (pc + 1, xSt1 L i (0, w32 (v.2 + c)), st, H)) (xBad (pc, L, st, H))
  | .dup => match st with
    | (0, x) :: r => xNx (pc + 1, L, (0, x) :: (0, x) :: r, H)
    | (2, x) :: r => xNx (pc + 1, L, (2, x) :: (2, x) :: r, H)
    | _ => xBad (pc, L, st, H)
  | .dup2 => xA2 (pc, L, st, H) st fun a i r => xNx (pc + 1, L, (0, i) :: (2, a) :: (0, i) :: (2, a) :: r, H)
  | .pop => match st with
    | (0, _) :: r => xNx (pc + 1, L, r, H)
    | (2, _) :: r => xNx (pc + 1, L, r, H)
    | _ => xBad (pc, L, st, H)
  | .iadd => xB2 (pc, L, st, H) st fun x y r => xNx (pc + 1, L, (0, w32 (x + y)) :: r, H)
  | .isub => xB2 (pc, L, st, H) st fun x y r => xNx (pc + 1, L, (0, w32 (x - y)) :: r, H)
  | .imul => xB2 (pc, L, st, H) st fun x y r => xNx (pc + 1, L, (0, w32 (x * y)) :: r, H)
  | .idiv => xB2 (pc, L, st, H) st fun x y r => xCk (y ≠ 0) (pc + 1, L, (0, w32 (x.tdiv y)) :: r, H)
  | .irem => xB2 (pc, L, st, H) st fun x y r => xCk (y ≠ 0) (pc + 1, L, (0, x.tmod y) :: r, H)
  | .ineg => xB1 (pc, L, st, H) st fun x r => xNx (pc + 1, L, (0, w32 (-x)) :: r, H)
  | .ishl => xB2 (pc, L, st, H) st fun x y r => xNx (pc + 1, L, (0, xShl x y) :: r, H)
  | .ishr => xB2 (pc, L, st, H) st fun x y r => xNx (pc + 1, L, (0, xShr x y) :: r, H)
  | .iushr => xB2 (pc, L, st, H) st fun x y r => xNx (pc + 1, L, (0, xUsh x y) :: r, H)
  | .iand => xB2 (pc, L, st, H) st fun x y r => xNx (pc + 1, L, (0, xAnd x y) :: r, H)
  | .ior => xB2 (pc, L, st, H) st fun x y r => xNx (pc + 1, L, (0, xOr x y) :: r, H)
  | .ixor => xB2 (pc, L, st, H) st fun x y r => xNx (pc + 1, L, (0, xXor x y) :: r, H)
  | .i2l => xB1 (pc, L, st, H) st fun x r => xNx (pc + 1, L, (1, x) :: r, H)
  | .l2i => xJ1 (pc, L, st, H) st fun x r => xNx (pc + 1, L, (0, w32 x) :: r, H)
  | .i2b => xB1 (pc, L, st, H) st fun x r => xNx (pc + 1, L, (0, w8 x) :: r, H)
  | .i2s => xB1 (pc, L, st, H) st fun x r => xNx (pc + 1, L, (0, w16 x) :: r, H)
  | .ladd => xJ2 (pc, L, st, H) st fun x y r => xNx (pc + 1, L, (1, w64 (x + y)) :: r, H)
  | .lmul => xJ2 (pc, L, st, H) st fun x y r => xNx (pc + 1, L, (1, w64 (x * y)) :: r, H)
  | .ldiv => xJ2 (pc, L, st, H) st fun x y r => xCk (y ≠ 0) (pc + 1, L, (1, w64 (x.tdiv y)) :: r, H)
  | .lrem => xJ2 (pc, L, st, H) st fun x y r => xCk (y ≠ 0) (pc + 1, L, (1, x.tmod y) :: r, H)
  | .land => xJ2 (pc, L, st, H) st fun x y r => xNx (pc + 1, L, (1, xLand x y) :: r, H)
  | .lor => xJ2 (pc, L, st, H) st fun x y r => xNx (pc + 1, L, (1, xLor x y) :: r, H)
  | .lshl => xJi (pc, L, st, H) st fun x y r => xNx (pc + 1, L, (1, xLshl x y) :: r, H)
  | .lshr => xJi (pc, L, st, H) st fun x y r => xNx (pc + 1, L, (1, xLshr x y) :: r, H)
  | .lcmp => xJ2 (pc, L, st, H) st fun x y r => xNx (pc + 1, L, (0, xLcmp x y) :: r, H)
  | .ifCond c t => xB1 (pc, L, st, H) st fun x r => xBr c x 0 (t.toNat, L, r, H) (pc + 1, L, r, H)
  | .if_icmp c t => xB2 (pc, L, st, H) st fun x y r => xBr c x y (t.toNat, L, r, H) (pc + 1, L, r, H)
  | .ifnull t => xR1 (pc, L, st, H) st fun x r => xBr .eq x 0 (t.toNat, L, r, H) (pc + 1, L, r, H)
  | .ifnonnull t => xR1 (pc, L, st, H) st fun x r => xBr .ne x 0 (t.toNat, L, r, H) (pc + 1, L, r, H)
  | .goto t => xNx (t.toNat, L, st, H)
  | .tableswitch t lo _ ts => xB1 (pc, L, st, H) st fun x r => xSwt x lo (ts.toList.map fun u => (u.toNat, L, r, H)) (t.toNat, L, r, H)
  | .iaload => xA2 (pc, L, st, H) st fun a i r => xCk (H.2.1 a = 20 ∧ 0 ≤ i ∧ i < H.2.2.1 a) (pc + 1, L, (0, H.1 a i) :: r, H)
  | .baload => xA2 (pc, L, st, H) st fun a i r => xCk (H.2.1 a = 21 ∧ 0 ≤ i ∧ i < H.2.2.1 a) (pc + 1, L, (0, H.1 a i) :: r, H)
  | .caload => xA2 (pc, L, st, H) st fun a i r => xCk (H.2.1 a = 22 ∧ 0 ≤ i ∧ i < H.2.2.1 a) (pc + 1, L, (0, H.1 a i) :: r, H)
  | .laload => xA2 (pc, L, st, H) st fun a i r => xCk (H.2.1 a = 23 ∧ 0 ≤ i ∧ i < H.2.2.1 a) (pc + 1, L, (1, H.1 a i) :: r, H)
  | .aaload => xA2 (pc, L, st, H) st fun a i r => xCk (24 ≤ H.2.1 a ∧ 0 ≤ i ∧ i < H.2.2.1 a) (pc + 1, L, (2, H.1 a i) :: r, H)
  | .iastore => xA3 (pc, L, st, H) 0 st fun a i x r => xCk (0 < a ∧ H.2.1 a = 20 ∧ 0 ≤ i ∧ i < H.2.2.1 a) (pc + 1, L, r, (xUp H.1 a i x, H.2))
  | .bastore => xA3 (pc, L, st, H) 0 st fun a i x r => xCk (0 < a ∧ H.2.1 a = 21 ∧ 0 ≤ i ∧ i < H.2.2.1 a) (pc + 1, L, r, (xUp H.1 a i (w8 x), H.2))
  | .castore => xA3 (pc, L, st, H) 0 st fun a i x r => xCk (0 < a ∧ H.2.1 a = 22 ∧ 0 ≤ i ∧ i < H.2.2.1 a ∧ (x = 0 ∨ x = 1)) (pc + 1, L, r, (xUp H.1 a i x, H.2))
  | .lastore => xA3 (pc, L, st, H) 1 st fun a i x r => xCk (0 < a ∧ H.2.1 a = 23 ∧ 0 ≤ i ∧ i < H.2.2.1 a) (pc + 1, L, r, (xUp H.1 a i x, H.2))
  | .aastore => xA3 (pc, L, st, H) 2 st fun a i x r => xCk (0 < a ∧ xEl (H.2.1 a) = H.2.1 x ∧ 0 ≤ H.2.1 x ∧ 0 ≤ i ∧ i < H.2.2.1 a) (pc + 1, L, r, (xUp H.1 a i x, H.2))
  | .arraylength => xR1 (pc, L, st, H) st fun a r => xCk (20 ≤ H.2.1 a) (pc + 1, L, (0, H.2.2.1 a) :: r, H)
  | .newarray t => xB1 (pc, L, st, H) st fun x r => xCk (0 ≤ x ∧ x ≤ 1000000) (pc + 1, L, (2, (H.2.2.2.1 : Int)) :: r, xNw H (xAk t) x x.toNat)
  | .anewarray κ => xB1 (pc, L, st, H) st fun x r => xCk (0 ≤ x ∧ x ≤ 1000000) (pc + 1, L, (2, (H.2.2.2.1 : Int)) :: r, xNw H (κ : Int) x x.toNat)
  | .multianewarray _ _ => xB2 (pc, L, st, H) st fun l m r => xCk (0 ≤ l ∧ l ≤ 1000 ∧ 0 ≤ m ∧ m ≤ 1000) (pc + 1, L, (2, (H.2.2.2.1 : Int)) :: r, xNm H l m)
  | .new c => xNx (pc + 1, L, (2, (H.2.2.2.1 : Int)) :: st, xNw H (c : Int) 0 (xNs.getD c 0))
  | .getfield m => xR1 (pc, L, st, H) st fun a r => xCk (H.2.1 a = ((m / 1000 : Nat) : Int)) (pc + 1, L, (m % 10, H.1 a ((m / 10 % 100 : Nat) : Int)) :: r, H)
  | .putfield m => match st with
    | (t, x) :: (2, a) :: r => xCk (xPt (m % 10) t x (H.2.1 a = ((m / 1000 : Nat) : Int))) (pc + 1, L, r, (xUp H.1 a ((m / 10 % 100 : Nat) : Int) x, H.2))
    | _ => xBad (pc, L, st, H)
  | .invokevirtual m => match (st.take (m / 4 % 20)).reverse, (Nat.ble (xCat (st.drop (m / 4 % 20))) 8 && Nat.ble (m / 4 % 20) st.length) with
    | (2, a) :: as, true => xCl4 (xNz (H.2.1 a = ((m / 80 % 100 : Nat) : Int)) as) (m / 8000) ((2, a) :: as) H fun x H2 => (pc + 1, L, xPush (m % 4) x (st.drop (m / 4 % 20)), H2)
    | _, _ => xBad (pc, L, st, H)
  | .invokespecial m => match (st.take (m / 4 % 20)).reverse, (Nat.ble (xCat (st.drop (m / 4 % 20))) 8 && Nat.ble (m / 4 % 20) st.length) with
    | (2, a) :: as, true => xCl4 (xNz (H.2.1 a = ((m / 80 % 100 : Nat) : Int)) as) (m / 8000) ((2, a) :: as) H fun x H2 => (pc + 1, L, xPush (m % 4) x (st.drop (m / 4 % 20)), H2)
    | _, _ => xBad (pc, L, st, H)
  | .invokestatic m => match (Nat.ble (xCat (st.drop (m / 4 % 20))) 8 && Nat.ble (m / 4 % 20) st.length) with
    | true => xCl4 (xNz True (st.take (m / 4 % 20)).reverse) (m / 8000) (st.take (m / 4 % 20)).reverse H fun x H2 => (pc + 1, L, xPush (m % 4) x (st.drop (m / 4 % 20)), H2)
    | _ => xBad (pc, L, st, H)
  | .dneg => xR1 (pc, L, st, H) st fun a r => xIf (Nat.ble (xCat r) 8) (xCk (0 < d ∧ 0 < a) (pc + 1, L, r, H)) (xBad (pc, L, st, H))
  | .dadd => xB2 (pc, L, st, H) st fun x y r => xIf (Nat.ble (xCat r) 8) (xCk (0 < d) (pc + 1, L, (0, max x y) :: r, H)) (xBad (pc, L, st, H))
  | .dsub => xB2 (pc, L, st, H) st fun x y r => xIf (Nat.ble (xCat r) 8) (xCk (0 < d) (pc + 1, L, (0, min x y) :: r, H)) (xBad (pc, L, st, H))
  | .dmul => match st with
    | (0, l) :: (0, dp) :: (2, b) :: (0, sp) :: (2, a) :: r => xIf (Nat.ble (xCat r) 8) (xCk (0 < d ∧ 0 < a ∧ 0 < b ∧ H.2.1 a = 20 ∧ H.2.1 b = 20 ∧ 0 ≤ sp ∧ 0 ≤ dp ∧ 0 ≤ l ∧ sp + l ≤ H.2.2.1 a ∧ dp + l ≤ H.2.2.1 b) (pc + 1, L, r, (xCpy H.1 a sp b dp l, H.2))) (xBad (pc, L, st, H))
    | _ => xBad (pc, L, st, H)
  | .ddiv => match st with
    | (0, l) :: (0, dp) :: (2, b) :: (0, sp) :: (2, a) :: r => xIf (Nat.ble (xCat r) 8) (xCk (0 < d ∧ 0 < a ∧ 0 < b ∧ H.2.1 a = 23 ∧ H.2.1 b = 23 ∧ 0 ≤ sp ∧ 0 ≤ dp ∧ 0 ≤ l ∧ sp + l ≤ H.2.2.1 a ∧ dp + l ≤ H.2.2.1 b) (pc + 1, L, r, (xCpy H.1 a sp b dp l, H.2))) (xBad (pc, L, st, H))
    | _ => xBad (pc, L, st, H)
  | .d2i => xR1 (pc, L, st, H) st fun s r => xIf (Nat.ble (xCat r) 8) (xCk (4 < d ∧ s ≤ -2 ∧ -29 < s) (pc + 1, L, (0, xLg s) :: r, H)) (xBad (pc, L, st, H))
  | .d2l => match st with
    | (0, i) :: (2, s) :: r => xIf (Nat.ble (xCat r) 8) (xCk (4 < d ∧ s ≤ -2 ∧ -29 < s ∧ 0 ≤ i ∧ i < xLg s) (pc + 1, L, (0, xCh s i) :: r, H)) (xBad (pc, L, st, H))
    | _ => xBad (pc, L, st, H)
  | .ireturn => match st with
    | [(0, x)] => xRt True x H
    | _ => xBad (pc, L, st, H)
  | .freturn => match st with
    | [(0, x)] => xRt (x = 0 ∨ x = 1) x H
    | _ => xBad (pc, L, st, H)
  | .lreturn => match st with
    | [(1, x)] => xRt True x H
    | _ => xBad (pc, L, st, H)
  | .areturn => match st with
    | [(2, x)] => xRt True x H
    | _ => xBad (pc, L, st, H)
  | .return_ => match st with
    | [] => xRt True 0 H
    | _ => xBad (pc, L, st, H)
  | _ => xBad (pc, L, st, H)
def xSw (k : xS → Prop) (x : Int) : Int → List xS → Prop
  | _, [] => True
  | v, t :: ts => (x = v → k t) ∧ xSw k x (v + 1) ts
abbrev xCallT : Type := Nat → List xV → xH → (Int → xH → Prop) → Prop
def xGo (call : xCallT) (k : xS → Prop) (Q : Int → xH → Prop) : xO → Prop
  | .inl s => k s
  | .inr (.inl (p, s)) => p ∧ k s
  | .inr (.inr (.inl (c, x, y, s, t))) => (xT c x y → k s) ∧ (xN c x y → k t)
  | .inr (.inr (.inr (.inl (p, j, as, H, f)))) => p ∧ call j as H (fun x H2 => k (f x H2))
  | .inr (.inr (.inr (.inr (.inl (p, x, H))))) => p ∧ Q x H
  | .inr (.inr (.inr (.inr (.inr (x, lo, ts, t))))) => xSw k x lo ts ∧ (x < lo ∨ lo + (ts.length : Int) ≤ x → k t)
/-- what must hold for n instructions at most, from here on, to end in Q -/
def xWp (d : Nat) (call : xCallT) (code : List Instr) (Q : Int → xH → Prop) : Nat → Nat → List xV → List xV → xH → Prop
  | 0, _, _, _, _ => False
  | n + 1, pc, L, st, H => xGo call (fun s => xWp d call code Q n s.1 s.2.1 s.2.2.1 s.2.2.2) Q (xNext d (code.getD pc .nop) pc L st H)
def xFlat : List xV → List xV
  | [] => []
  | (1, x) :: r => (1, x) :: (9, 0) :: xFlat r
  | v :: r => v :: xFlat r
def xEntry (n : Nat) (as : List xV) : List xV := xFlat as ++ List.replicate (n - (xFlat as).length) (9, 0)
end
section
/-! is this abstract code what the bytes say? -/
def xRc : Option FieldType → Nat
  | none => 3
  | some .int => 0
  | some .boolean => 0
  | some .long => 1
  | _ => 2
def xJmp (ps : List Nat) (pc : Nat) (off t : Int) : Bool := decide (0 ≤ t) && decide (t.toNat < ps.length) && ((ps.getD t.toNat 0 : Nat) : Int) == (pc : Int) + off
def xIn32 (v : Int) : Bool := decide (-2147483648 ≤ v) && decide (v < 2147483648)
def xIn64 (v : Int) : Bool := decide (-9223372036854775808 ≤ v) && decide (v < 9223372036854775808)
def xFldOk (own k m : Nat) : Bool := xFl.contains (own, k, m / 1000, m / 10 % 100) || xFn.contains (own, k, m / 1000, m / 10 % 100)
def xCalOk (own k m : Nat) : Bool := (xMl.contains (own, k, m / 8000) || xMn.contains (own, k, m / 8000)) && Nat.blt (m / 8000) xMt.length && (xM (m / 8000)).2.2.2.2.2 == m / 4 % 20 && xRc (xM (m / 8000)).2.2.2.1 == m % 4
def xChk1 (own : Nat) (ini : Bool) (ret : Option FieldType) (ps : List Nat) (pc : Nat) (i a : Instr) : Bool := match a with
  | .aload n => match i with | .aload k => k == n | .aload_n k => k.val == n | _ => false
  | .iload n => match i with | .iload k => k == n | .iload_n k => k.val == n | _ => false
  | .lload n => match i with | .lload k => k == n | .lload_n k => k.val == n | _ => false
  | .astore n => match i with | .astore k => k == n | .astore_n k => k.val == n | _ => false
  | .istore n => match i with | .istore k => k == n | .istore_n k => k.val == n | _ => false
  | .lstore n => match i with | .lstore k => k == n | .lstore_n k => k.val == n | _ => false
  | .iconst v => xIn32 v && (match i with | .iconst w => w == v | .bipush w => w == v && decide (-128 ≤ v) && decide (v < 128) | .sipush w => w == v && decide (-32768 ≤ v) && decide (v < 32768) | .ldc k => xKi.contains (own, k, v) | .ldc_w k => xKi.contains (own, k, v) | _ => false)
  | .jsr v => xIn64 v && (match i with | .lconst w => ((w.val : Nat) : Int) == v | .ldc2_w k => xKl.contains (own, k, v) | _ => false)
  | .ldc j => match i with | .ldc k => xKs.contains (own, k, j) | .ldc_w k => xKs.contains (own, k, j) | _ => false
  | .iinc n c => (match i with | .iinc k w => k == n && w == c | _ => false) && xIn32 c
  | .ifCond c t => match i with | .ifCond e off => e == c && xJmp ps pc off t | _ => false
  | .if_icmp c t => match i with | .if_icmp e off => e == c && xJmp ps pc off t | _ => false
  | .ifnull t => match i with | .ifnull off => xJmp ps pc off t | _ => false
  | .ifnonnull t => match i with | .ifnonnull off => xJmp ps pc off t | _ => false
  | .goto t => match i with | .goto off => xJmp ps pc off t | _ => false
  | .tableswitch t lo hi ts => match i with | .tableswitch dd lo2 hi2 offs => lo2 == lo && hi2 == hi && xJmp ps pc dd t && xIn32 lo && xIn32 hi && hi - lo + 1 == (ts.size : Int) && ts.size == offs.size && (ts.toList.zip offs.toList).all (fun q => xJmp ps pc q.2 q.1) | _ => false
  | .baload => match i with | .baload => true | _ => false
  | .caload => match i with | .baload => true | _ => false
  | .bastore => match i with | .bastore => true | _ => false
  | .castore => match i with | .bastore => true | _ => false
  | .newarray t => match i with | .newarray t2 => t2 == t && decide (0 ≤ xAk t) | _ => false
  | .anewarray κ => match i with | .anewarray k => Nat.ble 25 κ && Nat.ble κ 28 && xKc.contains (own, k, (xEl (κ : Int)).toNat) | _ => false
  | .multianewarray _ _ => match i with | .multianewarray k n => own == 11 && k == 81 && n == 2 | _ => false
  | .new c => match i with | .new k => Nat.blt c 13 && xKc.contains (own, k, c) | _ => false
  | .getfield m => match i with | .getfield k => xFldOk own k m && m % 10 == (if xFT (m / 1000) (m / 10 % 100) == 3 then 0 else xFT (m / 1000) (m / 10 % 100)) | _ => false
  | .putfield m => match i with | .putfield k => xFldOk own k m && m % 10 == xFT (m / 1000) (m / 10 % 100) && (!(xF (m / 1000) (m / 10 % 100)).2.2.2 || (ini && own == m / 1000 && xFl.contains (own, k, m / 1000, m / 10 % 100))) | _ => false
  | .invokevirtual m => match i with | .invokevirtual k => xCalOk own k m && !(xM (m / 8000)).2.2.2.2.1 && (xCl (m / 80 % 100)).1 == (xM (m / 8000)).1.cls && Nat.blt (m / 80 % 100) 13 && (xVpub.contains (m / 8000) || xVpri.contains (m / 8000)) | _ => false
  | .invokespecial m => match i with | .invokespecial k => xCalOk own k m && !(xM (m / 8000)).2.2.2.2.1 && (xM (m / 8000)).1.name == "<init>" && (xM (m / 8000)).2.2.2.1 == none | _ => false
  | .invokestatic m => match i with | .invokestatic k => xCalOk own k m && (xM (m / 8000)).2.2.2.2.1 | _ => false
  | .dneg => match i with | .invokespecial k => xBl.contains (own, k, 0) | _ => false
  | .dadd => match i with | .invokestatic k => xBl.contains (own, k, 1) | _ => false
  | .dsub => match i with | .invokestatic k => xBl.contains (own, k, 2) | _ => false
  | .dmul => match i with | .invokestatic k => xBl.contains (own, k, 3) | _ => false
  | .ddiv => match i with | .invokestatic k => xBl.contains (own, k, 3) | _ => false
  | .d2i => match i with | .invokevirtual k => xBl.contains (own, k, 4) | _ => false
  | .d2l => match i with | .invokevirtual k => xBl.contains (own, k, 5) | _ => false
  | .ireturn => (match i with | .ireturn => true | _ => false) && ret == some .int
  | .freturn => (match i with | .ireturn => true | _ => false) && ret == some .boolean
  | .lreturn => (match i with | .lreturn => true | _ => false) && ret == some .long
  | .areturn => (match i with | .areturn => true | _ => false) && (match ret with | some (.object _) => true | some (.array _) => true | _ => false)
  | .return_ => (match i with | .return_ => true | _ => false) && ret == none
  | _ => i == a
def xLen : Instr → Nat
  | .aload _ => 2
  | .iload _ => 2
  | .lload _ => 2
  | .istore _ => 2
  | .lstore _ => 2
  | .astore _ => 2
  | .bipush _ => 2
  | .ldc _ => 2
  | .newarray _ => 2
  | .sipush _ => 3
  | .ldc_w _ => 3
  | .ldc2_w _ => 3
  | .ifCond _ _ => 3
  | .if_icmp _ _ => 3
  | .ifnull _ => 3
  | .ifnonnull _ => 3
  | .goto _ => 3
  | .getfield _ => 3
  | .putfield _ => 3
  | .invokevirtual _ => 3
  | .invokespecial _ => 3
  | .invokestatic _ => 3
  | .new _ => 3
  | .anewarray _ => 3
  | .multianewarray _ _ => 4
  | _ => 1
def xLenOk (i : Instr) (l : Nat) : Bool := match i with
  | .iinc _ _ => l == 3 || l == 6
  | .tableswitch _ _ _ _ => true
  | i => l == xLen i
def xTerm : Instr → Bool
  | .ireturn => true
  | .freturn => true
  | .lreturn => true
  | .areturn => true
  | .return_ => true
  | .goto _ => true
  | _ => false
def xChkP (own : Nat) (ini : Bool) (ret : Option FieldType) (bytes : ByteArray) (ps : List Nat) : List (Instr × Nat) → List Nat → Bool
  | [], _ => true
  | (a, pc) :: r, nx => (match decode bytes pc with
    | .ok (i, l) => xLenOk i l && (xChk1 own ini ret ps pc i a && (match nx with | q :: _ => q == pc + l | [] => xTerm a))
    | .error _ => false) && xChkP own ini ret bytes ps r nx.tail
def xChkM (own : Nat) (ini : Bool) (ret : Option FieldType) (bytes : ByteArray) (cd : List Instr) (ps : List Nat) : Bool :=
  cd.length == ps.length && ps.head? == some 0 && xChkP own ini ret bytes ps (cd.zip ps) ps.tail
end
section
/-- LastCloud$Flight.<init>()V -/
def cd_0 : List Instr := [.aload 0, .dneg, .aload 0, .iconst 100, .newarray .int, .putfield 2, .aload 0, .iconst 100, .newarray .int, .putfield 12, .aload 0, .iconst 100, .newarray .int, .putfield 22, .aload 0, .iconst 100, 
  .newarray .int, .putfield 32, .aload 0, .iconst 100, .newarray .boolean, .putfield 42, .aload 0, .iconst 8, .newarray .int, .putfield 52, .return_]
def ps_0 : List Nat := [0, 1, 4, 5, 7, 9, 12, 13, 15, 17, 20, 21, 23, 25, 28, 29, 31, 33, 36, 37, 39, 41, 44, 45, 47, 49, 52]
theorem ck_0 : xChkM 0 true none prog_2_method_1_code cd_0 ps_0 = true := by decide +kernel
/-- LastCloud$Flight.begin(LLastCloud$Sky;I)V -/
def cd_1 : List Instr := [.aload 0, .iconst 0, .putfield 93, .aload 0, .iload 2, .i2l, .putfield 81, .aload 0, .aload 1, .invokevirtual 24011, .return_]
def ps_1 : List Nat := [0, 1, 2, 5, 6, 7, 8, 11, 12, 13, 16]
theorem ck_1 : xChkM 0 false none prog_2_method_2_code cd_1 ps_1 = true := by decide +kernel
/-- LastCloud$Flight.beginUnderAllLifts(LLastCloud$Sky;)V -/
def cd_2 : List Instr := [.aload 0, .iconst 1, .putfield 93, .aload 0, .aload 1, .invokevirtual 24011, .return_]
def ps_2 : List Nat := [0, 1, 2, 5, 6, 7, 10]
theorem ck_2 : xChkM 0 false none prog_2_method_3_code cd_2 ps_2 = true := by decide +kernel
/-- LastCloud$Flight.takeOff(LLastCloud$Sky;)V -/
def cd_3 : List Instr := [.aload 0, .aload 1, .putfield 72, .iconst 0, .istore 2, .iload 2, .aload 0, .getfield 72, .getfield 10040, .if_icmp .ge 20, .aload 0, .getfield 52, .iload 2, .aload 0, .getfield 72, .iload 2, 
  .invokevirtual 928808, .iastore, .iinc 2 1, .goto 5, .aload 0, .iconst 0, .putfield 60, .aload 0, .aload 0, .getfield 72, .getfield 10150, .putfield 100, .aload 0, .aload 0, .getfield 72, 
  .getfield 10160, .putfield 110, .aload 0, .iconst 0, .putfield 120, .aload 0, .aload 0, .getfield 72, .invokevirtual 848804, .putfield 143, .aload 0, .iconst 0, .putfield 153, .aload 0, 
  .invokevirtual 32007, .return_]
def ps_3 : List Nat := [0, 1, 2, 5, 6, 7, 8, 9, 12, 15, 18, 19, 22, 23, 24, 27, 28, 31, 32, 35, 38, 39, 40, 43, 44, 45, 48, 51, 54, 55, 56, 59, 62, 65, 66, 67, 70, 71, 72, 75, 78, 81, 82, 83, 86, 87, 90]
theorem ck_3 : xChkM 0 false none prog_2_method_4_code cd_3 ps_3 = true := by decide +kernel
/-- LastCloud$Flight.meetLift()V -/
def cd_4 : List Instr := [.aload 0, .aload 0, .getfield 90, .ifCond .ne 13, .aload 0, .iconst 100, .invokevirtual 40008, .aload 0, .getfield 52, .aload 0, .getfield 100, .iaload, .if_icmp .ge 15, .iconst 1, .goto 16, .iconst 0, 
  .putfield 133, .return_]
def ps_4 : List Nat := [0, 1, 2, 5, 8, 9, 11, 14, 15, 18, 19, 22, 23, 26, 27, 30, 31, 34]
theorem ck_4 : xChkM 0 false none prog_2_method_5_code cd_4 ps_4 = true := by decide +kernel
/-- LastCloud$Flight.draw(I)I -/
def cd_5 : List Instr := [.aload 0, .jsr 1103515245, .aload 0, .getfield 81, .lmul, .jsr 12345, .ladd, .jsr 2147483648, .lrem, .putfield 81, .aload 0, .getfield 81, .jsr 65536, .ldiv, .iload 1, .i2l, .lrem, .l2i, .ireturn]
def ps_5 : List Nat := [0, 1, 4, 5, 8, 9, 12, 13, 16, 17, 20, 21, 24, 27, 28, 29, 30, 31, 32]
theorem ck_5 : xChkM 0 false (some .int) prog_2_method_6_code cd_5 ps_5 = true := by decide +kernel
/-- LastCloud$Flight.follow(LLastCloud$Plan;LLastCloud$Sky;I)V -/
def cd_6 : List Instr := [.aload 0, .aload 2, .iload 3, .invokevirtual 8015, .iconst 0, .istore 4, .iload 4, .iconst 100, .if_icmp .ge 26, .aload 0, .getfield 150, .ifCond .ne 26, .aload 0, .aload 1, .invokevirtual 56008, 
  .istore 5, .aload 0, .iload 5, .invokevirtual 64011, .aload 0, .iload 5, .i2l, .invokevirtual 72008, .pop, .iinc 4 1, .goto 6, .aload 0, .aload 0, .getfield 72, .aload 1, .getfield 5120, .aload 0, 
  .getfield 100, .aload 0, .getfield 120, .invokevirtual 944816, .putfield 170, .aload 0, .getfield 100, .aload 0, .getfield 72, .getfield 10140, .if_icmp .ne 47, .aload 0, .iconst 1, .putfield 160, 
  .goto 58, .aload 0, .aload 0, .getfield 72, .aload 0, .getfield 100, .invokevirtual 856808, .ifCond .eq 56, .iconst 2, .goto 57, .iconst 3, .putfield 160, .return_]
def ps_6 : List Nat := [0, 1, 2, 3, 6, 7, 9, 11, 13, 16, 17, 20, 23, 24, 25, 28, 30, 31, 33, 36, 37, 39, 40, 43, 44, 47, 50, 51, 52, 55, 56, 59, 60, 63, 64, 67, 70, 73, 74, 77, 78, 81, 84, 87, 88, 89, 92, 95, 96, 97, 100, 
  101, 104, 107, 110, 111, 114, 115, 118]
theorem ck_6 : xChkM 0 false none prog_2_method_7_code cd_6 ps_6 = true := by decide +kernel
/-- LastCloud$Flight.deedBy(LLastCloud$Plan;)I -/
def cd_7 : List Instr := [.aload 1, .aload 0, .getfield 120, .aload 0, .getfield 140, .aload 0, .getfield 100, .aload 0, .getfield 110, .invokestatic 335936, .aload 0, .getfield 130, .invokevirtual 376412, .ireturn]
def ps_7 : List Nat := [0, 1, 2, 5, 6, 9, 10, 13, 14, 17, 20, 21, 24, 27]
theorem ck_7 : xChkM 0 false (some .int) prog_2_method_8_code cd_7 ps_7 = true := by decide +kernel
/-- LastCloud$Flight.note(I)V -/
def cd_8 : List Instr := [.aload 0, .getfield 60, .iconst 100, .if_icmp .ge 44, .aload 0, .getfield 2, .aload 0, .getfield 60, .iload 1, .iastore, .aload 0, .getfield 12, .aload 0, .getfield 60, .aload 0, .getfield 100, 
  .iastore, .aload 0, .getfield 22, .aload 0, .getfield 60, .aload 0, .getfield 110, .iastore, .aload 0, .getfield 32, .aload 0, .getfield 60, .aload 0, .getfield 120, .iastore, .aload 0, .getfield 42, 
  .aload 0, .getfield 60, .aload 0, .getfield 130, .castore, .aload 0, .dup, .getfield 60, .iconst 1, .iadd, .putfield 60, .return_]
def ps_8 : List Nat := [0, 1, 4, 6, 9, 10, 13, 14, 17, 18, 19, 20, 23, 24, 27, 28, 31, 32, 33, 36, 37, 40, 41, 44, 45, 46, 49, 50, 53, 54, 57, 58, 59, 62, 63, 66, 67, 70, 71, 72, 73, 76, 77, 78, 81]
theorem ck_8 : xChkM 0 false none prog_2_method_9_code cd_8 ps_8 = true := by decide +kernel
/-- LastCloud$Flight.tryDeed(J)Z -/
def cd_9 : List Instr := [.aload 0, .getfield 150, .ifCond .eq 5, .iconst 0, .freturn, .lload 1, .jsr (-1), .lcmp, .ifCond .ne 14, .aload 0, .iconst 1, .putfield 153, .iconst 1, .freturn, .lload 1, .jsr 0, .lcmp, 
  .ifCond .ne 21, .aload 0, .invokevirtual 80004, .freturn, .lload 1, .jsr 1, .lcmp, .ifCond .ne 33, .aload 0, .getfield 140, .istore 3, .aload 0, .iconst 0, .putfield 143, .iload 3, .freturn, .lload 1, 
  .jsr 100, .lcmp, .ifCond .lt 41, .lload 1, .jsr 200, .lcmp, .ifCond .lt 43, .iconst 0, .freturn, .lload 1, .l2i, .iconst 100, .isub, .istore 3, .aload 0, .iload 3, .iconst 10, .idiv, .iload 3, 
  .iconst 10, .irem, .invokevirtual 88012, .freturn]
def ps_9 : List Nat := [0, 1, 4, 7, 8, 9, 10, 13, 14, 17, 18, 19, 22, 23, 24, 25, 26, 27, 30, 31, 34, 35, 36, 37, 38, 41, 42, 45, 46, 47, 48, 51, 52, 53, 54, 57, 58, 61, 62, 65, 66, 69, 70, 71, 72, 73, 75, 76, 77, 78, 79, 81, 
  82, 83, 85, 86, 89]
theorem ck_9 : xChkM 0 false (some .boolean) prog_2_method_10_code cd_9 ps_9 = true := by decide +kernel
/-- LastCloud$Flight.tryClimb()Z -/
def cd_10 : List Instr := [.aload 0, .getfield 72, .aload 0, .getfield 110, .aload 0, .getfield 72, .aload 0, .getfield 100, .aload 0, .getfield 140, .invokevirtual 904812, .iadd, .invokevirtual 920808, .istore 1, .aload 0, 
  .getfield 130, .ifCond .eq 27, .iload 1, .aload 0, .getfield 110, .if_icmp .le 27, .aload 0, .getfield 120, .aload 0, .getfield 72, .getfield 10100, .if_icmp .lt 29, .iconst 0, .freturn, .aload 0, 
  .iload 1, .putfield 110, .aload 0, .dup, .getfield 120, .iconst 1, .iadd, .putfield 120, .iconst 1, .freturn]
def ps_10 : List Nat := [0, 1, 4, 5, 8, 9, 12, 13, 16, 17, 20, 23, 24, 27, 28, 29, 32, 35, 36, 37, 40, 43, 44, 47, 48, 51, 54, 57, 58, 59, 60, 61, 64, 65, 66, 69, 70, 71, 74, 75]
theorem ck_10 : xChkM 0 false (some .boolean) prog_2_method_11_code cd_10 ps_10 = true := by decide +kernel
/-- LastCloud$Flight.tryLeg(II)Z -/
def cd_11 : List Instr := [.aload 0, .getfield 72, .iload 1, .invokevirtual 808808, .ifCond .eq 10, .aload 0, .getfield 72, .iload 2, .invokevirtual 816808, .ifCond .ne 12, .iconst 0, .freturn, .aload 0, .getfield 72, 
  .getfield 10012, .iload 1, .aaload, .astore 3, .aload 3, .getfield 2000, .aload 0, .getfield 100, .if_icmp .eq 30, .aload 3, .getfield 2010, .aload 0, .getfield 100, .if_icmp .eq 30, .iconst 0, 
  .freturn, .aload 3, .getfield 2010, .aload 0, .getfield 100, .if_icmp .ne 37, .iconst 1, .goto 38, .iconst 0, .istore 4, .aload 0, .getfield 72, .iload 1, .iload 4, .iload 2, .aload 0, .getfield 140, 
  .invokevirtual 888820, .istore 5, .iload 5, .iconst (-1), .if_icmp .eq 59, .aload 0, .getfield 120, .iload 5, .iadd, .aload 0, .getfield 72, .getfield 10100, .if_icmp .le 61, .iconst 0, .freturn, 
  .iload 4, .ifCond .eq 66, .aload 3, .getfield 2000, .goto 68, .aload 3, .getfield 2010, .istore 6, .aload 0, .getfield 72, .iload 1, .iload 4, .iload 2, .aload 0, .getfield 140, .invokevirtual 896820, 
  .istore 7, .aload 0, .getfield 72, .aload 0, .getfield 110, .iload 7, .isub, .invokevirtual 920808, .istore 8, .aload 0, .getfield 110, .iload 7, .iconst 2, .idiv, .isub, .aload 3, .getfield 2050, 
  .if_icmp .lt 103, .iload 8, .aload 0, .getfield 72, .getfield 10002, .iload 6, .aaload, .getfield 4000, .if_icmp .ge 105, .iconst 0, .freturn, .aload 0, .iload 6, .putfield 100, .aload 0, .iload 8, 
  .putfield 110, .aload 0, .dup, .getfield 120, .iload 5, .iadd, .putfield 120, .aload 0, .invokevirtual 32007, .iconst 1, .freturn]
def ps_11 : List Nat := [0, 1, 4, 5, 8, 11, 12, 15, 16, 19, 22, 23, 24, 25, 28, 31, 32, 33, 34, 35, 38, 39, 42, 45, 46, 49, 50, 53, 56, 57, 58, 59, 62, 63, 66, 69, 70, 73, 74, 76, 77, 80, 81, 83, 84, 85, 88, 91, 93, 95, 96, 
  99, 100, 103, 105, 106, 107, 110, 113, 116, 117, 118, 120, 123, 124, 127, 130, 131, 134, 136, 137, 140, 141, 143, 144, 145, 148, 151, 153, 154, 157, 158, 161, 163, 164, 167, 169, 170, 173, 175, 176, 
  177, 178, 179, 182, 185, 187, 188, 191, 194, 196, 197, 200, 203, 204, 205, 206, 208, 211, 212, 214, 217, 218, 219, 222, 224, 225, 228, 229, 232, 233]
theorem ck_11 : xChkM 0 false (some .boolean) prog_2_method_12_code cd_11 ps_11 = true := by decide +kernel
/-- LastCloud$Flight.noted(II)I -/
def cd_12 : List Instr := [.iload 1, .ifCond .lt 6, .iload 1, .aload 0, .getfield 60, .if_icmp .lt 8, .iconst (-1), .ireturn, .iload 2, .tableswitch 39 0 4 #[10, 15, 20, 25, 30], .aload 0, .getfield 2, .iload 1, .iaload, 
  .ireturn, .aload 0, .getfield 12, .iload 1, .iaload, .ireturn, .aload 0, .getfield 22, .iload 1, .iaload, .ireturn, .aload 0, .getfield 32, .iload 1, .iaload, .ireturn, .aload 0, .getfield 42, 
  .iload 1, .caload, .ifCond .eq 37, .iconst 1, .goto 38, .iconst 0, .ireturn, .iconst (-1), .ireturn]
def ps_12 : List Nat := [0, 1, 4, 5, 6, 9, 12, 13, 14, 15, 48, 49, 52, 53, 54, 55, 56, 59, 60, 61, 62, 63, 66, 67, 68, 69, 70, 73, 74, 75, 76, 77, 80, 81, 82, 85, 86, 89, 90, 91, 92]
theorem ck_12 : xChkM 0 false (some .int) prog_2_method_13_code cd_12 ps_12 = true := by decide +kernel
/-- LastCloud$Flight.endOf(I)I -/
def cd_13 : List Instr := [.aload 0, .getfield 60, .ifCond .ne 5, .iconst (-1), .ireturn, .iload 1, .tableswitch 22 0 4 #[7, 10, 13, 16, 19], .aload 0, .getfield 100, .ireturn, .aload 0, .getfield 110, .ireturn, .aload 0, 
  .getfield 120, .ireturn, .aload 0, .getfield 170, .ireturn, .aload 0, .getfield 160, .ireturn, .iconst (-1), .ireturn]
def ps_13 : List Nat := [0, 1, 4, 7, 8, 9, 10, 44, 45, 48, 49, 50, 53, 54, 55, 58, 59, 60, 63, 64, 65, 68, 69, 70]
theorem ck_13 : xChkM 0 false (some .int) prog_2_method_14_code cd_13 ps_13 = true := by decide +kernel
/-- LastCloud$Flight.spreadValue(I)I -/
def cd_14 : List Instr := [.iload 1, .tableswitch 16 2 4 #[2, 10, 13], .aload 0, .getfield 160, .iconst 3, .if_icmp .ne 8, .iconst 1, .goto 9, .iconst 0, .ireturn, .aload 0, .getfield 120, .ireturn, .aload 0, .getfield 60, 
  .ireturn, .aload 0, .getfield 170, .ireturn]
def ps_14 : List Nat := [0, 1, 28, 29, 32, 33, 36, 37, 40, 41, 42, 43, 46, 47, 48, 51, 52, 53, 56]
theorem ck_14 : xChkM 0 false (some .int) prog_2_method_15_code cd_14 ps_14 = true := by decide +kernel
/-- LastCloud$Hops.<init>()V -/
def cd_15 : List Instr := [.aload 0, .dneg, .aload 0, .iconst 17, .newarray .int, .putfield 1002, .aload 0, .iconst 240, .newarray .int, .putfield 1012, .aload 0, .iconst 240, .newarray .int, .putfield 1022, .aload 0, 
  .iconst 240, .newarray .int, .putfield 1032, .aload 0, .iconst 240, .newarray .int, .putfield 1042, .aload 0, .iconst 240, .newarray .int, .putfield 1052, .aload 0, .iconst 16, .newarray .int, 
  .putfield 1072, .aload 0, .iconst 8, .newarray .int, .putfield 1082, .aload 0, .iconst 256, .newarray .int, .putfield 1092, .return_]
def ps_15 : List Nat := [0, 1, 4, 5, 7, 9, 12, 13, 16, 18, 21, 22, 25, 27, 30, 31, 34, 36, 39, 40, 43, 45, 48, 49, 52, 54, 57, 58, 60, 62, 65, 66, 68, 70, 73, 74, 77, 79, 82]
theorem ck_15 : xChkM 1 true none prog_3_method_1_code cd_15 ps_15 = true := by decide +kernel
/-- LastCloud$Hops.group(IZ)I -/
def cd_16 : List Instr := [.iload 1, .ifCond .eq 6, .iconst 8, .iload 0, .iadd, .goto 7, .iload 0, .ireturn]
def ps_16 : List Nat := [0, 1, 4, 6, 7, 8, 11, 12]
theorem ck_16 : xChkM 1 false (some .int) prog_3_method_2_code cd_16 ps_16 = true := by decide +kernel
/-- LastCloud$Hops.build(LLastCloud$Sky;)V -/
def cd_17 : List Instr := [.aload 0, .iconst 0, .putfield 1060, .iconst 0, .istore 2, .iload 2, .iconst 16, .if_icmp .ge 34, .aload 0, .getfield 1002, .iload 2, .aload 0, .getfield 1060, .iastore, .iload 2, .iconst 8, .irem, 
  .istore 3, .iload 3, .aload 1, .getfield 10040, .if_icmp .ge 32, .aload 0, .aload 1, .iload 3, .iload 2, .iconst 8, .if_icmp .lt 30, .iconst 1, .goto 31, .iconst 0, .invokevirtual 144099, .iinc 2 1, 
  .goto 5, .aload 0, .getfield 1002, .iconst 16, .aload 0, .getfield 1060, .iastore, .aload 0, .aload 1, .iconst 0, .invokevirtual 168095, .aload 0, .aload 1, .iconst 1, .invokevirtual 168095, .return_]
def ps_17 : List Nat := [0, 1, 2, 5, 6, 7, 8, 10, 13, 14, 17, 18, 19, 22, 23, 24, 26, 27, 28, 29, 30, 33, 36, 37, 38, 39, 40, 42, 45, 46, 49, 50, 53, 56, 59, 60, 63, 65, 66, 69, 70, 71, 72, 73, 76, 77, 78, 79, 82]
theorem ck_17 : xChkM 1 false none prog_3_method_3_code cd_17 ps_17 = true := by decide +kernel
/-- LastCloud$Hops.addFrom(LLastCloud$Sky;IZ)V -/
def cd_18 : List Instr := [.iconst 0, .istore 4, .iload 4, .aload 1, .getfield 10050, .if_icmp .ge 43, .aload 1, .getfield 10012, .iload 4, .aaload, .astore 5, .aload 5, .getfield 2000, .iload 2, .if_icmp .eq 19, .aload 5, 
  .getfield 2010, .iload 2, .if_icmp .ne 41, .iconst 0, .istore 6, .iload 6, .aload 1, .getfield 10022, .getfield 6000, .if_icmp .ge 41, .aload 0, .aload 1, .iload 4, .aload 5, .getfield 2010, .iload 2, 
  .if_icmp .ne 35, .iconst 1, .goto 36, .iconst 0, .iload 6, .iload 3, .invokevirtual 152107, .iinc 6 1, .goto 21, .iinc 4 1, .goto 2, .return_]
def ps_18 : List Nat := [0, 1, 3, 5, 6, 9, 12, 13, 16, 18, 19, 21, 23, 26, 27, 30, 32, 35, 36, 39, 40, 42, 44, 45, 48, 51, 54, 55, 56, 58, 60, 63, 64, 67, 68, 71, 72, 74, 75, 78, 81, 84, 87, 90]
theorem ck_18 : xChkM 1 false none prog_3_method_4_code cd_18 ps_18 = true := by decide +kernel
/-- LastCloud$Hops.add(LLastCloud$Sky;IZIZ)V -/
def cd_19 : List Instr := [.aload 1, .iload 2, .iload 3, .iload 4, .iload 5, .invokevirtual 888820, .istore 6, .iload 6, .iconst (-1), .if_icmp .eq 14, .aload 0, .getfield 1060, .iconst 240, .if_icmp .lt 15, .return_, .aload 1, 
  .getfield 10012, .iload 2, .aaload, .astore 7, .iload 3, .ifCond .eq 25, .aload 7, .getfield 2010, .goto 27, .aload 7, .getfield 2000, .istore 8, .iload 3, .ifCond .eq 33, .aload 7, .getfield 2000, 
  .goto 35, .aload 7, .getfield 2010, .istore 9, .aload 1, .iload 2, .iload 3, .iload 4, .iload 5, .invokevirtual 896820, .istore 10, .aload 7, .getfield 2050, .iload 10, .iconst 2, .idiv, .iadd, 
  .aload 1, .getfield 10002, .iload 9, .aaload, .getfield 4000, .iload 10, .iadd, .dadd, .istore 11, .aload 0, .getfield 1012, .aload 0, .getfield 1060, .iload 9, .iastore, .aload 0, .getfield 1022, 
  .aload 0, .getfield 1060, .iload 6, .iastore, .aload 0, .getfield 1032, .aload 0, .getfield 1060, .iload 10, .iastore, .aload 0, .getfield 1042, .aload 0, .getfield 1060, .iload 11, .aload 1, 
  .getfield 10002, .iload 8, .aaload, .getfield 4000, .dadd, .iastore, .aload 0, .getfield 1052, .aload 0, .getfield 1060, .iconst 100, .iconst 10, .iload 2, .imul, .iadd, .iload 4, .iadd, .iastore, 
  .aload 0, .dup, .getfield 1060, .iconst 1, .iadd, .putfield 1060, .return_]
def ps_19 : List Nat := [0, 1, 2, 3, 5, 7, 10, 12, 14, 15, 18, 19, 22, 25, 28, 29, 30, 33, 34, 35, 37, 38, 41, 43, 46, 49, 51, 54, 56, 57, 60, 62, 65, 68, 70, 73, 75, 76, 77, 78, 80, 82, 85, 87, 89, 92, 94, 95, 96, 97, 98, 
  101, 103, 104, 107, 109, 110, 113, 115, 116, 119, 120, 123, 125, 126, 127, 130, 131, 134, 136, 137, 138, 141, 142, 145, 147, 148, 149, 152, 153, 156, 158, 159, 162, 164, 165, 168, 171, 172, 173, 176, 
  177, 180, 182, 184, 185, 186, 187, 189, 190, 191, 192, 193, 196, 197, 198, 201]
theorem ck_19 : xChkM 1 false none prog_3_method_5_code cd_19 ps_19 = true := by decide +kernel
/-- LastCloud$Hops.speedOf(I)I -/
def cd_20 : List Instr := [.aload 0, .getfield 1052, .iload 1, .iaload, .iconst 100, .isub, .iconst 10, .irem, .ireturn]
def ps_20 : List Nat := [0, 1, 4, 5, 6, 8, 9, 11, 12]
theorem ck_20 : xChkM 1 false (some .int) prog_3_method_6_code cd_20 ps_20 = true := by decide +kernel
/-- LastCloud$Hops.findEdges(LLastCloud$Sky;Z)V -/
def cd_21 : List Instr := [.iconst 0, .istore 3, .iload 3, .aload 1, .getfield 10040, .if_icmp .ge 25, .aload 0, .getfield 1072, .iload 3, .iload 2, .invokestatic 135928, .aload 1, .iload 3, .invokevirtual 856808, 
  .ifCond .eq 21, .aload 1, .getfield 10002, .iload 3, .aaload, .getfield 4000, .goto 22, .iconst 1000000, .iastore, .iinc 3 1, .goto 2, .iconst 1, .istore 3, .iconst 0, .istore 4, .iload 4, .iconst 496, 
  .if_icmp .gt 68, .iload 3, .ifCond .eq 68, .iconst 0, .istore 3, .iconst 0, .istore 5, .iload 5, .aload 1, .getfield 10040, .if_icmp .ge 66, .iload 5, .iload 2, .invokestatic 135928, .istore 6, 
  .aload 0, .aload 1, .iload 6, .invokevirtual 176092, .istore 7, .iload 7, .aload 0, .getfield 1072, .iload 6, .iaload, .if_icmp .ge 64, .aload 0, .getfield 1072, .iload 6, .iload 7, .iastore, 
  .iconst 1, .istore 3, .iinc 5 1, .goto 38, .iinc 4 1, .goto 29, .return_]
def ps_21 : List Nat := [0, 1, 2, 3, 4, 7, 10, 11, 14, 15, 16, 19, 20, 21, 24, 27, 28, 31, 32, 33, 36, 39, 41, 42, 45, 48, 49, 50, 51, 53, 55, 58, 61, 62, 65, 66, 67, 68, 70, 72, 73, 76, 79, 81, 82, 85, 87, 88, 89, 91, 94, 96, 
  98, 99, 102, 104, 105, 108, 109, 112, 114, 116, 117, 118, 119, 122, 125, 128, 131]
theorem ck_21 : xChkM 1 false none prog_3_method_7_code cd_21 ps_21 = true := by decide +kernel
/-- LastCloud$Hops.leastByHop(LLastCloud$Sky;I)I -/
def cd_22 : List Instr := [.iconst 1000000, .istore 3, .iload 2, .iload 2, .iconst 8, .irem, .isub, .istore 4, .aload 0, .getfield 1002, .iload 2, .iaload, .istore 5, .iload 5, .aload 0, .getfield 1002, .iload 2, .iconst 1, 
  .iadd, .iaload, .if_icmp .ge 56, .aload 0, .getfield 1072, .iload 4, .aload 0, .getfield 1012, .iload 5, .iaload, .iadd, .iaload, .istore 6, .iload 6, .iconst 1000000, .if_icmp .eq 54, .aload 0, 
  .getfield 1042, .iload 5, .iaload, .iload 6, .aload 0, .getfield 1032, .iload 5, .iaload, .iadd, .dadd, .istore 7, .iload 7, .aload 1, .getfield 10090, .if_icmp .gt 54, .iload 3, .iload 7, .dsub, 
  .istore 3, .iinc 5 1, .goto 13, .iload 3, .ireturn]
def ps_22 : List Nat := [0, 2, 3, 4, 5, 7, 8, 9, 11, 12, 15, 16, 17, 19, 21, 22, 25, 26, 27, 28, 29, 32, 33, 36, 38, 39, 42, 44, 45, 46, 47, 49, 51, 53, 56, 57, 60, 62, 63, 65, 66, 69, 71, 72, 73, 76, 78, 80, 81, 84, 87, 88, 
  90, 93, 94, 97, 100, 101]
theorem ck_22 : xChkM 1 false (some .int) prog_3_method_8_code cd_22 ps_22 = true := by decide +kernel
/-- LastCloud$Hops.glide(LLastCloud$Sky;IIZ)V -/
def cd_23 : List Instr := [.aload 0, .getfield 1082, .iconst (-1), .invokestatic 2575931, .iload 3, .aload 1, .getfield 10002, .iload 2, .aaload, .getfield 4000, .if_icmp .ge 12, .return_, .aload 0, .getfield 1082, .iload 2, 
  .iload 3, .iastore, .iconst 1, .istore 5, .iconst 0, .istore 6, .iload 6, .iconst 496, .if_icmp .gt 54, .iload 5, .ifCond .eq 54, .iconst 0, .istore 5, .iconst 0, .istore 7, .iload 7, .aload 1, 
  .getfield 10040, .if_icmp .ge 52, .aload 0, .getfield 1082, .iload 7, .iaload, .iconst (-1), .if_icmp .eq 50, .aload 0, .aload 1, .iload 7, .iload 7, .iload 4, .invokestatic 135928, 
  .invokevirtual 192096, .ifCond .eq 50, .iconst 1, .istore 5, .iinc 7 1, .goto 30, .iinc 6 1, .goto 21, .return_]
def ps_23 : List Nat := [0, 1, 4, 5, 8, 9, 10, 13, 14, 15, 18, 21, 22, 23, 26, 27, 28, 29, 30, 32, 33, 35, 37, 40, 43, 45, 48, 49, 51, 52, 54, 56, 57, 60, 63, 64, 67, 69, 70, 71, 74, 75, 76, 78, 80, 82, 85, 88, 91, 92, 94, 97, 
  100, 103, 106]
theorem ck_23 : xChkM 1 false none prog_3_method_9_code cd_23 ps_23 = true := by decide +kernel
/-- LastCloud$Hops.raiseFrom(LLastCloud$Sky;II)Z -/
def cd_24 : List Instr := [.iconst 0, .istore 4, .aload 0, .getfield 1002, .iload 3, .iaload, .istore 5, .iload 5, .aload 0, .getfield 1002, .iload 3, .iconst 1, .iadd, .iaload, .if_icmp .ge 57, .aload 1, .aload 0, 
  .getfield 1082, .iload 2, .iaload, .aload 0, .getfield 1032, .iload 5, .iaload, .isub, .invokevirtual 920808, .istore 6, .aload 0, .getfield 1082, .iload 2, .iaload, .aload 0, .getfield 1042, .iload 5, 
  .iaload, .if_icmp .lt 55, .iload 6, .aload 0, .getfield 1082, .aload 0, .getfield 1012, .iload 5, .iaload, .iaload, .if_icmp .le 55, .aload 0, .getfield 1082, .aload 0, .getfield 1012, .iload 5, 
  .iaload, .iload 6, .iastore, .iconst 1, .istore 4, .iinc 5 1, .goto 7, .iload 4, .freturn]
def ps_24 : List Nat := [0, 1, 3, 4, 7, 8, 9, 11, 13, 14, 17, 18, 19, 20, 21, 24, 25, 26, 29, 30, 31, 32, 35, 37, 38, 39, 42, 44, 45, 48, 49, 50, 51, 54, 56, 57, 60, 62, 63, 66, 67, 70, 72, 73, 74, 77, 78, 81, 82, 85, 87, 88, 
  90, 91, 92, 94, 97, 100, 102]
theorem ck_24 : xChkM 1 false (some .boolean) prog_3_method_10_code cd_24 ps_24 = true := by decide +kernel
/-- LastCloud$Hops.longestStreet(LLastCloud$Sky;)I -/
def cd_25 : List Instr := [.iconst 0, .istore 2, .aload 0, .getfield 1092, .iconst 0, .invokestatic 2575931, .iconst 0, .istore 3, .iload 3, .aload 1, .getfield 10040, .if_icmp .ge 23, .aload 0, .getfield 1092, .iconst 1, 
  .iload 3, .ishl, .iconst 1, .iload 3, .ishl, .iastore, .iinc 3 1, .goto 8, .iconst 1, .istore 3, .iload 3, .aload 1, .invokevirtual 864804, .if_icmp .gt 62, .aload 0, .getfield 1092, .iload 3, .iaload, 
  .ifCond .eq 39, .iload 2, .iload 3, .invokestatic 2559924, .dadd, .istore 2, .iconst 0, .istore 4, .iload 4, .aload 1, .getfield 10040, .if_icmp .ge 60, .aload 0, .getfield 1092, .iload 3, .iaload, 
  .iload 4, .ishr, .iconst 1, .iand, .ifCond .eq 58, .aload 0, .iload 3, .iload 4, .invokevirtual 208095, .iinc 4 1, .goto 41, .iinc 3 1, .goto 25, .iload 2, .ireturn]
def ps_25 : List Nat := [0, 1, 2, 3, 6, 7, 10, 11, 12, 13, 14, 17, 20, 21, 24, 25, 26, 27, 28, 29, 30, 31, 34, 37, 38, 39, 40, 41, 44, 47, 48, 51, 52, 53, 56, 57, 58, 61, 64, 65, 66, 68, 70, 71, 74, 77, 78, 81, 82, 83, 85, 86, 
  87, 88, 91, 92, 93, 95, 98, 101, 104, 107, 110, 111]
theorem ck_25 : xChkM 1 false (some .int) prog_3_method_11_code cd_25 ps_25 = true := by decide +kernel
/-- LastCloud$Hops.growStreets(II)V -/
def cd_26 : List Instr := [.aload 0, .getfield 1002, .iload 2, .iaload, .istore 3, .iload 3, .aload 0, .getfield 1002, .iload 2, .iconst 1, .iadd, .iaload, .if_icmp .ge 41, .iconst 1, .aload 0, .getfield 1012, .iload 3, .iaload, 
  .ishl, .istore 4, .aload 0, .getfield 1032, .iload 3, .iaload, .ifCond .gt 39, .iload 1, .iload 4, .iand, .ifCond .ne 39, .aload 0, .getfield 1092, .iload 1, .iload 4, .ior, .dup2, .iaload, .iload 4, 
  .ior, .iastore, .iinc 3 1, .goto 5, .return_]
def ps_26 : List Nat := [0, 1, 4, 5, 6, 7, 8, 9, 12, 13, 14, 15, 16, 19, 20, 21, 24, 25, 26, 27, 29, 30, 33, 34, 35, 38, 39, 41, 42, 45, 46, 49, 50, 52, 53, 54, 55, 57, 58, 59, 62, 65]
theorem ck_26 : xChkM 1 false none prog_3_method_12_code cd_26 ps_26 = true := by decide +kernel
end
section
/-- LastCloud$Leg.<init>()V -/
def cd_27 : List Instr := [.aload 0, .dneg, .return_]
def ps_27 : List Nat := [0, 1, 4]
theorem ck_27 : xChkM 2 true none prog_4_method_1_code cd_27 ps_27 = true := by decide +kernel
/-- LastCloud$Leg.copyFrom(LLastCloud$Leg;)V -/
def cd_28 : List Instr := [.aload 0, .aload 1, .getfield 2000, .putfield 2000, .aload 0, .aload 1, .getfield 2010, .putfield 2010, .aload 0, .aload 1, .getfield 2020, .putfield 2020, .aload 0, .aload 1, .getfield 2030, 
  .putfield 2030, .aload 0, .aload 1, .getfield 2040, .putfield 2040, .aload 0, .aload 1, .getfield 2050, .putfield 2050, .return_]
def ps_28 : List Nat := [0, 1, 2, 5, 8, 9, 10, 13, 16, 17, 18, 21, 24, 25, 26, 29, 32, 33, 34, 37, 40, 41, 42, 45, 48]
theorem ck_28 : xChkM 2 false none prog_4_method_2_code cd_28 ps_28 = true := by decide +kernel
/-- LastCloud$Outcomes.<init>()V -/
def cd_29 : List Instr := [.aload 0, .dneg, .aload 0, .iconst 46848, .newarray .byte, .putfield 3002, .return_]
def ps_29 : List Nat := [0, 1, 4, 5, 7, 9, 12]
theorem ck_29 : xChkM 3 true none prog_5_method_1_code cd_29 ps_29 = true := by decide +kernel
/-- LastCloud$Outcomes.spreadFromStart(LLastCloud$Plan;)V -/
def cd_30 : List Instr := [.aload 0, .aload 1, .putfield 3032, .aload 0, .aload 1, .getfield 5102, .putfield 3042, .aload 0, .getfield 3002, .iconst 0, .invokestatic 2583931, .aload 0, .iconst 2147483647, .putfield 3010, 
  .aload 0, .iconst (-2147483648), .putfield 3020, .aload 0, .iconst 0, .aload 0, .getfield 3042, .invokevirtual 848804, .aload 0, .getfield 3042, .getfield 10150, .aload 0, .getfield 3042, 
  .getfield 10160, .invokestatic 335936, .aload 0, .getfield 3042, .getfield 10150, .invokevirtual 248255, .iconst 0, .istore 2, .iload 2, .aload 0, .getfield 3042, .getfield 10100, .if_icmp .gt 50, 
  .aload 0, .iload 2, .iconst 1, .invokevirtual 256255, .aload 0, .iload 2, .iconst 0, .invokevirtual 256255, .iinc 2 1, .goto 35, .return_]
def ps_30 : List Nat := [0, 1, 2, 5, 6, 7, 10, 13, 14, 17, 18, 21, 22, 24, 27, 28, 30, 33, 34, 35, 36, 39, 42, 43, 46, 49, 50, 53, 56, 59, 60, 63, 66, 69, 70, 71, 72, 73, 76, 79, 82, 83, 84, 85, 88, 89, 90, 91, 94, 97, 100]
theorem ck_30 : xChkM 3 false none prog_5_method_2_code cd_30 ps_30 = true := by decide +kernel
/-- LastCloud$Outcomes.arrive(II)V -/
def cd_31 : List Instr := [.aload 0, .getfield 3032, .getfield 5062, .iload 2, .iaload, .ifCond .le 15, .aload 0, .getfield 3002, .iload 1, .dup2, .baload, .iconst 2, .ior, .i2b, .bastore, .aload 0, .getfield 3032, 
  .getfield 5062, .iload 2, .iaload, .iconst 100, .if_icmp .ge 31, .aload 0, .getfield 3002, .iload 1, .dup2, .baload, .iconst 1, .ior, .i2b, .bastore, .return_]
def ps_31 : List Nat := [0, 1, 4, 7, 8, 9, 12, 13, 16, 17, 18, 19, 20, 21, 22, 23, 24, 27, 30, 31, 32, 34, 37, 38, 41, 42, 43, 44, 45, 46, 47, 48]
theorem ck_31 : xChkM 3 false none prog_5_method_3_code cd_31 ps_31 = true := by decide +kernel
/-- LastCloud$Outcomes.spreadFrom(IZ)V -/
def cd_32 : List Instr := [.iconst 0, .istore 3, .iload 3, .aload 0, .getfield 3042, .getfield 10040, .if_icmp .ge 54, .aload 0, .getfield 3042, .getfield 10002, .iload 3, .aaload, .getfield 4000, .istore 4, .iload 4, .aload 0, 
  .getfield 3042, .getfield 10090, .if_icmp .gt 52, .aload 0, .getfield 3002, .iload 1, .iload 2, .iload 3, .iload 4, .invokestatic 335936, .baload, .istore 5, .iload 5, .iconst 2, .iand, .ifCond .eq 39, 
  .aload 0, .iload 1, .iload 2, .iload 3, .iload 4, .iconst 1, .invokevirtual 264267, .iload 5, .iconst 1, .iand, .ifCond .eq 50, .aload 0, .iload 1, .iload 2, .iload 3, .iload 4, .iconst 0, 
  .invokevirtual 264267, .iinc 4 1, .goto 14, .iinc 3 1, .goto 2, .return_]
def ps_32 : List Nat := [0, 1, 2, 3, 4, 7, 10, 13, 14, 17, 20, 21, 22, 25, 27, 29, 30, 33, 36, 39, 40, 43, 44, 45, 46, 48, 51, 52, 54, 56, 57, 58, 61, 62, 63, 64, 65, 67, 68, 71, 73, 74, 75, 78, 79, 80, 81, 82, 84, 85, 88, 91, 
  94, 97, 100]
theorem ck_32 : xChkM 3 false none prog_5_method_4_code cd_32 ps_32 = true := by decide +kernel
/-- LastCloud$Outcomes.follow(IZIIZ)V -/
def cd_33 : List Instr := [.aload 0, .getfield 3032, .iload 1, .iload 2, .iload 3, .iload 4, .invokestatic 335936, .iload 5, .invokevirtual 376412, .istore 6, .iload 6, .iconst (-1), .if_icmp .ne 35, .aload 0, .getfield 3042, 
  .aload 0, .getfield 3032, .getfield 5120, .iload 3, .iload 1, .invokevirtual 944816, .istore 7, .aload 0, .aload 0, .getfield 3010, .iload 7, .dsub, .putfield 3010, .aload 0, .aload 0, .getfield 3020, 
  .iload 7, .dadd, .putfield 3020, .goto 92, .iload 6, .ifCond .ne 64, .aload 0, .getfield 3042, .iload 4, .aload 0, .getfield 3042, .iload 3, .iload 2, .invokevirtual 904812, .iadd, 
  .invokevirtual 920808, .istore 7, .aload 0, .getfield 3002, .iload 1, .iconst 1, .iadd, .iload 2, .iload 3, .iload 7, .invokestatic 335936, .dup2, .baload, .iconst 2, .ior, .i2b, .bastore, .goto 92, 
  .iload 6, .iconst 1, .if_icmp .ne 85, .aload 0, .getfield 3002, .iload 1, .iconst 0, .iload 3, .iload 4, .invokestatic 335936, .dup2, .baload, .iload 5, .ifCond .eq 80, .iconst 2, .goto 81, .iconst 1, 
  .ior, .i2b, .bastore, .goto 92, .aload 0, .iload 6, .iload 1, .iload 2, .iload 3, .iload 4, .invokevirtual 272267, .return_]
def ps_33 : List Nat := [0, 1, 4, 5, 6, 7, 9, 12, 14, 17, 19, 21, 22, 25, 26, 29, 30, 33, 36, 37, 38, 41, 43, 44, 45, 48, 50, 53, 56, 57, 58, 61, 63, 66, 69, 72, 74, 77, 78, 81, 83, 84, 87, 88, 89, 92, 93, 96, 98, 99, 102, 
  103, 104, 105, 106, 107, 109, 112, 113, 114, 115, 116, 117, 118, 121, 123, 124, 127, 128, 131, 132, 133, 134, 136, 139, 140, 141, 143, 146, 147, 150, 151, 152, 153, 154, 157, 158, 160, 161, 162, 163, 
  165, 168]
theorem ck_33 : xChkM 3 false none prog_5_method_5_code cd_33 ps_33 = true := by decide +kernel
/-- LastCloud$Outcomes.followLeg(IIZII)V -/
def cd_34 : List Instr := [.iload 1, .iconst 100, .isub, .iconst 10, .idiv, .istore 6, .iload 1, .iconst 100, .isub, .iconst 10, .irem, .istore 7, .aload 0, .getfield 3042, .getfield 10012, .iload 6, .aaload, .astore 8, 
  .aload 8, .getfield 2010, .iload 4, .if_icmp .ne 24, .iconst 1, .goto 25, .iconst 0, .istore 9, .iload 9, .ifCond .eq 31, .aload 8, .getfield 2000, .goto 33, .aload 8, .getfield 2010, .istore 10, 
  .aload 0, .getfield 3042, .iload 5, .aload 0, .getfield 3042, .iload 6, .iload 9, .iload 7, .iload 3, .invokevirtual 896820, .isub, .invokevirtual 920808, .istore 11, .aload 0, .iload 2, .aload 0, 
  .getfield 3042, .iload 6, .iload 9, .iload 7, .iload 3, .invokevirtual 888820, .iadd, .iload 3, .iload 10, .iload 11, .invokestatic 335936, .iload 10, .invokevirtual 248255, .return_]
def ps_34 : List Nat := [0, 1, 3, 4, 6, 7, 9, 10, 12, 13, 15, 16, 18, 19, 22, 25, 27, 28, 30, 32, 35, 37, 40, 41, 44, 45, 47, 49, 52, 54, 57, 60, 62, 65, 67, 68, 71, 73, 74, 77, 79, 81, 83, 84, 87, 88, 91, 93, 94, 95, 96, 99, 
  101, 103, 105, 106, 109, 110, 111, 113, 115, 118, 120, 123]
theorem ck_34 : xChkM 3 false none prog_5_method_6_code cd_34 ps_34 = true := by decide +kernel
/-- LastCloud$Place.<init>()V -/
def cd_35 : List Instr := [.aload 0, .dneg, .return_]
def ps_35 : List Nat := [0, 1, 4]
theorem ck_35 : xChkM 4 true none prog_6_method_1_code cd_35 ps_35 = true := by decide +kernel
/-- LastCloud$Place.clear()V -/
def cd_36 : List Instr := [.aload 0, .iconst 0, .putfield 4000, .aload 0, .iconst (-1), .putfield 4010, .aload 0, .iconst 0, .putfield 4023, .aload 0, .iconst 0, .putfield 4030, .aload 0, .iconst 0, .putfield 4040, .aload 0, 
  .iconst 0, .putfield 4050, .aload 0, .iconst 0, .putfield 4060, .return_]
def ps_36 : List Nat := [0, 1, 2, 5, 6, 7, 10, 11, 12, 15, 16, 17, 20, 21, 22, 25, 26, 27, 30, 31, 32, 35]
theorem ck_36 : xChkM 4 false none prog_6_method_2_code cd_36 ps_36 = true := by decide +kernel
/-- LastCloud$Place.copyFrom(LLastCloud$Place;)V -/
def cd_37 : List Instr := [.aload 0, .aload 1, .getfield 4000, .putfield 4000, .aload 0, .aload 1, .getfield 4010, .putfield 4010, .aload 0, .aload 1, .getfield 4020, .putfield 4023, .aload 0, .aload 1, .getfield 4030, 
  .putfield 4030, .aload 0, .aload 1, .getfield 4040, .putfield 4040, .aload 0, .aload 1, .getfield 4050, .putfield 4050, .aload 0, .aload 1, .getfield 4060, .putfield 4060, .return_]
def ps_37 : List Nat := [0, 1, 2, 5, 8, 9, 10, 13, 16, 17, 18, 21, 24, 25, 26, 29, 32, 33, 34, 37, 40, 41, 42, 45, 48, 49, 50, 53, 56]
theorem ck_37 : xChkM 4 false none prog_6_method_3_code cd_37 ps_37 = true := by decide +kernel
/-- LastCloud$Place.afterSight(II)I -/
def cd_38 : List Instr := [.iload 2, .ifCond .ne 4, .iconst 100, .ireturn, .iload 2, .iconst 1, .if_icmp .ne 9, .iconst 0, .ireturn, .aload 0, .iload 1, .iload 2, .iconst 2, .if_icmp .ne 16, .iconst 1, .goto 17, .iconst 0, 
  .iconst 100, .invokevirtual 312336, .istore 3, .iload 3, .iconst (-1), .if_icmp .ne 25, .iload 1, .goto 26, .iload 3, .ireturn]
def ps_38 : List Nat := [0, 1, 4, 6, 7, 8, 9, 12, 13, 14, 15, 16, 17, 18, 21, 22, 25, 26, 28, 31, 32, 33, 34, 37, 38, 41, 42]
theorem ck_38 : xChkM 4 false (some .int) prog_6_method_4_code cd_38 ps_38 = true := by decide +kernel
/-- LastCloud$Place.bySign(IZI)I -/
def cd_39 : List Instr := [.iload 1, .iload 2, .ifCond .eq 6, .aload 0, .getfield 4050, .goto 10, .iconst 100, .aload 0, .getfield 4050, .isub, .imul, .istore 4, .iconst 100, .iload 1, .isub, .iload 2, .ifCond .eq 20, .aload 0, 
  .getfield 4060, .goto 24, .iconst 100, .aload 0, .getfield 4060, .isub, .imul, .istore 5, .iload 4, .iload 5, .iadd, .ifCond .ne 32, .iconst (-1), .goto 39, .iload 3, .iload 4, .imul, .iload 4, 
  .iload 5, .iadd, .idiv, .ireturn]
def ps_39 : List Nat := [0, 1, 2, 5, 6, 9, 12, 14, 15, 18, 19, 20, 22, 24, 25, 26, 27, 30, 31, 34, 37, 39, 40, 43, 44, 45, 47, 49, 51, 52, 55, 56, 59, 60, 62, 63, 65, 67, 68, 69]
theorem ck_39 : xChkM 4 false (some .int) prog_6_method_5_code cd_39 ps_39 = true := by decide +kernel
/-- LastCloud$Plan.<init>()V -/
def cd_40 : List Instr := [.aload 0, .dneg, .aload 0, .iconst 46848, .newarray .int, .putfield 5002, .aload 0, .iconst 46848, .newarray .int, .putfield 5012, .aload 0, .iconst 46848, .newarray .int, .putfield 5022, .aload 0, 
  .iconst 46848, .newarray .int, .putfield 5032, .aload 0, .iconst 46848, .newarray .int, .putfield 5042, .aload 0, .iconst 240, .newarray .int, .putfield 5052, .aload 0, .iconst 8, .newarray .int, 
  .putfield 5062, .aload 0, .iconst 8, .newarray .int, .putfield 5072, .aload 0, .iconst 8, .newarray .int, .putfield 5082, .return_]
def ps_40 : List Nat := [0, 1, 4, 5, 7, 9, 12, 13, 15, 17, 20, 21, 23, 25, 28, 29, 31, 33, 36, 37, 39, 41, 44, 45, 48, 50, 53, 54, 56, 58, 61, 62, 64, 66, 69, 70, 72, 74, 77]
theorem ck_40 : xChkM 5 true none prog_7_method_1_code cd_40 ps_40 = true := by decide +kernel
/-- LastCloud$Plan.spot(IZII)I -/
def cd_41 : List Instr := [.iload 0, .iconst 2, .imul, .iload 1, .ifCond .eq 7, .iconst 1, .goto 8, .iconst 0, .iadd, .iconst 8, .imul, .iload 2, .iadd, .iconst 61, .imul, .iload 3, .iadd, .ireturn]
def ps_41 : List Nat := [0, 1, 2, 3, 4, 7, 8, 11, 12, 13, 15, 16, 17, 18, 20, 21, 22, 23]
theorem ck_41 : xChkM 5 false (some .int) prog_7_method_2_code cd_41 ps_41 = true := by decide +kernel
/-- LastCloud$Plan.begin(LLastCloud$Sky;LLastCloud$Hops;I)V -/
def cd_42 : List Instr := [.aload 0, .aload 1, .putfield 5102, .aload 0, .aload 2, .putfield 5112, .aload 0, .iload 3, .putfield 5120, .aload 0, .aload 0, .getfield 5102, .getfield 10100, .iconst 1, .iadd, .putfield 5130, 
  .aload 0, .aload 0, .getfield 5130, .putfield 5140, .iconst 0, .istore 4, .iload 4, .aload 0, .getfield 5102, .getfield 10040, .if_icmp .ge 55, .aload 0, .getfield 5062, .iload 4, .aload 0, 
  .getfield 5102, .iload 4, .invokevirtual 928808, .iastore, .aload 0, .getfield 5072, .iload 4, .aload 0, .getfield 5102, .iload 4, .iconst 0, .invokevirtual 904812, .iastore, .aload 0, .getfield 5082, 
  .iload 4, .aload 0, .getfield 5102, .iload 4, .iconst 1, .invokevirtual 904812, .iastore, .iinc 4 1, .goto 22, .iconst 0, .istore 4, .iload 4, .iconst 16, .if_icmp .ge 92, .aload 0, .getfield 5112, 
  .getfield 1002, .iload 4, .iaload, .istore 5, .iload 5, .aload 0, .getfield 5112, .getfield 1002, .iload 4, .iconst 1, .iadd, .iaload, .if_icmp .ge 90, .aload 0, .getfield 5052, .iload 5, .aload 0, 
  .iload 5, .iload 4, .iconst 8, .if_icmp .lt 85, .iconst 1, .goto 86, .iconst 0, .invokevirtual 344412, .iastore, .iinc 5 1, .goto 66, .iinc 4 1, .goto 57, .aload 0, .iconst 1, .putfield 5093, .return_]
def ps_42 : List Nat := [0, 1, 2, 5, 6, 7, 10, 11, 12, 15, 16, 17, 20, 23, 24, 25, 28, 29, 30, 33, 36, 37, 39, 41, 42, 45, 48, 51, 52, 55, 57, 58, 61, 63, 66, 67, 68, 71, 73, 74, 77, 79, 80, 83, 84, 85, 88, 90, 91, 94, 96, 97, 
  100, 101, 104, 107, 108, 110, 112, 114, 117, 118, 121, 124, 126, 127, 129, 131, 132, 135, 138, 140, 141, 142, 143, 146, 147, 150, 152, 153, 155, 157, 159, 162, 163, 166, 167, 170, 171, 174, 177, 180, 
  183, 184, 185, 188]
theorem ck_42 : xChkM 5 false none prog_7_method_3_code cd_42 ps_42 = true := by decide +kernel
/-- LastCloud$Plan.leastByRule(IZ)I -/
def cd_43 : List Instr := [.aload 0, .getfield 5112, .getfield 1012, .iload 1, .iaload, .istore 3, .aload 0, .getfield 5120, .iconst 1, .if_icmp .ne 37, .aload 0, .getfield 5112, .getfield 1072, .iload 3, .iload 2, 
  .invokestatic 135928, .iaload, .istore 4, .iload 4, .iconst 1000000, .if_icmp .ne 23, .iconst 1000000, .goto 36, .aload 0, .getfield 5112, .getfield 1042, .iload 1, .iaload, .iload 4, .aload 0, 
  .getfield 5112, .getfield 1032, .iload 1, .iaload, .iadd, .dadd, .ireturn, .aload 0, .getfield 5120, .iconst 3, .if_icmp .ne 52, .aload 0, .getfield 5112, .iload 1, .invokevirtual 160088, .aload 0, 
  .getfield 5102, .iload 3, .invokevirtual 936808, .if_icmp .eq 52, .iconst 1000000, .ireturn, .aload 0, .getfield 5112, .getfield 1042, .iload 1, .iaload, .ireturn]
def ps_43 : List Nat := [0, 1, 4, 7, 8, 9, 10, 11, 14, 15, 18, 19, 22, 25, 26, 27, 30, 31, 33, 35, 37, 40, 42, 45, 46, 49, 52, 53, 54, 56, 57, 60, 63, 64, 65, 66, 69, 70, 71, 74, 75, 78, 79, 82, 83, 86, 87, 90, 91, 94, 97, 99, 
  100, 101, 104, 107, 108, 109]
theorem ck_43 : xChkM 5 false (some .int) prog_7_method_4_code cd_43 ps_43 = true := by decide +kernel
/-- LastCloud$Plan.setChance(II)V -/
def cd_44 : List Instr := [.aload 0, .getfield 5062, .iload 1, .iload 2, .iastore, .return_]
def ps_44 : List Nat := [0, 1, 4, 5, 6, 7]
theorem ck_44 : xChkM 5 false none prog_7_method_5_code cd_44 ps_44 = true := by decide +kernel
/-- LastCloud$Plan.setDryWin(II)V -/
def cd_45 : List Instr := [.aload 0, .getfield 5072, .iload 1, .iload 2, .iastore, .return_]
def ps_45 : List Nat := [0, 1, 4, 5, 6, 7]
theorem ck_45 : xChkM 5 false none prog_7_method_6_code cd_45 ps_45 = true := by decide +kernel
/-- LastCloud$Plan.worthAt(IZ)I -/
def cd_46 : List Instr := [.iload 2, .ifCond .eq 7, .aload 0, .getfield 5002, .iload 1, .iaload, .goto 11, .aload 0, .getfield 5012, .iload 1, .iaload, .ireturn]
def ps_46 : List Nat := [0, 1, 4, 5, 8, 9, 10, 13, 14, 17, 18, 19]
theorem ck_46 : xChkM 5 false (some .int) prog_7_method_7_code cd_46 ps_46 = true := by decide +kernel
/-- LastCloud$Plan.deedAt(IZ)I -/
def cd_47 : List Instr := [.iload 2, .ifCond .eq 7, .aload 0, .getfield 5032, .iload 1, .iaload, .goto 11, .aload 0, .getfield 5042, .iload 1, .iaload, .iconst 1000, .irem, .iconst 1, .isub, .ireturn]
def ps_47 : List Nat := [0, 1, 4, 5, 8, 9, 10, 13, 14, 17, 18, 19, 22, 23, 24, 25]
theorem ck_47 : xChkM 5 false (some .int) prog_7_method_8_code cd_47 ps_47 = true := by decide +kernel
/-- LastCloud$Plan.homeAt(IZ)I -/
def cd_48 : List Instr := [.iload 2, .ifCond .eq 7, .aload 0, .getfield 5032, .iload 1, .iaload, .goto 11, .aload 0, .getfield 5042, .iload 1, .iaload, .iconst 1000, .idiv, .ireturn]
def ps_48 : List Nat := [0, 1, 4, 5, 8, 9, 10, 13, 14, 17, 18, 19, 22, 23]
theorem ck_48 : xChkM 5 false (some .int) prog_7_method_9_code cd_48 ps_48 = true := by decide +kernel
/-- LastCloud$Plan.startWorth(Z)I -/
def cd_49 : List Instr := [.aload 0, .iconst 0, .iload 1, .invokevirtual 400415, .aload 0, .getfield 5022, .iconst 0, .iload 1, .aload 0, .getfield 5102, .getfield 10150, .aload 0, .getfield 5102, .getfield 10160, 
  .invokestatic 335936, .iaload, .ireturn]
def ps_49 : List Nat := [0, 1, 2, 3, 6, 7, 10, 11, 12, 13, 16, 19, 20, 23, 26, 29, 30]
theorem ck_49 : xChkM 5 false (some .int) prog_7_method_10_code cd_49 ps_49 = true := by decide +kernel
/-- LastCloud$Plan.fill(IZ)V -/
def cd_50 : List Instr := [.aload 0, .getfield 5130, .iconst 1, .isub, .istore 3, .iload 3, .iload 1, .if_icmp .lt 17, .aload 0, .iload 3, .iconst 0, .invokevirtual 408415, .aload 0, .iload 3, .putfield 5130, .iinc 3 (-1), 
  .goto 5, .iload 2, .ifCond .eq 36, .aload 0, .getfield 5140, .iconst 1, .isub, .istore 3, .iload 3, .iload 1, .if_icmp .lt 36, .aload 0, .iload 3, .iconst 1, .invokevirtual 408415, .aload 0, .iload 3, 
  .putfield 5140, .iinc 3 (-1), .goto 24, .return_]
def ps_50 : List Nat := [0, 1, 4, 5, 6, 7, 8, 9, 12, 13, 14, 15, 18, 19, 20, 23, 26, 29, 30, 33, 34, 37, 38, 39, 40, 41, 42, 45, 46, 47, 48, 51, 52, 53, 56, 59, 62]
theorem ck_50 : xChkM 5 false none prog_7_method_11_code cd_50 ps_50 = true := by decide +kernel
/-- LastCloud$Plan.fillPeriod(IZ)V -/
def cd_51 : List Instr := [.iconst 0, .istore 3, .iload 3, .aload 0, .getfield 5102, .getfield 10040, .if_icmp .ge 69, .aload 0, .getfield 5102, .getfield 10002, .iload 3, .aaload, .getfield 4000, .istore 4, .iload 4, .aload 0, 
  .getfield 5102, .getfield 10090, .if_icmp .gt 67, .aload 0, .iload 1, .iload 2, .iload 3, .iload 4, .invokevirtual 416420, .istore 5, .iload 1, .iload 2, .iload 3, .iload 4, .invokestatic 335936, 
  .istore 6, .aload 0, .iload 6, .iload 1, .iload 3, .iload 4, .iload 5, .iconst 1, .invokevirtual 432431, .aload 0, .iload 6, .iload 1, .iload 3, .iload 4, .iload 5, .iconst 0, .invokevirtual 432431, 
  .aload 0, .getfield 5022, .iload 6, .aload 0, .getfield 5062, .iload 3, .iaload, .aload 0, .getfield 5002, .iload 6, .iaload, .aload 0, .getfield 5012, .iload 6, .iaload, .invokestatic 1295932, 
  .iastore, .iinc 4 1, .goto 14, .iinc 3 1, .goto 2, .return_]
def ps_51 : List Nat := [0, 1, 2, 3, 4, 7, 10, 13, 14, 17, 20, 21, 22, 25, 27, 29, 30, 33, 36, 39, 40, 41, 42, 43, 45, 48, 50, 51, 52, 53, 55, 58, 60, 61, 63, 64, 65, 67, 69, 70, 73, 74, 76, 77, 78, 80, 82, 83, 86, 87, 90, 92, 
  93, 96, 97, 98, 99, 102, 104, 105, 106, 109, 111, 112, 115, 116, 119, 122, 125, 128]
theorem ck_51 : xChkM 5 false none prog_7_method_12_code cd_51 ps_51 = true := by decide +kernel
/-- LastCloud$Plan.bestHop(IZII)I -/
def cd_52 : List Instr := [.iconst (-1), .istore 5, .iconst 0, .istore 6, .iload 3, .iload 2, .invokestatic 135928, .istore 7, .aload 0, .getfield 5112, .getfield 1002, .iload 7, .iaload, .istore 8, .iload 8, .aload 0, 
  .getfield 5112, .getfield 1002, .iload 7, .iconst 1, .iadd, .iaload, .if_icmp .ge 62, .iload 4, .aload 0, .getfield 5052, .iload 8, .iaload, .if_icmp .lt 60, .iload 1, .aload 0, .getfield 5112, 
  .getfield 1022, .iload 8, .iaload, .iadd, .aload 0, .getfield 5102, .getfield 10100, .if_icmp .gt 60, .aload 0, .getfield 5022, .aload 0, .iload 8, .iload 1, .iload 2, .iload 4, .invokevirtual 424420, 
  .iaload, .istore 9, .iload 5, .iconst (-1), .if_icmp .eq 56, .iload 9, .iload 6, .if_icmp .le 60, .iload 8, .istore 5, .iload 9, .istore 6, .iinc 8 1, .goto 14, .iload 5, .ireturn]
def ps_52 : List Nat := [0, 1, 3, 4, 6, 7, 8, 11, 13, 14, 17, 20, 22, 23, 25, 27, 28, 31, 34, 36, 37, 38, 39, 42, 44, 45, 48, 50, 51, 54, 55, 56, 59, 62, 64, 65, 66, 67, 70, 73, 76, 77, 80, 81, 83, 84, 85, 87, 90, 91, 93, 95, 
  96, 99, 101, 103, 106, 108, 110, 112, 114, 117, 120, 122]
theorem ck_52 : xChkM 5 false (some .int) prog_7_method_13_code cd_52 ps_52 = true := by decide +kernel
/-- LastCloud$Plan.behind(IIZI)I -/
def cd_53 : List Instr := [.aload 0, .getfield 5102, .getfield 10090, .iload 4, .aload 0, .getfield 5112, .getfield 1032, .iload 1, .iaload, .isub, .dsub, .istore 5, .iload 2, .aload 0, .getfield 5112, .getfield 1022, .iload 1, 
  .iaload, .iadd, .iload 3, .aload 0, .getfield 5112, .getfield 1012, .iload 1, .iaload, .iload 5, .invokestatic 335936, .ireturn]
def ps_53 : List Nat := [0, 1, 4, 7, 9, 10, 13, 16, 17, 18, 19, 22, 24, 25, 26, 29, 32, 33, 34, 35, 36, 37, 40, 43, 44, 45, 47, 50]
theorem ck_53 : xChkM 5 false (some .int) prog_7_method_14_code cd_53 ps_53 = true := by decide +kernel
end
section
/-- LastCloud$Plan.settle(IIIIIZ)V -/
def cd_54 : List Instr := [.iload 1, .iconst 488, .idiv, .iconst 2, .irem, .iconst 1, .if_icmp .ne 9, .iconst 1, .goto 10, .iconst 0, .istore 7, .aload 0, .getfield 5102, .aload 0, .getfield 5120, .iload 3, .iload 2, 
  .invokevirtual 944816, .istore 8, .iconst (-1), .istore 9, .iload 3, .aload 0, .getfield 5102, .getfield 10140, .if_icmp .ne 28, .iconst 10000, .goto 29, .iconst 0, .istore 10, .aload 0, 
  .getfield 5102, .iload 4, .iload 7, .ifCond .eq 40, .aload 0, .getfield 5082, .iload 3, .iaload, .goto 44, .aload 0, .getfield 5072, .iload 3, .iaload, .iadd, .invokevirtual 920808, .istore 11, 
  .iload 6, .ifCond .eq 83, .iload 11, .iload 4, .if_icmp .le 83, .iload 2, .aload 0, .getfield 5102, .getfield 10100, .if_icmp .ge 83, .iload 2, .iconst 1, .iadd, .iload 7, .iload 3, .iload 11, 
  .invokestatic 335936, .istore 12, .aload 0, .getfield 5002, .iload 12, .iaload, .iload 8, .if_icmp .le 83, .aload 0, .getfield 5002, .iload 12, .iaload, .istore 8, .iconst 0, .istore 9, .aload 0, 
  .iload 12, .iconst 1, .invokevirtual 384412, .istore 10, .iload 7, .ifCond .eq 109, .iload 2, .iconst 0, .iload 3, .iload 4, .invokestatic 335936, .istore 12, .aload 0, .iload 12, .iload 6, 
  .invokevirtual 368412, .iload 8, .if_icmp .le 109, .aload 0, .iload 12, .iload 6, .invokevirtual 368412, .istore 8, .iconst 1, .istore 9, .aload 0, .iload 12, .iload 6, .invokevirtual 384412, 
  .istore 10, .iload 5, .iconst (-1), .if_icmp .eq 154, .aload 0, .iload 5, .iload 2, .iload 7, .iload 4, .invokevirtual 424420, .istore 12, .aload 0, .getfield 5022, .iload 12, .iaload, .iload 8, 
  .if_icmp .le 154, .aload 0, .getfield 5022, .iload 12, .iaload, .istore 8, .aload 0, .getfield 5112, .getfield 1052, .iload 5, .iaload, .istore 9, .aload 0, .getfield 5062, .aload 0, .getfield 5112, 
  .getfield 1012, .iload 5, .iaload, .iaload, .aload 0, .iload 12, .iconst 1, .invokevirtual 384412, .aload 0, .iload 12, .iconst 0, .invokevirtual 384412, .invokestatic 1295932, .istore 10, .iload 6, 
  .ifCond .eq 173, .aload 0, .getfield 5002, .iload 1, .iload 8, .iastore, .aload 0, .getfield 5032, .iload 1, .iload 10, .iconst 1000, .imul, .iload 9, .iadd, .iconst 1, .iadd, .iastore, .goto 189, 
  .aload 0, .getfield 5012, .iload 1, .iload 8, .iastore, .aload 0, .getfield 5042, .iload 1, .iload 10, .iconst 1000, .imul, .iload 9, .iadd, .iconst 1, .iadd, .iastore, .return_]
def ps_54 : List Nat := [0, 1, 4, 5, 6, 7, 8, 11, 12, 15, 16, 18, 19, 22, 23, 26, 27, 28, 31, 33, 34, 36, 37, 38, 41, 44, 47, 50, 53, 54, 56, 57, 60, 62, 64, 67, 68, 71, 72, 73, 76, 77, 80, 81, 82, 83, 86, 88, 90, 93, 95, 97, 
  100, 101, 102, 105, 108, 111, 112, 113, 114, 116, 117, 119, 122, 124, 125, 128, 130, 131, 133, 136, 137, 140, 142, 143, 145, 146, 148, 149, 151, 152, 155, 157, 159, 162, 163, 164, 165, 167, 170, 172, 
  173, 175, 177, 180, 182, 185, 186, 188, 190, 193, 195, 196, 198, 199, 201, 203, 206, 208, 210, 211, 214, 215, 217, 218, 220, 222, 225, 227, 228, 231, 233, 234, 236, 239, 240, 243, 245, 246, 248, 249, 
  252, 255, 257, 258, 260, 261, 264, 265, 268, 271, 273, 274, 275, 276, 278, 279, 282, 283, 285, 286, 289, 292, 294, 296, 299, 300, 303, 304, 306, 307, 308, 311, 312, 314, 317, 318, 320, 321, 322, 323, 
  324, 327, 328, 331, 332, 334, 335, 336, 339, 340, 342, 345, 346, 348, 349, 350, 351, 352]
theorem ck_54 : xChkM 5 false none prog_7_method_15_code cd_54 ps_54 = true := by decide +kernel
/-- LastCloud$Polar.<init>()V -/
def cd_55 : List Instr := [.aload 0, .dneg, .aload 0, .iconst 6, .newarray .int, .putfield 6012, .aload 0, .iconst 6, .newarray .int, .putfield 6022, .return_]
def ps_55 : List Nat := [0, 1, 4, 5, 7, 9, 12, 13, 15, 17, 20]
theorem ck_55 : xChkM 6 true none prog_8_method_1_code cd_55 ps_55 = true := by decide +kernel
/-- LastCloud$Polar.add(II)V -/
def cd_56 : List Instr := [.aload 0, .getfield 6000, .iconst 6, .if_icmp .ge 22, .aload 0, .getfield 6012, .aload 0, .getfield 6000, .iload 1, .iastore, .aload 0, .getfield 6022, .aload 0, .getfield 6000, .iload 2, .iastore, 
  .aload 0, .dup, .getfield 6000, .iconst 1, .iadd, .putfield 6000, .return_]
def ps_56 : List Nat := [0, 1, 4, 6, 9, 10, 13, 14, 17, 18, 19, 20, 23, 24, 27, 28, 29, 30, 31, 34, 35, 36, 39]
theorem ck_56 : xChkM 6 false none prog_8_method_2_code cd_56 ps_56 = true := by decide +kernel
/-- LastCloud$Polar.copyFrom(LLastCloud$Polar;)V -/
def cd_57 : List Instr := [.aload 0, .aload 1, .getfield 6000, .putfield 6000, .aload 1, .getfield 6012, .iconst 0, .aload 0, .getfield 6012, .iconst 0, .iconst 6, .dmul, .aload 1, .getfield 6022, .iconst 0, .aload 0, 
  .getfield 6022, .iconst 0, .iconst 6, .dmul, .return_]
def ps_57 : List Nat := [0, 1, 2, 5, 8, 9, 12, 13, 14, 17, 18, 20, 23, 24, 27, 28, 29, 32, 33, 35, 38]
theorem ck_57 : xChkM 6 false none prog_8_method_3_code cd_57 ps_57 = true := by decide +kernel
/-- LastCloud$Polar.fastest(I)I -/
def cd_58 : List Instr := [.iconst (-1), .istore 2, .iconst 0, .istore 3, .iload 3, .aload 0, .getfield 6000, .if_icmp .ge 38, .iload 2, .iconst (-1), .if_icmp .eq 34, .aload 0, .getfield 6012, .iload 3, .iaload, .iload 1, 
  .aload 0, .getfield 6022, .iload 2, .iaload, .iadd, .imul, .aload 0, .getfield 6012, .iload 2, .iaload, .iload 1, .aload 0, .getfield 6022, .iload 3, .iaload, .iadd, .imul, .if_icmp .le 36, .iload 3, 
  .istore 2, .iinc 3 1, .goto 4, .iload 2, .ireturn]
def ps_58 : List Nat := [0, 1, 2, 3, 4, 5, 6, 9, 12, 13, 14, 17, 18, 21, 22, 23, 24, 25, 28, 29, 30, 31, 32, 33, 36, 37, 38, 39, 40, 43, 44, 45, 46, 47, 50, 51, 52, 55, 58, 59]
theorem ck_58 : xChkM 6 false (some .int) prog_8_method_4_code cd_58 ps_58 = true := by decide +kernel
/-- LastCloud$Polar.tenHours(II)I -/
def cd_59 : List Instr := [.iconst 10, .aload 0, .getfield 6012, .iload 1, .iaload, .imul, .iload 2, .imul, .iload 2, .aload 0, .getfield 6022, .iload 1, .iaload, .iadd, .idiv, .ireturn]
def ps_59 : List Nat := [0, 2, 3, 6, 7, 8, 9, 10, 11, 12, 13, 16, 17, 18, 19, 20]
theorem ck_59 : xChkM 6 false (some .int) prog_8_method_5_code cd_59 ps_59 = true := by decide +kernel
/-- LastCloud$Polar.flattest()I -/
def cd_60 : List Instr := [.iconst (-1), .istore 1, .iconst 0, .istore 2, .iload 2, .aload 0, .getfield 6000, .if_icmp .ge 34, .iload 1, .iconst (-1), .if_icmp .eq 30, .aload 0, .getfield 6012, .iload 2, .iaload, .aload 0, 
  .getfield 6022, .iload 1, .iaload, .imul, .aload 0, .getfield 6012, .iload 1, .iaload, .aload 0, .getfield 6022, .iload 2, .iaload, .imul, .if_icmp .le 32, .iload 2, .istore 1, .iinc 2 1, .goto 4, 
  .iload 1, .ireturn]
def ps_60 : List Nat := [0, 1, 2, 3, 4, 5, 6, 9, 12, 13, 14, 17, 18, 21, 22, 23, 24, 27, 28, 29, 30, 31, 34, 35, 36, 37, 40, 41, 42, 43, 46, 47, 48, 51, 54, 55]
theorem ck_60 : xChkM 6 false (some .int) prog_8_method_6_code cd_60 ps_60 = true := by decide +kernel
/-- LastCloud$Reader.<init>([B)V -/
def cd_61 : List Instr := [.aload 0, .dneg, .aload 0, .iconst 1601, .newarray .int, .putfield 7012, .aload 0, .iconst 1601, .newarray .int, .putfield 7022, .aload 0, .iconst 1601, .newarray .int, .putfield 7032, .aload 0, 
  .aload 1, .putfield 7002, .return_]
def ps_61 : List Nat := [0, 1, 4, 5, 8, 10, 13, 14, 17, 19, 22, 23, 26, 28, 31, 32, 33, 36]
theorem ck_61 : xChkM 7 true none prog_9_method_1_code cd_61 ps_61 = true := by decide +kernel
/-- LastCloud$Reader.readAll(ILLastCloud$Sky;)I -/
def cd_62 : List Instr := [.aload 0, .aload 2, .putfield 7092, .aload 0, .iconst 0, .putfield 7050, .aload 0, .iconst 0, .putfield 7060, .aload 0, .iconst (-1), .putfield 7070, .aload 0, .iconst 0, .putfield 7080, .aload 0, 
  .iload 1, .iconst 1600, .dsub, .invokevirtual 504571, .iconst 0, .istore 3, .iload 3, .aload 0, .getfield 7040, .if_icmp .ge 39, .aload 0, .getfield 7060, .ifCond .ne 39, .aload 0, .getfield 7012, 
  .aload 0, .getfield 7050, .iaload, .ifCond .eq 39, .aload 0, .invokevirtual 592567, .iinc 3 1, .goto 22, .aload 0, .getfield 7060, .ifCond .ne 67, .aload 0, .getfield 7092, .invokevirtual 840804, 
  .ifCond .eq 67, .aload 0, .getfield 7092, .getfield 10090, .aload 0, .getfield 7092, .getfield 10160, .dsub, .istore 3, .aload 0, .getfield 7092, .aload 0, .getfield 7092, .getfield 10002, .aload 0, 
  .getfield 7092, .getfield 10150, .aaload, .getfield 4000, .iload 3, .dadd, .putfield 10160, .aload 0, .getfield 7060, .ireturn]
def ps_62 : List Nat := [0, 1, 2, 5, 6, 7, 10, 11, 12, 15, 16, 17, 20, 21, 22, 25, 26, 27, 30, 33, 36, 37, 38, 39, 40, 43, 46, 47, 50, 53, 54, 57, 58, 61, 62, 65, 66, 69, 72, 75, 76, 79, 82, 83, 86, 89, 92, 93, 96, 99, 100, 
  103, 106, 109, 110, 111, 114, 115, 118, 121, 122, 125, 128, 129, 132, 133, 136, 139, 140, 143]
theorem ck_62 : xChkM 7 false (some .int) prog_9_method_2_code cd_62 ps_62 = true := by decide +kernel
/-- LastCloud$Reader.splitText(I)V -/
def cd_63 : List Instr := [.aload 0, .iconst 0, .putfield 7040, .iconst 0, .istore 2, .iload 2, .iload 1, .if_icmp .ge 56, .aload 0, .getfield 7002, .iload 2, .baload, .invokestatic 527924, .istore 3, .iload 2, .iconst 1, .iadd, 
  .istore 4, .iload 3, .iconst 1, .if_icmp .eq 24, .iload 3, .iconst 2, .if_icmp .ne 36, .iload 4, .iload 1, .if_icmp .ge 36, .aload 0, .getfield 7002, .iload 4, .baload, .invokestatic 527924, .iload 3, 
  .if_icmp .ne 36, .iinc 4 1, .goto 24, .aload 0, .getfield 7002, .iload 2, .baload, .iconst 32, .if_icmp .eq 53, .aload 0, .getfield 7002, .iload 2, .baload, .iconst 10, .if_icmp .eq 53, .aload 0, 
  .iload 3, .iload 2, .iload 4, .invokevirtual 512579, .iload 4, .istore 2, .goto 5, .aload 0, .iconst 0, .iload 1, .iload 1, .invokevirtual 512579, .return_]
def ps_63 : List Nat := [0, 1, 2, 5, 6, 7, 8, 9, 12, 13, 16, 17, 18, 21, 22, 23, 24, 25, 27, 28, 29, 32, 33, 34, 37, 39, 40, 43, 44, 47, 49, 50, 53, 54, 57, 60, 63, 64, 67, 68, 69, 71, 74, 75, 78, 79, 80, 82, 85, 86, 87, 88, 
  90, 93, 95, 96, 99, 100, 101, 102, 103, 106]
theorem ck_63 : xChkM 7 false none prog_9_method_3_code cd_63 ps_63 = true := by decide +kernel
/-- LastCloud$Reader.addToken(III)V -/
def cd_64 : List Instr := [.aload 0, .getfield 7040, .iconst 1600, .if_icmp .gt 28, .aload 0, .getfield 7012, .aload 0, .getfield 7040, .iload 1, .iastore, .aload 0, .getfield 7022, .aload 0, .getfield 7040, .iload 2, .iastore, 
  .aload 0, .getfield 7032, .aload 0, .getfield 7040, .iload 3, .iastore, .aload 0, .dup, .getfield 7040, .iconst 1, .iadd, .putfield 7040, .return_]
def ps_64 : List Nat := [0, 1, 4, 7, 10, 11, 14, 15, 18, 19, 20, 21, 24, 25, 28, 29, 30, 31, 34, 35, 38, 39, 40, 41, 42, 45, 46, 47, 50]
theorem ck_64 : xChkM 7 false none prog_9_method_4_code cd_64 ps_64 = true := by decide +kernel
/-- LastCloud$Reader.kindOf(I)I -/
def cd_65 : List Instr := [.iload 0, .iconst 97, .if_icmp .lt 8, .iload 0, .iconst 122, .if_icmp .gt 8, .iconst 1, .ireturn, .iload 0, .iconst 48, .if_icmp .lt 16, .iload 0, .iconst 57, .if_icmp .gt 16, .iconst 2, .ireturn, 
  .iload 0, .iconst 59, .if_icmp .ne 21, .iconst 3, .goto 22, .iconst 4, .ireturn]
def ps_65 : List Nat := [0, 1, 3, 6, 7, 9, 12, 13, 14, 15, 17, 20, 21, 23, 26, 27, 28, 29, 31, 34, 35, 38, 39]
theorem ck_65 : xChkM 7 false (some .int) prog_9_method_5_code cd_65 ps_65 = true := by decide +kernel
/-- LastCloud$Reader.fail(I)V -/
def cd_66 : List Instr := [.aload 0, .getfield 7060, .ifCond .ne 13, .aload 0, .iload 1, .putfield 7060, .aload 0, .aload 0, .getfield 7022, .aload 0, .getfield 7050, .iaload, .putfield 7070, .return_]
def ps_66 : List Nat := [0, 1, 4, 7, 8, 9, 12, 13, 14, 17, 18, 21, 22, 25]
theorem ck_66 : xChkM 7 false none prog_9_method_6_code cd_66 ps_66 = true := by decide +kernel
/-- LastCloud$Reader.goOn()V -/
def cd_67 : List Instr := [.aload 0, .getfield 7050, .iconst 1, .iadd, .aload 0, .getfield 7040, .if_icmp .ge 13, .aload 0, .dup, .getfield 7050, .iconst 1, .iadd, .putfield 7050, .return_]
def ps_67 : List Nat := [0, 1, 4, 5, 6, 7, 10, 13, 14, 15, 18, 19, 20, 23]
theorem ck_67 : xChkM 7 false none prog_9_method_7_code cd_67 ps_67 = true := by decide +kernel
/-- LastCloud$Reader.isWord(Ljava/lang/String;)Z -/
def cd_68 : List Instr := [.aload 0, .getfield 7012, .aload 0, .getfield 7050, .iaload, .iconst 1, .if_icmp .ne 21, .aload 0, .getfield 7032, .aload 0, .getfield 7050, .iaload, .aload 0, .getfield 7022, .aload 0, .getfield 7050, 
  .iaload, .isub, .aload 1, .d2i, .if_icmp .eq 23, .iconst 0, .freturn, .iconst 0, .istore 2, .iload 2, .aload 1, .d2i, .if_icmp .ge 47, .aload 0, .getfield 7002, .aload 0, .getfield 7022, .aload 0, 
  .getfield 7050, .iaload, .iload 2, .iadd, .baload, .aload 1, .iload 2, .d2l, .if_icmp .eq 45, .iconst 0, .freturn, .iinc 2 1, .goto 25, .iconst 1, .freturn]
def ps_68 : List Nat := [0, 1, 4, 5, 8, 9, 10, 13, 14, 17, 18, 21, 22, 23, 26, 27, 30, 31, 32, 33, 36, 39, 40, 41, 42, 43, 44, 45, 48, 51, 52, 55, 56, 59, 60, 63, 64, 65, 66, 67, 68, 69, 72, 75, 76, 77, 80, 83, 84]
theorem ck_68 : xChkM 7 false (some .boolean) prog_9_method_8_code cd_68 ps_68 = true := by decide +kernel
/-- LastCloud$Reader.takeIf(Ljava/lang/String;)Z -/
def cd_69 : List Instr := [.aload 0, .getfield 7060, .ifCond .ne 7, .aload 0, .aload 1, .invokevirtual 544568, .ifCond .ne 9, .iconst 0, .freturn, .aload 0, .invokevirtual 536567, .iconst 1, .freturn]
def ps_69 : List Nat := [0, 1, 4, 7, 8, 9, 12, 15, 16, 17, 18, 21, 22]
theorem ck_69 : xChkM 7 false (some .boolean) prog_9_method_9_code cd_69 ps_69 = true := by decide +kernel
/-- LastCloud$Reader.takeWord(Ljava/lang/String;)V -/
def cd_70 : List Instr := [.aload 0, .getfield 7060, .ifCond .eq 4, .return_, .aload 0, .aload 1, .invokevirtual 544568, .ifCond .eq 11, .aload 0, .invokevirtual 536567, .goto 14, .aload 0, .iconst 1, .invokevirtual 528571, 
  .return_]
def ps_70 : List Nat := [0, 1, 4, 7, 8, 9, 10, 13, 16, 17, 20, 23, 24, 25, 28]
theorem ck_70 : xChkM 7 false none prog_9_method_10_code cd_70 ps_70 = true := by decide +kernel
/-- LastCloud$Reader.takeNumber(II)I -/
def cd_71 : List Instr := [.aload 0, .getfield 7060, .ifCond .eq 5, .iconst 0, .ireturn, .aload 0, .getfield 7012, .aload 0, .getfield 7050, .iaload, .iconst 2, .if_icmp .eq 17, .aload 0, .iconst 1, .invokevirtual 528571, 
  .iconst 0, .ireturn, .iconst 0, .istore 3, .aload 0, .getfield 7022, .aload 0, .getfield 7050, .iaload, .istore 4, .iload 4, .aload 0, .getfield 7032, .aload 0, .getfield 7050, .iaload, 
  .if_icmp .ge 47, .iconst 1000000, .iload 3, .iconst 10, .imul, .aload 0, .getfield 7002, .iload 4, .baload, .iadd, .iconst 48, .isub, .dsub, .istore 3, .iinc 4 1, .goto 25, .iload 3, .iload 1, 
  .if_icmp .lt 53, .iload 3, .iload 2, .if_icmp .le 58, .aload 0, .iconst 2, .invokevirtual 528571, .iconst 0, .ireturn, .aload 0, .invokevirtual 536567, .iload 3, .ireturn]
def ps_71 : List Nat := [0, 1, 4, 7, 8, 9, 10, 13, 14, 17, 18, 19, 22, 23, 24, 27, 28, 29, 30, 31, 32, 35, 36, 39, 40, 42, 44, 45, 48, 49, 52, 53, 56, 58, 59, 61, 62, 63, 66, 68, 69, 70, 72, 73, 76, 77, 80, 83, 84, 85, 88, 89, 
  90, 93, 94, 95, 98, 99, 100, 101, 104, 105]
theorem ck_71 : xChkM 7 false (some .int) prog_9_method_11_code cd_71 ps_71 = true := by decide +kernel
/-- LastCloud$Reader.takeSigned(I)I -/
def cd_72 : List Instr := [.aload 0, .iconst 0, .iload 1, .invokevirtual 568572, .istore 2, .aload 0, .getfield 7060, .ifCond .ne 17, .aload 0, .ldc 16, .invokevirtual 544568, .ifCond .eq 17, .aload 0, .invokevirtual 536567, 
  .iload 2, .ineg, .istore 2, .iload 2, .ireturn]
def ps_72 : List Nat := [0, 1, 2, 3, 6, 7, 8, 11, 14, 15, 17, 20, 23, 24, 27, 28, 29, 30, 31]
theorem ck_72 : xChkM 7 false (some .int) prog_9_method_12_code cd_72 ps_72 = true := by decide +kernel
/-- LastCloud$Reader.takePlace(I)I -/
def cd_73 : List Instr := [.aload 0, .getfield 7050, .istore 2, .aload 0, .iconst 0, .aload 0, .getfield 7092, .getfield 10040, .iconst 1, .isub, .invokevirtual 568572, .istore 3, .aload 0, .getfield 7060, .ifCond .ne 27, 
  .iload 1, .iload 3, .ishr, .iconst 1, .iand, .ifCond .eq 27, .aload 0, .iload 2, .putfield 7050, .aload 0, .iconst 2, .invokevirtual 528571, .iload 3, .ireturn]
def ps_73 : List Nat := [0, 1, 4, 5, 6, 7, 8, 11, 14, 15, 16, 19, 20, 21, 24, 27, 28, 29, 30, 31, 32, 35, 36, 37, 40, 41, 42, 45, 46]
theorem ck_73 : xChkM 7 false (some .int) prog_9_method_13_code cd_73 ps_73 = true := by decide +kernel
/-- LastCloud$Reader.readLine()V -/
def cd_74 : List Instr := [.aload 0, .invokevirtual 600564, .istore 1, .iload 1, .iconst (-1), .if_icmp .ne 10, .aload 0, .iconst 1, .invokevirtual 528571, .goto 61, .aload 0, .getfield 7080, .iload 1, .ishr, .iconst 1, .iand, 
  .ifCond .eq 21, .aload 0, .iconst 2, .invokevirtual 528571, .goto 61, .aload 0, .getfield 7092, .getfield 10060, .iconst 60, .if_icmp .ge 30, .aload 0, .iload 1, .invokevirtual 608568, .ifCond .eq 34, 
  .aload 0, .iconst 3, .invokevirtual 528571, .goto 61, .aload 0, .invokevirtual 536567, .aload 0, .iload 1, .invokevirtual 616571, .aload 0, .getfield 7012, .aload 0, .getfield 7050, .iaload, .iconst 3, 
  .if_icmp .eq 49, .aload 0, .iconst 1, .invokevirtual 528571, .aload 0, .getfield 7060, .ifCond .ne 61, .aload 0, .invokevirtual 536567, .aload 0, .getfield 7092, .dup, .getfield 10060, .iconst 1, 
  .iadd, .putfield 10060, .return_]
def ps_74 : List Nat := [0, 1, 4, 5, 6, 7, 10, 11, 12, 15, 18, 19, 22, 23, 24, 25, 26, 29, 30, 31, 34, 37, 38, 41, 44, 46, 49, 50, 51, 54, 57, 58, 59, 62, 65, 66, 69, 70, 71, 74, 75, 78, 79, 82, 83, 84, 87, 88, 89, 92, 93, 96, 
  99, 100, 103, 104, 107, 108, 111, 112, 113, 116]
theorem ck_74 : xChkM 7 false none prog_9_method_14_code cd_74 ps_74 = true := by decide +kernel
/-- LastCloud$Reader.lineKind()I -/
def cd_75 : List Instr := [.aload 0, .ldc 0, .invokevirtual 544568, .ifCond .eq 6, .iconst 0, .ireturn, .aload 0, .ldc 1, .invokevirtual 544568, .ifCond .eq 12, .iconst 1, .ireturn, .aload 0, .ldc 2, .invokevirtual 544568, 
  .ifCond .eq 18, .iconst 2, .ireturn, .aload 0, .ldc 3, .invokevirtual 544568, .ifCond .eq 24, .iconst 3, .ireturn, .aload 0, .ldc 4, .invokevirtual 544568, .ifCond .eq 30, .iconst 4, .ireturn, 
  .aload 0, .ldc 5, .invokevirtual 544568, .ifCond .eq 36, .iconst 5, .ireturn, .aload 0, .ldc 6, .invokevirtual 544568, .ifCond .eq 42, .iconst 6, .ireturn, .aload 0, .ldc 7, .invokevirtual 544568, 
  .ifCond .eq 48, .iconst 7, .ireturn, .aload 0, .ldc 8, .invokevirtual 544568, .ifCond .eq 54, .iconst 8, .ireturn, .aload 0, .ldc 9, .invokevirtual 544568, .ifCond .eq 60, .iconst 9, .ireturn, 
  .aload 0, .ldc 10, .invokevirtual 544568, .ifCond .eq 66, .iconst 10, .goto 67, .iconst (-1), .ireturn]
def ps_75 : List Nat := [0, 1, 3, 6, 9, 10, 11, 12, 14, 17, 20, 21, 22, 23, 25, 28, 31, 32, 33, 34, 36, 39, 42, 43, 44, 45, 47, 50, 53, 54, 55, 56, 58, 61, 64, 65, 66, 67, 69, 72, 75, 77, 78, 79, 81, 84, 87, 89, 90, 91, 93, 
  96, 99, 101, 102, 103, 105, 108, 111, 113, 114, 115, 117, 120, 123, 125, 128, 129]
theorem ck_75 : xChkM 7 false (some .int) prog_9_method_15_code cd_75 ps_75 = true := by decide +kernel
/-- LastCloud$Reader.isFull(I)Z -/
def cd_76 : List Instr := [.iload 1, .tableswitch 40 0 4 #[2, 11, 40, 20, 30], .aload 0, .getfield 7092, .getfield 10040, .iconst 8, .if_icmp .lt 9, .iconst 1, .goto 10, .iconst 0, .freturn, .aload 0, .getfield 7092, 
  .getfield 10050, .iconst 10, .if_icmp .lt 18, .iconst 1, .goto 19, .iconst 0, .freturn, .aload 0, .getfield 7092, .getfield 10022, .getfield 6000, .iconst 6, .if_icmp .lt 28, .iconst 1, .goto 29, 
  .iconst 0, .freturn, .aload 0, .getfield 7092, .getfield 10180, .invokestatic 2559924, .iconst 3, .if_icmp .lt 38, .iconst 1, .goto 39, .iconst 0, .freturn, .iconst 0, .freturn]
def ps_76 : List Nat := [0, 1, 36, 37, 40, 43, 45, 48, 49, 52, 53, 54, 55, 58, 61, 63, 66, 67, 70, 71, 72, 73, 76, 79, 82, 84, 87, 88, 91, 92, 93, 94, 97, 100, 103, 104, 107, 108, 111, 112, 113, 114]
theorem ck_76 : xChkM 7 false (some .boolean) prog_9_method_16_code cd_76 ps_76 = true := by decide +kernel
/-- LastCloud$Reader.readRest(I)V -/
def cd_77 : List Instr := [.iload 1, .iconst 5, .if_icmp .lt 11, .aload 0, .dup, .getfield 7080, .iconst 1, .iload 1, .ishl, .ior, .putfield 7080, .iload 1, .tableswitch 74 0 9 #[13, 16, 19, 22, 25, 39, 47, 55, 63, 71], 
  .aload 0, .invokevirtual 624567, .goto 76, .aload 0, .invokevirtual 632567, .goto 76, .aload 0, .invokevirtual 640567, .goto 76, .aload 0, .invokevirtual 648567, .goto 76, .aload 0, .getfield 7092, 
  .dup, .getfield 10180, .iconst 1, .aload 0, .aload 0, .getfield 7092, .getfield 10180, .invokevirtual 584568, .ishl, .ior, .putfield 10180, .goto 76, .aload 0, .getfield 7092, .aload 0, .iconst 0, 
  .iconst 999, .invokevirtual 568572, .putfield 10070, .goto 76, .aload 0, .getfield 7092, .aload 0, .iconst 0, .iconst 50, .invokevirtual 568572, .putfield 10080, .goto 76, .aload 0, .getfield 7092, 
  .aload 0, .iconst 31, .iconst 60, .invokevirtual 568572, .putfield 10090, .goto 76, .aload 0, .getfield 7092, .aload 0, .iconst 1, .iconst 47, .invokevirtual 568572, .putfield 10100, .goto 76, 
  .aload 0, .invokevirtual 656567, .goto 76, .aload 0, .invokevirtual 664567, .return_]
def ps_77 : List Nat := [0, 1, 2, 5, 6, 7, 10, 11, 12, 13, 14, 17, 18, 72, 73, 76, 79, 80, 83, 86, 87, 90, 93, 94, 97, 100, 101, 104, 105, 108, 109, 110, 111, 114, 117, 120, 121, 122, 125, 128, 129, 132, 133, 134, 137, 140, 
  143, 146, 147, 150, 151, 152, 154, 157, 160, 163, 164, 167, 168, 170, 172, 175, 178, 181, 182, 185, 186, 187, 189, 192, 195, 198, 199, 202, 205, 206, 209]
theorem ck_77 : xChkM 7 false none prog_9_method_17_code cd_77 ps_77 = true := by decide +kernel
/-- LastCloud$Reader.readPlace()V -/
def cd_78 : List Instr := [.aload 0, .ldc 11, .invokevirtual 560571, .aload 0, .iconst 0, .iconst 30, .invokevirtual 568572, .istore 1, .iconst (-1), .istore 2, .iconst 0, .istore 3, .aload 0, .ldc 12, .invokevirtual 544568, 
  .ifCond .eq 25, .aload 0, .getfield 7092, .getfield 10140, .iconst (-1), .if_icmp .eq 25, .aload 0, .iconst 2, .invokevirtual 528571, .goto 41, .aload 0, .ldc 12, .invokevirtual 552568, .ifCond .eq 32, 
  .iconst 1, .istore 3, .goto 41, .aload 0, .ldc 13, .invokevirtual 552568, .ifCond .eq 41, .aload 0, .iconst 0, .iconst 999, .invokevirtual 568572, .istore 2, .aload 0, .getfield 7060, .ifCond .ne 82, 
  .aload 0, .getfield 7092, .getfield 10040, .iconst 8, .if_icmp .ge 82, .aload 0, .getfield 7092, .getfield 10002, .aload 0, .getfield 7092, .getfield 10040, .aaload, .iload 1, .putfield 4000, .aload 0, 
  .getfield 7092, .getfield 10002, .aload 0, .getfield 7092, .getfield 10040, .aaload, .iload 2, .putfield 4010, .iload 3, .ifCond .eq 75, .aload 0, .getfield 7092, .aload 0, .getfield 7092, 
  .getfield 10040, .putfield 10140, .aload 0, .getfield 7092, .dup, .getfield 10040, .iconst 1, .iadd, .putfield 10040, .return_]
def ps_78 : List Nat := [0, 1, 3, 6, 7, 8, 10, 13, 14, 15, 16, 17, 18, 19, 21, 24, 27, 28, 31, 34, 35, 38, 39, 40, 43, 46, 47, 49, 52, 55, 56, 57, 60, 61, 63, 66, 69, 70, 71, 74, 77, 78, 79, 82, 85, 86, 89, 92, 94, 97, 98, 
  101, 104, 105, 108, 111, 112, 113, 116, 117, 120, 123, 124, 127, 130, 131, 132, 135, 136, 139, 140, 143, 144, 147, 150, 153, 154, 157, 158, 161, 162, 163, 166]
theorem ck_78 : xChkM 7 false none prog_9_method_18_code cd_78 ps_78 = true := by decide +kernel
/-- LastCloud$Reader.readLeg()V -/
def cd_79 : List Instr := [.aload 0, .iconst 0, .invokevirtual 584568, .istore 1, .aload 0, .iconst 1, .iload 1, .ishl, .invokevirtual 584568, .istore 2, .aload 0, .ldc 14, .invokevirtual 560571, .aload 0, .iconst 1, .iconst 60, 
  .invokevirtual 568572, .istore 3, .aload 0, .ldc 15, .invokevirtual 560571, .aload 0, .iconst 999, .invokevirtual 576568, .istore 4, .aload 0, .ldc 17, .invokevirtual 560571, .aload 0, .iconst 60, 
  .invokevirtual 576568, .istore 5, .aload 0, .ldc 18, .invokevirtual 552568, .ifCond .eq 41, .aload 0, .iconst 0, .iconst 40, .invokevirtual 568572, .goto 42, .iconst 0, .istore 6, .aload 0, 
  .getfield 7060, .ifCond .ne 84, .aload 0, .getfield 7092, .getfield 10050, .iconst 10, .if_icmp .ge 84, .aload 0, .getfield 7092, .getfield 10012, .aload 0, .getfield 7092, .getfield 10050, .aaload, 
  .astore 7, .aload 7, .iload 1, .putfield 2000, .aload 7, .iload 2, .putfield 2010, .aload 7, .iload 3, .putfield 2020, .aload 7, .iload 4, .putfield 2030, .aload 7, .iload 5, .putfield 2040, .aload 7, 
  .iload 6, .putfield 2050, .aload 0, .getfield 7092, .dup, .getfield 10050, .iconst 1, .iadd, .putfield 10050, .return_]
def ps_79 : List Nat := [0, 1, 2, 5, 6, 7, 8, 9, 10, 13, 14, 15, 17, 20, 21, 22, 24, 27, 28, 29, 31, 34, 35, 38, 41, 43, 44, 46, 49, 50, 52, 55, 57, 58, 60, 63, 66, 67, 68, 70, 73, 76, 77, 79, 80, 83, 86, 87, 90, 93, 95, 98, 
  99, 102, 105, 106, 109, 112, 113, 115, 117, 118, 121, 123, 124, 127, 129, 130, 133, 135, 137, 140, 142, 144, 147, 149, 151, 154, 155, 158, 159, 162, 163, 164, 167]
theorem ck_79 : xChkM 7 false none prog_9_method_19_code cd_79 ps_79 = true := by decide +kernel
/-- LastCloud$Reader.readLift()V -/
def cd_80 : List Instr := [.aload 0, .aload 0, .getfield 7092, .invokevirtual 872804, .invokevirtual 584568, .istore 1, .aload 0, .ldc 19, .invokevirtual 560571, .aload 0, .iconst 0, .iconst 100, .invokevirtual 568572, 
  .istore 2, .aload 0, .ldc 20, .invokevirtual 560571, .aload 0, .iconst 0, .iconst 2000, .invokevirtual 568572, .istore 3, .iconst 0, .istore 4, .iconst 0, .istore 5, .aload 0, .ldc 21, 
  .invokevirtual 552568, .ifCond .eq 40, .aload 0, .iconst 0, .iconst 100, .invokevirtual 568572, .istore 4, .aload 0, .iconst 0, .iconst 100, .invokevirtual 568572, .istore 5, .aload 0, .getfield 7060, 
  .ifCond .ne 69, .aload 0, .getfield 7092, .iload 1, .invokevirtual 800808, .ifCond .eq 69, .aload 0, .getfield 7092, .getfield 10002, .iload 1, .aaload, .astore 6, .aload 6, .iconst 1, .putfield 4023, 
  .aload 6, .iload 2, .putfield 4030, .aload 6, .iload 3, .putfield 4040, .aload 6, .iload 4, .putfield 4050, .aload 6, .iload 5, .putfield 4060, .return_]
def ps_80 : List Nat := [0, 1, 2, 5, 8, 11, 12, 13, 15, 18, 19, 20, 22, 25, 26, 27, 30, 33, 34, 35, 38, 41, 42, 43, 45, 46, 48, 49, 52, 55, 58, 59, 60, 62, 65, 67, 68, 69, 71, 74, 76, 77, 80, 83, 84, 87, 88, 91, 94, 95, 98, 
  101, 102, 103, 105, 107, 108, 111, 113, 114, 117, 119, 120, 123, 125, 127, 130, 132, 134, 137]
theorem ck_80 : xChkM 7 false none prog_9_method_20_code cd_80 ps_80 = true := by decide +kernel
end
section
/-- LastCloud$Reader.readSpeed()V -/
def cd_81 : List Instr := [.aload 0, .iconst 20, .iconst 150, .invokevirtual 568572, .istore 1, .aload 0, .ldc 22, .invokevirtual 560571, .aload 0, .iconst 1, .iconst 999, .invokevirtual 568572, .istore 2, .aload 0, 
  .getfield 7060, .ifCond .ne 22, .aload 0, .getfield 7092, .getfield 10022, .iload 1, .iload 2, .invokevirtual 448495, .return_]
def ps_81 : List Nat := [0, 1, 3, 6, 9, 10, 11, 14, 17, 18, 19, 22, 25, 26, 27, 30, 33, 34, 37, 40, 41, 42, 45]
theorem ck_81 : xChkM 7 false none prog_9_method_21_code cd_81 ps_81 = true := by decide +kernel
/-- LastCloud$Reader.readWorth()V -/
def cd_82 : List Instr := [.aload 0, .ldc 12, .invokevirtual 560571, .aload 0, .getfield 7092, .aload 0, .iconst 0, .iconst 9999, .invokevirtual 568572, .putfield 10110, .aload 0, .ldc 23, .invokevirtual 560571, .aload 0, 
  .getfield 7092, .aload 0, .iconst 0, .iconst 99, .invokevirtual 568572, .putfield 10120, .aload 0, .ldc 24, .invokevirtual 560571, .aload 0, .getfield 7092, .aload 0, .iconst 0, .iconst 9999, 
  .invokevirtual 568572, .putfield 10130, .return_]
def ps_82 : List Nat := [0, 1, 3, 6, 7, 10, 11, 12, 15, 18, 21, 22, 25, 28, 29, 32, 33, 34, 36, 39, 42, 43, 46, 49, 50, 53, 54, 55, 58, 61, 64]
theorem ck_82 : xChkM 7 false none prog_9_method_22_code cd_82 ps_82 = true := by decide +kernel
/-- LastCloud$Reader.readStart()V -/
def cd_83 : List Instr := [.aload 0, .iconst 0, .invokevirtual 584568, .istore 1, .aload 0, .ldc 25, .invokevirtual 560571, .aload 0, .iconst 0, .iconst 60, .invokevirtual 568572, .istore 2, .aload 0, .ldc 26, 
  .invokevirtual 552568, .istore 3, .aload 0, .getfield 7060, .ifCond .ne 31, .aload 0, .getfield 7092, .iload 1, .putfield 10150, .aload 0, .getfield 7092, .iload 2, .putfield 10160, .aload 0, 
  .getfield 7092, .iload 3, .putfield 10173, .return_]
def ps_83 : List Nat := [0, 1, 2, 5, 6, 7, 10, 13, 14, 15, 17, 20, 21, 22, 25, 28, 29, 30, 33, 36, 37, 40, 41, 44, 45, 48, 49, 52, 53, 56, 57, 60]
theorem ck_83 : xChkM 7 false none prog_9_method_23_code cd_83 ps_83 = true := by decide +kernel
/-- LastCloud$Route.<init>()V -/
def cd_84 : List Instr := [.aload 0, .dneg, .aload 0, .iconst 3072, .newarray .int, .putfield 8002, .aload 0, .iconst 8, .newarray .int, .putfield 8012, .aload 0, .iconst 8, .newarray .int, .putfield 8022, .aload 0, .iconst 49, 
  .newarray .int, .putfield 8032, .return_]
def ps_84 : List Nat := [0, 1, 4, 5, 8, 10, 13, 14, 16, 18, 21, 22, 24, 26, 29, 30, 32, 34, 37]
theorem ck_84 : xChkM 8 true none prog_10_method_1_code cd_84 ps_84 = true := by decide +kernel
/-- LastCloud$Route.spot(III)I -/
def cd_85 : List Instr := [.iload 0, .iconst 8, .imul, .iload 1, .iadd, .iconst 8, .imul, .iload 2, .iadd, .ireturn]
def ps_85 : List Nat := [0, 1, 3, 4, 5, 6, 8, 9, 10, 11]
theorem ck_85 : xChkM 8 false (some .int) prog_10_method_2_code cd_85 ps_85 = true := by decide +kernel
/-- LastCloud$Route.fewest(LLastCloud$Sky;LLastCloud$Hops;I)I -/
def cd_86 : List Instr := [.aload 0, .aload 1, .aload 2, .iload 3, .invokevirtual 696659, .aload 0, .getfield 8002, .iconst 1000000, .invokestatic 2575931, .aload 0, .getfield 8072, .getfield 10140, .iconst (-1), 
  .if_icmp .ne 16, .iconst (-1), .ireturn, .aload 0, .getfield 8002, .iconst 0, .aload 0, .getfield 8050, .aload 0, .getfield 8072, .getfield 10140, .invokestatic 687932, .aload 0, .getfield 8072, 
  .getfield 10002, .aload 0, .getfield 8072, .getfield 10140, .aaload, .getfield 4000, .iastore, .iconst 0, .aload 0, .getfield 8012, .aload 0, .getfield 8072, .getfield 10150, .iaload, .aload 0, 
  .getfield 8072, .getfield 10150, .invokestatic 687932, .istore 4, .iconst 0, .istore 5, .iload 5, .aload 0, .getfield 8072, .getfield 10100, .if_icmp .gt 75, .iload 5, .ifCond .le 58, .aload 0, 
  .iload 5, .invokevirtual 704651, .aload 0, .getfield 8002, .iload 4, .iload 5, .iconst 0, .iconst 0, .invokestatic 687932, .iadd, .iaload, .aload 0, .getfield 8072, .getfield 10160, .if_icmp .gt 73, 
  .iload 5, .ireturn, .iinc 5 1, .goto 48, .iconst (-1), .ireturn]
def ps_86 : List Nat := [0, 1, 2, 3, 4, 7, 8, 11, 13, 16, 17, 20, 23, 24, 27, 28, 29, 30, 33, 34, 35, 38, 39, 42, 45, 48, 49, 52, 55, 56, 59, 62, 63, 66, 67, 68, 69, 72, 73, 76, 79, 80, 81, 84, 87, 90, 92, 93, 95, 97, 98, 101, 
  104, 107, 109, 112, 113, 115, 118, 119, 122, 124, 126, 127, 128, 131, 132, 133, 134, 137, 140, 143, 145, 146, 149, 152, 153]
theorem ck_86 : xChkM 8 false (some .int) prog_10_method_3_code cd_86 ps_86 = true := by decide +kernel
/-- LastCloud$Route.begin(LLastCloud$Sky;LLastCloud$Hops;I)V -/
def cd_87 : List Instr := [.aload 0, .aload 1, .putfield 8072, .aload 0, .aload 2, .putfield 8082, .aload 0, .aload 0, .getfield 8072, .invokevirtual 848804, .putfield 8063, .iconst 0, .istore 4, .iconst 0, .istore 5, .iload 5, 
  .aload 0, .getfield 8072, .getfield 10040, .if_icmp .ge 71, .aload 0, .getfield 8072, .getfield 10180, .iload 5, .ishr, .iconst 1, .iand, .ifCond .eq 30, .iconst 1, .goto 31, .iconst 0, .istore 6, 
  .aload 0, .getfield 8012, .iload 5, .iload 6, .ifCond .eq 41, .iconst 1, .iload 4, .ishl, .goto 42, .iconst 0, .iastore, .iload 4, .iload 6, .ifCond .eq 48, .iconst 1, .goto 49, .iconst 0, .iadd, 
  .istore 4, .aload 0, .getfield 8022, .iload 5, .iload 3, .iload 5, .ishr, .iconst 1, .iand, .ifCond .eq 67, .aload 0, .getfield 8072, .iload 5, .aload 0, .getfield 8060, .invokevirtual 904812, 
  .goto 68, .iconst 0, .iastore, .iinc 5 1, .goto 15, .aload 0, .iconst 1, .iload 4, .ishl, .iconst 1, .isub, .putfield 8050, .return_]
def ps_87 : List Nat := [0, 1, 2, 5, 6, 7, 10, 11, 12, 15, 18, 21, 22, 24, 25, 27, 29, 30, 33, 36, 39, 40, 43, 46, 48, 49, 50, 51, 54, 55, 58, 59, 61, 62, 65, 67, 69, 72, 73, 75, 76, 79, 80, 81, 83, 85, 88, 89, 92, 93, 94, 96, 
  97, 100, 102, 103, 105, 106, 107, 108, 111, 112, 115, 117, 118, 121, 124, 127, 128, 129, 132, 135, 136, 137, 139, 140, 141, 142, 145]
theorem ck_87 : xChkM 8 false none prog_10_method_4_code cd_87 ps_87 = true := by decide +kernel
/-- LastCloud$Route.fillPeriods(I)V -/
def cd_88 : List Instr := [.iconst 0, .istore 2, .iload 2, .aload 0, .getfield 8050, .if_icmp .gt 67, .iconst 0, .istore 3, .iload 3, .aload 0, .getfield 8072, .getfield 10040, .if_icmp .ge 65, .aload 0, .getfield 8002, 
  .iload 1, .iconst 1, .isub, .iload 2, .iload 3, .invokestatic 687932, .iaload, .istore 4, .iload 4, .aload 0, .iload 1, .iload 2, .iload 3, .invokevirtual 712656, .dsub, .istore 5, .iload 4, 
  .iconst 1000000, .if_icmp .eq 55, .aload 0, .getfield 8022, .iload 3, .iaload, .ifCond .le 55, .iload 5, .aload 0, .getfield 8072, .getfield 10002, .iload 3, .aaload, .getfield 4000, .iload 4, 
  .aload 0, .getfield 8022, .iload 3, .iaload, .isub, .dadd, .dsub, .istore 5, .aload 0, .getfield 8002, .iload 1, .iload 2, .iload 3, .invokestatic 687932, .iload 5, .iastore, .iinc 3 1, .goto 8, 
  .iinc 2 1, .goto 2, .return_]
def ps_88 : List Nat := [0, 1, 2, 3, 4, 7, 10, 11, 12, 13, 14, 17, 20, 23, 24, 27, 28, 29, 30, 31, 32, 35, 36, 38, 40, 41, 42, 43, 44, 47, 50, 52, 54, 56, 59, 60, 63, 64, 65, 68, 70, 71, 74, 77, 78, 79, 82, 84, 85, 88, 89, 90, 
  91, 94, 97, 99, 100, 103, 104, 105, 106, 109, 111, 112, 115, 118, 121, 124]
theorem ck_88 : xChkM 8 false none prog_10_method_5_code cd_88 ps_88 = true := by decide +kernel
/-- LastCloud$Route.leastByHops(III)I -/
def cd_89 : List Instr := [.iconst 1000000, .istore 4, .iload 3, .aload 0, .getfield 8060, .invokestatic 135928, .istore 5, .aload 0, .getfield 8082, .getfield 1002, .iload 5, .iaload, .istore 6, .iload 6, .aload 0, 
  .getfield 8082, .getfield 1002, .iload 5, .iconst 1, .iadd, .iaload, .if_icmp .ge 66, .aload 0, .getfield 8082, .getfield 1022, .iload 6, .iaload, .iload 1, .if_icmp .gt 64, .aload 0, .getfield 8002, 
  .aload 0, .iload 6, .iload 1, .iload 2, .invokevirtual 720656, .iaload, .istore 7, .aload 0, .getfield 8082, .getfield 1042, .iload 6, .iaload, .iload 7, .aload 0, .getfield 8082, .getfield 1032, 
  .iload 6, .iaload, .iadd, .dadd, .istore 8, .iload 7, .iconst 1000000, .if_icmp .eq 64, .iload 8, .aload 0, .getfield 8072, .getfield 10090, .if_icmp .gt 64, .iload 4, .iload 8, .dsub, .istore 4, 
  .iinc 6 1, .goto 13, .iload 4, .ireturn]
def ps_89 : List Nat := [0, 2, 4, 5, 6, 9, 12, 14, 15, 18, 21, 23, 24, 26, 28, 29, 32, 35, 37, 38, 39, 40, 43, 44, 47, 50, 52, 53, 54, 57, 58, 61, 62, 64, 65, 66, 69, 70, 72, 73, 76, 79, 81, 82, 84, 85, 88, 91, 93, 94, 95, 98, 
  100, 102, 104, 107, 109, 110, 113, 116, 119, 121, 123, 126, 128, 131, 134, 136]
theorem ck_89 : xChkM 8 false (some .int) prog_10_method_6_code cd_89 ps_89 = true := by decide +kernel
/-- LastCloud$Route.behind(III)I -/
def cd_90 : List Instr := [.aload 0, .getfield 8082, .getfield 1012, .iload 1, .iaload, .istore 4, .iload 2, .aload 0, .getfield 8082, .getfield 1022, .iload 1, .iaload, .isub, .iload 3, .aload 0, .getfield 8012, .iload 4, 
  .iaload, .ior, .iload 4, .invokestatic 687932, .ireturn]
def ps_90 : List Nat := [0, 1, 4, 7, 8, 9, 11, 12, 13, 16, 19, 20, 21, 22, 23, 24, 27, 29, 30, 31, 33, 36]
theorem ck_90 : xChkM 8 false (some .int) prog_10_method_7_code cd_90 ps_90 = true := by decide +kernel
/-- LastCloud$Route.walk(I)V -/
def cd_91 : List Instr := [.iload 1, .istore 2, .aload 0, .getfield 8072, .getfield 10150, .istore 3, .aload 0, .getfield 8072, .getfield 10160, .istore 4, .aload 0, .getfield 8012, .iload 3, .iaload, .istore 5, .aload 0, 
  .iconst 0, .putfield 8040, .aload 0, .iload 3, .invokevirtual 744651, .iconst 0, .istore 6, .iload 6, .iconst 48, .if_icmp .ge 104, .iload 2, .ifCond .le 104, .aload 0, .getfield 8072, .iload 4, 
  .aload 0, .getfield 8022, .iload 3, .iaload, .iadd, .invokevirtual 920808, .istore 7, .iload 7, .iload 4, .if_icmp .le 56, .aload 0, .getfield 8002, .iload 2, .iconst 1, .isub, .iload 5, .iload 3, 
  .invokestatic 687932, .iaload, .iload 7, .if_icmp .gt 56, .iload 7, .istore 4, .iinc 2 (-1), .goto 102, .aload 0, .iload 2, .iload 5, .iload 3, .iload 4, .invokevirtual 736660, .istore 8, .iload 8, 
  .iconst (-1), .if_icmp .ne 67, .return_, .aload 0, .getfield 8082, .getfield 1012, .iload 8, .iaload, .istore 3, .aload 0, .getfield 8072, .iload 4, .aload 0, .getfield 8082, .getfield 1032, .iload 8, 
  .iaload, .isub, .invokevirtual 920808, .istore 4, .iload 5, .aload 0, .getfield 8012, .iload 3, .iaload, .ior, .istore 5, .iload 2, .aload 0, .getfield 8082, .getfield 1022, .iload 8, .iaload, .isub, 
  .istore 2, .aload 0, .iload 3, .invokevirtual 744651, .iinc 6 1, .goto 23, .return_]
def ps_91 : List Nat := [0, 1, 2, 3, 6, 9, 10, 11, 14, 17, 19, 20, 23, 24, 25, 27, 28, 29, 32, 33, 34, 37, 38, 40, 42, 44, 47, 48, 51, 52, 55, 57, 58, 61, 62, 63, 64, 67, 69, 71, 73, 76, 77, 80, 81, 82, 83, 85, 86, 89, 90, 92, 
  95, 97, 99, 102, 105, 106, 107, 109, 110, 112, 115, 117, 119, 120, 123, 124, 125, 128, 131, 133, 134, 135, 136, 139, 141, 142, 145, 148, 150, 151, 152, 155, 157, 159, 160, 163, 164, 165, 166, 168, 169, 
  170, 173, 176, 178, 179, 180, 181, 182, 183, 186, 189, 192]
theorem ck_91 : xChkM 8 false none prog_10_method_8_code cd_91 ps_91 = true := by decide +kernel
/-- LastCloud$Route.firstHop(IIII)I -/
def cd_92 : List Instr := [.iload 3, .aload 0, .getfield 8060, .invokestatic 135928, .istore 5, .aload 0, .getfield 8082, .getfield 1002, .iload 5, .iaload, .istore 6, .iload 6, .aload 0, .getfield 8082, .getfield 1002, 
  .iload 5, .iconst 1, .iadd, .iaload, .if_icmp .ge 57, .iload 4, .aload 0, .getfield 8082, .getfield 1042, .iload 6, .iaload, .if_icmp .lt 55, .aload 0, .getfield 8082, .getfield 1022, .iload 6, 
  .iaload, .iload 1, .if_icmp .gt 55, .aload 0, .getfield 8002, .aload 0, .iload 6, .iload 1, .iload 2, .invokevirtual 720656, .iaload, .aload 0, .getfield 8072, .iload 4, .aload 0, .getfield 8082, 
  .getfield 1032, .iload 6, .iaload, .isub, .invokevirtual 920808, .if_icmp .gt 55, .iload 6, .ireturn, .iinc 6 1, .goto 11, .iconst (-1), .ireturn]
def ps_92 : List Nat := [0, 1, 2, 5, 8, 10, 11, 14, 17, 19, 20, 22, 24, 25, 28, 31, 33, 34, 35, 36, 39, 41, 42, 45, 48, 50, 51, 54, 55, 58, 61, 63, 64, 65, 68, 69, 72, 73, 75, 76, 77, 80, 81, 82, 85, 87, 88, 91, 94, 96, 97, 
  98, 101, 104, 106, 107, 110, 113, 114]
theorem ck_92 : xChkM 8 false (some .int) prog_10_method_9_code cd_92 ps_92 = true := by decide +kernel
/-- LastCloud$Route.addToWay(I)V -/
def cd_93 : List Instr := [.aload 0, .getfield 8040, .aload 0, .getfield 8032, .arraylength, .if_icmp .ge 18, .aload 0, .getfield 8032, .aload 0, .getfield 8040, .iload 1, .iastore, .aload 0, .dup, .getfield 8040, .iconst 1, 
  .iadd, .putfield 8040, .return_]
def ps_93 : List Nat := [0, 1, 4, 5, 8, 9, 12, 13, 16, 17, 20, 21, 22, 23, 24, 27, 28, 29, 32]
theorem ck_93 : xChkM 8 false none prog_10_method_10_code cd_93 ps_93 = true := by decide +kernel
/-- LastCloud$Sights.<init>()V -/
def cd_94 : List Instr := [.aload 0, .dneg, .aload 0, .iconst 20, .newarray .int, .putfield 9012, .aload 0, .iconst 20, .newarray .int, .putfield 9022, .return_]
def ps_94 : List Nat := [0, 1, 4, 5, 7, 9, 12, 13, 15, 17, 20]
theorem ck_94 : xChkM 9 true none prog_11_method_1_code cd_94 ps_94 = true := by decide +kernel
/-- LastCloud$Sights.add(II)V -/
def cd_95 : List Instr := [.aload 0, .getfield 9000, .iconst 20, .if_icmp .ge 22, .aload 0, .getfield 9012, .aload 0, .getfield 9000, .iload 1, .iastore, .aload 0, .getfield 9022, .aload 0, .getfield 9000, .iload 2, .iastore, 
  .aload 0, .dup, .getfield 9000, .iconst 1, .iadd, .putfield 9000, .return_]
def ps_95 : List Nat := [0, 1, 4, 6, 9, 10, 13, 14, 17, 18, 19, 20, 23, 24, 27, 28, 29, 30, 31, 34, 35, 36, 39]
theorem ck_95 : xChkM 9 false none prog_11_method_2_code cd_95 ps_95 = true := by decide +kernel
/-- LastCloud$Sights.copyFrom(LLastCloud$Sights;)V -/
def cd_96 : List Instr := [.aload 0, .aload 1, .getfield 9000, .putfield 9000, .aload 1, .getfield 9012, .iconst 0, .aload 0, .getfield 9012, .iconst 0, .iconst 20, .dmul, .aload 1, .getfield 9022, .iconst 0, .aload 0, 
  .getfield 9022, .iconst 0, .iconst 20, .dmul, .return_]
def ps_96 : List Nat := [0, 1, 2, 5, 8, 9, 12, 13, 14, 17, 18, 20, 23, 24, 27, 28, 29, 32, 33, 35, 38]
theorem ck_96 : xChkM 9 false none prog_11_method_3_code cd_96 ps_96 = true := by decide +kernel
/-- LastCloud$Sky.<init>()V -/
def cd_97 : List Instr := [.aload 0, .dneg, .aload 0, .iconst 8, .anewarray 25, .putfield 10002, .aload 0, .iconst 10, .anewarray 26, .putfield 10012, .aload 0, .new 6, .dup, .invokespecial 440487, .putfield 10022, .aload 0, 
  .new 9, .dup, .invokespecial 752727, .putfield 10032, .iconst 0, .istore 1, .iload 1, .iconst 8, .if_icmp .ge 34, .aload 0, .getfield 10002, .iload 1, .new 4, .dup, .invokespecial 280327, .aastore, 
  .iinc 1 1, .goto 22, .iconst 0, .istore 1, .iload 1, .iconst 10, .if_icmp .ge 48, .aload 0, .getfield 10012, .iload 1, .new 2, .dup, .invokespecial 216167, .aastore, .iinc 1 1, .goto 36, .aload 0, 
  .invokevirtual 784807, .return_]
def ps_97 : List Nat := [0, 1, 4, 5, 7, 10, 13, 14, 16, 19, 22, 23, 26, 27, 30, 33, 34, 37, 38, 41, 44, 45, 46, 47, 49, 52, 53, 56, 57, 60, 61, 64, 65, 68, 71, 72, 73, 74, 76, 79, 80, 83, 84, 87, 88, 91, 92, 95, 98, 99, 102]
theorem ck_97 : xChkM 10 true none prog_12_method_1_code cd_97 ps_97 = true := by decide +kernel
/-- LastCloud$Sky.clear()V -/
def cd_98 : List Instr := [.iconst 0, .istore 1, .iload 1, .iconst 8, .if_icmp .ge 12, .aload 0, .getfield 10002, .iload 1, .aaload, .invokevirtual 288327, .iinc 1 1, .goto 2, .aload 0, .getfield 10022, .iconst 0, 
  .putfield 6000, .aload 0, .getfield 10032, .iconst 0, .putfield 9000, .aload 0, .iconst 0, .putfield 10040, .aload 0, .iconst 0, .putfield 10050, .aload 0, .iconst 0, .putfield 10060, .aload 0, 
  .iconst 0, .putfield 10070, .aload 0, .iconst 0, .putfield 10080, .aload 0, .iconst 40, .putfield 10090, .aload 0, .iconst 40, .putfield 10100, .aload 0, .iconst 1000, .putfield 10110, .aload 0, 
  .iconst 0, .putfield 10120, .aload 0, .iconst 0, .putfield 10130, .aload 0, .iconst (-1), .putfield 10140, .aload 0, .iconst (-1), .putfield 10150, .aload 0, .iconst 0, .putfield 10160, .aload 0, 
  .iconst 0, .putfield 10173, .aload 0, .iconst 0, .putfield 10180, .return_]
def ps_98 : List Nat := [0, 1, 2, 3, 5, 8, 9, 12, 13, 14, 17, 20, 23, 24, 27, 28, 31, 32, 35, 36, 39, 40, 41, 44, 45, 46, 49, 50, 51, 54, 55, 56, 59, 60, 61, 64, 65, 67, 70, 71, 73, 76, 77, 80, 83, 84, 85, 88, 89, 90, 93, 94, 
  95, 98, 99, 100, 103, 104, 105, 108, 109, 110, 113, 114, 115, 118]
theorem ck_98 : xChkM 10 false none prog_12_method_2_code cd_98 ps_98 = true := by decide +kernel
/-- LastCloud$Sky.copyFrom(LLastCloud$Sky;)V -/
def cd_99 : List Instr := [.iconst 0, .istore 2, .iload 2, .iconst 8, .if_icmp .ge 16, .aload 0, .getfield 10002, .iload 2, .aaload, .aload 1, .getfield 10002, .iload 2, .aaload, .invokevirtual 296331, .iinc 2 1, .goto 2, 
  .iconst 0, .istore 2, .iload 2, .iconst 10, .if_icmp .ge 32, .aload 0, .getfield 10012, .iload 2, .aaload, .aload 1, .getfield 10012, .iload 2, .aaload, .invokevirtual 224171, .iinc 2 1, .goto 18, 
  .aload 0, .getfield 10022, .aload 1, .getfield 10022, .invokevirtual 456491, .aload 0, .getfield 10032, .aload 1, .getfield 10032, .invokevirtual 768731, .aload 0, .aload 1, .getfield 10040, 
  .putfield 10040, .aload 0, .aload 1, .getfield 10050, .putfield 10050, .aload 0, .aload 1, .getfield 10060, .putfield 10060, .aload 0, .aload 1, .getfield 10070, .putfield 10070, .aload 0, .aload 1, 
  .getfield 10080, .putfield 10080, .aload 0, .aload 1, .getfield 10090, .putfield 10090, .aload 0, .aload 1, .getfield 10100, .putfield 10100, .aload 0, .aload 1, .getfield 10110, .putfield 10110, 
  .aload 0, .aload 1, .getfield 10120, .putfield 10120, .aload 0, .aload 1, .getfield 10130, .putfield 10130, .aload 0, .aload 1, .getfield 10140, .putfield 10140, .aload 0, .aload 1, .getfield 10150, 
  .putfield 10150, .aload 0, .aload 1, .getfield 10160, .putfield 10160, .aload 0, .aload 1, .getfield 10170, .putfield 10173, .aload 0, .aload 1, .getfield 10180, .putfield 10180, .return_]
def ps_99 : List Nat := [0, 1, 2, 3, 5, 8, 9, 12, 13, 14, 15, 18, 19, 20, 23, 26, 29, 30, 31, 32, 34, 37, 38, 41, 42, 43, 44, 47, 48, 49, 52, 55, 58, 59, 62, 63, 66, 69, 70, 73, 74, 77, 80, 81, 82, 85, 88, 89, 90, 93, 96, 97, 
  98, 101, 104, 105, 106, 109, 112, 113, 114, 117, 120, 121, 122, 125, 128, 129, 130, 133, 136, 137, 138, 141, 144, 145, 146, 149, 152, 153, 154, 157, 160, 161, 162, 165, 168, 169, 170, 173, 176, 177, 
  178, 181, 184, 185, 186, 189, 192, 193, 194, 197, 200]
theorem ck_99 : xChkM 10 false none prog_12_method_3_code cd_99 ps_99 = true := by decide +kernel
/-- LastCloud$Sky.hasPlace(I)Z -/
def cd_100 : List Instr := [.iload 1, .ifCond .lt 8, .iload 1, .aload 0, .getfield 10040, .if_icmp .ge 8, .iconst 1, .goto 9, .iconst 0, .freturn]
def ps_100 : List Nat := [0, 1, 4, 5, 6, 9, 12, 13, 16, 17]
theorem ck_100 : xChkM 10 false (some .boolean) prog_12_method_4_code cd_100 ps_100 = true := by decide +kernel
/-- LastCloud$Sky.hasLeg(I)Z -/
def cd_101 : List Instr := [.iload 1, .ifCond .lt 8, .iload 1, .aload 0, .getfield 10050, .if_icmp .ge 8, .iconst 1, .goto 9, .iconst 0, .freturn]
def ps_101 : List Nat := [0, 1, 4, 5, 6, 9, 12, 13, 16, 17]
theorem ck_101 : xChkM 10 false (some .boolean) prog_12_method_5_code cd_101 ps_101 = true := by decide +kernel
/-- LastCloud$Sky.hasSpeed(I)Z -/
def cd_102 : List Instr := [.iload 1, .ifCond .lt 9, .iload 1, .aload 0, .getfield 10022, .getfield 6000, .if_icmp .ge 9, .iconst 1, .goto 10, .iconst 0, .freturn]
def ps_102 : List Nat := [0, 1, 4, 5, 6, 9, 12, 15, 16, 19, 20]
theorem ck_102 : xChkM 10 false (some .boolean) prog_12_method_6_code cd_102 ps_102 = true := by decide +kernel
/-- LastCloud$Sky.hasHeight(I)Z -/
def cd_103 : List Instr := [.iload 1, .ifCond .lt 8, .iload 1, .aload 0, .getfield 10090, .if_icmp .gt 8, .iconst 1, .goto 9, .iconst 0, .freturn]
def ps_103 : List Nat := [0, 1, 4, 5, 6, 9, 12, 13, 16, 17]
theorem ck_103 : xChkM 10 false (some .boolean) prog_12_method_7_code cd_103 ps_103 = true := by decide +kernel
/-- LastCloud$Sky.hasState(IIIZ)Z -/
def cd_104 : List Instr := [.aload 0, .iload 1, .invokevirtual 800808, .ifCond .eq 28, .iload 2, .aload 0, .getfield 10002, .iload 1, .aaload, .getfield 4000, .if_icmp .lt 28, .iload 2, .aload 0, .getfield 10090, .if_icmp .gt 28, 
  .iload 3, .ifCond .lt 28, .iload 3, .aload 0, .getfield 10100, .if_icmp .gt 28, .iload 4, .ifCond .eq 26, .aload 0, .getfield 10080, .ifCond .le 28, .iconst 1, .goto 29, .iconst 0, .freturn]
def ps_104 : List Nat := [0, 1, 2, 5, 8, 9, 10, 13, 14, 15, 18, 21, 22, 23, 26, 29, 30, 33, 34, 35, 38, 41, 43, 46, 47, 50, 53, 54, 57, 58]
theorem ck_104 : xChkM 10 false (some .boolean) prog_12_method_8_code cd_104 ps_104 = true := by decide +kernel
/-- LastCloud$Sky.hasStart()Z -/
def cd_105 : List Instr := [.aload 0, .aload 0, .getfield 10150, .invokevirtual 800808, .freturn]
def ps_105 : List Nat := [0, 1, 2, 5, 8]
theorem ck_105 : xChkM 10 false (some .boolean) prog_12_method_9_code cd_105 ps_105 = true := by decide +kernel
/-- LastCloud$Sky.startsWet()Z -/
def cd_106 : List Instr := [.aload 0, .getfield 10170, .ifCond .eq 8, .aload 0, .getfield 10080, .ifCond .le 8, .iconst 1, .goto 9, .iconst 0, .freturn]
def ps_106 : List Nat := [0, 1, 4, 7, 8, 11, 14, 15, 18, 19]
theorem ck_106 : xChkM 10 false (some .boolean) prog_12_method_10_code cd_106 ps_106 = true := by decide +kernel
/-- LastCloud$Sky.isToLandAt(I)Z -/
def cd_107 : List Instr := [.iload 1, .aload 0, .getfield 10140, .if_icmp .eq 11, .aload 0, .getfield 10002, .iload 1, .aaload, .getfield 4010, .iconst (-1), .if_icmp .eq 13, .iconst 1, .goto 14, .iconst 0, .freturn]
def ps_107 : List Nat := [0, 1, 2, 5, 8, 9, 12, 13, 14, 17, 18, 21, 22, 25, 26]
theorem ck_107 : xChkM 10 false (some .boolean) prog_12_method_11_code cd_107 ps_107 = true := by decide +kernel
end
section
/-- LastCloud$Sky.allPlaces()I -/
def cd_108 : List Instr := [.iconst 1, .aload 0, .getfield 10040, .ishl, .iconst 1, .isub, .ireturn]
def ps_108 : List Nat := [0, 1, 2, 5, 6, 7, 8]
theorem ck_108 : xChkM 10 false (some .int) prog_12_method_12_code cd_108 ps_108 = true := by decide +kernel
/-- LastCloud$Sky.liftBits()I -/
def cd_109 : List Instr := [.iconst 0, .istore 1, .iconst 0, .istore 2, .iload 2, .aload 0, .getfield 10040, .if_icmp .ge 22, .aload 0, .getfield 10002, .iload 2, .aaload, .getfield 4020, .ifCond .eq 20, .iload 1, .iconst 1, 
  .iload 2, .ishl, .ior, .istore 1, .iinc 2 1, .goto 4, .iload 1, .ireturn]
def ps_109 : List Nat := [0, 1, 2, 3, 4, 5, 6, 9, 12, 13, 16, 17, 18, 21, 24, 25, 26, 27, 28, 29, 30, 33, 36, 37]
theorem ck_109 : xChkM 10 false (some .int) prog_12_method_13_code cd_109 ps_109 = true := by decide +kernel
/-- LastCloud$Sky.overGround(IZIZ)I -/
def cd_110 : List Instr := [.aload 0, .getfield 10022, .getfield 6012, .iload 3, .iaload, .istore 5, .iload 4, .ifCond .eq 17, .iload 5, .iload 5, .aload 0, .getfield 10080, .imul, .iconst 100, .idiv, .iadd, .istore 5, .iload 2, 
  .ifCond .eq 27, .iload 5, .aload 0, .getfield 10012, .iload 1, .aaload, .getfield 2040, .isub, .goto 34, .iload 5, .aload 0, .getfield 10012, .iload 1, .aaload, .getfield 2040, .iadd, .ireturn]
def ps_110 : List Nat := [0, 1, 4, 7, 8, 9, 11, 13, 16, 18, 20, 21, 24, 25, 27, 28, 29, 31, 32, 35, 37, 38, 41, 42, 43, 46, 47, 50, 52, 53, 56, 57, 58, 61, 62]
theorem ck_110 : xChkM 10 false (some .int) prog_12_method_14_code cd_110 ps_110 = true := by decide +kernel
/-- LastCloud$Sky.takes(IZIZ)I -/
def cd_111 : List Instr := [.aload 0, .iload 1, .iload 2, .iload 3, .iload 4, .invokevirtual 880820, .istore 5, .iload 5, .iconst 1, .if_icmp .ge 12, .iconst (-1), .goto 23, .iconst 12, .aload 0, .getfield 10012, .iload 1, 
  .aaload, .getfield 2020, .imul, .iload 5, .idiv, .iconst 1, .iadd, .ireturn]
def ps_111 : List Nat := [0, 1, 2, 3, 4, 6, 9, 11, 13, 14, 17, 18, 21, 23, 24, 27, 28, 29, 32, 33, 35, 36, 37, 38]
theorem ck_111 : xChkM 10 false (some .int) prog_12_method_15_code cd_111 ps_111 = true := by decide +kernel
/-- LastCloud$Sky.loses(IZIZ)I -/
def cd_112 : List Instr := [.aload 0, .iload 1, .iload 2, .iload 3, .iload 4, .invokevirtual 888820, .istore 5, .iload 5, .iconst (-1), .if_icmp .ne 12, .iconst (-2000000000), .goto 29, .iconst 5, .iload 5, .imul, .aload 0, 
  .getfield 10022, .getfield 6022, .iload 3, .iaload, .aload 0, .getfield 10012, .iload 1, .aaload, .getfield 2030, .isub, .imul, .iconst 100, .idiv, .ireturn]
def ps_112 : List Nat := [0, 1, 2, 3, 4, 6, 9, 11, 13, 14, 17, 19, 22, 23, 25, 26, 27, 30, 33, 34, 35, 36, 39, 40, 41, 44, 45, 46, 48, 49]
theorem ck_112 : xChkM 10 false (some .int) prog_12_method_16_code cd_112 ps_112 = true := by decide +kernel
/-- LastCloud$Sky.wins(IZ)I -/
def cd_113 : List Instr := [.aload 0, .getfield 10002, .iload 1, .aaload, .getfield 4020, .ifCond .eq 15, .aload 0, .aload 0, .getfield 10002, .iload 1, .aaload, .getfield 4040, .iload 2, .invokevirtual 912812, .goto 16, 
  .iconst 0, .ireturn]
def ps_113 : List Nat := [0, 1, 4, 5, 6, 9, 12, 13, 14, 17, 18, 19, 22, 23, 26, 29, 30]
theorem ck_113 : xChkM 10 false (some .int) prog_12_method_17_code cd_113 ps_113 = true := by decide +kernel
/-- LastCloud$Sky.winsBy(IZ)I -/
def cd_114 : List Instr := [.iload 2, .ifCond .eq 9, .iload 1, .aload 0, .getfield 10080, .imul, .iconst 100, .idiv, .goto 10, .iconst 0, .istore 3, .iconst 0, .iconst 5, .iload 1, .iload 3, .isub, .aload 0, .getfield 10070, 
  .isub, .imul, .iconst 100, .idiv, .dadd, .ireturn]
def ps_114 : List Nat := [0, 1, 4, 5, 6, 9, 10, 12, 13, 16, 17, 18, 19, 20, 21, 22, 23, 24, 27, 28, 29, 31, 32, 35]
theorem ck_114 : xChkM 10 false (some .int) prog_12_method_18_code cd_114 ps_114 = true := by decide +kernel
/-- LastCloud$Sky.capped(I)I -/
def cd_115 : List Instr := [.aload 0, .getfield 10090, .iload 1, .dsub, .ireturn]
def ps_115 : List Nat := [0, 1, 4, 5, 8]
theorem ck_115 : xChkM 10 false (some .int) prog_12_method_19_code cd_115 ps_115 = true := by decide +kernel
/-- LastCloud$Sky.chanceNow(I)I -/
def cd_116 : List Instr := [.aload 0, .getfield 10002, .iload 1, .aaload, .getfield 4030, .istore 2, .iconst 0, .istore 3, .iload 3, .aload 0, .getfield 10032, .getfield 9000, .if_icmp .ge 34, .aload 0, .getfield 10032, 
  .getfield 9012, .iload 3, .iaload, .iload 1, .if_icmp .ne 32, .aload 0, .getfield 10002, .iload 1, .aaload, .iload 2, .aload 0, .getfield 10032, .getfield 9022, .iload 3, .iaload, 
  .invokevirtual 304332, .istore 2, .iinc 3 1, .goto 8, .iload 2, .ireturn]
def ps_116 : List Nat := [0, 1, 4, 5, 6, 9, 10, 11, 12, 13, 14, 17, 20, 23, 24, 27, 30, 31, 32, 33, 36, 37, 40, 41, 42, 43, 44, 47, 50, 51, 52, 55, 56, 59, 62, 63]
theorem ck_116 : xChkM 10 false (some .int) prog_12_method_20_code cd_116 ps_116 = true := by decide +kernel
/-- LastCloud$Sky.fastSpeedTo(I)I -/
def cd_117 : List Instr := [.aload 0, .getfield 10002, .iload 1, .aaload, .astore 2, .aload 0, .getfield 10022, .aload 2, .getfield 4020, .ifCond .eq 18, .iconst 1, .aload 2, .getfield 4040, .aload 0, .getfield 10070, .isub, 
  .dadd, .goto 19, .iconst 100, .invokevirtual 464488, .ireturn]
def ps_117 : List Nat := [0, 1, 4, 5, 6, 7, 8, 11, 12, 15, 18, 19, 20, 23, 24, 27, 28, 31, 34, 36, 39]
theorem ck_117 : xChkM 10 false (some .int) prog_12_method_21_code cd_117 ps_117 = true := by decide +kernel
/-- LastCloud$Sky.landingWorth(III)I -/
def cd_118 : List Instr := [.iload 1, .iconst 2, .if_icmp .ne 13, .iload 2, .aload 0, .getfield 10140, .if_icmp .ne 11, .iconst 10000, .iload 3, .isub, .goto 12, .iconst 0, .ireturn, .iload 2, .aload 0, .getfield 10140, 
  .if_icmp .ne 25, .aload 0, .getfield 10110, .aload 0, .getfield 10120, .iload 3, .imul, .isub, .ireturn, .aload 0, .getfield 10002, .iload 2, .aaload, .getfield 4010, .istore 4, .iload 4, .iconst (-1), 
  .if_icmp .eq 41, .iload 4, .aload 0, .getfield 10120, .iload 3, .imul, .isub, .goto 44, .aload 0, .getfield 10130, .ineg, .ireturn]
def ps_118 : List Nat := [0, 1, 2, 5, 6, 7, 10, 13, 16, 17, 18, 21, 22, 23, 24, 25, 28, 31, 32, 35, 36, 39, 40, 41, 42, 43, 44, 47, 48, 49, 52, 54, 56, 57, 60, 62, 63, 66, 67, 68, 69, 72, 73, 76, 77]
theorem ck_118 : xChkM 10 false (some .int) prog_12_method_22_code cd_118 ps_118 = true := by decide +kernel
/-- LastCloud.<init>()V -/
def cd_119 : List Instr := [.aload 0, .dneg, .aload 0, .iconst 1600, .newarray .byte, .putfield 11002, .aload 0, .new 7, .dup, .aload 0, .getfield 11002, .invokespecial 488571, .putfield 11022, .aload 0, .iconst (-1), 
  .putfield 11040, .aload 0, .new 10, .dup, .invokespecial 776807, .putfield 11052, .aload 0, .new 10, .dup, .invokespecial 776807, .putfield 11062, .aload 0, .iconst 3, .anewarray 27, .putfield 11072, 
  .aload 0, .iconst 3, .newarray .boolean, .putfield 11082, .aload 0, .new 1, .dup, .invokespecial 120087, .putfield 11092, .aload 0, .iconst 5, .anewarray 28, .putfield 11102, .aload 0, .new 3, .dup, 
  .invokespecial 232247, .putfield 11112, .aload 0, .new 0, .dup, .invokespecial 7, .putfield 11122, .aload 0, .new 0, .dup, .invokespecial 7, .putfield 11132, .aload 0, .new 8, .dup, 
  .invokespecial 672647, .putfield 11142, .aload 0, .iconst 4, .iconst 60, .multianewarray 24 2, .putfield 11152, .aload 0, .iconst 4, .newarray .int, .putfield 11162, .aload 0, .iconst 4, 
  .newarray .int, .putfield 11172, .iconst 0, .istore 1, .iload 1, .iconst 3, .if_icmp .ge 90, .aload 0, .getfield 11072, .iload 1, .new 10, .dup, .invokespecial 776807, .aastore, .iinc 1 1, .goto 78, 
  .aload 0, .getfield 11162, .iconst (-1), .invokestatic 2575931, .aload 0, .getfield 11092, .aload 0, .getfield 11052, .invokevirtual 136091, .return_]
def ps_119 : List Nat := [0, 1, 4, 5, 8, 10, 13, 14, 17, 18, 19, 22, 25, 28, 29, 30, 33, 34, 37, 38, 41, 44, 45, 48, 49, 52, 55, 56, 57, 60, 63, 64, 65, 67, 70, 71, 74, 75, 78, 81, 82, 83, 86, 89, 90, 93, 94, 97, 100, 101, 104, 
  105, 108, 111, 112, 115, 116, 119, 122, 123, 126, 127, 130, 133, 134, 135, 137, 141, 144, 145, 146, 148, 151, 152, 153, 155, 158, 159, 160, 161, 162, 165, 166, 169, 170, 173, 174, 177, 178, 181, 184, 
  185, 188, 189, 192, 193, 196, 197, 200, 203]
theorem ck_119 : xChkM 11 true none prog_1_method_1_code cd_119 ps_119 = true := by decide +kernel
/-- LastCloud.feed(IIIII)I -/
def cd_120 : List Instr := [.aload 0, .getfield 11010, .iconst 20, .iadd, .iconst 1600, .if_icmp .le 8, .iconst (-1), .ireturn, .aload 0, .iload 1, .invokevirtual 968891, .aload 0, .iload 2, .invokevirtual 968891, .aload 0, 
  .iload 3, .invokevirtual 968891, .aload 0, .iload 4, .invokevirtual 968891, .aload 0, .iload 5, .invokevirtual 968891, .aload 0, .getfield 11010, .ireturn]
def ps_120 : List Nat := [0, 1, 4, 6, 7, 10, 13, 14, 15, 16, 17, 20, 21, 22, 25, 26, 27, 30, 31, 33, 36, 37, 39, 42, 43, 46]
theorem ck_120 : xChkM 11 false (some .int) prog_1_method_2_code cd_120 ps_120 = true := by decide +kernel
/-- LastCloud.putNumber(I)V -/
def cd_121 : List Instr := [.iconst 24, .istore 2, .iload 2, .ifCond .lt 25, .aload 0, .getfield 11010, .iconst 1600, .if_icmp .ge 25, .aload 0, .getfield 11002, .aload 0, .getfield 11010, .iload 1, .iload 2, .ishr, .i2b, 
  .bastore, .aload 0, .dup, .getfield 11010, .iconst 1, .iadd, .putfield 11010, .iinc 2 (-8), .goto 2, .return_]
def ps_121 : List Nat := [0, 2, 3, 4, 7, 8, 11, 14, 17, 18, 21, 22, 25, 26, 27, 28, 29, 30, 31, 32, 35, 36, 37, 40, 43, 46]
theorem ck_121 : xChkM 11 false none prog_1_method_3_code cd_121 ps_121 = true := by decide +kernel
/-- LastCloud.end(I)I -/
def cd_122 : List Instr := [.iload 1, .ifCond .lt 6, .iload 1, .aload 0, .getfield 11010, .if_icmp .le 8, .iconst (-1), .ireturn, .aload 0, .iload 1, .putfield 11010, .iload 1, .ireturn]
def ps_122 : List Nat := [0, 1, 4, 5, 6, 9, 12, 13, 14, 15, 16, 19, 20]
theorem ck_122 : xChkM 11 false (some .int) prog_1_method_4_code cd_122 ps_122 = true := by decide +kernel
/-- LastCloud.sky()I -/
def cd_123 : List Instr := [.aload 0, .getfield 11062, .invokevirtual 784807, .aload 0, .aload 0, .getfield 11022, .aload 0, .getfield 11010, .aload 0, .getfield 11062, .invokevirtual 496572, .putfield 11030, .aload 0, .aload 0, 
  .getfield 11022, .getfield 7070, .putfield 11040, .aload 0, .iconst 0, .putfield 11010, .aload 0, .getfield 11030, .ifCond .eq 25, .iconst (-4), .ireturn, .aload 0, .getfield 11052, .astore 1, 
  .aload 0, .aload 0, .getfield 11062, .putfield 11052, .aload 0, .aload 1, .putfield 11062, .aload 0, .getfield 11092, .aload 0, .getfield 11052, .invokevirtual 136091, .aload 0, .invokevirtual 1000887, 
  .aload 0, .getfield 11052, .getfield 10060, .ireturn]
def ps_123 : List Nat := [0, 1, 4, 7, 8, 9, 12, 13, 16, 17, 20, 23, 26, 27, 28, 31, 34, 37, 38, 39, 42, 43, 46, 49, 51, 52, 53, 56, 57, 58, 59, 62, 65, 66, 67, 70, 71, 74, 75, 78, 81, 82, 85, 86, 89, 92]
theorem ck_123 : xChkM 11 false (some .int) prog_1_method_5_code cd_123 ps_123 = true := by decide +kernel
/-- LastCloud.fault(I)I -/
def cd_124 : List Instr := [.iload 1, .ifCond .ne 5, .aload 0, .getfield 11030, .ireturn, .iload 1, .iconst 1, .if_icmp .ne 11, .aload 0, .getfield 11040, .goto 12, .iconst (-1), .ireturn]
def ps_124 : List Nat := [0, 1, 4, 5, 8, 9, 10, 11, 14, 15, 18, 21, 22]
theorem ck_124 : xChkM 11 false (some .int) prog_1_method_6_code cd_124 ps_124 = true := by decide +kernel
/-- LastCloud.forgetPlans()V -/
def cd_125 : List Instr := [.iconst 0, .istore 1, .iload 1, .aload 0, .getfield 11102, .arraylength, .if_icmp .ge 20, .aload 0, .getfield 11102, .iload 1, .aaload, .ifnull 18, .aload 0, .getfield 11102, .iload 1, .aaload, 
  .iconst 0, .putfield 5093, .iinc 1 1, .goto 2, .return_]
def ps_125 : List Nat := [0, 1, 2, 3, 4, 7, 8, 11, 12, 15, 16, 17, 20, 21, 24, 25, 26, 27, 30, 33, 36]
theorem ck_125 : xChkM 11 false none prog_1_method_7_code cd_125 ps_125 = true := by decide +kernel
/-- LastCloud.periods(IZIZ)I -/
def cd_126 : List Instr := [.aload 0, .getfield 11052, .iload 1, .invokevirtual 808808, .ifCond .eq 10, .aload 0, .getfield 11052, .iload 3, .invokevirtual 816808, .ifCond .ne 12, .iconst (-2), .ireturn, .aload 0, 
  .getfield 11052, .iload 1, .iload 2, .iload 3, .iload 4, .invokevirtual 888820, .ireturn]
def ps_126 : List Nat := [0, 1, 4, 5, 8, 11, 12, 15, 16, 19, 22, 24, 25, 26, 29, 30, 31, 32, 34, 37]
theorem ck_126 : xChkM 11 false (some .int) prog_1_method_8_code cd_126 ps_126 = true := by decide +kernel
/-- LastCloud.loss(IZIZ)I -/
def cd_127 : List Instr := [.aload 0, .getfield 11052, .iload 1, .invokevirtual 808808, .ifCond .eq 10, .aload 0, .getfield 11052, .iload 3, .invokevirtual 816808, .ifCond .ne 12, .iconst (-2000000000), .ireturn, .aload 0, 
  .getfield 11052, .iload 1, .iload 2, .iload 3, .iload 4, .invokevirtual 896820, .ireturn]
def ps_127 : List Nat := [0, 1, 4, 5, 8, 11, 12, 15, 16, 19, 22, 24, 25, 26, 29, 30, 31, 32, 34, 37]
theorem ck_127 : xChkM 11 false (some .int) prog_1_method_9_code cd_127 ps_127 = true := by decide +kernel
/-- LastCloud.climb(IZ)I -/
def cd_128 : List Instr := [.aload 0, .getfield 11052, .iload 1, .invokevirtual 800808, .ifCond .eq 11, .aload 0, .getfield 11052, .iload 1, .iload 2, .invokevirtual 904812, .goto 12, .iconst (-2), .ireturn]
def ps_128 : List Nat := [0, 1, 4, 5, 8, 11, 12, 15, 16, 17, 20, 23, 25]
theorem ck_128 : xChkM 11 false (some .int) prog_1_method_10_code cd_128 ps_128 = true := by decide +kernel
/-- LastCloud.chance(I)I -/
def cd_129 : List Instr := [.aload 0, .getfield 11052, .iload 1, .invokevirtual 800808, .ifCond .eq 10, .aload 0, .getfield 11052, .iload 1, .invokevirtual 928808, .goto 11, .iconst (-2), .ireturn]
def ps_129 : List Nat := [0, 1, 4, 5, 8, 11, 12, 15, 16, 19, 22, 24]
theorem ck_129 : xChkM 11 false (some .int) prog_1_method_11_code cd_129 ps_129 = true := by decide +kernel
/-- LastCloud.sight(II)I -/
def cd_130 : List Instr := [.aload 0, .getfield 11052, .iload 1, .invokevirtual 800808, .ifCond .eq 10, .iload 2, .ifCond .lt 10, .iload 2, .iconst 3, .if_icmp .le 12, .iconst (-2), .ireturn, .aload 0, .getfield 11052, 
  .getfield 10032, .getfield 9000, .iconst 20, .if_icmp .lt 20, .iconst (-3), .ireturn, .aload 0, .getfield 11052, .getfield 10032, .iload 1, .iload 2, .invokevirtual 760735, .aload 0, 
  .invokevirtual 1000887, .aload 0, .getfield 11052, .getfield 10032, .getfield 9000, .ireturn]
def ps_130 : List Nat := [0, 1, 4, 5, 8, 11, 12, 15, 16, 17, 20, 22, 23, 24, 27, 30, 33, 35, 38, 40, 41, 42, 45, 48, 49, 50, 53, 54, 57, 58, 61, 64, 67]
theorem ck_130 : xChkM 11 false (some .int) prog_1_method_12_code cd_130 ps_130 = true := by decide +kernel
/-- LastCloud.unsee(I)I -/
def cd_131 : List Instr := [.iload 1, .ifCond .lt 8, .iload 1, .aload 0, .getfield 11052, .getfield 10032, .getfield 9000, .if_icmp .le 10, .iconst (-2), .ireturn, .aload 0, .getfield 11052, .getfield 10032, .dup, .getfield 9000, 
  .iload 1, .isub, .putfield 9000, .aload 0, .invokevirtual 1000887, .aload 0, .getfield 11052, .getfield 10032, .getfield 9000, .ireturn]
def ps_131 : List Nat := [0, 1, 4, 5, 6, 9, 12, 15, 18, 20, 21, 22, 25, 28, 29, 32, 33, 34, 37, 38, 41, 42, 45, 48, 51]
theorem ck_131 : xChkM 11 false (some .int) prog_1_method_13_code cd_131 ps_131 = true := by decide +kernel
/-- LastCloud.sign(IZ)I -/
def cd_132 : List Instr := [.aload 0, .getfield 11052, .iload 1, .invokevirtual 800808, .ifCond .ne 7, .iconst (-2), .ireturn, .aload 0, .getfield 11052, .getfield 10002, .iload 1, .aaload, .astore 3, .aload 3, .aload 3, 
  .getfield 4030, .iload 2, .iconst 10000, .invokevirtual 312336, .ireturn]
def ps_132 : List Nat := [0, 1, 4, 5, 8, 11, 13, 14, 15, 18, 21, 22, 23, 24, 25, 26, 29, 30, 33, 36]
theorem ck_132 : xChkM 11 false (some .int) prog_1_method_14_code cd_132 ps_132 = true := by decide +kernel
/-- LastCloud.reach(IIIZ)I -/
def cd_133 : List Instr := [.aload 0, .getfield 11052, .iload 1, .invokevirtual 800808, .ifCond .eq 15, .aload 0, .getfield 11052, .iload 3, .invokevirtual 800808, .ifCond .eq 15, .aload 0, .getfield 11052, .iload 2, 
  .invokevirtual 824808, .ifCond .ne 17, .iconst (-2), .ireturn, .aload 0, .getfield 11092, .aload 0, .getfield 11052, .iload 1, .iload 2, .iload 4, .invokevirtual 184103, .aload 0, .getfield 11092, 
  .getfield 1082, .iload 3, .iaload, .ireturn]
def ps_133 : List Nat := [0, 1, 4, 5, 8, 11, 12, 15, 16, 19, 22, 23, 26, 27, 30, 33, 35, 36, 37, 40, 41, 44, 45, 46, 48, 51, 52, 55, 58, 59, 60]
theorem ck_133 : xChkM 11 false (some .int) prog_1_method_15_code cd_133 ps_133 = true := by decide +kernel
/-- LastCloud.fields(IIZ)I -/
def cd_134 : List Instr := [.aload 0, .getfield 11052, .iload 1, .invokevirtual 800808, .ifCond .eq 10, .aload 0, .getfield 11052, .iload 2, .invokevirtual 824808, .ifCond .ne 12, .iconst (-2), .ireturn, .aload 0, 
  .getfield 11092, .aload 0, .getfield 11052, .iload 1, .iload 2, .iload 3, .invokevirtual 184103, .iconst 0, .istore 4, .iconst 0, .istore 5, .iload 5, .aload 0, .getfield 11052, .getfield 10040, 
  .if_icmp .ge 49, .aload 0, .getfield 11092, .getfield 1082, .iload 5, .iaload, .iconst (-1), .if_icmp .eq 47, .aload 0, .getfield 11052, .iload 5, .invokevirtual 856808, .ifCond .eq 47, .iload 4, 
  .iconst 1, .iload 5, .ishl, .ior, .istore 4, .iinc 5 1, .goto 24, .iload 4, .ireturn]
def ps_134 : List Nat := [0, 1, 4, 5, 8, 11, 12, 15, 16, 19, 22, 24, 25, 26, 29, 30, 33, 34, 35, 36, 39, 40, 42, 43, 45, 47, 48, 51, 54, 57, 58, 61, 64, 66, 67, 68, 71, 72, 75, 77, 80, 83, 85, 86, 88, 89, 90, 92, 95, 98, 100]
theorem ck_134 : xChkM 11 false (some .int) prog_1_method_16_code cd_134 ps_134 = true := by decide +kernel
end
section
/-- LastCloud.edge(IZ)I -/
def cd_135 : List Instr := [.aload 0, .getfield 11052, .iload 1, .invokevirtual 800808, .ifCond .ne 7, .iconst (-2), .ireturn, .aload 0, .getfield 11092, .getfield 1072, .iload 1, .iload 2, .invokestatic 135928, .iaload, 
  .istore 3, .iload 3, .iconst 1000000, .if_icmp .ne 20, .iconst (-1), .goto 21, .iload 3, .ireturn]
def ps_135 : List Nat := [0, 1, 4, 5, 8, 11, 13, 14, 15, 18, 21, 22, 23, 26, 27, 28, 29, 31, 34, 35, 38, 39]
theorem ck_135 : xChkM 11 false (some .int) prog_1_method_17_code cd_135 ps_135 = true := by decide +kernel
/-- LastCloud.tour(IIZ)I -/
def cd_136 : List Instr := [.aload 0, .getfield 11052, .iload 1, .invokevirtual 800808, .ifCond .eq 10, .aload 0, .getfield 11052, .iload 2, .invokevirtual 824808, .ifCond .ne 12, .iconst (-2), .ireturn, .aload 0, 
  .getfield 11092, .aload 0, .getfield 11052, .iload 1, .iload 2, .iload 3, .invokevirtual 184103, .iconst 0, .istore 4, .iconst 0, .istore 5, .iload 5, .aload 0, .getfield 11052, .getfield 10040, 
  .if_icmp .ge 55, .aload 0, .getfield 11092, .getfield 1082, .iload 5, .iaload, .istore 6, .iload 6, .iconst (-1), .if_icmp .eq 53, .iload 6, .aload 0, .getfield 11092, .getfield 1072, .iload 5, 
  .iload 3, .invokestatic 135928, .iaload, .if_icmp .lt 53, .iload 4, .iconst 1, .iload 5, .ishl, .ior, .istore 4, .iinc 5 1, .goto 24, .iload 4, .ireturn]
def ps_136 : List Nat := [0, 1, 4, 5, 8, 11, 12, 15, 16, 19, 22, 24, 25, 26, 29, 30, 33, 34, 35, 36, 39, 40, 42, 43, 45, 47, 48, 51, 54, 57, 58, 61, 64, 66, 67, 69, 71, 72, 75, 77, 78, 81, 84, 86, 87, 90, 91, 94, 96, 97, 99, 
  100, 101, 103, 106, 109, 111]
theorem ck_136 : xChkM 11 false (some .int) prog_1_method_18_code cd_136 ps_136 = true := by decide +kernel
/-- LastCloud.street()I -/
def cd_137 : List Instr := [.aload 0, .getfield 11092, .aload 0, .getfield 11052, .invokevirtual 200088, .ireturn]
def ps_137 : List Nat := [0, 1, 4, 5, 8, 11]
theorem ck_137 : xChkM 11 false (some .int) prog_1_method_19_code cd_137 ps_137 = true := by decide +kernel
/-- LastCloud.fast(I)I -/
def cd_138 : List Instr := [.iload 1, .invokestatic 1127924, .ifCond .eq 9, .aload 0, .getfield 11052, .getfield 10022, .iload 1, .invokevirtual 464488, .goto 10, .iconst (-2), .ireturn]
def ps_138 : List Nat := [0, 1, 4, 7, 8, 11, 14, 15, 18, 21, 23]
theorem ck_138 : xChkM 11 false (some .int) prog_1_method_20_code cd_138 ps_138 = true := by decide +kernel
/-- LastCloud.average(I)I -/
def cd_139 : List Instr := [.iload 1, .invokestatic 1127924, .ifCond .ne 5, .iconst (-2), .ireturn, .aload 0, .getfield 11052, .getfield 10022, .iload 1, .invokevirtual 464488, .istore 2, .iload 2, .iconst (-1), .if_icmp .ne 16, 
  .iconst (-1), .goto 22, .aload 0, .getfield 11052, .getfield 10022, .iload 2, .iload 1, .invokevirtual 472492, .ireturn]
def ps_139 : List Nat := [0, 1, 4, 7, 9, 10, 11, 14, 17, 18, 21, 22, 23, 24, 27, 28, 31, 32, 35, 38, 39, 40, 43]
theorem ck_139 : xChkM 11 false (some .int) prog_1_method_21_code cd_139 ps_139 = true := by decide +kernel
/-- LastCloud.isClimb(I)Z -/
def cd_140 : List Instr := [.iload 0, .iconst 1, .if_icmp .lt 8, .iload 0, .iconst 2000, .if_icmp .gt 8, .iconst 1, .goto 9, .iconst 0, .freturn]
def ps_140 : List Nat := [0, 1, 2, 5, 6, 9, 12, 13, 16, 17]
theorem ck_140 : xChkM 11 false (some .boolean) prog_1_method_22_code cd_140 ps_140 = true := by decide +kernel
/-- LastCloud.farthest()I -/
def cd_141 : List Instr := [.aload 0, .getfield 11052, .getfield 10022, .invokevirtual 480484, .ireturn]
def ps_141 : List Nat := [0, 1, 4, 7, 10]
theorem ck_141 : xChkM 11 false (some .int) prog_1_method_23_code cd_141 ps_141 = true := by decide +kernel
/-- LastCloud.worth(IIIIZZ)I -/
def cd_142 : List Instr := [.iload 1, .invokestatic 1167924, .ifCond .eq 11, .aload 0, .getfield 11052, .iload 2, .iload 3, .iload 4, .iload 6, .invokevirtual 832820, .ifCond .ne 13, .iconst (-2000000000), .ireturn, .aload 0, 
  .iload 1, .invokevirtual 1168890, .astore 7, .aload 7, .iload 4, .iload 6, .invokevirtual 400415, .aload 7, .iload 4, .iload 6, .iload 2, .iload 3, .invokestatic 335936, .iload 5, 
  .invokevirtual 368412, .ireturn]
def ps_142 : List Nat := [0, 1, 4, 7, 8, 11, 12, 13, 15, 17, 20, 23, 25, 26, 27, 28, 31, 33, 35, 37, 39, 42, 44, 46, 48, 49, 50, 53, 55, 58]
theorem ck_142 : xChkM 11 false (some .int) prog_1_method_24_code cd_142 ps_142 = true := by decide +kernel
/-- LastCloud.deed(IIIIZZ)I -/
def cd_143 : List Instr := [.iload 1, .invokestatic 1167924, .ifCond .eq 11, .aload 0, .getfield 11052, .iload 2, .iload 3, .iload 4, .iload 6, .invokevirtual 832820, .ifCond .ne 13, .iconst (-2), .ireturn, .aload 0, .iload 1, 
  .invokevirtual 1168890, .astore 7, .aload 7, .iload 4, .iload 6, .invokevirtual 400415, .aload 7, .iload 4, .iload 6, .iload 2, .iload 3, .invokestatic 335936, .iload 5, .invokevirtual 376412, 
  .ireturn]
def ps_143 : List Nat := [0, 1, 4, 7, 8, 11, 12, 13, 15, 17, 20, 23, 25, 26, 27, 28, 31, 33, 35, 37, 39, 42, 44, 46, 48, 49, 50, 53, 55, 58]
theorem ck_143 : xChkM 11 false (some .int) prog_1_method_25_code cd_143 ps_143 = true := by decide +kernel
/-- LastCloud.home(IIIIZZ)I -/
def cd_144 : List Instr := [.iload 1, .invokestatic 1167924, .ifCond .eq 11, .aload 0, .getfield 11052, .iload 2, .iload 3, .iload 4, .iload 6, .invokevirtual 832820, .ifCond .ne 13, .iconst (-2), .ireturn, .aload 0, .iload 1, 
  .invokevirtual 1168890, .astore 7, .aload 7, .iload 4, .iload 6, .invokevirtual 400415, .aload 7, .iload 4, .iload 6, .iload 2, .iload 3, .invokestatic 335936, .iload 5, .invokevirtual 384412, 
  .ireturn]
def ps_144 : List Nat := [0, 1, 4, 7, 8, 11, 12, 13, 15, 17, 20, 23, 25, 26, 27, 28, 31, 33, 35, 37, 39, 42, 44, 46, 48, 49, 50, 53, 55, 58]
theorem ck_144 : xChkM 11 false (some .int) prog_1_method_26_code cd_144 ps_144 = true := by decide +kernel
/-- LastCloud.isRule(I)Z -/
def cd_145 : List Instr := [.iload 0, .ifCond .lt 7, .iload 0, .iconst 4, .if_icmp .ge 7, .iconst 1, .goto 8, .iconst 0, .freturn]
def ps_145 : List Nat := [0, 1, 4, 5, 6, 9, 10, 13, 14]
theorem ck_145 : xChkM 11 false (some .boolean) prog_1_method_27_code cd_145 ps_145 = true := by decide +kernel
/-- LastCloud.planOf(I)LLastCloud$Plan; -/
def cd_146 : List Instr := [.aload 0, .getfield 11102, .iload 1, .aaload, .ifnonnull 12, .aload 0, .getfield 11102, .iload 1, .new 5, .dup, .invokespecial 320407, .aastore, .aload 0, .getfield 11102, .iload 1, .aaload, .astore 2, 
  .aload 2, .getfield 5090, .ifCond .ne 27, .aload 2, .aload 0, .getfield 11052, .aload 0, .getfield 11092, .iload 1, .invokevirtual 336419, .aload 2, .areturn]
def ps_146 : List Nat := [0, 1, 4, 5, 6, 9, 10, 13, 14, 17, 18, 21, 22, 23, 26, 27, 28, 29, 30, 33, 36, 37, 38, 41, 42, 45, 46, 49, 50]
theorem ck_146 : xChkM 11 false (some (.object "LastCloud$Plan")) prog_1_method_28_code cd_146 ps_146 = true := by decide +kernel
/-- LastCloud.trialPlan()LLastCloud$Plan; -/
def cd_147 : List Instr := [.aload 0, .getfield 11102, .iconst 4, .aaload, .ifnonnull 12, .aload 0, .getfield 11102, .iconst 4, .new 5, .dup, .invokespecial 320407, .aastore, .aload 0, .getfield 11102, .iconst 4, .aaload, 
  .aload 0, .getfield 11052, .aload 0, .getfield 11092, .iconst 0, .invokevirtual 336419, .aload 0, .getfield 11102, .iconst 4, .aaload, .areturn]
def ps_147 : List Nat := [0, 1, 4, 5, 6, 9, 10, 13, 14, 17, 18, 21, 22, 23, 26, 27, 28, 29, 32, 33, 36, 37, 40, 41, 44, 45, 46]
theorem ck_147 : xChkM 11 false (some (.object "LastCloud$Plan")) prog_1_method_29_code cd_147 ps_147 = true := by decide +kernel
/-- LastCloud.start(I)I -/
def cd_148 : List Instr := [.iload 1, .invokestatic 1167924, .ifCond .eq 7, .aload 0, .getfield 11052, .invokevirtual 840804, .ifCond .ne 9, .iconst (-2000000000), .ireturn, .aload 0, .iload 1, .invokevirtual 1168890, .aload 0, 
  .getfield 11052, .invokevirtual 848804, .invokevirtual 392408, .ireturn]
def ps_148 : List Nat := [0, 1, 4, 7, 8, 11, 14, 17, 19, 20, 21, 22, 25, 26, 29, 32, 35]
theorem ck_148 : xChkM 11 false (some .int) prog_1_method_30_code cd_148 ps_148 = true := by decide +kernel
/-- LastCloud.cost(I)I -/
def cd_149 : List Instr := [.iload 1, .iconst 1, .if_icmp .eq 6, .iload 1, .iconst 3, .if_icmp .ne 10, .aload 0, .getfield 11052, .invokevirtual 840804, .ifCond .ne 12, .iconst (-2000000000), .ireturn, .aload 0, .getfield 11052, 
  .invokevirtual 848804, .istore 2, .aload 0, .iconst 0, .invokevirtual 1168890, .iload 2, .invokevirtual 392408, .aload 0, .iload 1, .invokevirtual 1168890, .iload 2, .invokevirtual 392408, .isub, 
  .ireturn]
def ps_149 : List Nat := [0, 1, 2, 5, 6, 7, 10, 11, 14, 17, 20, 22, 23, 24, 27, 30, 31, 32, 33, 36, 37, 40, 41, 42, 45, 46, 49, 50]
theorem ck_149 : xChkM 11 false (some .int) prog_1_method_31_code cd_149 ps_149 = true := by decide +kernel
/-- LastCloud.leave(IIZ)I -/
def cd_150 : List Instr := [.aload 0, .iload 1, .iload 2, .iconst 1, .iload 3, .invokevirtual 1216900, .ireturn]
def ps_150 : List Nat := [0, 1, 2, 3, 4, 5, 8]
theorem ck_150 : xChkM 11 false (some .int) prog_1_method_32_code cd_150 ps_150 = true := by decide +kernel
/-- LastCloud.on(IIZ)I -/
def cd_151 : List Instr := [.aload 0, .iload 1, .iload 2, .iconst 0, .iload 3, .invokevirtual 1216900, .ireturn]
def ps_151 : List Nat := [0, 1, 2, 3, 4, 5, 8]
theorem ck_151 : xChkM 11 false (some .int) prog_1_method_33_code cd_151 ps_151 = true := by decide +kernel
/-- LastCloud.leastToLeave(IIZZ)I -/
def cd_152 : List Instr := [.aload 0, .getfield 11052, .iload 1, .aload 0, .getfield 11052, .getfield 10090, .iload 2, .iload 4, .invokevirtual 832820, .ifCond .ne 12, .iconst (-2), .ireturn, .aload 0, .iconst 0, 
  .invokevirtual 1168890, .astore 5, .aload 5, .iload 2, .iload 4, .invokevirtual 400415, .aload 0, .getfield 11052, .getfield 10002, .iload 1, .aaload, .getfield 4000, .istore 6, .iload 6, .aload 0, 
  .getfield 11052, .getfield 10090, .if_icmp .gt 46, .aload 5, .iload 2, .iload 4, .iload 1, .iload 6, .invokestatic 335936, .iload 3, .invokevirtual 376412, .iconst 100, .if_icmp .lt 44, .iload 6, 
  .ireturn, .iinc 6 1, .goto 27, .iconst (-1), .ireturn]
def ps_152 : List Nat := [0, 1, 4, 5, 6, 9, 12, 13, 15, 18, 21, 23, 24, 25, 26, 29, 31, 33, 34, 36, 39, 40, 43, 46, 47, 48, 51, 53, 55, 56, 59, 62, 65, 67, 68, 70, 71, 73, 76, 77, 80, 82, 85, 87, 88, 91, 94, 95]
theorem ck_152 : xChkM 11 false (some .int) prog_1_method_34_code cd_152 ps_152 = true := by decide +kernel
/-- LastCloud.last(II)I -/
def cd_153 : List Instr := [.aload 0, .getfield 11052, .iload 1, .iload 2, .iconst 0, .iconst 0, .invokevirtual 832820, .ifCond .ne 10, .iconst (-2), .ireturn, .aload 0, .iconst 0, .invokevirtual 1168890, .astore 3, .aload 0, 
  .getfield 11052, .getfield 10100, .istore 4, .iload 4, .ifCond .lt 38, .aload 3, .iload 4, .iconst 0, .invokevirtual 400415, .aload 3, .iload 4, .iconst 0, .iload 1, .iload 2, .invokestatic 335936, 
  .iconst 0, .invokevirtual 384412, .iconst 10000, .if_icmp .ne 36, .iload 4, .ireturn, .iinc 4 (-1), .goto 18, .iconst (-1), .ireturn]
def ps_153 : List Nat := [0, 1, 4, 5, 6, 7, 8, 11, 14, 16, 17, 18, 19, 22, 23, 24, 27, 30, 32, 34, 37, 38, 40, 41, 44, 45, 47, 48, 49, 50, 53, 54, 57, 60, 63, 65, 66, 69, 72, 73]
theorem ck_153 : xChkM 11 false (some .int) prog_1_method_35_code cd_153 ps_153 = true := by decide +kernel
/-- LastCloud.weak(III)I -/
def cd_154 : List Instr := [.aload 0, .getfield 11052, .iload 1, .iload 2, .iload 3, .iconst 0, .invokevirtual 832820, .ifCond .ne 10, .iconst (-2), .ireturn, .aload 0, .getfield 11052, .getfield 10002, .iload 1, .aaload, 
  .getfield 4020, .ifCond .ne 19, .iconst (-1), .ireturn, .iload 3, .iconst 0, .iload 1, .iload 2, .invokestatic 335936, .istore 4, .iconst 0, .istore 5, .iload 5, .iconst 2000, .if_icmp .gt 54, 
  .aload 0, .invokevirtual 1176886, .astore 6, .aload 6, .iload 1, .aload 0, .getfield 11052, .iload 5, .iconst 0, .invokevirtual 912812, .invokevirtual 360415, .aload 6, .iload 3, .iconst 0, 
  .invokevirtual 400415, .aload 6, .iload 4, .iconst 1, .invokevirtual 376412, .ifCond .ne 52, .iload 5, .ireturn, .iinc 5 250, .goto 27, .iconst (-1), .ireturn]
def ps_154 : List Nat := [0, 1, 4, 5, 6, 7, 8, 11, 14, 16, 17, 18, 21, 24, 25, 26, 29, 32, 33, 34, 35, 36, 37, 38, 41, 43, 44, 46, 48, 51, 54, 55, 58, 60, 62, 63, 64, 67, 69, 70, 73, 76, 78, 79, 80, 83, 85, 87, 88, 91, 94, 96, 
  97, 103, 106, 107]
theorem ck_154 : xChkM 11 false (some .int) prog_1_method_36_code cd_154 ps_154 = true := by decide +kernel
/-- LastCloud.ends(IZ)I -/
def cd_155 : List Instr := [.iload 1, .invokestatic 1167924, .ifCond .eq 7, .aload 0, .getfield 11052, .invokevirtual 840804, .ifCond .ne 9, .iconst (-2000000000), .ireturn, .aload 0, .iload 1, .invokevirtual 1168890, .astore 3, 
  .aload 3, .iconst 0, .aload 0, .getfield 11052, .invokevirtual 848804, .invokevirtual 400415, .aload 0, .getfield 11112, .aload 3, .invokevirtual 240251, .iload 2, .ifCond .eq 29, .aload 0, 
  .getfield 11112, .getfield 3020, .goto 32, .aload 0, .getfield 11112, .getfield 3010, .ireturn]
def ps_155 : List Nat := [0, 1, 4, 7, 8, 11, 14, 17, 19, 20, 21, 22, 25, 26, 27, 28, 29, 32, 35, 38, 39, 42, 43, 46, 47, 50, 51, 54, 57, 60, 61, 64, 67]
theorem ck_155 : xChkM 11 false (some .int) prog_1_method_37_code cd_155 ps_155 = true := by decide +kernel
/-- LastCloud.share(I)I -/
def cd_156 : List Instr := [.aload 0, .getfield 11052, .iload 1, .invokevirtual 800808, .ifCond .eq 9, .aload 0, .getfield 11052, .invokevirtual 840804, .ifCond .ne 11, .iconst (-2000000000), .ireturn, .aload 0, .iload 1, 
  .iconst 100, .invokevirtual 1272892, .aload 0, .invokevirtual 1280884, .isub, .ireturn]
def ps_156 : List Nat := [0, 1, 4, 5, 8, 11, 12, 15, 18, 21, 23, 24, 25, 26, 28, 31, 32, 35, 36]
theorem ck_156 : xChkM 11 false (some .int) prog_1_method_38_code cd_156 ps_156 = true := by decide +kernel
/-- LastCloud.known(I)I -/
def cd_157 : List Instr := [.aload 0, .getfield 11052, .iload 1, .invokevirtual 800808, .ifCond .eq 9, .aload 0, .getfield 11052, .invokevirtual 840804, .ifCond .ne 11, .iconst (-2000000000), .ireturn, .aload 0, .getfield 11052, 
  .iload 1, .invokevirtual 928808, .istore 2, .aload 0, .iload 1, .iconst 100, .invokevirtual 1272892, .istore 3, .aload 0, .iload 1, .iconst 0, .invokevirtual 1272892, .istore 4, .iload 2, .iload 3, 
  .iload 4, .invokestatic 1295932, .aload 0, .invokevirtual 1280884, .isub, .ireturn]
def ps_157 : List Nat := [0, 1, 4, 5, 8, 11, 12, 15, 18, 21, 23, 24, 25, 28, 29, 32, 33, 34, 35, 37, 40, 41, 42, 43, 44, 47, 49, 50, 51, 53, 56, 57, 60, 61]
theorem ck_157 : xChkM 11 false (some .int) prog_1_method_39_code cd_157 ps_157 = true := by decide +kernel
/-- LastCloud.hawk(I)I -/
def cd_158 : List Instr := [.aload 0, .getfield 11052, .iload 1, .invokevirtual 800808, .ifCond .eq 9, .aload 0, .getfield 11052, .invokevirtual 840804, .ifCond .ne 11, .iconst (-2000000000), .ireturn, .aload 0, .getfield 11052, 
  .getfield 10002, .iload 1, .aaload, .astore 2, .aload 0, .getfield 11052, .iload 1, .invokevirtual 928808, .istore 3, .iload 3, .aload 2, .getfield 4050, .imul, .iconst 100, .iload 3, .isub, .aload 2, 
  .getfield 4060, .imul, .iadd, .istore 4, .aload 0, .iload 1, .aload 2, .iload 3, .iconst 2, .invokevirtual 304332, .invokevirtual 1272892, .istore 5, .aload 0, .iload 1, .aload 2, .iload 3, .iconst 3, 
  .invokevirtual 304332, .invokevirtual 1272892, .istore 6, .iload 4, .iload 5, .imul, .iconst 10000, .iload 4, .isub, .iload 6, .imul, .iadd, .iconst 10000, .idiv, .aload 0, .invokevirtual 1280884, 
  .isub, .ireturn]
def ps_158 : List Nat := [0, 1, 4, 5, 8, 11, 12, 15, 18, 21, 23, 24, 25, 28, 31, 32, 33, 34, 35, 38, 39, 42, 43, 44, 45, 48, 49, 51, 52, 53, 54, 57, 58, 59, 61, 62, 63, 64, 65, 66, 69, 72, 74, 75, 76, 77, 78, 79, 82, 85, 87, 
  89, 91, 92, 95, 97, 98, 100, 101, 102, 105, 106, 107, 110, 111]
theorem ck_158 : xChkM 11 false (some .int) prog_1_method_40_code cd_158 ps_158 = true := by decide +kernel
/-- LastCloud.startWorthWith(II)I -/
def cd_159 : List Instr := [.aload 0, .iconst 0, .invokevirtual 1168890, .astore 3, .iload 2, .aload 3, .getfield 5062, .iload 1, .iaload, .if_icmp .eq 17, .aload 0, .invokevirtual 1176886, .astore 3, .aload 3, .iload 1, 
  .iload 2, .invokevirtual 352415, .aload 3, .aload 0, .getfield 11052, .invokevirtual 848804, .invokevirtual 392408, .ireturn]
def ps_159 : List Nat := [0, 1, 2, 5, 6, 7, 8, 11, 12, 13, 16, 17, 20, 21, 22, 23, 24, 27, 28, 29, 32, 35, 38]
theorem ck_159 : xChkM 11 false (some .int) prog_1_method_41_code cd_159 ps_159 = true := by decide +kernel
/-- LastCloud.bestStartWorth()I -/
def cd_160 : List Instr := [.aload 0, .iconst 0, .invokevirtual 1168890, .aload 0, .getfield 11052, .invokevirtual 848804, .invokevirtual 392408, .ireturn]
def ps_160 : List Nat := [0, 1, 2, 5, 6, 9, 12, 15]
theorem ck_160 : xChkM 11 false (some .int) prog_1_method_42_code cd_160 ps_160 = true := by decide +kernel
/-- LastCloud.mixed(III)I -/
def cd_161 : List Instr := [.iload 0, .iload 1, .imul, .iconst 100, .iload 0, .isub, .iload 2, .imul, .iadd, .iconst 100, .idiv, .ireturn]
def ps_161 : List Nat := [0, 1, 2, 3, 5, 6, 7, 8, 9, 10, 12, 13]
theorem ck_161 : xChkM 11 false (some .int) prog_1_method_43_code cd_161 ps_161 = true := by decide +kernel
end
section
/-- LastCloud.water()I -/
def cd_162 : List Instr := [.aload 0, .getfield 11052, .invokevirtual 840804, .ifCond .ne 6, .iconst (-2000000000), .ireturn, .aload 0, .getfield 11052, .getfield 10080, .ifCond .ne 12, .iconst 0, .ireturn, .aload 0, .iconst 0, 
  .invokevirtual 1168890, .astore 1, .aload 1, .iconst 1, .invokevirtual 392408, .aload 1, .iconst 0, .invokevirtual 392408, .isub, .ireturn]
def ps_162 : List Nat := [0, 1, 4, 7, 10, 12, 13, 14, 17, 20, 23, 24, 25, 26, 27, 30, 31, 32, 33, 36, 37, 38, 41, 42]
theorem ck_162 : xChkM 11 false (some .int) prog_1_method_44_code cd_162 ps_162 = true := by decide +kernel
/-- LastCloud.drop()I -/
def cd_163 : List Instr := [.aload 0, .getfield 11052, .invokevirtual 840804, .ifCond .eq 8, .aload 0, .getfield 11052, .invokevirtual 848804, .ifCond .ne 10, .iconst (-1), .ireturn, .aload 0, .iconst 0, .invokevirtual 1168890, 
  .astore 1, .aload 1, .iconst 0, .iconst 1, .invokevirtual 400415, .aload 0, .getfield 11132, .aload 0, .getfield 11052, .invokevirtual 16011, .iconst 0, .istore 2, .iload 2, .iconst 100, 
  .if_icmp .ge 52, .aload 0, .getfield 11132, .getfield 150, .ifCond .ne 52, .aload 0, .getfield 11132, .aload 1, .invokevirtual 56008, .istore 3, .iload 3, .iconst 1, .if_icmp .ne 44, .aload 0, 
  .getfield 11132, .getfield 120, .ireturn, .aload 0, .getfield 11132, .iload 3, .i2l, .invokevirtual 72008, .pop, .iinc 2 1, .goto 25, .iconst (-1), .ireturn]
def ps_163 : List Nat := [0, 1, 4, 7, 10, 11, 14, 17, 20, 21, 22, 23, 24, 27, 28, 29, 30, 31, 34, 35, 38, 39, 42, 45, 46, 47, 48, 50, 53, 54, 57, 60, 63, 64, 67, 68, 71, 72, 73, 74, 77, 78, 81, 84, 85, 86, 89, 90, 91, 94, 95, 
  98, 101, 102]
theorem ck_163 : xChkM 11 false (some .int) prog_1_method_45_code cd_163 ps_163 = true := by decide +kernel
/-- LastCloud.fly(II)I -/
def cd_164 : List Instr := [.iload 1, .invokestatic 1167924, .ifCond .eq 10, .iload 2, .invokestatic 1327924, .ifCond .eq 10, .aload 0, .getfield 11052, .invokevirtual 840804, .ifCond .ne 12, .iconst (-2), .ireturn, .aload 0, 
  .aload 0, .getfield 11122, .iload 1, .iload 2, .invokevirtual 1328899, .aload 0, .getfield 11122, .getfield 60, .ireturn]
def ps_164 : List Nat := [0, 1, 4, 7, 8, 11, 14, 15, 18, 21, 24, 26, 27, 28, 29, 32, 33, 34, 37, 38, 41, 44]
theorem ck_164 : xChkM 11 false (some .int) prog_1_method_46_code cd_164 ps_164 = true := by decide +kernel
/-- LastCloud.isSeed(I)Z -/
def cd_165 : List Instr := [.iload 0, .ifCond .lt 7, .iload 0, .iconst 2000000000, .if_icmp .gt 7, .iconst 1, .goto 8, .iconst 0, .freturn]
def ps_165 : List Nat := [0, 1, 4, 5, 8, 11, 12, 15, 16]
theorem ck_165 : xChkM 11 false (some .boolean) prog_1_method_47_code cd_165 ps_165 = true := by decide +kernel
/-- LastCloud.flyOnce(LLastCloud$Flight;II)V -/
def cd_166 : List Instr := [.aload 0, .iload 2, .invokevirtual 1168890, .astore 4, .aload 4, .iconst 0, .aload 0, .getfield 11052, .invokevirtual 848804, .invokevirtual 400415, .aload 1, .aload 4, .aload 0, .getfield 11052, 
  .iload 3, .invokevirtual 48019, .return_]
def ps_166 : List Nat := [0, 1, 2, 5, 7, 9, 10, 11, 14, 17, 20, 21, 23, 24, 27, 28, 31]
theorem ck_166 : xChkM 11 false none prog_1_method_48_code cd_166 ps_166 = true := by decide +kernel
/-- LastCloud.flown(II)I -/
def cd_167 : List Instr := [.aload 0, .getfield 11122, .iload 1, .iload 2, .invokevirtual 96012, .ireturn]
def ps_167 : List Nat := [0, 1, 4, 5, 6, 9]
theorem ck_167 : xChkM 11 false (some .int) prog_1_method_49_code cd_167 ps_167 = true := by decide +kernel
/-- LastCloud.landed(I)I -/
def cd_168 : List Instr := [.aload 0, .getfield 11122, .iload 1, .invokevirtual 104008, .ireturn]
def ps_168 : List Nat := [0, 1, 4, 5, 8]
theorem ck_168 : xChkM 11 false (some .int) prog_1_method_50_code cd_168 ps_168 = true := by decide +kernel
/-- LastCloud.judge(II)I -/
def cd_169 : List Instr := [.iload 1, .invokestatic 1463924, .ifCond .eq 10, .iload 2, .invokestatic 1327924, .ifCond .eq 10, .aload 0, .getfield 11052, .invokevirtual 840804, .ifCond .ne 12, .iconst (-2), .ireturn, .aload 0, 
  .getfield 11162, .iload 1, .iaload, .iconst (-1), .if_icmp .ne 20, .iconst (-6), .ireturn, .aload 0, .getfield 11132, .aload 0, .getfield 11052, .iload 2, .invokevirtual 8015, .iconst 0, .istore 3, 
  .iconst 0, .istore 4, .iload 4, .aload 0, .getfield 11162, .iload 1, .iaload, .if_icmp .ge 54, .aload 0, .getfield 11132, .getfield 150, .ifCond .ne 54, .aload 0, .getfield 11132, .aload 0, 
  .getfield 11152, .iload 1, .aaload, .iload 4, .laload, .invokevirtual 72008, .ifCond .ne 51, .goto 54, .iinc 3 1, .iinc 4 1, .goto 30, .iload 3, .ireturn]
def ps_169 : List Nat := [0, 1, 4, 7, 8, 11, 14, 15, 18, 21, 24, 26, 27, 28, 31, 32, 33, 34, 37, 39, 40, 41, 44, 45, 48, 49, 52, 53, 54, 55, 57, 59, 60, 63, 64, 65, 68, 69, 72, 75, 78, 79, 82, 83, 86, 87, 88, 90, 91, 94, 97, 
  100, 103, 106, 109, 110]
theorem ck_169 : xChkM 11 false (some .int) prog_1_method_51_code cd_169 ps_169 = true := by decide +kernel
/-- LastCloud.flights(III)I -/
def cd_170 : List Instr := [.aload 0, .iload 1, .iload 2, .iload 3, .invokevirtual 1368896, .ifCond .ne 8, .iconst (-2), .ireturn, .iconst 0, .istore 4, .iconst 0, .istore 5, .iload 5, .iload 3, .if_icmp .ge 31, .aload 0, 
  .aload 0, .getfield 11132, .iload 1, .iload 2, .iload 5, .iadd, .invokevirtual 1328899, .aload 0, .getfield 11132, .getfield 160, .iconst 1, .if_icmp .ne 29, .iinc 4 1, .iinc 5 1, .goto 12, .iload 4, 
  .ireturn]
def ps_170 : List Nat := [0, 1, 2, 3, 4, 7, 10, 12, 13, 14, 16, 17, 19, 21, 22, 25, 26, 27, 30, 31, 32, 34, 35, 38, 39, 42, 45, 46, 49, 52, 55, 58, 60]
theorem ck_170 : xChkM 11 false (some .int) prog_1_method_52_code cd_170 ps_170 = true := by decide +kernel
/-- LastCloud.areFlights(III)Z -/
def cd_171 : List Instr := [.iload 1, .invokestatic 1167924, .ifCond .eq 18, .iload 2, .invokestatic 1327924, .ifCond .eq 18, .iload 3, .iconst 1, .if_icmp .lt 18, .iload 3, .iconst 40, .if_icmp .gt 18, .aload 0, .getfield 11052, 
  .invokevirtual 840804, .ifCond .eq 18, .iconst 1, .goto 19, .iconst 0, .freturn]
def ps_171 : List Nat := [0, 1, 4, 7, 8, 11, 14, 15, 16, 19, 20, 22, 25, 26, 29, 32, 35, 36, 39, 40]
theorem ck_171 : xChkM 11 false (some .boolean) prog_1_method_53_code cd_171 ps_171 = true := by decide +kernel
/-- LastCloud.sum(III)I -/
def cd_172 : List Instr := [.aload 0, .iload 1, .iload 2, .iload 3, .invokevirtual 1368896, .ifCond .ne 8, .iconst (-2000000000), .ireturn, .iconst 0, .istore 4, .iconst 0, .istore 5, .iload 5, .iload 3, .if_icmp .ge 31, 
  .aload 0, .aload 0, .getfield 11132, .iload 1, .iload 2, .iload 5, .iadd, .invokevirtual 1328899, .iload 4, .aload 0, .getfield 11132, .getfield 170, .iadd, .istore 4, .iinc 5 1, .goto 12, .iload 4, 
  .ireturn]
def ps_172 : List Nat := [0, 1, 2, 3, 4, 7, 10, 12, 13, 14, 16, 17, 19, 21, 22, 25, 26, 27, 30, 31, 32, 34, 35, 38, 40, 41, 44, 47, 48, 50, 53, 56, 58]
theorem ck_172 : xChkM 11 false (some .int) prog_1_method_54_code cd_172 ps_172 = true := by decide +kernel
/-- LastCloud.spread(IIII)I -/
def cd_173 : List Instr := [.aload 0, .iload 1, .iload 2, .iload 3, .invokevirtual 1368896, .ifCond .eq 11, .iload 4, .ifCond .lt 11, .iload 4, .iconst 4, .if_icmp .le 13, .iconst (-2000000000), .ireturn, .aload 0, .aload 0, 
  .getfield 11132, .iload 1, .iload 2, .invokevirtual 1328899, .aload 0, .getfield 11132, .iload 4, .invokevirtual 112008, .istore 5, .iconst 1, .istore 6, .iload 6, .iload 3, .if_icmp .ge 66, .aload 0, 
  .aload 0, .getfield 11132, .iload 1, .iload 2, .iload 6, .iadd, .invokevirtual 1328899, .aload 0, .getfield 11132, .iload 4, .invokevirtual 112008, .istore 7, .iload 4, .ifCond .ne 49, .iload 5, 
  .iload 7, .dsub, .istore 5, .goto 64, .iload 4, .iconst 1, .if_icmp .eq 55, .iload 4, .iconst 4, .if_icmp .ne 60, .iload 5, .iload 7, .dadd, .istore 5, .goto 64, .iload 5, .iload 7, .iadd, .istore 5, 
  .iinc 6 1, .goto 26, .iload 5, .ireturn]
def ps_173 : List Nat := [0, 1, 2, 3, 4, 7, 10, 12, 15, 17, 18, 21, 23, 24, 25, 26, 29, 30, 31, 34, 35, 38, 40, 43, 45, 46, 48, 50, 51, 54, 55, 56, 59, 60, 61, 63, 64, 67, 68, 71, 73, 76, 78, 80, 83, 85, 87, 90, 92, 95, 97, 98, 
  101, 103, 104, 107, 109, 111, 114, 116, 119, 121, 123, 124, 126, 129, 132, 134]
theorem ck_173 : xChkM 11 false (some .int) prog_1_method_55_code cd_173 ps_173 = true := by decide +kernel
/-- LastCloud.soon()I -/
def cd_174 : List Instr := [.aload 0, .getfield 11052, .invokevirtual 840804, .ifCond .eq 15, .aload 0, .getfield 11142, .aload 0, .getfield 11052, .aload 0, .getfield 11092, .aload 0, .getfield 11052, .invokevirtual 864804, 
  .invokevirtual 688656, .goto 16, .iconst (-2), .ireturn]
def ps_174 : List Nat := [0, 1, 4, 7, 10, 11, 14, 15, 18, 19, 22, 23, 26, 29, 32, 35, 37]
theorem ck_174 : xChkM 11 false (some .int) prog_1_method_56_code cd_174 ps_174 = true := by decide +kernel
/-- LastCloud.way(I)I -/
def cd_175 : List Instr := [.aload 0, .getfield 11052, .invokevirtual 840804, .ifCond .ne 6, .iconst (-2), .ireturn, .aload 0, .getfield 11142, .aload 0, .getfield 11052, .aload 0, .getfield 11092, .aload 0, .getfield 11052, 
  .invokevirtual 864804, .invokevirtual 688656, .istore 2, .iload 2, .iconst (-1), .if_icmp .ne 22, .iconst (-1), .ireturn, .aload 0, .getfield 11142, .iload 2, .invokevirtual 728651, .iload 1, 
  .ifCond .lt 39, .iload 1, .aload 0, .getfield 11142, .getfield 8040, .if_icmp .ge 39, .aload 0, .getfield 11142, .getfield 8032, .iload 1, .iaload, .goto 40, .iconst (-1), .ireturn]
def ps_175 : List Nat := [0, 1, 4, 7, 10, 12, 13, 14, 17, 18, 21, 22, 25, 26, 29, 32, 35, 36, 37, 38, 41, 42, 43, 44, 47, 48, 51, 52, 55, 56, 57, 60, 63, 66, 67, 70, 73, 74, 75, 78, 79]
theorem ck_175 : xChkM 11 false (some .int) prog_1_method_57_code cd_175 ps_175 = true := by decide +kernel
/-- LastCloud.soonest(I)I -/
def cd_176 : List Instr := [.aload 0, .getfield 11052, .invokevirtual 840804, .ifCond .eq 11, .iload 1, .ifCond .lt 11, .iload 1, .aload 0, .getfield 11052, .invokevirtual 864804, .if_icmp .le 13, .iconst (-2), .ireturn, 
  .aload 0, .getfield 11142, .aload 0, .getfield 11052, .aload 0, .getfield 11092, .iload 1, .invokevirtual 688656, .ireturn]
def ps_176 : List Nat := [0, 1, 4, 7, 10, 11, 14, 15, 16, 19, 22, 25, 27, 28, 29, 32, 33, 36, 37, 40, 41, 44]
theorem ck_176 : xChkM 11 false (some .int) prog_1_method_58_code cd_176 ps_176 = true := by decide +kernel
/-- LastCloud.key()I -/
def cd_177 : List Instr := [.aload 0, .getfield 11052, .invokevirtual 840804, .ifCond .ne 6, .iconst (-2), .ireturn, .aload 0, .getfield 11052, .invokevirtual 864804, .istore 1, .aload 0, .getfield 11142, .aload 0, 
  .getfield 11052, .aload 0, .getfield 11092, .iload 1, .invokevirtual 688656, .istore 2, .iload 2, .iconst (-1), .if_icmp .ne 24, .iconst (-1), .ireturn, .iconst (-1), .istore 3, .iconst 0, .istore 4, 
  .iload 4, .aload 0, .getfield 11052, .getfield 10040, .if_icmp .ge 64, .aload 0, .getfield 11142, .aload 0, .getfield 11052, .aload 0, .getfield 11092, .iload 1, .iconst 1, .iload 4, .ishl, 
  .iconst (-1), .ixor, .iand, .invokevirtual 688656, .istore 5, .iload 5, .iconst (-1), .if_icmp .ne 53, .iconst 1000000, .goto 54, .iload 5, .istore 6, .iload 6, .iload 2, .if_icmp .le 62, .iload 6, 
  .istore 2, .iload 4, .istore 3, .iinc 4 1, .goto 28, .iload 3, .ireturn]
def ps_177 : List Nat := [0, 1, 4, 7, 10, 12, 13, 14, 17, 20, 21, 22, 25, 26, 29, 30, 33, 34, 37, 38, 39, 40, 43, 44, 45, 46, 47, 48, 50, 52, 53, 56, 59, 62, 63, 66, 67, 70, 71, 74, 75, 76, 78, 79, 80, 81, 82, 85, 87, 89, 90, 
  93, 95, 98, 100, 102, 104, 105, 108, 110, 111, 113, 114, 117, 120, 121]
theorem ck_177 : xChkM 11 false (some .int) prog_1_method_59_code cd_177 ps_177 = true := by decide +kernel
/-- LastCloud.count(I)I -/
def cd_178 : List Instr := [.iload 1, .tableswitch 47 0 10 #[2, 6, 10, 15, 20, 24, 29, 33, 36, 40, 44], .aload 0, .getfield 11052, .getfield 10040, .ireturn, .aload 0, .getfield 11052, .getfield 10050, .ireturn, .aload 0, 
  .getfield 11052, .invokevirtual 872804, .invokestatic 2559924, .ireturn, .aload 0, .getfield 11052, .getfield 10022, .getfield 6000, .ireturn, .aload 0, .getfield 11052, .getfield 10060, .ireturn, 
  .aload 0, .getfield 11052, .getfield 10032, .getfield 9000, .ireturn, .aload 0, .getfield 11052, .getfield 10150, .ireturn, .aload 0, .getfield 11010, .ireturn, .aload 0, .getfield 11052, 
  .getfield 10100, .ireturn, .aload 0, .getfield 11052, .getfield 10090, .ireturn, .aload 0, .invokevirtual 1432884, .ireturn, .iconst (-1), .ireturn]
def ps_178 : List Nat := [0, 1, 60, 61, 64, 67, 68, 69, 72, 75, 76, 77, 80, 83, 86, 87, 88, 91, 94, 97, 98, 99, 102, 105, 106, 107, 110, 113, 116, 117, 118, 121, 124, 125, 126, 129, 130, 131, 134, 137, 138, 139, 142, 145, 146, 
  147, 150, 151, 152]
theorem ck_178 : xChkM 11 false (some .int) prog_1_method_60_code cd_178 ps_178 = true := by decide +kernel
/-- LastCloud.slotsWithRow()I -/
def cd_179 : List Instr := [.iconst 0, .istore 1, .iconst 0, .istore 2, .iload 2, .iconst 4, .if_icmp .ge 16, .aload 0, .getfield 11162, .iload 2, .iaload, .iconst (-1), .if_icmp .eq 14, .iinc 1 1, .iinc 2 1, .goto 4, .iload 1, 
  .ireturn]
def ps_179 : List Nat := [0, 1, 2, 3, 4, 5, 6, 9, 10, 13, 14, 15, 16, 19, 22, 25, 28, 29]
theorem ck_179 : xChkM 11 false (some .int) prog_1_method_61_code cd_179 ps_179 = true := by decide +kernel
/-- LastCloud.keep(I)I -/
def cd_180 : List Instr := [.iload 1, .ifCond .lt 5, .iload 1, .iconst 3, .if_icmp .lt 7, .iconst (-2), .ireturn, .aload 0, .getfield 11072, .iload 1, .aaload, .aload 0, .getfield 11052, .invokevirtual 792811, .aload 0, 
  .getfield 11082, .iload 1, .iconst 1, .castore, .iconst 0, .ireturn]
def ps_180 : List Nat := [0, 1, 4, 5, 6, 9, 11, 12, 13, 16, 17, 18, 19, 22, 25, 26, 29, 30, 31, 32, 33]
theorem ck_180 : xChkM 11 false (some .int) prog_1_method_62_code cd_180 ps_180 = true := by decide +kernel
/-- LastCloud.back(I)I -/
def cd_181 : List Instr := [.iload 1, .ifCond .lt 5, .iload 1, .iconst 3, .if_icmp .lt 7, .iconst (-2), .ireturn, .aload 0, .getfield 11082, .iload 1, .caload, .ifCond .ne 14, .iconst (-6), .ireturn, .aload 0, .getfield 11052, 
  .aload 0, .getfield 11072, .iload 1, .aaload, .invokevirtual 792811, .aload 0, .getfield 11092, .aload 0, .getfield 11052, .invokevirtual 136091, .aload 0, .invokevirtual 1000887, .iconst 0, .ireturn]
def ps_181 : List Nat := [0, 1, 4, 5, 6, 9, 11, 12, 13, 16, 17, 18, 21, 23, 24, 25, 28, 29, 32, 33, 34, 37, 38, 41, 42, 45, 48, 49, 52, 53]
theorem ck_181 : xChkM 11 false (some .int) prog_1_method_63_code cd_181 ps_181 = true := by decide +kernel
/-- LastCloud.isSlot(I)Z -/
def cd_182 : List Instr := [.iload 0, .ifCond .lt 7, .iload 0, .iconst 4, .if_icmp .ge 7, .iconst 1, .goto 8, .iconst 0, .freturn]
def ps_182 : List Nat := [0, 1, 4, 5, 6, 9, 10, 13, 14]
theorem ck_182 : xChkM 11 false (some .boolean) prog_1_method_64_code cd_182 ps_182 = true := by decide +kernel
/-- LastCloud.row(III)I -/
def cd_183 : List Instr := [.iload 1, .invokestatic 1463924, .ifCond .eq 11, .iload 2, .ifCond .lt 11, .iload 2, .iconst 3, .if_icmp .gt 11, .iload 3, .iconst 60, .if_icmp .le 13, .iconst (-2), .ireturn, .iload 3, .ifCond .ge 17, 
  .iconst (-3), .ireturn, .aload 0, .getfield 11152, .iload 1, .aaload, .jsr 0, .invokestatic 2567931, .aload 0, .getfield 11162, .iload 1, .iload 3, .iastore, .aload 0, .getfield 11172, .iload 1, 
  .iload 2, .iastore, .iconst 0, .ireturn]
def ps_183 : List Nat := [0, 1, 4, 7, 8, 11, 12, 13, 16, 17, 19, 22, 24, 25, 26, 29, 31, 32, 33, 36, 37, 38, 39, 42, 43, 46, 47, 48, 49, 50, 53, 54, 55, 56, 57]
theorem ck_183 : xChkM 11 false (some .int) prog_1_method_65_code cd_183 ps_183 = true := by decide +kernel
/-- LastCloud.write(IIJ)I -/
def cd_184 : List Instr := [.iload 1, .invokestatic 1463924, .ifCond .ne 5, .iconst (-2), .ireturn, .aload 0, .getfield 11162, .iload 1, .iaload, .iconst (-1), .if_icmp .ne 13, .iconst (-6), .ireturn, .iload 2, .ifCond .lt 21, 
  .iload 2, .aload 0, .getfield 11162, .iload 1, .iaload, .if_icmp .lt 23, .iconst (-7), .ireturn, .aload 0, .getfield 11152, .iload 1, .aaload, .iload 2, .aload 0, .getfield 11172, .iload 1, .iaload, 
  .lload 3, .invokestatic 1487929, .lastore, .iconst 0, .ireturn]
def ps_184 : List Nat := [0, 1, 4, 7, 9, 10, 11, 14, 15, 16, 17, 20, 22, 23, 24, 27, 28, 29, 32, 33, 34, 37, 39, 40, 41, 44, 45, 46, 47, 48, 51, 52, 53, 54, 57, 58, 59]
theorem ck_184 : xChkM 11 false (some .int) prog_1_method_66_code cd_184 ps_184 = true := by decide +kernel
/-- LastCloud.cutTo(IJ)J -/
def cd_185 : List Instr := [.iload 0, .tableswitch 16 0 2 #[2, 7, 12], .lload 1, .l2i, .i2b, .i2l, .lreturn, .lload 1, .l2i, .i2s, .i2l, .lreturn, .lload 1, .l2i, .i2l, .lreturn, .lload 1, .lreturn]
def ps_185 : List Nat := [0, 1, 28, 29, 30, 31, 32, 33, 34, 35, 36, 37, 38, 39, 40, 41, 42, 43]
theorem ck_185 : xChkM 11 false (some .long) prog_1_method_67_code cd_185 ps_185 = true := by decide +kernel
/-- LastCloud.paste(IIIII)I -/
def cd_186 : List Instr := [.iload 1, .invokestatic 1463924, .ifCond .eq 6, .iload 3, .invokestatic 1463924, .ifCond .ne 8, .iconst (-2), .ireturn, .aload 0, .getfield 11162, .iload 1, .iaload, .iconst (-1), .if_icmp .eq 20, 
  .aload 0, .getfield 11162, .iload 3, .iaload, .iconst (-1), .if_icmp .ne 22, .iconst (-6), .ireturn, .aload 0, .getfield 11172, .iload 1, .iaload, .aload 0, .getfield 11172, .iload 3, .iaload, 
  .if_icmp .eq 33, .iconst (-8), .ireturn, .iload 2, .iload 5, .aload 0, .getfield 11162, .iload 1, .iaload, .invokestatic 1503932, .ifCond .eq 49, .iload 4, .iload 5, .aload 0, .getfield 11162, 
  .iload 3, .iaload, .invokestatic 1503932, .ifCond .ne 51, .iconst (-7), .ireturn, .aload 0, .getfield 11152, .iload 1, .aaload, .iload 2, .aload 0, .getfield 11152, .iload 3, .aaload, .iload 4, 
  .iload 5, .ddiv, .iconst 0, .ireturn]
def ps_186 : List Nat := [0, 1, 4, 7, 8, 11, 14, 16, 17, 18, 21, 22, 23, 24, 27, 28, 31, 32, 33, 34, 37, 39, 40, 41, 44, 45, 46, 47, 50, 51, 52, 55, 57, 58, 59, 61, 62, 65, 66, 67, 70, 73, 75, 77, 78, 81, 82, 83, 86, 89, 91, 
  92, 93, 96, 97, 98, 99, 100, 103, 104, 105, 107, 109, 112, 113]
theorem ck_186 : xChkM 11 false (some .int) prog_1_method_68_code cd_186 ps_186 = true := by decide +kernel
/-- LastCloud.isPart(III)Z -/
def cd_187 : List Instr := [.iload 0, .ifCond .lt 14, .iload 1, .ifCond .lt 14, .iload 0, .iload 2, .if_icmp .gt 14, .iload 1, .iload 2, .iload 0, .isub, .if_icmp .gt 14, .iconst 1, .goto 15, .iconst 0, .freturn]
def ps_187 : List Nat := [0, 1, 4, 5, 8, 9, 10, 13, 14, 15, 16, 17, 20, 21, 24, 25]
theorem ck_187 : xChkM 11 false (some .boolean) prog_1_method_69_code cd_187 ps_187 = true := by decide +kernel
/-- LastCloudModel.in(JJJ)Z -/
def cd_188 : List Instr := [.lload 0, .lload 2, .lcmp, .ifCond .lt 10, .lload 0, .lload 4, .lcmp, .ifCond .gt 10, .iconst 1, .goto 11, .iconst 0, .freturn]
def ps_188 : List Nat := [0, 1, 2, 3, 6, 7, 9, 10, 13, 14, 17, 18]
theorem ck_188 : xChkM 12 false (some .boolean) prog_14_method_2_code cd_188 ps_188 = true := by decide +kernel
end
section
/-- LastCloudModel.holds(II)Z -/
def cd_189 : List Instr := [.iload 0, .iload 1, .ishr, .iconst 1, .iand, .iconst 1, .if_icmp .ne 9, .iconst 1, .goto 10, .iconst 0, .freturn]
def ps_189 : List Nat := [0, 1, 2, 3, 4, 5, 6, 9, 10, 13, 14]
theorem ck_189 : xChkM 12 false (some .boolean) prog_14_method_3_code cd_189 ps_189 = true := by decide +kernel
/-- LastCloudModel.<init>()V -/
def cd_190 : List Instr := [.aload 0, .dneg, .aload 0, .iconst 196, .newarray .int, .putfield 12012, .aload 0, .iconst 588, .newarray .int, .putfield 12022, .aload 0, .iconst 3, .newarray .boolean, .putfield 12032, .aload 0, 
  .iconst 1600, .newarray .byte, .putfield 12042, .aload 0, .iconst 5, .newarray .int, .putfield 12062, .aload 0, .iconst (-1), .putfield 12130, .aload 0, .iconst 196, .newarray .int, .putfield 12142, 
  .aload 0, .iconst (-1), .putfield 12160, .aload 0, .iconst (-1), .putfield 12180, .aload 0, .iconst 16, .newarray .int, .putfield 12202, .aload 0, .iconst 4800, .newarray .int, .putfield 12212, 
  .aload 0, .iconst 8, .newarray .int, .putfield 12232, .aload 0, .iconst 976, .newarray .int, .putfield 12242, .aload 0, .iconst 2048, .newarray .boolean, .putfield 12252, .aload 0, .iconst 93696, 
  .newarray .int, .putfield 12262, .aload 0, .iconst 93696, .newarray .int, .putfield 12272, .aload 0, .iconst 93696, .newarray .int, .putfield 12282, .aload 0, .iconst (-1), .putfield 12290, .aload 0, 
  .iconst 8, .newarray .int, .putfield 12302, .aload 0, .iconst 93696, .newarray .int, .putfield 12312, .aload 0, .iconst 505, .newarray .int, .putfield 12392, .aload 0, .iconst 505, .newarray .int, 
  .putfield 12412, .aload 0, .iconst 5, .newarray .int, .dup, .iconst 0, .iconst (-1), .iastore, .dup, .iconst 1, .iconst (-1), .iastore, .dup, .iconst 2, .iconst (-1), .iastore, .dup, .iconst 3, 
  .iconst (-1), .iastore, .dup, .iconst 4, .iconst (-1), .iastore, .putfield 12422, .aload 0, .iconst 5, .newarray .int, .putfield 12452, .aload 0, .iconst 3904, .newarray .int, .putfield 12462, 
  .aload 0, .iconst 8, .newarray .int, .putfield 12472, .aload 0, .iconst 4, .newarray .int, .dup, .iconst 0, .iconst (-1), .iastore, .dup, .iconst 1, .iconst (-1), .iastore, .dup, .iconst 2, 
  .iconst (-1), .iastore, .dup, .iconst 3, .iconst (-1), .iastore, .putfield 12492, .aload 0, .iconst 4, .newarray .int, .putfield 12502, .aload 0, .iconst 240, .newarray .long, .putfield 12512, 
  .aload 0, .iconst 60, .newarray .long, .putfield 12522, .aload 0, .getfield 12012, .invokestatic 1535927, .aload 0, .invokevirtual 2024967, .return_]
def ps_190 : List Nat := [0, 1, 4, 5, 8, 10, 13, 14, 17, 19, 22, 23, 24, 26, 29, 30, 33, 35, 38, 39, 40, 42, 45, 46, 47, 50, 51, 54, 56, 59, 60, 61, 64, 65, 66, 69, 70, 72, 74, 77, 78, 81, 83, 86, 87, 89, 91, 94, 95, 98, 100, 
  103, 104, 107, 109, 112, 113, 115, 117, 120, 121, 123, 125, 128, 129, 131, 133, 136, 137, 138, 141, 142, 144, 146, 149, 150, 152, 154, 157, 158, 161, 163, 166, 167, 170, 172, 175, 176, 177, 179, 180, 
  181, 182, 183, 184, 185, 186, 187, 188, 189, 190, 191, 192, 193, 194, 195, 196, 197, 198, 199, 202, 203, 204, 206, 209, 210, 213, 215, 218, 219, 221, 223, 226, 227, 228, 230, 231, 232, 233, 234, 235, 
  236, 237, 238, 239, 240, 241, 242, 243, 244, 245, 246, 249, 250, 251, 253, 256, 257, 260, 262, 265, 266, 268, 270, 273, 274, 277, 280, 281, 284]
theorem ck_190 : xChkM 12 true none prog_14_method_4_code cd_190 ps_190 = true := by decide +kernel
/-- LastCloudModel.empties([I)V -/
def cd_191 : List Instr := [.iconst 0, .istore 1, .iload 1, .iconst 196, .if_icmp .ge 11, .aload 0, .iload 1, .iconst 0, .iastore, .iinc 1 1, .goto 2, .aload 0, .iconst 7, .iconst 40, .iastore, .aload 0, .iconst 8, .iconst 40, 
  .iastore, .aload 0, .iconst 9, .iconst 1000, .iastore, .aload 0, .iconst 12, .iconst (-1), .iastore, .return_]
def ps_191 : List Nat := [0, 1, 2, 3, 6, 9, 10, 11, 12, 13, 16, 19, 20, 22, 24, 25, 26, 28, 30, 31, 32, 34, 37, 38, 39, 41, 42, 43]
theorem ck_191 : xChkM 12 false none prog_14_method_5_code cd_191 ps_191 = true := by decide +kernel
/-- LastCloudModel.keep(I)I -/
def cd_192 : List Instr := [.iload 1, .i2l, .jsr 0, .jsr 2, .invokestatic 1511932, .ifCond .ne 8, .iconst (-2), .ireturn, .iconst 0, .istore 2, .iload 2, .iconst 196, .if_icmp .ge 27, .aload 0, .getfield 12022, .iconst 196, 
  .iload 1, .imul, .iload 2, .iadd, .aload 0, .getfield 12012, .iload 2, .iaload, .iastore, .iinc 2 1, .goto 10, .aload 0, .getfield 12032, .iload 1, .iconst 1, .castore, .iconst 0, .ireturn]
def ps_192 : List Nat := [0, 1, 2, 3, 6, 9, 12, 14, 15, 16, 17, 18, 21, 24, 25, 28, 31, 32, 33, 34, 35, 36, 39, 40, 41, 42, 45, 48, 49, 52, 53, 54, 55, 56]
theorem ck_192 : xChkM 12 false (some .int) prog_14_method_6_code cd_192 ps_192 = true := by decide +kernel
/-- LastCloudModel.back(I)I -/
def cd_193 : List Instr := [.iload 1, .i2l, .jsr 0, .jsr 2, .invokestatic 1511932, .ifCond .ne 8, .iconst (-2), .ireturn, .aload 0, .getfield 12032, .iload 1, .caload, .ifCond .ne 15, .iconst (-6), .ireturn, .iconst 0, .istore 2, 
  .iload 2, .iconst 196, .if_icmp .ge 34, .aload 0, .getfield 12012, .iload 2, .aload 0, .getfield 12022, .iconst 196, .iload 1, .imul, .iload 2, .iadd, .iaload, .iastore, .iinc 2 1, .goto 17, .aload 0, 
  .invokevirtual 2024967, .iconst 0, .ireturn]
def ps_193 : List Nat := [0, 1, 2, 3, 6, 9, 12, 14, 15, 16, 19, 20, 21, 24, 26, 27, 28, 29, 30, 33, 36, 37, 40, 41, 42, 45, 48, 49, 50, 51, 52, 53, 54, 57, 60, 61, 64, 65]
theorem ck_193 : xChkM 12 false (some .int) prog_14_method_7_code cd_193 ps_193 = true := by decide +kernel
/-- LastCloudModel.isPlace(I)Z -/
def cd_194 : List Instr := [.iload 1, .i2l, .jsr 0, .aload 0, .getfield 12012, .iconst 1, .iaload, .iconst 1, .isub, .i2l, .invokestatic 1511932, .freturn]
def ps_194 : List Nat := [0, 1, 2, 3, 4, 7, 8, 9, 10, 11, 12, 15]
theorem ck_194 : xChkM 12 false (some .boolean) prog_14_method_8_code cd_194 ps_194 = true := by decide +kernel
/-- LastCloudModel.ofPlace(II)I -/
def cd_195 : List Instr := [.aload 0, .getfield 12012, .iconst 20, .iconst 8, .iload 1, .imul, .iadd, .iload 2, .iadd, .iaload, .ireturn]
def ps_195 : List Nat := [0, 1, 4, 6, 8, 9, 10, 11, 12, 13, 14]
theorem ck_195 : xChkM 12 false (some .int) prog_14_method_9_code cd_195 ps_195 = true := by decide +kernel
/-- LastCloudModel.ofLeg(II)I -/
def cd_196 : List Instr := [.aload 0, .getfield 12012, .iconst 84, .iconst 6, .iload 1, .imul, .iadd, .iload 2, .iadd, .iaload, .ireturn]
def ps_196 : List Nat := [0, 1, 4, 6, 8, 9, 10, 11, 12, 13, 14]
theorem ck_196 : xChkM 12 false (some .int) prog_14_method_10_code cd_196 ps_196 = true := by decide +kernel
/-- LastCloudModel.feed(IIIII)I -/
def cd_197 : List Instr := [.aload 0, .getfield 12050, .iconst 20, .iadd, .iconst 1600, .if_icmp .le 8, .iconst (-1), .ireturn, .aload 0, .getfield 12062, .iconst 0, .iload 1, .iastore, .aload 0, .getfield 12062, .iconst 1, 
  .iload 2, .iastore, .aload 0, .getfield 12062, .iconst 2, .iload 3, .iastore, .aload 0, .getfield 12062, .iconst 3, .iload 4, .iastore, .aload 0, .getfield 12062, .iconst 4, .iload 5, .iastore, 
  .iconst 0, .istore 6, .iload 6, .iconst 20, .if_icmp .ge 62, .aload 0, .getfield 12042, .aload 0, .getfield 12050, .iload 6, .iadd, .aload 0, .getfield 12062, .iload 6, .iconst 4, .idiv, .iaload, 
  .iconst 24, .iconst 8, .iload 6, .iconst 4, .irem, .imul, .isub, .ishr, .i2b, .bastore, .iinc 6 1, .goto 35, .aload 0, .dup, .getfield 12050, .iconst 20, .iadd, .putfield 12050, .aload 0, 
  .getfield 12050, .ireturn]
def ps_197 : List Nat := [0, 1, 4, 6, 7, 10, 13, 14, 15, 16, 19, 20, 21, 22, 23, 26, 27, 28, 29, 30, 33, 34, 35, 36, 37, 40, 41, 43, 44, 45, 48, 49, 51, 52, 53, 55, 57, 59, 62, 63, 66, 67, 70, 72, 73, 74, 77, 79, 80, 81, 82, 
  84, 86, 88, 89, 90, 91, 92, 93, 94, 95, 98, 101, 102, 103, 106, 108, 109, 112, 113, 116]
theorem ck_197 : xChkM 12 false (some .int) prog_14_method_11_code cd_197 ps_197 = true := by decide +kernel
/-- LastCloudModel.end(I)I -/
def cd_198 : List Instr := [.iload 1, .i2l, .jsr 0, .aload 0, .getfield 12050, .i2l, .invokestatic 1511932, .ifCond .ne 10, .iconst (-1), .ireturn, .aload 0, .iload 1, .putfield 12050, .iload 1, .ireturn]
def ps_198 : List Nat := [0, 1, 2, 3, 4, 7, 8, 11, 14, 15, 16, 17, 18, 21, 22]
theorem ck_198 : xChkM 12 false (some .int) prog_14_method_12_code cd_198 ps_198 = true := by decide +kernel
/-- LastCloudModel.see(I)I -/
def cd_199 : List Instr := [.iload 1, .aload 0, .getfield 12070, .if_icmp .ge 11, .aload 0, .getfield 12042, .iload 1, .baload, .iconst 255, .iand, .goto 12, .iconst (-1), .ireturn]
def ps_199 : List Nat := [0, 1, 2, 5, 8, 9, 12, 13, 14, 17, 18, 21, 22]
theorem ck_199 : xChkM 12 false (some .int) prog_14_method_13_code cd_199 ps_199 = true := by decide +kernel
/-- LastCloudModel.advance()V -/
def cd_200 : List Instr := [.aload 0, .aload 0, .getfield 12080, .invokevirtual 1592968, .iconst 32, .if_icmp .eq 12, .aload 0, .aload 0, .getfield 12080, .invokevirtual 1592968, .iconst 10, .if_icmp .ne 19, .aload 0, .dup, 
  .getfield 12080, .iconst 1, .iadd, .putfield 12080, .goto 0, .aload 0, .aload 0, .getfield 12080, .putfield 12090, .aload 0, .aload 0, .getfield 12080, .invokevirtual 1592968, .istore 1, .iload 1, 
  .iconst (-1), .if_icmp .ne 35, .aload 0, .iconst 0, .putfield 12100, .goto 119, .iload 1, .i2l, .jsr 97, .jsr 122, .invokestatic 1511932, .ifCond .eq 61, .aload 0, .aload 0, .getfield 12080, 
  .invokevirtual 1592968, .i2l, .jsr 97, .jsr 122, .invokestatic 1511932, .ifCond .eq 57, .aload 0, .dup, .getfield 12080, .iconst 1, .iadd, .putfield 12080, .goto 41, .aload 0, .iconst 1, 
  .putfield 12100, .goto 119, .iload 1, .i2l, .jsr 48, .jsr 57, .invokestatic 1511932, .ifCond .eq 105, .aload 0, .iconst 0, .putfield 12110, .aload 0, .aload 0, .getfield 12080, .invokevirtual 1592968, 
  .i2l, .jsr 48, .jsr 57, .invokestatic 1511932, .ifCond .eq 101, .aload 0, .iconst 99999, .iconst 10, .aload 0, .getfield 12110, .imul, .aload 0, .aload 0, .getfield 12080, .invokevirtual 1592968, 
  .iadd, .iconst 48, .isub, .dsub, .putfield 12110, .aload 0, .dup, .getfield 12080, .iconst 1, .iadd, .putfield 12080, .goto 70, .aload 0, .iconst 2, .putfield 12100, .goto 119, .aload 0, .iload 1, 
  .iconst 59, .if_icmp .ne 111, .iconst 3, .goto 112, .iconst 4, .putfield 12100, .aload 0, .dup, .getfield 12080, .iconst 1, .iadd, .putfield 12080, .return_]
def ps_200 : List Nat := [0, 1, 2, 5, 8, 10, 13, 14, 15, 18, 21, 23, 26, 27, 28, 31, 32, 33, 36, 39, 40, 41, 44, 47, 48, 49, 52, 55, 56, 57, 58, 61, 62, 63, 66, 69, 70, 71, 74, 77, 80, 83, 84, 85, 88, 91, 92, 95, 98, 101, 104, 
  105, 106, 109, 110, 111, 114, 117, 118, 119, 122, 125, 126, 127, 130, 133, 136, 139, 140, 141, 144, 145, 146, 149, 152, 153, 156, 159, 162, 165, 166, 168, 170, 171, 174, 175, 176, 177, 180, 183, 184, 
  186, 187, 190, 193, 194, 195, 198, 199, 200, 203, 206, 207, 208, 211, 214, 215, 216, 218, 221, 222, 225, 226, 229, 230, 231, 234, 235, 236, 239]
theorem ck_200 : xChkM 12 false none prog_14_method_14_code cd_200 ps_200 = true := by decide +kernel
/-- LastCloudModel.good()Z -/
def cd_201 : List Instr := [.aload 0, .getfield 12120, .ifCond .ne 5, .iconst 1, .goto 6, .iconst 0, .freturn]
def ps_201 : List Nat := [0, 1, 4, 7, 8, 11, 12]
theorem ck_201 : xChkM 12 false (some .boolean) prog_14_method_15_code cd_201 ps_201 = true := by decide +kernel
/-- LastCloudModel.errs(I)V -/
def cd_202 : List Instr := [.aload 0, .invokevirtual 1608964, .ifCond .ne 4, .return_, .aload 0, .iload 1, .putfield 12120, .aload 0, .aload 0, .getfield 12090, .putfield 12130, .return_]
def ps_202 : List Nat := [0, 1, 4, 7, 8, 9, 10, 13, 14, 15, 18, 21]
theorem ck_202 : xChkM 12 false none prog_14_method_16_code cd_202 ps_202 = true := by decide +kernel
/-- LastCloudModel.is(Ljava/lang/String;)Z -/
def cd_203 : List Instr := [.aload 0, .invokevirtual 1608964, .ifCond .eq 17, .aload 0, .getfield 12100, .iconst 1, .if_icmp .ne 17, .aload 0, .getfield 12080, .aload 0, .getfield 12090, .isub, .aload 1, .d2i, .if_icmp .ne 17, 
  .iconst 1, .goto 18, .iconst 0, .istore 2, .iconst 0, .istore 3, .iload 3, .aload 1, .d2i, .if_icmp .ge 44, .iload 2, .ifCond .eq 44, .aload 0, .getfield 12042, .aload 0, .getfield 12090, .iload 3, 
  .iadd, .baload, .aload 1, .iload 3, .d2l, .if_icmp .ne 40, .iconst 1, .goto 41, .iconst 0, .istore 2, .iinc 3 1, .goto 21, .iload 2, .freturn]
def ps_203 : List Nat := [0, 1, 4, 7, 8, 11, 12, 15, 16, 19, 20, 23, 24, 25, 28, 31, 32, 35, 36, 37, 38, 39, 40, 41, 44, 47, 48, 51, 52, 55, 56, 59, 60, 61, 62, 63, 64, 67, 70, 71, 74, 75, 76, 79, 82, 83]
theorem ck_203 : xChkM 12 false (some .boolean) prog_14_method_17_code cd_203 ps_203 = true := by decide +kernel
/-- LastCloudModel.takes(Ljava/lang/String;)Z -/
def cd_204 : List Instr := [.aload 0, .aload 1, .invokevirtual 1624968, .istore 2, .iload 2, .ifCond .eq 8, .aload 0, .invokevirtual 1600967, .iload 2, .freturn]
def ps_204 : List Nat := [0, 1, 2, 5, 6, 7, 10, 11, 14, 15]
theorem ck_204 : xChkM 12 false (some .boolean) prog_14_method_18_code cd_204 ps_204 = true := by decide +kernel
/-- LastCloudModel.needs(Ljava/lang/String;)V -/
def cd_205 : List Instr := [.aload 0, .aload 1, .invokevirtual 1632968, .ifCond .ne 7, .aload 0, .iconst 1, .invokevirtual 1616971, .return_]
def ps_205 : List Nat := [0, 1, 2, 5, 8, 9, 10, 13]
theorem ck_205 : xChkM 12 false none prog_14_method_19_code cd_205 ps_205 = true := by decide +kernel
/-- LastCloudModel.number(II)I -/
def cd_206 : List Instr := [.aload 0, .invokevirtual 1608964, .ifCond .eq 10, .aload 0, .getfield 12100, .iconst 2, .if_icmp .eq 10, .aload 0, .iconst 1, .invokevirtual 1616971, .aload 0, .invokevirtual 1608964, .ifCond .eq 25, 
  .aload 0, .getfield 12110, .i2l, .iload 1, .i2l, .iload 2, .i2l, .invokestatic 1511932, .ifCond .ne 25, .aload 0, .iconst 2, .invokevirtual 1616971, .aload 0, .invokevirtual 1608964, .ifCond .ne 30, 
  .iconst 0, .ireturn, .aload 0, .getfield 12110, .istore 3, .aload 0, .invokevirtual 1600967, .iload 3, .ireturn]
def ps_206 : List Nat := [0, 1, 4, 7, 8, 11, 12, 15, 16, 17, 20, 21, 24, 27, 28, 31, 32, 33, 34, 35, 36, 39, 42, 43, 44, 47, 48, 51, 54, 55, 56, 57, 60, 61, 62, 65, 66]
theorem ck_206 : xChkM 12 false (some .int) prog_14_method_20_code cd_206 ps_206 = true := by decide +kernel
/-- LastCloudModel.told(Ljava/lang/String;II)I -/
def cd_207 : List Instr := [.aload 0, .aload 1, .invokevirtual 1640971, .aload 0, .iload 2, .iload 3, .invokevirtual 1648972, .ireturn]
def ps_207 : List Nat := [0, 1, 2, 5, 6, 7, 8, 11]
theorem ck_207 : xChkM 12 false (some .int) prog_14_method_21_code cd_207 ps_207 = true := by decide +kernel
/-- LastCloudModel.fault(I)I -/
def cd_208 : List Instr := [.iload 1, .ifCond .ne 5, .aload 0, .getfield 12120, .goto 12, .iload 1, .iconst 1, .if_icmp .ne 11, .aload 0, .getfield 12130, .goto 12, .iconst (-1), .ireturn]
def ps_208 : List Nat := [0, 1, 4, 5, 8, 11, 12, 13, 16, 17, 20, 23, 24]
theorem ck_208 : xChkM 12 false (some .int) prog_14_method_22_code cd_208 ps_208 = true := by decide +kernel
/-- LastCloudModel.place()I -/
def cd_209 : List Instr := [.aload 0, .iconst 0, .aload 0, .getfield 12142, .iconst 1, .iaload, .iconst 1, .isub, .invokevirtual 1648972, .ireturn]
def ps_209 : List Nat := [0, 1, 2, 3, 6, 7, 8, 9, 10, 13]
theorem ck_209 : xChkM 12 false (some .int) prog_14_method_23_code cd_209 ps_209 = true := by decide +kernel
/-- LastCloudModel.signed(I)I -/
def cd_210 : List Instr := [.aload 0, .iconst 0, .iload 1, .invokevirtual 1648972, .istore 2, .aload 0, .ldc 16, .invokevirtual 1632968, .ifCond .eq 12, .iload 2, .ineg, .goto 13, .iload 2, .ireturn]
def ps_210 : List Nat := [0, 1, 2, 3, 6, 7, 8, 10, 13, 16, 17, 18, 21, 22]
theorem ck_210 : xChkM 12 false (some .int) prog_14_method_24_code cd_210 ps_210 = true := by decide +kernel
/-- LastCloudModel.readPlace()V -/
def cd_211 : List Instr := [.iconst 20, .iconst 8, .aload 0, .getfield 12142, .iconst 1, .iaload, .imul, .iadd, .istore 1, .aload 0, .getfield 12142, .iload 1, .iconst 0, .iadd, .aload 0, .ldc 11, .iconst 0, .iconst 30, 
  .invokevirtual 1656976, .iastore, .aload 0, .ldc 13, .invokevirtual 1632968, .ifCond .eq 42, .aload 0, .getfield 12142, .iload 1, .iconst 1, .iadd, .iconst 1, .iastore, .aload 0, .getfield 12142, 
  .iload 1, .iconst 2, .iadd, .aload 0, .iconst 0, .iconst 999, .invokevirtual 1648972, .iastore, .goto 67, .aload 0, .ldc 12, .invokevirtual 1624968, .ifCond .eq 67, .aload 0, .getfield 12150, 
  .ifCond .eq 52, .aload 0, .iconst 2, .invokevirtual 1616971, .aload 0, .invokevirtual 1608964, .ifCond .eq 57, .aload 0, .invokevirtual 1600967, .aload 0, .iconst 1, .putfield 12153, .aload 0, 
  .getfield 12142, .iload 1, .iconst 1, .iadd, .iconst 2, .iastore, .aload 0, .getfield 12142, .iconst 1, .dup2, .iaload, .iconst 1, .iadd, .iastore, .return_]
def ps_211 : List Nat := [0, 2, 4, 5, 8, 9, 10, 11, 12, 13, 14, 17, 18, 19, 20, 21, 23, 24, 26, 29, 30, 31, 33, 36, 39, 40, 43, 44, 45, 46, 47, 48, 49, 52, 53, 54, 55, 56, 57, 60, 63, 64, 67, 68, 70, 73, 76, 77, 80, 83, 84, 85, 
  88, 89, 92, 95, 96, 99, 100, 101, 104, 105, 108, 109, 110, 111, 112, 113, 114, 117, 118, 119, 120, 121, 122, 123]
theorem ck_211 : xChkM 12 false none prog_14_method_25_code cd_211 ps_211 = true := by decide +kernel
/-- LastCloudModel.readLeg()V -/
def cd_212 : List Instr := [.iconst 84, .iconst 6, .aload 0, .getfield 12142, .iconst 2, .iaload, .imul, .iadd, .istore 1, .aload 0, .getfield 12142, .iload 1, .aload 0, .invokevirtual 1672964, .iastore, .aload 0, 
  .invokevirtual 1608964, .ifCond .eq 32, .aload 0, .getfield 12100, .iconst 2, .if_icmp .ne 32, .aload 0, .getfield 12110, .aload 0, .getfield 12142, .iload 1, .iaload, .if_icmp .ne 32, .aload 0, 
  .iconst 2, .invokevirtual 1616971, .aload 0, .getfield 12142, .iload 1, .iconst 1, .iadd, .aload 0, .invokevirtual 1672964, .iastore, .aload 0, .ldc 14, .invokevirtual 1640971, .aload 0, 
  .getfield 12142, .iload 1, .iconst 2, .iadd, .aload 0, .iconst 1, .iconst 60, .invokevirtual 1648972, .iastore, .aload 0, .ldc 15, .invokevirtual 1640971, .aload 0, .getfield 12142, .iload 1, 
  .iconst 3, .iadd, .aload 0, .iconst 999, .invokevirtual 1680968, .iastore, .aload 0, .ldc 17, .invokevirtual 1640971, .aload 0, .getfield 12142, .iload 1, .iconst 4, .iadd, .aload 0, .iconst 60, 
  .invokevirtual 1680968, .iastore, .aload 0, .ldc 18, .invokevirtual 1632968, .ifCond .eq 91, .aload 0, .getfield 12142, .iload 1, .iconst 5, .iadd, .aload 0, .iconst 0, .iconst 40, 
  .invokevirtual 1648972, .iastore, .aload 0, .getfield 12142, .iconst 2, .dup2, .iaload, .iconst 1, .iadd, .iastore, .return_]
def ps_212 : List Nat := [0, 2, 4, 5, 8, 9, 10, 11, 12, 13, 14, 17, 18, 19, 22, 23, 24, 27, 30, 31, 34, 35, 38, 39, 42, 43, 46, 47, 48, 51, 52, 53, 56, 57, 60, 61, 62, 63, 64, 67, 68, 69, 71, 74, 75, 78, 79, 80, 81, 82, 83, 85, 
  88, 89, 90, 92, 95, 96, 99, 100, 101, 102, 103, 106, 109, 110, 111, 113, 116, 117, 120, 121, 122, 123, 124, 126, 129, 130, 131, 133, 136, 139, 140, 143, 144, 145, 146, 147, 148, 150, 153, 154, 155, 
  158, 159, 160, 161, 162, 163, 164]
theorem ck_212 : xChkM 12 false none prog_14_method_26_code cd_212 ps_212 = true := by decide +kernel
/-- LastCloudModel.readLift()V -/
def cd_213 : List Instr := [.aload 0, .invokevirtual 1608964, .ifCond .eq 36, .aload 0, .getfield 12100, .iconst 2, .if_icmp .ne 36, .aload 0, .getfield 12110, .i2l, .jsr 0, .aload 0, .getfield 12142, .iconst 1, .iaload, 
  .iconst 1, .isub, .i2l, .invokestatic 1511932, .ifCond .eq 36, .aload 0, .getfield 12142, .iconst 20, .iconst 8, .aload 0, .getfield 12110, .imul, .iadd, .iconst 3, .iadd, .iaload, .iconst 1, 
  .if_icmp .ne 36, .aload 0, .iconst 2, .invokevirtual 1616971, .iconst 20, .iconst 8, .aload 0, .invokevirtual 1672964, .imul, .iadd, .istore 1, .aload 0, .ldc 19, .iconst 0, .iconst 100, 
  .invokevirtual 1656976, .istore 2, .aload 0, .ldc 20, .iconst 0, .iconst 2000, .invokevirtual 1656976, .istore 3, .aload 0, .invokevirtual 1608964, .ifCond .ne 59, .return_, .aload 0, .getfield 12142, 
  .iload 1, .iconst 3, .iadd, .iconst 1, .iastore, .aload 0, .getfield 12142, .iload 1, .iconst 4, .iadd, .iload 2, .iastore, .aload 0, .getfield 12142, .iload 1, .iconst 5, .iadd, .iload 3, .iastore, 
  .aload 0, .ldc 21, .invokevirtual 1632968, .ifCond .ne 85, .return_, .aload 0, .getfield 12142, .iload 1, .iconst 6, .iadd, .aload 0, .iconst 0, .iconst 100, .invokevirtual 1648972, .iastore, .aload 0, 
  .getfield 12142, .iload 1, .iconst 7, .iadd, .aload 0, .iconst 0, .iconst 100, .invokevirtual 1648972, .iastore, .return_]
def ps_213 : List Nat := [0, 1, 4, 7, 8, 11, 12, 15, 16, 19, 20, 21, 22, 25, 26, 27, 28, 29, 30, 33, 36, 37, 40, 42, 44, 45, 48, 49, 50, 51, 52, 53, 54, 57, 58, 59, 62, 64, 66, 67, 70, 71, 72, 73, 74, 76, 77, 79, 82, 83, 84, 
  86, 87, 90, 93, 94, 95, 98, 101, 102, 103, 106, 107, 108, 109, 110, 111, 112, 115, 116, 117, 118, 119, 120, 121, 124, 125, 126, 127, 128, 129, 130, 132, 135, 138, 139, 140, 143, 144, 146, 147, 148, 
  149, 151, 154, 155, 156, 159, 160, 162, 163, 164, 165, 167, 170, 171]
theorem ck_213 : xChkM 12 false none prog_14_method_27_code cd_213 ps_213 = true := by decide +kernel
/-- LastCloudModel.readPoint()V -/
def cd_214 : List Instr := [.aload 0, .invokevirtual 1608964, .ifCond .eq 31, .aload 0, .getfield 12100, .iconst 2, .if_icmp .ne 31, .aload 0, .getfield 12110, .i2l, .jsr 0, .aload 0, .getfield 12142, .iconst 1, .iaload, 
  .iconst 1, .isub, .i2l, .invokestatic 1511932, .ifCond .eq 31, .aload 0, .getfield 12142, .iconst 15, .iaload, .aload 0, .getfield 12110, .invokestatic 1519928, .ifCond .eq 31, .aload 0, .iconst 2, 
  .invokevirtual 1616971, .aload 0, .invokevirtual 1672964, .istore 1, .aload 0, .invokevirtual 1608964, .ifCond .eq 47, .aload 0, .getfield 12142, .iconst 15, .dup2, .iaload, .iconst 1, .iload 1, .ishl, 
  .ior, .iastore, .return_]
def ps_214 : List Nat := [0, 1, 4, 7, 8, 11, 12, 15, 16, 19, 20, 21, 22, 25, 26, 27, 28, 29, 30, 33, 36, 37, 40, 42, 43, 44, 47, 50, 53, 54, 55, 58, 59, 62, 63, 64, 67, 70, 71, 74, 76, 77, 78, 79, 80, 81, 82, 83]
theorem ck_214 : xChkM 12 false none prog_14_method_28_code cd_214 ps_214 = true := by decide +kernel
/-- LastCloudModel.readStart()V -/
def cd_215 : List Instr := [.aload 0, .invokevirtual 1672964, .istore 1, .aload 0, .ldc 25, .iconst 0, .iconst 60, .invokevirtual 1656976, .istore 2, .aload 0, .getfield 12142, .iconst 14, .aload 0, .ldc 26, 
  .invokevirtual 1632968, .ifCond .eq 18, .iconst 1, .goto 19, .iconst 0, .iastore, .aload 0, .invokevirtual 1608964, .ifCond .ne 24, .return_, .aload 0, .getfield 12142, .iconst 12, .iload 1, .iastore, 
  .aload 0, .getfield 12142, .iconst 13, .iload 2, .iastore, .return_]
def ps_215 : List Nat := [0, 1, 4, 5, 6, 8, 9, 11, 14, 15, 16, 19, 21, 22, 24, 27, 30, 31, 34, 35, 36, 37, 40, 43, 44, 45, 48, 50, 51, 52, 53, 56, 58, 59, 60]
theorem ck_215 : xChkM 12 false none prog_14_method_29_code cd_215 ps_215 = true := by decide +kernel
end
section
/-- LastCloudModel.ones(I)I -/
def cd_216 : List Instr := [.iconst 0, .istore 1, .iconst 0, .istore 2, .iload 2, .iconst 31, .if_icmp .ge 17, .iload 1, .iload 0, .iload 2, .ishr, .iconst 1, .iand, .iadd, .istore 1, .iinc 2 1, .goto 4, .iload 1, .ireturn]
def ps_216 : List Nat := [0, 1, 2, 3, 4, 5, 7, 10, 11, 12, 13, 14, 15, 16, 17, 18, 21, 24, 25]
theorem ck_216 : xChkM 12 false (some .int) prog_14_method_30_code cd_216 ps_216 = true := by decide +kernel
/-- LastCloudModel.onceHere()I -/
def cd_217 : List Instr := [.aload 0, .ldc 5, .invokevirtual 1624968, .ifCond .eq 6, .iconst 0, .goto 37, .aload 0, .ldc 6, .invokevirtual 1624968, .ifCond .eq 12, .iconst 1, .goto 37, .aload 0, .ldc 7, .invokevirtual 1624968, 
  .ifCond .eq 18, .iconst 2, .goto 37, .aload 0, .ldc 8, .invokevirtual 1624968, .ifCond .eq 24, .iconst 3, .goto 37, .aload 0, .ldc 9, .invokevirtual 1624968, .ifCond .eq 30, .iconst 4, .goto 37, 
  .aload 0, .ldc 10, .invokevirtual 1624968, .ifCond .eq 36, .iconst 5, .goto 37, .iconst (-1), .ireturn]
def ps_217 : List Nat := [0, 1, 3, 6, 9, 10, 13, 14, 16, 19, 22, 23, 26, 27, 29, 32, 35, 36, 39, 40, 42, 45, 48, 49, 52, 53, 55, 58, 61, 62, 65, 66, 68, 71, 74, 75, 78, 79]
theorem ck_217 : xChkM 12 false (some .int) prog_14_method_31_code cd_217 ps_217 = true := by decide +kernel
/-- LastCloudModel.readOnce(I)V -/
def cd_218 : List Instr := [.aload 0, .invokevirtual 1600967, .aload 0, .getfield 12142, .iconst 16, .dup2, .iaload, .iconst 1, .iload 1, .ishl, .ior, .iastore, .iload 1, .ifCond .ne 22, .aload 0, .getfield 12142, .iconst 5, 
  .aload 0, .iconst 0, .iconst 999, .invokevirtual 1648972, .iastore, .iload 1, .iconst 1, .if_icmp .ne 33, .aload 0, .getfield 12142, .iconst 6, .aload 0, .iconst 0, .iconst 50, .invokevirtual 1648972, 
  .iastore, .iload 1, .iconst 2, .if_icmp .ne 44, .aload 0, .getfield 12142, .iconst 7, .aload 0, .iconst 31, .iconst 60, .invokevirtual 1648972, .iastore, .iload 1, .iconst 3, .if_icmp .ne 55, .aload 0, 
  .getfield 12142, .iconst 8, .aload 0, .iconst 1, .iconst 47, .invokevirtual 1648972, .iastore, .iload 1, .iconst 4, .if_icmp .ne 85, .aload 0, .getfield 12142, .iconst 9, .aload 0, .ldc 12, .iconst 0, 
  .iconst 9999, .invokevirtual 1656976, .iastore, .aload 0, .getfield 12142, .iconst 10, .aload 0, .ldc 23, .iconst 0, .iconst 99, .invokevirtual 1656976, .iastore, .aload 0, .getfield 12142, .iconst 11, 
  .aload 0, .ldc 24, .iconst 0, .iconst 9999, .invokevirtual 1656976, .iastore, .iload 1, .iconst 5, .if_icmp .ne 90, .aload 0, .invokevirtual 1720967, .return_]
def ps_218 : List Nat := [0, 1, 4, 5, 8, 10, 11, 12, 13, 14, 15, 16, 17, 18, 21, 22, 25, 26, 27, 28, 31, 34, 35, 36, 37, 40, 41, 44, 46, 47, 48, 50, 53, 54, 55, 56, 59, 60, 63, 65, 66, 68, 70, 73, 74, 75, 76, 79, 80, 83, 85, 
  86, 87, 89, 92, 93, 94, 95, 98, 99, 102, 104, 105, 107, 108, 111, 114, 115, 116, 119, 121, 122, 124, 125, 127, 130, 131, 132, 135, 137, 138, 140, 141, 144, 147, 148, 149, 150, 153, 154, 157]
theorem ck_218 : xChkM 12 false none prog_14_method_32_code cd_218 ps_218 = true := by decide +kernel
/-- LastCloudModel.readLine()V -/
def cd_219 : List Instr := [.aload 0, .invokevirtual 1736964, .istore 1, .iload 1, .iconst (-1), .if_icmp .ne 26, .aload 0, .ldc 0, .invokevirtual 1624968, .ifCond .ne 26, .aload 0, .ldc 1, .invokevirtual 1624968, .ifCond .ne 26, 
  .aload 0, .ldc 2, .invokevirtual 1624968, .ifCond .ne 26, .aload 0, .ldc 3, .invokevirtual 1624968, .ifCond .ne 26, .aload 0, .ldc 4, .invokevirtual 1624968, .ifCond .eq 28, .iconst 1, .goto 29, 
  .iconst 0, .istore 2, .iload 2, .ifCond .ne 35, .aload 0, .iconst 1, .invokevirtual 1616971, .iload 1, .iconst (-1), .if_icmp .eq 48, .aload 0, .getfield 12142, .iconst 16, .iaload, .iload 1, 
  .invokestatic 1519928, .ifCond .eq 48, .aload 0, .iconst 2, .invokevirtual 1616971, .aload 0, .getfield 12142, .iconst 0, .iaload, .iconst 60, .if_icmp .eq 95, .aload 0, .ldc 0, .invokevirtual 1624968, 
  .ifCond .eq 64, .aload 0, .getfield 12142, .iconst 1, .iaload, .iconst 8, .if_icmp .eq 95, .aload 0, .ldc 1, .invokevirtual 1624968, .ifCond .eq 74, .aload 0, .getfield 12142, .iconst 2, .iaload, 
  .iconst 10, .if_icmp .eq 95, .aload 0, .ldc 3, .invokevirtual 1624968, .ifCond .eq 84, .aload 0, .getfield 12142, .iconst 3, .iaload, .iconst 6, .if_icmp .eq 95, .aload 0, .ldc 4, 
  .invokevirtual 1624968, .ifCond .eq 98, .aload 0, .getfield 12142, .iconst 15, .iaload, .invokestatic 1735924, .iconst 3, .if_icmp .ne 98, .aload 0, .iconst 3, .invokevirtual 1616971, .aload 0, 
  .invokevirtual 1608964, .ifCond .ne 102, .return_, .iload 1, .iconst (-1), .if_icmp .eq 109, .aload 0, .iload 1, .invokevirtual 1744971, .goto 180, .aload 0, .ldc 0, .invokevirtual 1632968, 
  .ifCond .eq 116, .aload 0, .invokevirtual 1688967, .goto 180, .aload 0, .ldc 1, .invokevirtual 1632968, .ifCond .eq 123, .aload 0, .invokevirtual 1696967, .goto 180, .aload 0, .ldc 2, 
  .invokevirtual 1632968, .ifCond .eq 130, .aload 0, .invokevirtual 1704967, .goto 180, .aload 0, .ldc 3, .invokevirtual 1632968, .ifCond .eq 176, .aload 0, .getfield 12142, .iconst 144, .iconst 2, 
  .aload 0, .getfield 12142, .iconst 3, .iaload, .imul, .iadd, .aload 0, .iconst 20, .iconst 150, .invokevirtual 1648972, .iastore, .aload 0, .getfield 12142, .iconst 144, .iconst 2, .aload 0, 
  .getfield 12142, .iconst 3, .iaload, .imul, .iadd, .iconst 1, .iadd, .aload 0, .ldc 22, .iconst 1, .iconst 999, .invokevirtual 1656976, .iastore, .aload 0, .getfield 12142, .iconst 3, .dup2, .iaload, 
  .iconst 1, .iadd, .iastore, .goto 180, .aload 0, .invokevirtual 1600967, .aload 0, .invokevirtual 1712967, .aload 0, .invokevirtual 1608964, .ifCond .eq 190, .aload 0, .getfield 12100, .iconst 3, 
  .if_icmp .eq 190, .aload 0, .iconst 1, .invokevirtual 1616971, .aload 0, .invokevirtual 1608964, .ifCond .eq 195, .aload 0, .invokevirtual 1600967, .aload 0, .getfield 12142, .iconst 0, .dup2, .iaload, 
  .iconst 1, .iadd, .iastore, .return_]
def ps_219 : List Nat := [0, 1, 4, 5, 6, 7, 10, 11, 14, 17, 20, 21, 24, 27, 30, 31, 34, 37, 40, 41, 44, 47, 50, 51, 54, 57, 60, 61, 64, 65, 66, 67, 70, 71, 72, 75, 76, 77, 80, 81, 84, 86, 87, 88, 91, 94, 95, 96, 99, 100, 103, 
  104, 105, 107, 110, 111, 114, 117, 120, 121, 124, 125, 126, 128, 131, 132, 135, 138, 141, 142, 145, 146, 147, 149, 152, 153, 156, 159, 162, 163, 166, 167, 168, 170, 173, 174, 177, 180, 183, 184, 187, 
  189, 190, 193, 194, 197, 198, 199, 202, 203, 206, 209, 210, 211, 212, 215, 216, 217, 220, 223, 224, 227, 230, 233, 234, 237, 240, 241, 244, 247, 250, 251, 254, 257, 258, 261, 264, 267, 268, 271, 274, 
  275, 278, 281, 284, 285, 288, 291, 292, 293, 296, 297, 298, 299, 300, 301, 303, 306, 309, 310, 311, 314, 317, 318, 319, 322, 323, 324, 325, 326, 327, 328, 329, 332, 333, 336, 339, 340, 341, 344, 345, 
  346, 347, 348, 349, 350, 353, 354, 357, 358, 361, 362, 365, 368, 369, 372, 373, 376, 377, 378, 381, 382, 385, 388, 389, 392, 393, 396, 397, 398, 399, 400, 401, 402]
theorem ck_219 : xChkM 12 false none prog_14_method_33_code cd_219 ps_219 = true := by decide +kernel
/-- LastCloudModel.sky()I -/
def cd_220 : List Instr := [.aload 0, .aload 0, .getfield 12050, .putfield 12070, .aload 0, .iconst 0, .putfield 12050, .aload 0, .iconst 0, .putfield 12080, .aload 0, .iconst 0, .putfield 12120, .aload 0, .iconst (-1), 
  .putfield 12130, .aload 0, .getfield 12142, .invokestatic 1535927, .aload 0, .iconst 0, .putfield 12153, .aload 0, .invokevirtual 1600967, .aload 0, .invokevirtual 1608964, .ifCond .eq 33, .aload 0, 
  .getfield 12100, .ifCond .eq 33, .aload 0, .invokevirtual 1752967, .goto 24, .aload 0, .invokevirtual 1608964, .ifCond .ne 38, .iconst (-4), .ireturn, .iconst 0, .istore 1, .iload 1, .iconst 196, 
  .if_icmp .ge 53, .aload 0, .getfield 12012, .iload 1, .aload 0, .getfield 12142, .iload 1, .iaload, .iastore, .iinc 1 1, .goto 40, .aload 0, .getfield 12012, .iconst 12, .iaload, .iconst (-1), 
  .if_icmp .eq 80, .aload 0, .getfield 12012, .iconst 13, .aload 0, .aload 0, .getfield 12012, .iconst 12, .iaload, .iconst 0, .invokevirtual 1560972, .aload 0, .getfield 12012, .iconst 7, .iaload, 
  .aload 0, .getfield 12012, .iconst 13, .iaload, .dsub, .dadd, .iastore, .aload 0, .invokevirtual 2024967, .aload 0, .getfield 12012, .iconst 0, .iaload, .ireturn]
def ps_220 : List Nat := [0, 1, 2, 5, 8, 9, 10, 13, 14, 15, 18, 19, 20, 23, 24, 25, 28, 29, 32, 35, 36, 37, 40, 41, 44, 45, 48, 51, 52, 55, 58, 59, 62, 65, 66, 69, 72, 74, 75, 76, 77, 78, 81, 84, 85, 88, 89, 90, 93, 94, 95, 96, 
  99, 102, 103, 106, 108, 109, 110, 113, 114, 117, 119, 120, 121, 124, 126, 127, 128, 131, 132, 135, 137, 138, 139, 142, 144, 145, 148, 151, 152, 153, 156, 157, 160, 161, 162]
theorem ck_220 : xChkM 12 false (some .int) prog_14_method_34_code cd_220 ps_220 = true := by decide +kernel
/-- LastCloudModel.isLeg(I)Z -/
def cd_221 : List Instr := [.iload 1, .i2l, .jsr 0, .aload 0, .getfield 12012, .iconst 2, .iaload, .iconst 1, .isub, .i2l, .invokestatic 1511932, .freturn]
def ps_221 : List Nat := [0, 1, 2, 3, 4, 7, 8, 9, 10, 11, 12, 15]
theorem ck_221 : xChkM 12 false (some .boolean) prog_14_method_35_code cd_221 ps_221 = true := by decide +kernel
/-- LastCloudModel.isSpeed(I)Z -/
def cd_222 : List Instr := [.iload 1, .i2l, .jsr 0, .aload 0, .getfield 12012, .iconst 3, .iaload, .iconst 1, .isub, .i2l, .invokestatic 1511932, .freturn]
def ps_222 : List Nat := [0, 1, 2, 3, 4, 7, 8, 9, 10, 11, 12, 15]
theorem ck_222 : xChkM 12 false (some .boolean) prog_14_method_36_code cd_222 ps_222 = true := by decide +kernel
/-- LastCloudModel.periodsOf(IZIZ)I -/
def cd_223 : List Instr := [.aload 0, .getfield 12012, .iconst 144, .iconst 2, .iload 3, .imul, .iadd, .iaload, .istore 5, .iload 5, .iload 4, .ifCond .eq 21, .iload 5, .aload 0, .getfield 12012, .iconst 6, .iaload, .imul, 
  .iconst 100, .idiv, .goto 22, .iconst 0, .iadd, .iload 2, .ifCond .eq 31, .aload 0, .iload 1, .iconst 4, .invokevirtual 1568972, .ineg, .goto 35, .aload 0, .iload 1, .iconst 4, .invokevirtual 1568972, 
  .iadd, .istore 6, .iload 6, .iconst 1, .if_icmp .ge 42, .iconst (-1), .goto 52, .iconst 12, .aload 0, .iload 1, .iconst 2, .invokevirtual 1568972, .imul, .iload 6, .idiv, .iconst 1, .iadd, .ireturn]
def ps_223 : List Nat := [0, 1, 4, 7, 8, 9, 10, 11, 12, 14, 16, 18, 21, 23, 24, 27, 29, 30, 31, 33, 34, 37, 38, 39, 40, 43, 44, 45, 46, 49, 50, 53, 54, 55, 56, 59, 60, 62, 64, 65, 68, 69, 72, 74, 75, 76, 77, 80, 81, 83, 84, 85, 
  86]
theorem ck_223 : xChkM 12 false (some .int) prog_14_method_37_code cd_223 ps_223 = true := by decide +kernel
/-- LastCloudModel.lossOf(III)I -/
def cd_224 : List Instr := [.iconst 5, .iload 3, .imul, .aload 0, .getfield 12012, .iconst 144, .iconst 2, .iload 2, .imul, .iadd, .iconst 1, .iadd, .iaload, .aload 0, .iload 1, .iconst 3, .invokevirtual 1568972, .isub, .imul, 
  .iconst 100, .idiv, .ireturn]
def ps_224 : List Nat := [0, 1, 2, 3, 4, 7, 10, 11, 12, 13, 14, 15, 16, 17, 18, 19, 20, 23, 24, 25, 27, 28]
theorem ck_224 : xChkM 12 false (some .int) prog_14_method_38_code cd_224 ps_224 = true := by decide +kernel
/-- LastCloudModel.periods(IZIZ)I -/
def cd_225 : List Instr := [.aload 0, .iload 1, .invokevirtual 1768968, .ifCond .eq 15, .aload 0, .iload 3, .invokevirtual 1776968, .ifCond .eq 15, .aload 0, .iload 1, .iload 2, .iload 3, .iload 4, .invokevirtual 1784980, 
  .goto 16, .iconst (-2), .ireturn]
def ps_225 : List Nat := [0, 1, 2, 5, 8, 9, 10, 13, 16, 17, 18, 19, 20, 22, 25, 28, 30]
theorem ck_225 : xChkM 12 false (some .int) prog_14_method_39_code cd_225 ps_225 = true := by decide +kernel
/-- LastCloudModel.loss(IZIZ)I -/
def cd_226 : List Instr := [.aload 0, .iload 1, .invokevirtual 1768968, .ifCond .eq 8, .aload 0, .iload 3, .invokevirtual 1776968, .ifCond .ne 10, .iconst (-2000000000), .ireturn, .aload 0, .iload 1, .iload 2, .iload 3, .iload 4, 
  .invokevirtual 1784980, .istore 5, .iload 5, .iconst (-1), .if_icmp .ne 22, .iconst (-2000000000), .goto 27, .aload 0, .iload 1, .iload 3, .iload 5, .invokevirtual 1792976, .ireturn]
def ps_226 : List Nat := [0, 1, 2, 5, 8, 9, 10, 13, 16, 19, 20, 21, 22, 23, 24, 26, 29, 31, 33, 34, 37, 40, 43, 44, 45, 46, 48, 51]
theorem ck_226 : xChkM 12 false (some .int) prog_14_method_40_code cd_226 ps_226 = true := by decide +kernel
/-- LastCloudModel.upOf(I)I -/
def cd_227 : List Instr := [.iload 1, .aload 0, .getfield 12180, .if_icmp .ne 7, .aload 0, .getfield 12190, .goto 11, .aload 0, .iload 1, .iconst 5, .invokevirtual 1560972, .ireturn]
def ps_227 : List Nat := [0, 1, 2, 5, 8, 9, 12, 15, 16, 17, 18, 21]
theorem ck_227 : xChkM 12 false (some .int) prog_14_method_41_code cd_227 ps_227 = true := by decide +kernel
/-- LastCloudModel.climbOf(IZ)I -/
def cd_228 : List Instr := [.aload 0, .iload 1, .iconst 3, .invokevirtual 1560972, .ifCond .ne 7, .iconst 0, .ireturn, .aload 0, .iload 1, .invokevirtual 1816968, .istore 3, .iconst 0, .iconst 5, .iload 3, .iload 2, 
  .ifCond .eq 25, .iload 3, .aload 0, .getfield 12012, .iconst 6, .iaload, .imul, .iconst 100, .idiv, .goto 26, .iconst 0, .isub, .aload 0, .getfield 12012, .iconst 5, .iaload, .isub, .imul, .iconst 100, 
  .idiv, .dadd, .ireturn]
def ps_228 : List Nat := [0, 1, 2, 3, 6, 9, 10, 11, 12, 13, 16, 17, 18, 19, 20, 21, 24, 25, 26, 29, 31, 32, 33, 35, 36, 39, 40, 41, 42, 45, 46, 47, 48, 49, 51, 52, 55]
theorem ck_228 : xChkM 12 false (some .int) prog_14_method_42_code cd_228 ps_228 = true := by decide +kernel
/-- LastCloudModel.climb(IZ)I -/
def cd_229 : List Instr := [.aload 0, .iload 1, .invokevirtual 1552968, .ifCond .eq 9, .aload 0, .iload 1, .iload 2, .invokevirtual 1824972, .goto 10, .iconst (-2), .ireturn]
def ps_229 : List Nat := [0, 1, 2, 5, 8, 9, 10, 11, 14, 17, 19]
theorem ck_229 : xChkM 12 false (some .int) prog_14_method_43_code cd_229 ps_229 = true := by decide +kernel
/-- LastCloudModel.bySign(IIZI)I -/
def cd_230 : List Instr := [.iload 3, .ifCond .eq 7, .aload 0, .iload 1, .iconst 6, .invokevirtual 1560972, .goto 13, .iconst 100, .aload 0, .iload 1, .iconst 6, .invokevirtual 1560972, .isub, .istore 5, .iload 3, .ifCond .eq 21, 
  .aload 0, .iload 1, .iconst 7, .invokevirtual 1560972, .goto 27, .iconst 100, .aload 0, .iload 1, .iconst 7, .invokevirtual 1560972, .isub, .istore 6, .iload 2, .iload 5, .imul, .iconst 100, .iload 2, 
  .isub, .iload 6, .imul, .iadd, .istore 7, .iload 7, .ifCond .ne 42, .iconst (-1), .goto 49, .iload 4, .iload 2, .imul, .iload 5, .imul, .iload 7, .idiv, .ireturn]
def ps_230 : List Nat := [0, 1, 4, 5, 6, 8, 11, 14, 16, 17, 18, 20, 23, 24, 26, 27, 30, 31, 32, 34, 37, 40, 42, 43, 44, 46, 49, 50, 52, 53, 55, 56, 58, 59, 60, 62, 63, 64, 66, 68, 71, 72, 75, 77, 78, 79, 81, 82, 84, 85]
theorem ck_230 : xChkM 12 false (some .int) prog_14_method_44_code cd_230 ps_230 = true := by decide +kernel
/-- LastCloudModel.chanceNow(I)I -/
def cd_231 : List Instr := [.aload 0, .iload 1, .iconst 4, .invokevirtual 1560972, .istore 2, .iconst 0, .istore 3, .iload 3, .aload 0, .getfield 12012, .iconst 4, .iaload, .if_icmp .ge 65, .aload 0, .getfield 12012, .iconst 156, 
  .iconst 2, .iload 3, .imul, .iadd, .iaload, .iload 1, .if_icmp .eq 24, .goto 63, .aload 0, .getfield 12012, .iconst 156, .iconst 2, .iload 3, .imul, .iadd, .iconst 1, .iadd, .iaload, .istore 4, 
  .iload 4, .iconst 2, .if_icmp .ge 44, .iconst 100, .iconst 100, .iload 4, .imul, .isub, .goto 55, .aload 0, .iload 1, .iload 2, .iload 4, .iconst 2, .if_icmp .ne 52, .iconst 1, .goto 53, .iconst 0, 
  .iconst 100, .invokevirtual 1840980, .istore 5, .iload 5, .iconst (-1), .if_icmp .ne 61, .iload 2, .goto 62, .iload 5, .istore 2, .iinc 3 1, .goto 7, .iload 2, .ireturn]
def ps_231 : List Nat := [0, 1, 2, 3, 6, 7, 8, 9, 10, 11, 14, 15, 16, 19, 20, 23, 26, 27, 28, 29, 30, 31, 32, 35, 38, 39, 42, 45, 46, 47, 48, 49, 50, 51, 52, 54, 56, 57, 60, 62, 64, 66, 67, 68, 71, 72, 73, 74, 76, 77, 80, 81, 
  84, 85, 87, 90, 92, 94, 95, 98, 99, 102, 104, 105, 108, 111, 112]
theorem ck_231 : xChkM 12 false (some .int) prog_14_method_45_code cd_231 ps_231 = true := by decide +kernel
/-- LastCloudModel.chanceOf(I)I -/
def cd_232 : List Instr := [.iload 1, .aload 0, .getfield 12160, .if_icmp .ne 7, .aload 0, .getfield 12170, .goto 10, .aload 0, .iload 1, .invokevirtual 1848968, .ireturn]
def ps_232 : List Nat := [0, 1, 2, 5, 8, 9, 12, 15, 16, 17, 20]
theorem ck_232 : xChkM 12 false (some .int) prog_14_method_46_code cd_232 ps_232 = true := by decide +kernel
/-- LastCloudModel.chance(I)I -/
def cd_233 : List Instr := [.aload 0, .iload 1, .invokevirtual 1552968, .ifCond .eq 8, .aload 0, .iload 1, .invokevirtual 1848968, .goto 9, .iconst (-2), .ireturn]
def ps_233 : List Nat := [0, 1, 2, 5, 8, 9, 10, 13, 16, 18]
theorem ck_233 : xChkM 12 false (some .int) prog_14_method_47_code cd_233 ps_233 = true := by decide +kernel
/-- LastCloudModel.sight(II)I -/
def cd_234 : List Instr := [.aload 0, .iload 1, .invokevirtual 1552968, .ifCond .eq 10, .iload 2, .i2l, .jsr 0, .jsr 3, .invokestatic 1511932, .ifCond .ne 12, .iconst (-2), .ireturn, .aload 0, .getfield 12012, .iconst 4, .iaload, 
  .iconst 20, .if_icmp .ne 20, .iconst (-3), .ireturn, .aload 0, .getfield 12012, .iconst 156, .iconst 2, .aload 0, .getfield 12012, .iconst 4, .iaload, .imul, .iadd, .iload 1, .iastore, .aload 0, 
  .getfield 12012, .iconst 156, .iconst 2, .aload 0, .getfield 12012, .iconst 4, .iaload, .imul, .iadd, .iconst 1, .iadd, .iload 2, .iastore, .aload 0, .getfield 12012, .iconst 4, .dup2, .iaload, 
  .iconst 1, .iadd, .iastore, .aload 0, .invokevirtual 2024967, .aload 0, .getfield 12012, .iconst 4, .iaload, .ireturn]
def ps_234 : List Nat := [0, 1, 2, 5, 8, 9, 10, 11, 14, 17, 20, 22, 23, 24, 27, 28, 29, 31, 34, 36, 37, 38, 41, 44, 45, 46, 49, 50, 51, 52, 53, 54, 55, 56, 59, 62, 63, 64, 67, 68, 69, 70, 71, 72, 73, 74, 75, 76, 79, 80, 81, 82, 
  83, 84, 85, 86, 89, 90, 93, 94, 95]
theorem ck_234 : xChkM 12 false (some .int) prog_14_method_48_code cd_234 ps_234 = true := by decide +kernel
/-- LastCloudModel.unsee(I)I -/
def cd_235 : List Instr := [.iload 1, .i2l, .jsr 0, .aload 0, .getfield 12012, .iconst 4, .iaload, .i2l, .invokestatic 1511932, .ifCond .ne 12, .iconst (-2), .ireturn, .aload 0, .getfield 12012, .iconst 4, .dup2, .iaload, 
  .iload 1, .isub, .iastore, .aload 0, .invokevirtual 2024967, .aload 0, .getfield 12012, .iconst 4, .iaload, .ireturn]
def ps_235 : List Nat := [0, 1, 2, 3, 4, 7, 8, 9, 10, 13, 16, 18, 19, 20, 23, 24, 25, 26, 27, 28, 29, 30, 33, 34, 37, 38, 39]
theorem ck_235 : xChkM 12 false (some .int) prog_14_method_49_code cd_235 ps_235 = true := by decide +kernel
/-- LastCloudModel.sign(IZ)I -/
def cd_236 : List Instr := [.aload 0, .iload 1, .invokevirtual 1552968, .ifCond .eq 14, .aload 0, .iload 1, .aload 0, .iload 1, .iconst 4, .invokevirtual 1560972, .iload 2, .iconst 10000, .invokevirtual 1840980, .goto 15, 
  .iconst (-2), .ireturn]
def ps_236 : List Nat := [0, 1, 2, 5, 8, 9, 10, 11, 12, 13, 16, 17, 20, 23, 26, 28]
theorem ck_236 : xChkM 12 false (some .int) prog_14_method_50_code cd_236 ps_236 = true := by decide +kernel
/-- LastCloudModel.laysWays()V -/
def cd_237 : List Instr := [.aload 0, .getfield 12220, .ifCond .eq 4, .return_, .aload 0, .iconst 1, .putfield 12223, .iconst 0, .istore 1, .iload 1, .iconst 2, .if_icmp .ge 25, .iconst 0, .istore 2, .iload 2, .iconst 8, 
  .if_icmp .ge 23, .aload 0, .iload 2, .iload 1, .invokevirtual 1904975, .iinc 2 1, .goto 14, .iinc 1 1, .goto 9, .return_]
def ps_237 : List Nat := [0, 1, 4, 7, 8, 9, 10, 13, 14, 15, 16, 17, 20, 21, 22, 23, 25, 28, 29, 30, 31, 34, 37, 40, 43, 46]
theorem ck_237 : xChkM 12 false none prog_14_method_51_code cd_237 ps_237 = true := by decide +kernel
/-- LastCloudModel.laysFrom(II)V -/
def cd_238 : List Instr := [.iconst 2, .iload 1, .imul, .iload 2, .iadd, .istore 3, .aload 0, .getfield 12202, .iload 3, .iconst 0, .iastore, .iconst 0, .istore 4, .iload 4, .aload 0, .getfield 12012, .iconst 2, .iaload, 
  .if_icmp .ge 129, .aload 0, .iload 4, .iconst 1, .invokevirtual 1568972, .iload 1, .if_icmp .ne 27, .iconst 1, .goto 28, .iconst 0, .istore 5, .iload 5, .ifCond .ne 38, .aload 0, .iload 4, .iconst 0, 
  .invokevirtual 1568972, .iload 1, .if_icmp .eq 38, .goto 127, .iconst 0, .istore 6, .iload 6, .aload 0, .getfield 12012, .iconst 3, .iaload, .if_icmp .ge 127, .aload 0, .iload 4, .iload 5, .iload 6, 
  .iload 2, .iconst 1, .if_icmp .ne 55, .iconst 1, .goto 56, .iconst 0, .invokevirtual 1784980, .istore 7, .iload 7, .iconst (-1), .if_icmp .ne 62, .goto 125, .iconst 300, .iload 3, .imul, .iconst 5, 
  .aload 0, .getfield 12202, .iload 3, .iaload, .imul, .iadd, .istore 8, .aload 0, .getfield 12212, .iload 8, .iload 4, .iastore, .aload 0, .getfield 12212, .iload 8, .iconst 1, .iadd, .iload 6, 
  .iastore, .aload 0, .getfield 12212, .iload 8, .iconst 2, .iadd, .aload 0, .iload 4, .iload 5, .ifCond .eq 96, .iconst 0, .goto 97, .iconst 1, .invokevirtual 1568972, .iastore, .aload 0, 
  .getfield 12212, .iload 8, .iconst 3, .iadd, .iload 7, .iastore, .aload 0, .getfield 12212, .iload 8, .iconst 4, .iadd, .aload 0, .iload 4, .iload 6, .iload 7, .invokevirtual 1792976, .iastore, 
  .aload 0, .getfield 12202, .iload 3, .dup2, .iaload, .iconst 1, .iadd, .iastore, .iinc 6 1, .goto 40, .iinc 4 1, .goto 13, .return_]
def ps_238 : List Nat := [0, 1, 2, 3, 4, 5, 6, 7, 10, 11, 12, 13, 14, 16, 18, 19, 22, 23, 24, 27, 28, 30, 31, 34, 35, 38, 39, 42, 43, 45, 47, 50, 51, 53, 54, 57, 58, 61, 64, 65, 67, 69, 70, 73, 74, 75, 78, 79, 81, 83, 85, 86, 
  87, 90, 91, 94, 95, 98, 100, 102, 103, 106, 109, 112, 113, 114, 115, 116, 119, 120, 121, 122, 123, 125, 126, 129, 131, 133, 134, 135, 138, 140, 141, 142, 144, 145, 146, 149, 151, 152, 153, 154, 156, 
  158, 161, 162, 165, 166, 169, 170, 171, 174, 176, 177, 178, 180, 181, 182, 185, 187, 188, 189, 190, 192, 194, 196, 199, 200, 201, 204, 205, 206, 207, 208, 209, 210, 213, 216, 219, 222]
theorem ck_238 : xChkM 12 false none prog_14_method_52_code cd_238 ps_238 = true := by decide +kernel
/-- LastCloudModel.comesAt(II)I -/
def cd_239 : List Instr := [.aload 0, .getfield 12212, .iload 1, .iconst 2, .iadd, .iaload, .istore 3, .aload 0, .getfield 12012, .iconst 7, .iaload, .iload 2, .aload 0, .getfield 12212, .iload 1, .iconst 4, .iadd, .iaload, 
  .isub, .dsub, .istore 4, .iload 2, .aload 0, .getfield 12212, .iload 1, .iconst 4, .iadd, .iaload, .iconst 2, .idiv, .isub, .aload 0, .aload 0, .getfield 12212, .iload 1, .iaload, .iconst 5, 
  .invokevirtual 1568972, .if_icmp .lt 45, .iload 4, .aload 0, .iload 3, .iconst 0, .invokevirtual 1560972, .if_icmp .ge 47, .iconst (-1), .goto 48, .iload 4, .ireturn]
def ps_239 : List Nat := [0, 1, 4, 5, 6, 7, 8, 9, 10, 13, 15, 16, 17, 18, 21, 22, 23, 24, 25, 26, 29, 31, 32, 33, 36, 37, 38, 39, 40, 41, 42, 43, 44, 45, 48, 49, 50, 51, 54, 57, 59, 60, 61, 62, 65, 68, 69, 72, 74]
theorem ck_239 : xChkM 12 false (some .int) prog_14_method_53_code cd_239 ps_239 = true := by decide +kernel
/-- LastCloudModel.glides(IIZ)V -/
def cd_240 : List Instr := [.aload 0, .invokevirtual 1896967, .iconst 0, .istore 4, .iload 4, .iconst 8, .if_icmp .ge 14, .aload 0, .getfield 12232, .iload 4, .iconst (-1), .iastore, .iinc 4 1, .goto 4, .aload 0, .getfield 12232, 
  .iload 1, .iload 2, .iastore, .iconst 1, .istore 4, .iload 4, .ifCond .eq 102, .iconst 0, .istore 4, .iconst 0, .istore 5, .iload 5, .aload 0, .getfield 12012, .iconst 1, .iaload, .if_icmp .ge 101, 
  .iconst 2, .iload 5, .imul, .iload 3, .ifCond .eq 40, .iconst 1, .goto 41, .iconst 0, .iadd, .istore 6, .iconst 0, .istore 7, .iload 7, .aload 0, .getfield 12202, .iload 6, .iaload, .if_icmp .ge 99, 
  .aload 0, .getfield 12232, .iload 5, .iaload, .iconst (-1), .if_icmp .eq 99, .iconst 300, .iload 6, .imul, .iconst 5, .iload 7, .imul, .iadd, .istore 8, .aload 0, .iload 8, .aload 0, .getfield 12232, 
  .iload 5, .iaload, .invokevirtual 1912972, .istore 9, .iload 9, .aload 0, .getfield 12232, .aload 0, .getfield 12212, .iload 8, .iconst 2, .iadd, .iaload, .iaload, .if_icmp .gt 85, .goto 97, .aload 0, 
  .getfield 12232, .aload 0, .getfield 12212, .iload 8, .iconst 2, .iadd, .iaload, .iload 9, .iastore, .iconst 1, .istore 4, .iinc 7 1, .goto 45, .iinc 5 1, .goto 27, .goto 21, .return_]
def ps_240 : List Nat := [0, 1, 4, 5, 7, 9, 11, 14, 15, 18, 20, 21, 22, 25, 28, 29, 32, 33, 34, 35, 36, 38, 40, 43, 44, 46, 47, 49, 51, 52, 55, 56, 57, 60, 61, 63, 64, 65, 68, 69, 72, 73, 74, 76, 77, 79, 81, 82, 85, 87, 88, 91, 
  92, 95, 97, 98, 99, 102, 105, 107, 108, 109, 111, 112, 113, 115, 116, 118, 119, 122, 124, 125, 128, 130, 132, 133, 136, 137, 140, 142, 143, 144, 145, 146, 149, 152, 153, 156, 157, 160, 162, 163, 164, 
  165, 167, 168, 169, 171, 174, 177, 180, 183, 186]
theorem ck_240 : xChkM 12 false none prog_14_method_54_code cd_240 ps_240 = true := by decide +kernel
/-- LastCloudModel.isHeight(II)Z -/
def cd_241 : List Instr := [.aload 0, .iload 1, .invokevirtual 1552968, .ifCond .eq 20, .iload 2, .i2l, .aload 0, .iload 1, .iconst 0, .invokevirtual 1560972, .i2l, .aload 0, .getfield 12012, .iconst 7, .iaload, .i2l, 
  .invokestatic 1511932, .ifCond .eq 20, .iconst 1, .goto 21, .iconst 0, .freturn]
def ps_241 : List Nat := [0, 1, 2, 5, 8, 9, 10, 11, 12, 13, 16, 17, 18, 21, 23, 24, 25, 28, 31, 32, 35, 36]
theorem ck_241 : xChkM 12 false (some .boolean) prog_14_method_55_code cd_241 ps_241 = true := by decide +kernel
/-- LastCloudModel.reach(IIIZ)I -/
def cd_242 : List Instr := [.aload 0, .iload 1, .iload 2, .invokevirtual 1928972, .ifCond .eq 9, .aload 0, .iload 3, .invokevirtual 1552968, .ifCond .ne 11, .iconst (-2), .ireturn, .aload 0, .iload 1, .iload 2, .iload 4, 
  .invokevirtual 1920979, .aload 0, .getfield 12232, .iload 3, .iaload, .ireturn]
def ps_242 : List Nat := [0, 1, 2, 3, 6, 9, 10, 11, 14, 17, 19, 20, 21, 22, 23, 25, 28, 29, 32, 33, 34]
theorem ck_242 : xChkM 12 false (some .int) prog_14_method_56_code cd_242 ps_242 = true := by decide +kernel
end
section
/-- LastCloudModel.fieldsOf(IIZ)I -/
def cd_243 : List Instr := [.iconst 61, .iload 1, .imul, .iload 2, .iadd, .iconst 2, .imul, .iload 3, .ifCond .eq 11, .iconst 1, .goto 12, .iconst 0, .iadd, .istore 4, .aload 0, .getfield 12242, .iload 4, .iaload, .iconst (-1), 
  .if_icmp .eq 25, .aload 0, .getfield 12242, .iload 4, .iaload, .ireturn, .aload 0, .iload 1, .iload 2, .iload 3, .invokevirtual 1920979, .iconst 0, .istore 5, .iconst 0, .istore 6, .iload 6, .aload 0, 
  .getfield 12012, .iconst 1, .iaload, .if_icmp .ge 61, .iload 5, .aload 0, .getfield 12232, .iload 6, .iaload, .iconst (-1), .if_icmp .eq 56, .aload 0, .iload 6, .iconst 1, .invokevirtual 1560972, 
  .ifCond .le 56, .iconst 1, .iload 6, .ishl, .goto 57, .iconst 0, .ior, .istore 5, .iinc 6 1, .goto 34, .aload 0, .getfield 12242, .iload 4, .iload 5, .iastore, .iload 5, .ireturn]
def ps_243 : List Nat := [0, 2, 3, 4, 5, 6, 7, 8, 9, 12, 13, 16, 17, 18, 20, 21, 24, 26, 27, 28, 31, 32, 35, 37, 38, 39, 40, 41, 42, 43, 46, 47, 49, 50, 52, 54, 55, 58, 59, 60, 63, 65, 66, 69, 71, 72, 73, 76, 77, 79, 80, 83, 
  86, 87, 89, 90, 93, 94, 95, 97, 100, 103, 104, 107, 109, 111, 112, 114]
theorem ck_243 : xChkM 12 false (some .int) prog_14_method_57_code cd_243 ps_243 = true := by decide +kernel
/-- LastCloudModel.fields(IIZ)I -/
def cd_244 : List Instr := [.aload 0, .iload 1, .iload 2, .invokevirtual 1928972, .ifCond .eq 11, .aload 0, .iload 1, .iload 2, .iload 3, .invokevirtual 1944976, .goto 12, .iconst (-2), .ireturn]
def ps_244 : List Nat := [0, 1, 2, 3, 6, 9, 10, 11, 12, 13, 16, 19, 21]
theorem ck_244 : xChkM 12 false (some .int) prog_14_method_58_code cd_244 ps_244 = true := by decide +kernel
/-- LastCloudModel.edge(IZ)I -/
def cd_245 : List Instr := [.aload 0, .iload 1, .invokevirtual 1552968, .ifCond .ne 6, .iconst (-2), .ireturn, .aload 0, .iload 1, .iconst 0, .invokevirtual 1560972, .istore 3, .iload 3, .aload 0, .getfield 12012, .iconst 7, 
  .iaload, .if_icmp .gt 27, .aload 0, .iload 1, .iload 3, .iload 2, .invokevirtual 1944976, .ifCond .eq 25, .iload 3, .ireturn, .iinc 3 1, .goto 11, .iconst (-1), .ireturn]
def ps_245 : List Nat := [0, 1, 2, 5, 8, 10, 11, 12, 13, 14, 17, 18, 19, 20, 23, 25, 26, 29, 30, 31, 32, 33, 36, 39, 40, 41, 44, 47, 48]
theorem ck_245 : xChkM 12 false (some .int) prog_14_method_59_code cd_245 ps_245 = true := by decide +kernel
/-- LastCloudModel.tour(IIZ)I -/
def cd_246 : List Instr := [.aload 0, .iload 1, .iload 2, .invokevirtual 1928972, .ifCond .ne 7, .iconst (-2), .ireturn, .iconst 0, .istore 4, .iconst 0, .istore 5, .iload 5, .aload 0, .getfield 12012, .iconst 1, .iaload, 
  .if_icmp .ge 46, .aload 0, .iload 1, .iload 2, .iload 3, .invokevirtual 1920979, .aload 0, .getfield 12232, .iload 5, .iaload, .istore 6, .iload 4, .iload 6, .iconst (-1), .if_icmp .eq 41, .aload 0, 
  .iload 5, .iload 6, .iload 3, .invokevirtual 1944976, .ifCond .eq 41, .iconst 1, .iload 5, .ishl, .goto 42, .iconst 0, .ior, .istore 4, .iinc 5 1, .goto 11, .iload 4, .ireturn]
def ps_246 : List Nat := [0, 1, 2, 3, 6, 9, 11, 12, 13, 15, 16, 18, 20, 21, 24, 25, 26, 29, 30, 31, 32, 33, 36, 37, 40, 42, 43, 45, 47, 49, 50, 53, 54, 56, 58, 59, 62, 65, 66, 68, 69, 72, 73, 74, 76, 79, 82, 84]
theorem ck_246 : xChkM 12 false (some .int) prog_14_method_60_code cd_246 ps_246 = true := by decide +kernel
/-- LastCloudModel.street()I -/
def cd_247 : List Instr := [.aload 0, .invokevirtual 1896967, .iconst 0, .istore 1, .iload 1, .iconst 2048, .if_icmp .ge 14, .aload 0, .getfield 12252, .iload 1, .iconst 0, .castore, .iinc 1 1, .goto 4, .iconst 0, .istore 1, 
  .iload 1, .aload 0, .getfield 12012, .iconst 1, .iaload, .if_icmp .ge 35, .aload 0, .getfield 12252, .iconst 8, .iconst 1, .iload 1, .ishl, .imul, .iload 1, .iadd, .iconst 1, .castore, .iinc 1 1, 
  .goto 16, .iconst 0, .istore 1, .iconst 1, .istore 2, .iload 2, .iconst 256, .if_icmp .ge 128, .iconst 0, .istore 3, .iload 3, .aload 0, .getfield 12012, .iconst 1, .iaload, .if_icmp .ge 126, .aload 0, 
  .getfield 12252, .iconst 8, .iload 2, .imul, .iload 3, .iadd, .caload, .ifCond .ne 60, .goto 124, .iload 1, .iload 2, .invokestatic 1735924, .dadd, .istore 1, .iconst 0, .istore 4, .iload 4, .aload 0, 
  .getfield 12202, .iconst 2, .iload 3, .imul, .iaload, .if_icmp .ge 124, .iconst 600, .iload 3, .imul, .iconst 5, .iload 4, .imul, .iadd, .istore 5, .aload 0, .getfield 12212, .iload 5, .iconst 4, 
  .iadd, .iaload, .ifCond .gt 122, .iload 2, .aload 0, .getfield 12212, .iload 5, .iconst 2, .iadd, .iaload, .invokestatic 1519928, .ifCond .ne 122, .aload 0, .getfield 12252, .iconst 8, .iload 2, 
  .iconst 1, .aload 0, .getfield 12212, .iload 5, .iconst 2, .iadd, .iaload, .ishl, .ior, .imul, .aload 0, .getfield 12212, .iload 5, .iconst 2, .iadd, .iaload, .iadd, .iconst 1, .castore, .iinc 4 1, 
  .goto 67, .iinc 3 1, .goto 44, .iinc 2 1, .goto 39, .iload 1, .ireturn]
def ps_247 : List Nat := [0, 1, 4, 5, 6, 7, 10, 13, 14, 17, 18, 19, 20, 23, 26, 27, 28, 29, 30, 33, 34, 35, 38, 39, 42, 44, 45, 46, 47, 48, 49, 50, 51, 52, 55, 58, 59, 60, 61, 62, 63, 66, 69, 70, 71, 72, 73, 76, 77, 78, 81, 82, 
  85, 87, 88, 89, 90, 91, 92, 95, 98, 99, 100, 103, 106, 107, 108, 110, 112, 113, 116, 117, 118, 119, 120, 123, 126, 127, 128, 129, 131, 132, 133, 135, 136, 139, 141, 142, 143, 144, 147, 148, 149, 152, 
  154, 155, 156, 157, 160, 163, 164, 167, 169, 170, 171, 172, 175, 177, 178, 179, 180, 181, 182, 183, 184, 187, 189, 190, 191, 192, 193, 194, 195, 198, 201, 204, 207, 210, 213, 214]
theorem ck_247 : xChkM 12 false (some .int) prog_14_method_61_code cd_247 ps_247 = true := by decide +kernel
/-- LastCloudModel.fastOf(I)I -/
def cd_248 : List Instr := [.iconst (-1), .istore 2, .iconst 0, .istore 3, .iload 3, .aload 0, .getfield 12012, .iconst 3, .iaload, .if_icmp .ge 57, .iconst 144, .iconst 2, .iload 3, .imul, .iadd, .istore 4, .iconst 144, 
  .iconst 2, .iload 2, .imul, .iadd, .istore 5, .iload 2, .iconst (-1), .if_icmp .eq 53, .aload 0, .getfield 12012, .iload 4, .iaload, .iload 1, .aload 0, .getfield 12012, .iload 5, .iconst 1, .iadd, 
  .iaload, .iadd, .imul, .aload 0, .getfield 12012, .iload 5, .iaload, .iload 1, .aload 0, .getfield 12012, .iload 4, .iconst 1, .iadd, .iaload, .iadd, .imul, .if_icmp .gt 53, .goto 55, .iload 3, 
  .istore 2, .iinc 3 1, .goto 4, .iload 2, .ireturn]
def ps_248 : List Nat := [0, 1, 2, 3, 4, 5, 6, 9, 10, 11, 14, 17, 18, 19, 20, 21, 23, 26, 27, 28, 29, 30, 32, 33, 34, 37, 38, 41, 43, 44, 45, 46, 49, 51, 52, 53, 54, 55, 56, 57, 60, 62, 63, 64, 65, 68, 70, 71, 72, 73, 74, 75, 
  78, 81, 82, 83, 86, 89, 90]
theorem ck_248 : xChkM 12 false (some .int) prog_14_method_62_code cd_248 ps_248 = true := by decide +kernel
/-- LastCloudModel.isClimb(I)Z -/
def cd_249 : List Instr := [.iload 0, .i2l, .jsr 1, .jsr 2000, .invokestatic 1511932, .freturn]
def ps_249 : List Nat := [0, 1, 2, 3, 6, 9]
theorem ck_249 : xChkM 12 false (some .boolean) prog_14_method_63_code cd_249 ps_249 = true := by decide +kernel
/-- LastCloudModel.fast(I)I -/
def cd_250 : List Instr := [.iload 1, .invokestatic 1999924, .ifCond .eq 7, .aload 0, .iload 1, .invokevirtual 1984968, .goto 8, .iconst (-2), .ireturn]
def ps_250 : List Nat := [0, 1, 4, 7, 8, 9, 12, 15, 17]
theorem ck_250 : xChkM 12 false (some .int) prog_14_method_64_code cd_250 ps_250 = true := by decide +kernel
/-- LastCloudModel.average(I)I -/
def cd_251 : List Instr := [.iload 1, .invokestatic 1999924, .ifCond .ne 5, .iconst (-2), .ireturn, .aload 0, .iload 1, .invokevirtual 1984968, .istore 2, .iload 2, .iconst (-1), .if_icmp .ne 14, .iconst (-1), .goto 39, 
  .iconst 10, .aload 0, .getfield 12012, .iconst 144, .iconst 2, .iload 2, .imul, .iadd, .iaload, .imul, .iload 1, .imul, .iload 1, .aload 0, .getfield 12012, .iconst 144, .iconst 2, .iload 2, .imul, 
  .iadd, .iconst 1, .iadd, .iaload, .iadd, .idiv, .ireturn]
def ps_251 : List Nat := [0, 1, 4, 7, 9, 10, 11, 12, 15, 16, 17, 18, 21, 22, 25, 27, 28, 31, 34, 35, 36, 37, 38, 39, 40, 41, 42, 43, 44, 47, 50, 51, 52, 53, 54, 55, 56, 57, 58, 59]
theorem ck_251 : xChkM 12 false (some .int) prog_14_method_65_code cd_251 ps_251 = true := by decide +kernel
/-- LastCloudModel.farthest()I -/
def cd_252 : List Instr := [.iconst (-1), .istore 1, .iconst 0, .istore 2, .iload 2, .aload 0, .getfield 12012, .iconst 3, .iaload, .if_icmp .ge 53, .iconst 144, .iconst 2, .iload 2, .imul, .iadd, .istore 3, .iconst 144, 
  .iconst 2, .iload 1, .imul, .iadd, .istore 4, .iload 1, .iconst (-1), .if_icmp .eq 49, .aload 0, .getfield 12012, .iload 3, .iaload, .aload 0, .getfield 12012, .iload 4, .iconst 1, .iadd, .iaload, 
  .imul, .aload 0, .getfield 12012, .iload 4, .iaload, .aload 0, .getfield 12012, .iload 3, .iconst 1, .iadd, .iaload, .imul, .if_icmp .gt 49, .goto 51, .iload 2, .istore 1, .iinc 2 1, .goto 4, .iload 1, 
  .ireturn]
def ps_252 : List Nat := [0, 1, 2, 3, 4, 5, 6, 9, 10, 11, 14, 17, 18, 19, 20, 21, 22, 25, 26, 27, 28, 29, 31, 32, 33, 36, 37, 40, 41, 42, 43, 46, 48, 49, 50, 51, 52, 53, 56, 58, 59, 60, 63, 64, 65, 66, 67, 68, 71, 74, 75, 76, 
  79, 82, 83]
theorem ck_252 : xChkM 12 false (some .int) prog_14_method_66_code cd_252 ps_252 = true := by decide +kernel
/-- LastCloudModel.forgets()V -/
def cd_253 : List Instr := [.aload 0, .iconst (-1), .putfield 12290, .aload 0, .iconst 0, .putfield 12223, .iconst 0, .istore 1, .iload 1, .iconst 976, .if_icmp .ge 18, .aload 0, .getfield 12242, .iload 1, .iconst (-1), .iastore, 
  .iinc 1 1, .goto 8, .return_]
def ps_253 : List Nat := [0, 1, 2, 5, 6, 7, 10, 11, 12, 13, 16, 19, 20, 23, 24, 25, 26, 29, 32]
theorem ck_253 : xChkM 12 false none prog_14_method_67_code cd_253 ps_253 = true := by decide +kernel
/-- LastCloudModel.state(IIIII)I -/
def cd_254 : List Instr := [.iconst 61, .iload 0, .imul, .iload 1, .iadd, .iconst 48, .imul, .iload 2, .iadd, .iconst 4, .imul, .iconst 2, .iload 3, .imul, .iadd, .iload 4, .iadd, .ireturn]
def ps_254 : List Nat := [0, 2, 3, 4, 5, 6, 8, 9, 10, 11, 12, 13, 14, 15, 16, 17, 19, 20]
theorem ck_254 : xChkM 12 false (some .int) prog_14_method_68_code cd_254 ps_254 = true := by decide +kernel
/-- LastCloudModel.landingOf(II)I -/
def cd_255 : List Instr := [.aload 0, .iload 1, .iconst 1, .invokevirtual 1560972, .istore 3, .iload 3, .iconst 2, .if_icmp .ne 13, .aload 0, .getfield 12012, .iconst 9, .iaload, .goto 17, .aload 0, .iload 1, .iconst 2, 
  .invokevirtual 1560972, .istore 4, .iload 3, .ifCond .ne 26, .aload 0, .getfield 12012, .iconst 11, .iaload, .ineg, .goto 34, .iload 4, .aload 0, .getfield 12012, .iconst 10, .iaload, .iload 2, .imul, 
  .isub, .ireturn]
def ps_255 : List Nat := [0, 1, 2, 3, 6, 7, 8, 9, 12, 13, 16, 18, 19, 22, 23, 24, 25, 28, 30, 31, 34, 35, 38, 40, 41, 42, 45, 47, 48, 51, 53, 54, 55, 56, 57]
theorem ck_255 : xChkM 12 false (some .int) prog_14_method_69_code cd_255 ps_255 = true := by decide +kernel
/-- LastCloudModel.higher(III)I -/
def cd_256 : List Instr := [.aload 0, .getfield 12012, .iconst 7, .iaload, .iload 2, .aload 0, .iload 1, .iload 3, .iconst 1, .if_icmp .ne 12, .iconst 1, .goto 13, .iconst 0, .invokevirtual 1824972, .iadd, .dsub, .ireturn]
def ps_256 : List Nat := [0, 1, 4, 6, 7, 8, 9, 10, 11, 12, 15, 16, 19, 20, 23, 24, 27]
theorem ck_256 : xChkM 12 false (some .int) prog_14_method_70_code cd_256 ps_256 = true := by decide +kernel
/-- LastCloudModel.mixed([IIIII)I -/
def cd_257 : List Instr := [.aload 0, .iload 2, .invokevirtual 1856968, .istore 6, .iload 6, .aload 1, .iload 2, .iload 3, .iload 4, .iconst 1, .iload 5, .invokestatic 2039940, .iaload, .imul, .iconst 100, .iload 6, .isub, 
  .aload 1, .iload 2, .iload 3, .iload 4, .iconst 0, .iload 5, .invokestatic 2039940, .iaload, .imul, .iadd, .iconst 100, .idiv, .ireturn]
def ps_257 : List Nat := [0, 1, 2, 5, 7, 9, 10, 11, 12, 14, 15, 17, 20, 21, 22, 24, 26, 27, 28, 29, 30, 32, 33, 35, 38, 39, 40, 41, 43, 44]
theorem ck_257 : xChkM 12 false (some .int) prog_14_method_71_code cd_257 ps_257 = true := by decide +kernel
/-- LastCloudModel.isRuled(IIII)Z -/
def cd_258 : List Instr := [.iload 1, .iconst 1, .if_icmp .ne 23, .aload 0, .aload 0, .getfield 12212, .iload 2, .iconst 2, .iadd, .iaload, .iload 3, .iload 4, .iconst 1, .if_icmp .ne 16, .iconst 1, .goto 17, .iconst 0, 
  .invokevirtual 1944976, .ifCond .eq 21, .iconst 1, .goto 22, .iconst 0, .freturn, .iload 1, .iconst 3, .if_icmp .ne 42, .aload 0, .getfield 12212, .iload 2, .iconst 1, .iadd, .iaload, .aload 0, 
  .getfield 12302, .aload 0, .getfield 12212, .iload 2, .iconst 2, .iadd, .iaload, .iaload, .if_icmp .ne 44, .iconst 1, .goto 45, .iconst 0, .freturn]
def ps_258 : List Nat := [0, 1, 2, 5, 6, 7, 10, 11, 12, 13, 14, 15, 17, 18, 21, 22, 25, 26, 29, 32, 33, 36, 37, 38, 39, 40, 43, 44, 47, 48, 49, 50, 51, 52, 55, 56, 59, 60, 61, 62, 63, 64, 67, 68, 71, 72]
theorem ck_258 : xChkM 12 false (some .boolean) prog_14_method_72_code cd_258 ps_258 = true := by decide +kernel
/-- LastCloudModel.looks(IIIIII)V -/
def cd_259 : List Instr := [.iload 2, .iload 3, .iload 4, .iload 5, .iload 6, .invokestatic 2039940, .istore 7, .aload 0, .iload 2, .iconst 1, .invokevirtual 1560972, .iconst 2, .if_icmp .ne 15, .iconst 1, .goto 16, .iconst 0, 
  .istore 8, .aload 0, .getfield 12262, .iload 7, .iload 1, .iconst 2, .if_icmp .ne 31, .iload 8, .ifCond .eq 29, .iconst 10000, .iload 4, .isub, .goto 35, .iconst 0, .goto 35, .aload 0, .iload 2, 
  .iload 4, .invokevirtual 2040972, .iastore, .aload 0, .getfield 12272, .iload 7, .iconst (-1), .iastore, .aload 0, .getfield 12282, .iload 7, .iload 8, .ifCond .eq 48, .iconst 10000, .goto 49, 
  .iconst 0, .iastore, .aload 0, .iload 2, .iload 3, .iload 6, .invokevirtual 2048976, .istore 9, .iload 5, .iconst 1, .if_icmp .ne 80, .iload 4, .aload 0, .getfield 12012, .iconst 8, .iaload, 
  .if_icmp .ge 80, .iload 9, .iload 3, .if_icmp .le 80, .aload 0, .iload 7, .iload 2, .iload 9, .iload 4, .iconst 1, .iadd, .iconst 1, .iload 6, .invokestatic 2039940, .iconst 0, .invokevirtual 2080979, 
  .iload 6, .iconst 1, .if_icmp .ne 93, .aload 0, .iload 7, .iload 2, .iload 3, .iload 4, .iload 5, .iconst 0, .invokestatic 2039940, .iconst 1, .invokevirtual 2080979, .iconst 2, .iload 2, .imul, 
  .iload 6, .iadd, .istore 10, .iconst 0, .istore 11, .iload 11, .aload 0, .getfield 12202, .iload 10, .iaload, .if_icmp .ge 212, .iconst 300, .iload 10, .imul, .iconst 5, .iload 11, .imul, .iadd, 
  .istore 12, .iload 4, .aload 0, .getfield 12212, .iload 12, .iconst 3, .iadd, .iaload, .iadd, .istore 13, .iload 13, .aload 0, .getfield 12012, .iconst 8, .iaload, .if_icmp .le 132, .iconst (-1), 
  .goto 136, .aload 0, .iload 12, .iload 3, .invokevirtual 1912972, .istore 14, .iload 14, .iconst (-1), .if_icmp .eq 210, .aload 0, .iload 1, .iload 12, .iload 14, .iload 6, .invokevirtual 2064980, 
  .ifCond .ne 148, .goto 210, .aload 0, .aload 0, .getfield 12262, .aload 0, .getfield 12212, .iload 12, .iconst 2, .iadd, .iaload, .iload 14, .iload 13, .iload 6, .invokevirtual 2056984, .istore 15, 
  .iload 15, .aload 0, .getfield 12262, .iload 7, .iaload, .if_icmp .gt 169, .goto 210, .aload 0, .getfield 12262, .iload 7, .iload 15, .iastore, .aload 0, .getfield 12272, .iload 7, .iconst 100, 
  .iconst 10, .aload 0, .getfield 12212, .iload 12, .iaload, .imul, .iadd, .aload 0, .getfield 12212, .iload 12, .iconst 1, .iadd, .iaload, .iadd, .iastore, .aload 0, .getfield 12282, .iload 7, .aload 0, 
  .aload 0, .getfield 12282, .aload 0, .getfield 12212, .iload 12, .iconst 2, .iadd, .iaload, .iload 14, .iload 13, .iload 6, .invokevirtual 2056984, .iastore, .iinc 11 1, .goto 101, .return_]
def ps_259 : List Nat := [0, 1, 2, 4, 6, 8, 11, 13, 14, 15, 16, 19, 20, 23, 24, 27, 28, 30, 31, 34, 36, 37, 38, 41, 43, 46, 49, 51, 52, 55, 56, 59, 60, 61, 63, 66, 67, 68, 71, 73, 74, 75, 76, 79, 81, 83, 86, 89, 92, 93, 94, 95, 
  96, 97, 99, 102, 104, 106, 107, 110, 112, 113, 116, 118, 119, 122, 124, 125, 128, 129, 131, 132, 134, 136, 137, 138, 139, 141, 144, 145, 148, 150, 151, 154, 155, 157, 158, 159, 161, 163, 164, 167, 168, 
  171, 172, 173, 174, 176, 177, 179, 180, 182, 184, 185, 188, 190, 191, 194, 197, 199, 200, 201, 203, 204, 205, 207, 209, 210, 213, 215, 216, 217, 218, 219, 221, 223, 224, 227, 229, 230, 233, 234, 237, 
  238, 240, 241, 244, 246, 248, 249, 252, 253, 254, 256, 258, 260, 263, 266, 269, 270, 271, 274, 275, 278, 280, 281, 282, 283, 285, 287, 289, 292, 294, 296, 297, 300, 302, 303, 306, 309, 310, 313, 315, 
  317, 318, 319, 322, 324, 326, 328, 329, 332, 334, 335, 336, 337, 338, 341, 343, 344, 345, 346, 347, 348, 349, 352, 354, 355, 356, 359, 360, 363, 365, 366, 367, 368, 370, 372, 374, 377, 378, 381, 384]
theorem ck_259 : xChkM 12 false none prog_14_method_73_code cd_259 ps_259 = true := by decide +kernel
/-- LastCloudModel.takesOver(III)V -/
def cd_260 : List Instr := [.aload 0, .getfield 12262, .iload 2, .iaload, .aload 0, .getfield 12262, .iload 1, .iaload, .if_icmp .gt 10, .return_, .aload 0, .getfield 12262, .iload 1, .aload 0, .getfield 12262, .iload 2, .iaload, 
  .iastore, .aload 0, .getfield 12272, .iload 1, .iload 3, .iastore, .aload 0, .getfield 12282, .iload 1, .aload 0, .getfield 12282, .iload 2, .iaload, .iastore, .return_]
def ps_260 : List Nat := [0, 1, 4, 5, 6, 7, 10, 11, 12, 15, 16, 17, 20, 21, 22, 25, 26, 27, 28, 29, 32, 33, 34, 35, 36, 39, 40, 41, 44, 45, 46, 47]
theorem ck_260 : xChkM 12 false none prog_14_method_74_code cd_260 ps_260 = true := by decide +kernel
/-- LastCloudModel.solves(I)V -/
def cd_261 : List Instr := [.aload 0, .getfield 12290, .iload 1, .if_icmp .ne 5, .return_, .aload 0, .invokevirtual 1896967, .iconst 0, .istore 2, .iload 2, .aload 0, .getfield 12012, .iconst 1, .iaload, .if_icmp .ge 42, 
  .aload 0, .getfield 12302, .iload 2, .aload 0, .aload 0, .iload 2, .iconst 3, .invokevirtual 1560972, .iconst 1, .if_icmp .ne 37, .iconst 1, .aload 0, .iload 2, .iconst 5, .invokevirtual 1560972, 
  .aload 0, .getfield 12012, .iconst 5, .iaload, .isub, .dadd, .goto 38, .iconst 100, .invokevirtual 1984968, .iastore, .iinc 2 1, .goto 9, .aload 0, .getfield 12012, .iconst 8, .iaload, .istore 2, 
  .iload 2, .ifCond .lt 103, .iconst 0, .istore 3, .iload 3, .aload 0, .getfield 12012, .iconst 6, .iaload, .ifCond .le 59, .iconst 1, .goto 60, .iconst 0, .if_icmp .gt 101, .iconst 0, .istore 4, 
  .iload 4, .aload 0, .getfield 12012, .iconst 1, .iaload, .if_icmp .ge 99, .aload 0, .iload 4, .iconst 0, .invokevirtual 1560972, .istore 5, .iload 5, .aload 0, .getfield 12012, .iconst 7, .iaload, 
  .if_icmp .gt 97, .iconst 0, .istore 6, .iload 6, .iconst 2, .if_icmp .ge 95, .aload 0, .iload 1, .iload 4, .iload 5, .iload 2, .iload 6, .iload 3, .invokevirtual 2072991, .iinc 6 1, .goto 82, 
  .iinc 5 1, .goto 74, .iinc 4 1, .goto 63, .iinc 3 1, .goto 51, .iinc 2 (-1), .goto 47, .aload 0, .iload 1, .putfield 12290, .return_]
def ps_261 : List Nat := [0, 1, 4, 5, 8, 9, 10, 13, 14, 15, 16, 17, 20, 21, 22, 25, 26, 29, 30, 31, 32, 33, 34, 37, 38, 41, 42, 43, 44, 45, 48, 49, 52, 53, 54, 55, 58, 61, 63, 66, 67, 70, 73, 74, 77, 79, 80, 81, 82, 85, 86, 87, 
  88, 89, 92, 94, 95, 98, 99, 102, 103, 106, 107, 109, 111, 112, 115, 116, 117, 120, 121, 123, 124, 127, 129, 131, 132, 135, 137, 138, 141, 142, 144, 146, 147, 150, 151, 152, 154, 156, 157, 159, 160, 
  163, 166, 169, 172, 175, 178, 181, 184, 187, 190, 193, 194, 195, 198]
theorem ck_261 : xChkM 12 false none prog_14_method_75_code cd_261 ps_261 = true := by decide +kernel
/-- LastCloudModel.isRule(I)Z -/
def cd_262 : List Instr := [.iload 0, .i2l, .jsr 0, .jsr 3, .invokestatic 1511932, .freturn]
def ps_262 : List Nat := [0, 1, 2, 3, 6, 9]
theorem ck_262 : xChkM 12 false (some .boolean) prog_14_method_76_code cd_262 ps_262 = true := by decide +kernel
/-- LastCloudModel.isState(IIIZ)Z -/
def cd_263 : List Instr := [.aload 0, .iload 1, .iload 2, .invokevirtual 1928972, .ifCond .eq 24, .iload 3, .i2l, .jsr 0, .aload 0, .getfield 12012, .iconst 8, .iaload, .i2l, .invokestatic 1511932, .ifCond .eq 24, .iload 4, 
  .ifCond .eq 22, .aload 0, .getfield 12012, .iconst 6, .iaload, .ifCond .le 24, .iconst 1, .goto 25, .iconst 0, .freturn]
def ps_263 : List Nat := [0, 1, 2, 3, 6, 9, 10, 11, 12, 13, 16, 18, 19, 20, 23, 26, 28, 31, 32, 35, 37, 38, 41, 42, 45, 46]
theorem ck_263 : xChkM 12 false (some .boolean) prog_14_method_77_code cd_263 ps_263 = true := by decide +kernel
/-- LastCloudModel.bit(Z)I -/
def cd_264 : List Instr := [.iload 0, .ifCond .eq 4, .iconst 1, .goto 5, .iconst 0, .ireturn]
def ps_264 : List Nat := [0, 1, 4, 5, 8, 9]
theorem ck_264 : xChkM 12 false (some .int) prog_14_method_78_code cd_264 ps_264 = true := by decide +kernel
/-- LastCloudModel.worth(IIIIZZ)I -/
def cd_265 : List Instr := [.iload 1, .invokestatic 2103924, .ifCond .eq 10, .aload 0, .iload 2, .iload 3, .iload 4, .iload 6, .invokevirtual 2104980, .ifCond .ne 12, .iconst (-2000000000), .ireturn, .aload 0, .iload 1, 
  .invokevirtual 2088971, .aload 0, .getfield 12262, .iload 2, .iload 3, .iload 4, .iload 5, .invokestatic 2119924, .iload 6, .invokestatic 2119924, .invokestatic 2039940, .iaload, .ireturn]
def ps_265 : List Nat := [0, 1, 4, 7, 8, 9, 10, 12, 14, 17, 20, 23, 24, 25, 26, 29, 30, 33, 34, 35, 37, 39, 42, 44, 47, 50, 51]
theorem ck_265 : xChkM 12 false (some .int) prog_14_method_79_code cd_265 ps_265 = true := by decide +kernel
/-- LastCloudModel.deed(IIIIZZ)I -/
def cd_266 : List Instr := [.iload 1, .invokestatic 2103924, .ifCond .eq 10, .aload 0, .iload 2, .iload 3, .iload 4, .iload 6, .invokevirtual 2104980, .ifCond .ne 12, .iconst (-2), .ireturn, .aload 0, .iload 1, 
  .invokevirtual 2088971, .aload 0, .getfield 12272, .iload 2, .iload 3, .iload 4, .iload 5, .invokestatic 2119924, .iload 6, .invokestatic 2119924, .invokestatic 2039940, .iaload, .ireturn]
def ps_266 : List Nat := [0, 1, 4, 7, 8, 9, 10, 12, 14, 17, 20, 22, 23, 24, 25, 28, 29, 32, 33, 34, 36, 38, 41, 43, 46, 49, 50]
theorem ck_266 : xChkM 12 false (some .int) prog_14_method_80_code cd_266 ps_266 = true := by decide +kernel
/-- LastCloudModel.home(IIIIZZ)I -/
def cd_267 : List Instr := [.iload 1, .invokestatic 2103924, .ifCond .eq 10, .aload 0, .iload 2, .iload 3, .iload 4, .iload 6, .invokevirtual 2104980, .ifCond .ne 12, .iconst (-2), .ireturn, .aload 0, .iload 1, 
  .invokevirtual 2088971, .aload 0, .getfield 12282, .iload 2, .iload 3, .iload 4, .iload 5, .invokestatic 2119924, .iload 6, .invokestatic 2119924, .invokestatic 2039940, .iaload, .ireturn]
def ps_267 : List Nat := [0, 1, 4, 7, 8, 9, 10, 12, 14, 17, 20, 22, 23, 24, 25, 28, 29, 32, 33, 34, 36, 38, 41, 43, 46, 49, 50]
theorem ck_267 : xChkM 12 false (some .int) prog_14_method_81_code cd_267 ps_267 = true := by decide +kernel
/-- LastCloudModel.hasStart()Z -/
def cd_268 : List Instr := [.aload 0, .getfield 12012, .iconst 12, .iaload, .iconst (-1), .if_icmp .eq 8, .iconst 1, .goto 9, .iconst 0, .freturn]
def ps_268 : List Nat := [0, 1, 4, 6, 7, 8, 11, 12, 15, 16]
theorem ck_268 : xChkM 12 false (some .boolean) prog_14_method_82_code cd_268 ps_268 = true := by decide +kernel
/-- LastCloudModel.startWet()I -/
def cd_269 : List Instr := [.aload 0, .getfield 12012, .iconst 14, .iaload, .iconst 1, .if_icmp .ne 13, .aload 0, .getfield 12012, .iconst 6, .iaload, .ifCond .le 13, .iconst 1, .goto 14, .iconst 0, .ireturn]
def ps_269 : List Nat := [0, 1, 4, 6, 7, 8, 11, 12, 15, 17, 18, 21, 22, 25, 26]
theorem ck_269 : xChkM 12 false (some .int) prog_14_method_83_code cd_269 ps_269 = true := by decide +kernel
end
section
/-- LastCloudModel.startOf(II)I -/
def cd_270 : List Instr := [.aload 0, .iload 1, .invokevirtual 2088971, .aload 0, .aload 0, .getfield 12262, .aload 0, .getfield 12012, .iconst 12, .iaload, .aload 0, .getfield 12012, .iconst 13, .iaload, .iconst 0, .iload 2, 
  .invokevirtual 2056984, .ireturn]
def ps_270 : List Nat := [0, 1, 2, 5, 6, 7, 10, 11, 14, 16, 17, 18, 21, 23, 24, 25, 26, 29]
theorem ck_270 : xChkM 12 false (some .int) prog_14_method_84_code cd_270 ps_270 = true := by decide +kernel
/-- LastCloudModel.start(I)I -/
def cd_271 : List Instr := [.iload 1, .invokestatic 2103924, .ifCond .eq 12, .aload 0, .invokevirtual 2144964, .ifCond .eq 12, .aload 0, .iload 1, .aload 0, .invokevirtual 2152964, .invokevirtual 2160972, .goto 13, 
  .iconst (-2000000000), .ireturn]
def ps_271 : List Nat := [0, 1, 4, 7, 8, 11, 14, 15, 16, 17, 20, 23, 26, 29]
theorem ck_271 : xChkM 12 false (some .int) prog_14_method_85_code cd_271 ps_271 = true := by decide +kernel
/-- LastCloudModel.cost(I)I -/
def cd_272 : List Instr := [.iload 1, .iconst 1, .if_icmp .eq 6, .iload 1, .iconst 3, .if_icmp .ne 9, .aload 0, .invokevirtual 2144964, .ifCond .ne 11, .iconst (-2000000000), .ireturn, .aload 0, .iload 1, .aload 0, 
  .invokevirtual 2152964, .invokevirtual 2160972, .istore 2, .aload 0, .iconst 0, .aload 0, .invokevirtual 2152964, .invokevirtual 2160972, .iload 2, .isub, .ireturn]
def ps_272 : List Nat := [0, 1, 2, 5, 6, 7, 10, 11, 14, 17, 20, 21, 22, 23, 24, 27, 30, 31, 32, 33, 34, 37, 40, 41, 42]
theorem ck_272 : xChkM 12 false (some .int) prog_14_method_86_code cd_272 ps_272 = true := by decide +kernel
/-- LastCloudModel.leaves(IIZI)I -/
def cd_273 : List Instr := [.aload 0, .iload 1, .invokevirtual 1552968, .ifCond .eq 21, .iload 2, .i2l, .jsr 0, .aload 0, .getfield 12012, .iconst 8, .iaload, .i2l, .invokestatic 1511932, .ifCond .eq 21, .iload 3, .ifCond .eq 23, 
  .aload 0, .getfield 12012, .iconst 6, .iaload, .ifCond .ne 23, .iconst (-2), .ireturn, .aload 0, .iconst 0, .invokevirtual 2088971, .aload 0, .iload 1, .iconst 0, .invokevirtual 1560972, .istore 5, 
  .iload 5, .aload 0, .getfield 12012, .iconst 7, .iaload, .if_icmp .gt 53, .aload 0, .getfield 12272, .iload 1, .iload 5, .iload 2, .iload 4, .iload 3, .invokestatic 2119924, .invokestatic 2039940, 
  .iaload, .iconst 100, .if_icmp .lt 51, .iload 5, .ireturn, .iinc 5 1, .goto 31, .iconst (-1), .ireturn]
def ps_273 : List Nat := [0, 1, 2, 5, 8, 9, 10, 11, 12, 15, 17, 18, 19, 22, 25, 26, 29, 30, 33, 35, 36, 39, 41, 42, 43, 44, 47, 48, 49, 50, 53, 55, 57, 58, 61, 63, 64, 67, 68, 71, 72, 74, 75, 77, 78, 81, 84, 85, 87, 90, 92, 93, 
  96, 99, 100]
theorem ck_273 : xChkM 12 false (some .int) prog_14_method_87_code cd_273 ps_273 = true := by decide +kernel
/-- LastCloudModel.leave(IIZ)I -/
def cd_274 : List Instr := [.aload 0, .iload 1, .iload 2, .iload 3, .iconst 1, .invokevirtual 2184980, .ireturn]
def ps_274 : List Nat := [0, 1, 2, 3, 4, 5, 8]
theorem ck_274 : xChkM 12 false (some .int) prog_14_method_88_code cd_274 ps_274 = true := by decide +kernel
/-- LastCloudModel.on(IIZ)I -/
def cd_275 : List Instr := [.aload 0, .iload 1, .iload 2, .iload 3, .iconst 0, .invokevirtual 2184980, .ireturn]
def ps_275 : List Nat := [0, 1, 2, 3, 4, 5, 8]
theorem ck_275 : xChkM 12 false (some .int) prog_14_method_89_code cd_275 ps_275 = true := by decide +kernel
/-- LastCloudModel.last(II)I -/
def cd_276 : List Instr := [.aload 0, .iload 1, .iload 2, .invokevirtual 1928972, .ifCond .ne 7, .iconst (-2), .ireturn, .aload 0, .iconst 0, .invokevirtual 2088971, .aload 0, .getfield 12012, .iconst 8, .iaload, .istore 3, 
  .iload 3, .ifCond .lt 32, .aload 0, .getfield 12282, .iload 1, .iload 2, .iload 3, .iconst 0, .iconst 0, .invokestatic 2039940, .iaload, .iconst 10000, .if_icmp .ne 30, .iload 3, .ireturn, 
  .iinc 3 (-1), .goto 15, .iconst (-1), .ireturn]
def ps_276 : List Nat := [0, 1, 2, 3, 6, 9, 11, 12, 13, 14, 17, 18, 21, 23, 24, 25, 26, 29, 30, 33, 34, 35, 36, 37, 38, 41, 42, 45, 48, 49, 50, 53, 56, 57]
theorem ck_276 : xChkM 12 false (some .int) prog_14_method_90_code cd_276 ps_276 = true := by decide +kernel
/-- LastCloudModel.weak(III)I -/
def cd_277 : List Instr := [.aload 0, .iload 1, .iload 2, .iload 3, .iconst 0, .invokevirtual 2104980, .ifCond .ne 9, .iconst (-2), .ireturn, .aload 0, .iload 1, .iconst 3, .invokevirtual 1560972, .ifCond .ne 16, .iconst (-1), 
  .ireturn, .iconst (-1), .istore 4, .aload 0, .iload 1, .putfield 12180, .aload 0, .iconst 0, .putfield 12190, .aload 0, .getfield 12190, .iconst 2000, .if_icmp .gt 57, .iload 4, .iconst (-1), 
  .if_icmp .ne 57, .aload 0, .iconst (-1), .putfield 12290, .aload 0, .iconst 0, .invokevirtual 2088971, .aload 0, .getfield 12272, .iload 1, .iload 2, .iload 3, .iconst 1, .iconst 0, 
  .invokestatic 2039940, .iaload, .ifCond .ne 50, .aload 0, .getfield 12190, .istore 4, .aload 0, .dup, .getfield 12190, .iconst 250, .iadd, .putfield 12190, .goto 24, .aload 0, .iconst (-1), 
  .putfield 12180, .aload 0, .iconst (-1), .putfield 12290, .iload 4, .ireturn]
def ps_277 : List Nat := [0, 1, 2, 3, 4, 5, 8, 11, 13, 14, 15, 16, 17, 20, 23, 24, 25, 26, 28, 29, 30, 33, 34, 35, 38, 39, 42, 45, 48, 50, 51, 54, 55, 56, 59, 60, 61, 64, 65, 68, 69, 70, 71, 72, 73, 76, 77, 80, 81, 84, 86, 87, 
  88, 91, 94, 95, 98, 101, 102, 103, 106, 107, 108, 111, 113]
theorem ck_277 : xChkM 12 false (some .int) prog_14_method_91_code cd_277 ps_277 = true := by decide +kernel
/-- LastCloudModel.endsBehind(IIIIZ)I -/
def cd_278 : List Instr := [.aload 0, .iload 1, .invokevirtual 1856968, .istore 6, .aload 0, .getfield 12312, .iload 1, .iload 2, .iload 3, .iconst 1, .iload 4, .invokestatic 2039940, .iaload, .istore 7, .aload 0, 
  .getfield 12312, .iload 1, .iload 2, .iload 3, .iconst 0, .iload 4, .invokestatic 2039940, .iaload, .istore 8, .iload 6, .ifCond .ne 28, .iload 8, .ireturn, .iload 6, .iconst 100, .if_icmp .ne 33, 
  .iload 7, .ireturn, .iload 5, .ifCond .eq 39, .iload 7, .iload 8, .dadd, .goto 42, .iload 7, .iload 8, .dsub, .ireturn]
def ps_278 : List Nat := [0, 1, 2, 5, 7, 8, 11, 12, 13, 14, 15, 17, 20, 21, 23, 24, 27, 28, 29, 30, 31, 33, 36, 37, 39, 41, 44, 46, 47, 49, 51, 54, 56, 57, 59, 62, 64, 66, 69, 72, 74, 76, 79]
theorem ck_278 : xChkM 12 false (some .int) prog_14_method_92_code cd_278 ps_278 = true := by decide +kernel
/-- LastCloudModel.endOf(IIIIIZ)I -/
def cd_279 : List Instr := [.aload 0, .getfield 12272, .iload 1, .iload 2, .iload 3, .iload 4, .iload 5, .invokestatic 2039940, .iaload, .istore 7, .iload 7, .iconst (-1), .if_icmp .ne 18, .aload 0, .iload 1, .iload 3, 
  .invokevirtual 2040972, .ireturn, .iload 7, .ifCond .ne 36, .aload 0, .getfield 12312, .iload 1, .aload 0, .iload 1, .iload 2, .iload 5, .invokevirtual 2048976, .iload 3, .iconst 1, .iadd, .iconst 1, 
  .iload 5, .invokestatic 2039940, .iaload, .ireturn, .iload 7, .iconst 1, .if_icmp .ne 49, .aload 0, .getfield 12312, .iload 1, .iload 2, .iload 3, .iload 4, .iconst 0, .invokestatic 2039940, .iaload, 
  .ireturn, .aload 0, .iload 1, .iload 5, .iload 7, .invokevirtual 2240976, .istore 8, .aload 0, .aload 0, .getfield 12212, .iload 8, .iconst 2, .iadd, .iaload, .aload 0, .iload 8, .iload 2, 
  .invokevirtual 1912972, .iload 3, .aload 0, .getfield 12212, .iload 8, .iconst 3, .iadd, .iaload, .iadd, .iload 5, .iload 6, .invokevirtual 2224984, .ireturn]
def ps_279 : List Nat := [0, 1, 4, 5, 6, 7, 9, 11, 14, 15, 17, 19, 20, 23, 24, 25, 26, 29, 30, 32, 35, 36, 39, 40, 41, 42, 43, 45, 48, 49, 50, 51, 52, 54, 57, 58, 59, 61, 62, 65, 66, 69, 70, 71, 72, 74, 75, 78, 79, 80, 81, 82, 
  84, 86, 89, 91, 92, 93, 96, 98, 99, 100, 101, 102, 104, 105, 108, 109, 110, 113, 115, 116, 117, 118, 119, 121, 123, 126]
theorem ck_279 : xChkM 12 false (some .int) prog_14_method_93_code cd_279 ps_279 = true := by decide +kernel
/-- LastCloudModel.wayOf(III)I -/
def cd_280 : List Instr := [.iconst 2, .iload 1, .imul, .iload 2, .iadd, .istore 4, .iconst 0, .istore 5, .iload 5, .aload 0, .getfield 12202, .iload 4, .iaload, .if_icmp .ge 43, .iconst 300, .iload 4, .imul, .iconst 5, .iload 5, 
  .imul, .iadd, .istore 6, .iconst 100, .iconst 10, .aload 0, .getfield 12212, .iload 6, .iaload, .imul, .iadd, .aload 0, .getfield 12212, .iload 6, .iconst 1, .iadd, .iaload, .iadd, .iload 3, 
  .if_icmp .ne 41, .iload 6, .ireturn, .iinc 5 1, .goto 8, .iconst (-1), .ireturn]
def ps_280 : List Nat := [0, 1, 2, 3, 4, 5, 7, 8, 10, 12, 13, 16, 18, 19, 22, 25, 27, 28, 29, 31, 32, 33, 35, 37, 39, 40, 43, 45, 46, 47, 48, 49, 52, 54, 55, 56, 57, 58, 59, 62, 64, 65, 68, 71, 72]
theorem ck_280 : xChkM 12 false (some .int) prog_14_method_94_code cd_280 ps_280 = true := by decide +kernel
/-- LastCloudModel.ends(IZ)I -/
def cd_281 : List Instr := [.iload 1, .invokestatic 2103924, .ifCond .eq 6, .aload 0, .invokevirtual 2144964, .ifCond .ne 8, .iconst (-2000000000), .ireturn, .aload 0, .iload 1, .invokevirtual 2088971, .aload 0, .getfield 12012, 
  .iconst 8, .iaload, .istore 3, .iload 3, .ifCond .lt 81, .iconst 0, .istore 4, .iload 4, .aload 0, .getfield 12012, .iconst 6, .iaload, .ifCond .le 28, .iconst 1, .goto 29, .iconst 0, .if_icmp .gt 79, 
  .iconst 0, .istore 5, .iload 5, .aload 0, .getfield 12012, .iconst 1, .iaload, .if_icmp .ge 77, .aload 0, .iload 5, .iconst 0, .invokevirtual 1560972, .istore 6, .iload 6, .aload 0, .getfield 12012, 
  .iconst 7, .iaload, .if_icmp .gt 75, .iconst 0, .istore 7, .iload 7, .iconst 2, .if_icmp .ge 73, .aload 0, .getfield 12312, .iload 5, .iload 6, .iload 3, .iload 7, .iload 4, .invokestatic 2039940, 
  .aload 0, .iload 5, .iload 6, .iload 3, .iload 7, .iload 4, .iload 2, .invokevirtual 2232988, .iastore, .iinc 7 1, .goto 51, .iinc 6 1, .goto 43, .iinc 5 1, .goto 32, .iinc 4 1, .goto 20, .iinc 3 (-1), 
  .goto 16, .aload 0, .aload 0, .getfield 12012, .iconst 12, .iaload, .aload 0, .getfield 12012, .iconst 13, .iaload, .iconst 0, .aload 0, .invokevirtual 2152964, .iload 2, .invokevirtual 2224984, 
  .ireturn]
def ps_281 : List Nat := [0, 1, 4, 7, 8, 11, 14, 17, 18, 19, 20, 23, 24, 27, 29, 30, 31, 32, 35, 36, 38, 40, 41, 44, 46, 47, 50, 51, 54, 55, 58, 59, 61, 63, 64, 67, 68, 69, 72, 73, 75, 76, 79, 81, 83, 84, 87, 89, 90, 93, 94, 
  96, 98, 99, 102, 103, 106, 108, 110, 111, 113, 115, 118, 119, 121, 123, 124, 126, 128, 129, 132, 133, 136, 139, 142, 145, 148, 151, 154, 157, 160, 163, 164, 165, 168, 170, 171, 172, 175, 177, 178, 179, 
  180, 183, 184, 187]
theorem ck_281 : xChkM 12 false (some .int) prog_14_method_95_code cd_281 ps_281 = true := by decide +kernel
/-- LastCloudModel.startWith(II)I -/
def cd_282 : List Instr := [.aload 0, .iload 1, .putfield 12160, .aload 0, .iload 2, .putfield 12170, .aload 0, .iconst (-1), .putfield 12290, .aload 0, .iconst 0, .aload 0, .invokevirtual 2152964, .invokevirtual 2160972, 
  .istore 3, .aload 0, .iconst (-1), .putfield 12160, .aload 0, .iconst (-1), .putfield 12290, .iload 3, .ireturn]
def ps_282 : List Nat := [0, 1, 2, 5, 6, 7, 10, 11, 12, 15, 16, 17, 18, 21, 24, 25, 26, 27, 30, 31, 32, 35, 36]
theorem ck_282 : xChkM 12 false (some .int) prog_14_method_96_code cd_282 ps_282 = true := by decide +kernel
/-- LastCloudModel.share(I)I -/
def cd_283 : List Instr := [.aload 0, .iload 1, .invokevirtual 1552968, .ifCond .eq 18, .aload 0, .invokevirtual 2144964, .ifCond .eq 18, .aload 0, .iload 1, .iconst 100, .invokevirtual 2256972, .aload 0, .iconst 0, .aload 0, 
  .invokevirtual 2152964, .invokevirtual 2160972, .isub, .goto 19, .iconst (-2000000000), .ireturn]
def ps_283 : List Nat := [0, 1, 2, 5, 8, 9, 12, 15, 16, 17, 19, 22, 23, 24, 25, 28, 31, 32, 35, 38]
theorem ck_283 : xChkM 12 false (some .int) prog_14_method_97_code cd_283 ps_283 = true := by decide +kernel
/-- LastCloudModel.known(I)I -/
def cd_284 : List Instr := [.aload 0, .iload 1, .invokevirtual 1552968, .ifCond .eq 7, .aload 0, .invokevirtual 2144964, .ifCond .ne 9, .iconst (-2000000000), .ireturn, .aload 0, .iload 1, .invokevirtual 1848968, .istore 2, 
  .aload 0, .iload 1, .iconst 100, .invokevirtual 2256972, .istore 3, .aload 0, .iload 1, .iconst 0, .invokevirtual 2256972, .istore 4, .iload 2, .iload 3, .imul, .iconst 100, .iload 2, .isub, .iload 4, 
  .imul, .iadd, .iconst 100, .idiv, .aload 0, .iconst 0, .aload 0, .invokevirtual 2152964, .invokevirtual 2160972, .isub, .ireturn]
def ps_284 : List Nat := [0, 1, 2, 5, 8, 9, 12, 15, 18, 19, 20, 21, 24, 25, 26, 27, 29, 32, 33, 34, 35, 36, 39, 41, 42, 43, 44, 46, 47, 48, 50, 51, 52, 54, 55, 56, 57, 58, 61, 64, 65]
theorem ck_284 : xChkM 12 false (some .int) prog_14_method_98_code cd_284 ps_284 = true := by decide +kernel
/-- LastCloudModel.hawk(I)I -/
def cd_285 : List Instr := [.aload 0, .iload 1, .invokevirtual 1552968, .ifCond .eq 7, .aload 0, .invokevirtual 2144964, .ifCond .ne 9, .iconst (-2000000000), .ireturn, .aload 0, .iload 1, .invokevirtual 1848968, .istore 2, 
  .iload 2, .aload 0, .iload 1, .iconst 6, .invokevirtual 1560972, .imul, .iconst 100, .iload 2, .isub, .aload 0, .iload 1, .iconst 7, .invokevirtual 1560972, .imul, .iadd, .istore 3, .aload 0, .iload 1, 
  .iload 2, .iconst 1, .iconst 100, .invokevirtual 1840980, .istore 4, .aload 0, .iload 1, .iload 2, .iconst 0, .iconst 100, .invokevirtual 1840980, .istore 5, .aload 0, .iload 1, .iload 4, .iconst (-1), 
  .if_icmp .ne 50, .iload 2, .goto 51, .iload 4, .invokevirtual 2256972, .istore 6, .aload 0, .iload 1, .iload 5, .iconst (-1), .if_icmp .ne 60, .iload 2, .goto 61, .iload 5, .invokevirtual 2256972, 
  .istore 7, .iload 3, .iload 6, .imul, .iconst 10000, .iload 3, .isub, .iload 7, .imul, .iadd, .iconst 10000, .idiv, .aload 0, .iconst 0, .aload 0, .invokevirtual 2152964, .invokevirtual 2160972, .isub, 
  .ireturn]
def ps_285 : List Nat := [0, 1, 2, 5, 8, 9, 12, 15, 18, 19, 20, 21, 24, 25, 26, 27, 28, 30, 33, 34, 36, 37, 38, 39, 40, 42, 45, 46, 47, 48, 49, 50, 51, 52, 54, 57, 59, 60, 61, 62, 63, 65, 68, 70, 71, 72, 74, 75, 78, 79, 82, 84, 
  87, 89, 90, 91, 93, 94, 97, 98, 101, 103, 106, 108, 109, 111, 112, 115, 116, 117, 119, 120, 121, 124, 125, 126, 127, 128, 131, 134, 135]
theorem ck_285 : xChkM 12 false (some .int) prog_14_method_99_code cd_285 ps_285 = true := by decide +kernel
/-- LastCloudModel.water()I -/
def cd_286 : List Instr := [.aload 0, .invokevirtual 2144964, .ifCond .ne 5, .iconst (-2000000000), .ireturn, .aload 0, .getfield 12012, .iconst 6, .iaload, .ifCond .ne 12, .iconst 0, .goto 21, .aload 0, .iconst 0, .iconst 1, 
  .invokevirtual 2160972, .aload 0, .iconst 0, .iconst 0, .invokevirtual 2160972, .isub, .ireturn]
def ps_286 : List Nat := [0, 1, 4, 7, 10, 11, 12, 15, 17, 18, 21, 22, 25, 26, 27, 28, 31, 32, 33, 34, 37, 38]
theorem ck_286 : xChkM 12 false (some .int) prog_14_method_100_code cd_286 ps_286 = true := by decide +kernel
/-- LastCloudModel.drop()I -/
def cd_287 : List Instr := [.aload 0, .invokevirtual 2144964, .ifCond .eq 6, .aload 0, .invokevirtual 2152964, .ifCond .ne 8, .iconst (-1), .ireturn, .aload 0, .iconst 0, .invokevirtual 2088971, .aload 0, .getfield 12012, 
  .iconst 12, .iaload, .istore 1, .aload 0, .getfield 12012, .iconst 13, .iaload, .istore 2, .iconst 0, .istore 3, .aload 0, .getfield 12272, .iload 1, .iload 2, .iload 3, .aload 0, .iload 1, .iconst 3, 
  .invokevirtual 1560972, .iconst 1, .invokestatic 2039940, .iaload, .istore 4, .iload 4, .iconst (-1), .if_icmp .ne 41, .iconst (-1), .ireturn, .iload 4, .iconst 1, .if_icmp .ne 46, .iload 3, .ireturn, 
  .iload 4, .ifCond .ne 56, .aload 0, .iload 1, .iload 2, .iconst 1, .invokevirtual 2048976, .istore 2, .iinc 3 1, .goto 23, .aload 0, .iload 1, .iconst 1, .iload 4, .invokevirtual 2240976, .istore 5, 
  .aload 0, .iload 5, .iload 2, .invokevirtual 1912972, .istore 2, .iload 3, .aload 0, .getfield 12212, .iload 5, .iconst 3, .iadd, .iaload, .iadd, .istore 3, .aload 0, .getfield 12212, .iload 5, 
  .iconst 2, .iadd, .iaload, .istore 1, .goto 23]
def ps_287 : List Nat := [0, 1, 4, 7, 8, 11, 14, 15, 16, 17, 18, 21, 22, 25, 27, 28, 29, 30, 33, 35, 36, 37, 38, 39, 40, 43, 44, 45, 46, 47, 48, 49, 52, 53, 56, 57, 59, 61, 62, 65, 66, 67, 69, 70, 73, 74, 75, 77, 80, 81, 82, 
  83, 84, 87, 88, 91, 94, 95, 96, 97, 99, 102, 104, 105, 107, 108, 111, 112, 113, 114, 117, 119, 120, 121, 122, 123, 124, 125, 128, 130, 131, 132, 133, 134]
theorem ck_287 : xChkM 12 false (some .int) prog_14_method_101_code cd_287 ps_287 = true := by decide +kernel
/-- LastCloudModel.draw(I)I -/
def cd_288 : List Instr := [.aload 0, .jsr 1103515245, .aload 0, .getfield 12321, .lmul, .jsr 12345, .ladd, .jsr 2147483648, .lrem, .putfield 12321, .aload 0, .getfield 12321, .jsr 65536, .ldiv, .iload 1, .i2l, .lrem, .l2i, 
  .ireturn]
def ps_288 : List Nat := [0, 1, 4, 5, 8, 9, 12, 13, 16, 17, 20, 21, 24, 27, 28, 29, 30, 31, 32]
theorem ck_288 : xChkM 12 false (some .int) prog_14_method_102_code cd_288 ps_288 = true := by decide +kernel
/-- LastCloudModel.sets(I)V -/
def cd_289 : List Instr := [.aload 0, .iload 1, .i2l, .putfield 12321, .aload 0, .aload 0, .getfield 12012, .iconst 12, .iaload, .putfield 12330, .aload 0, .aload 0, .getfield 12012, .iconst 13, .iaload, .putfield 12340, 
  .aload 0, .iconst 0, .putfield 12350, .aload 0, .aload 0, .invokevirtual 2152964, .putfield 12370, .aload 0, .aload 0, .iconst 100, .invokevirtual 2304968, .aload 0, .aload 0, .getfield 12330, 
  .invokevirtual 1856968, .if_icmp .ge 34, .iconst 1, .goto 35, .iconst 0, .putfield 12360, .aload 0, .iconst 0, .putfield 12380, .return_]
def ps_289 : List Nat := [0, 1, 2, 3, 6, 7, 8, 11, 13, 14, 17, 18, 19, 22, 24, 25, 28, 29, 30, 33, 34, 35, 38, 41, 42, 43, 45, 48, 49, 50, 53, 56, 59, 60, 63, 64, 67, 68, 69, 72]
theorem ck_289 : xChkM 12 false none prog_14_method_103_code cd_289 ps_289 = true := by decide +kernel
/-- LastCloudModel.does(J)Z -/
def cd_290 : List Instr := [.lload 1, .jsr (-1), .lcmp, .ifCond .ne 6, .iconst 1, .freturn, .lload 1, .jsr 0, .lcmp, .ifCond .ne 46, .aload 0, .aload 0, .getfield 12330, .aload 0, .getfield 12340, .aload 0, .getfield 12370, 
  .invokevirtual 2048976, .istore 3, .aload 0, .getfield 12360, .ifCond .eq 33, .aload 0, .getfield 12350, .aload 0, .getfield 12012, .iconst 8, .iaload, .if_icmp .ge 33, .iload 3, .aload 0, 
  .getfield 12340, .if_icmp .gt 35, .iconst 0, .freturn, .aload 0, .iload 3, .putfield 12340, .aload 0, .dup, .getfield 12350, .iconst 1, .iadd, .putfield 12350, .iconst 1, .freturn, .lload 1, .jsr 1, 
  .lcmp, .ifCond .ne 60, .aload 0, .getfield 12370, .ifCond .ne 55, .iconst 0, .freturn, .aload 0, .iconst 0, .putfield 12370, .iconst 1, .freturn, .lload 1, .jsr 100, .jsr 199, .invokestatic 1511932, 
  .ifCond .eq 74, .aload 0, .aload 0, .getfield 12330, .aload 0, .getfield 12370, .lload 1, .l2i, .invokevirtual 2240976, .goto 75, .iconst (-1), .istore 3, .iload 3, .iconst (-1), .if_icmp .eq 100, 
  .aload 0, .getfield 12350, .aload 0, .getfield 12212, .iload 3, .iconst 3, .iadd, .iaload, .iadd, .aload 0, .getfield 12012, .iconst 8, .iaload, .if_icmp .gt 100, .aload 0, .iload 3, .aload 0, 
  .getfield 12340, .invokevirtual 1912972, .iconst (-1), .if_icmp .ne 102, .iconst 0, .freturn, .aload 0, .aload 0, .iload 3, .aload 0, .getfield 12340, .invokevirtual 1912972, .putfield 12340, .aload 0, 
  .dup, .getfield 12350, .aload 0, .getfield 12212, .iload 3, .iconst 3, .iadd, .iaload, .iadd, .putfield 12350, .aload 0, .aload 0, .getfield 12212, .iload 3, .iconst 2, .iadd, .iaload, .putfield 12330, 
  .aload 0, .aload 0, .iconst 100, .invokevirtual 2304968, .aload 0, .aload 0, .getfield 12330, .invokevirtual 1856968, .if_icmp .ge 139, .iconst 1, .goto 140, .iconst 0, .putfield 12360, .iconst 1, 
  .freturn]
def ps_290 : List Nat := [0, 1, 4, 5, 8, 9, 10, 11, 12, 13, 16, 17, 18, 21, 22, 25, 26, 29, 32, 33, 34, 37, 40, 41, 44, 45, 48, 50, 51, 54, 55, 56, 59, 62, 63, 64, 65, 66, 69, 70, 71, 74, 75, 76, 79, 80, 81, 82, 83, 84, 87, 88, 
  91, 94, 95, 96, 97, 98, 101, 102, 103, 104, 107, 110, 113, 116, 117, 118, 121, 122, 125, 126, 127, 130, 133, 134, 135, 136, 137, 140, 141, 144, 145, 148, 149, 150, 151, 152, 153, 154, 157, 159, 160, 
  163, 164, 165, 166, 169, 172, 173, 176, 177, 178, 179, 180, 181, 182, 185, 188, 191, 192, 193, 196, 197, 200, 201, 202, 203, 204, 205, 208, 209, 210, 213, 214, 215, 216, 217, 220, 221, 222, 224, 227, 
  228, 229, 232, 235, 238, 239, 242, 243, 246, 247]
theorem ck_290 : xChkM 12 false (some .boolean) prog_14_method_104_code cd_290 ps_290 = true := by decide +kernel
/-- LastCloudModel.flies(II)V -/
def cd_291 : List Instr := [.aload 0, .iload 1, .invokevirtual 2088971, .aload 0, .iload 2, .invokevirtual 2312971, .iconst 0, .istore 3, .iload 3, .iconst (-1), .if_icmp .eq 87, .aload 0, .getfield 12380, .iconst 100, 
  .if_icmp .ne 17, .iconst (-1), .goto 31, .aload 0, .getfield 12272, .aload 0, .getfield 12330, .aload 0, .getfield 12340, .aload 0, .getfield 12350, .aload 0, .getfield 12360, .aload 0, 
  .getfield 12370, .invokestatic 2039940, .iaload, .istore 3, .iconst 5, .aload 0, .getfield 12380, .imul, .istore 4, .aload 0, .getfield 12392, .iload 4, .iload 3, .iastore, .aload 0, .getfield 12392, 
  .iload 4, .iconst 1, .iadd, .aload 0, .getfield 12330, .iastore, .aload 0, .getfield 12392, .iload 4, .iconst 2, .iadd, .aload 0, .getfield 12340, .iastore, .aload 0, .getfield 12392, .iload 4, 
  .iconst 3, .iadd, .aload 0, .getfield 12350, .iastore, .aload 0, .getfield 12392, .iload 4, .iconst 4, .iadd, .aload 0, .getfield 12360, .iastore, .aload 0, .dup, .getfield 12380, .iconst 1, .iadd, 
  .putfield 12380, .aload 0, .iload 3, .i2l, .invokevirtual 2320968, .ifCond .ne 86, .return_, .goto 8, .return_]
def ps_291 : List Nat := [0, 1, 2, 5, 6, 7, 10, 11, 12, 13, 14, 17, 18, 21, 23, 26, 27, 30, 31, 34, 35, 38, 39, 42, 43, 46, 47, 50, 51, 54, 57, 58, 59, 60, 61, 64, 65, 67, 68, 71, 73, 74, 75, 76, 79, 81, 82, 83, 84, 87, 88, 89, 
  92, 94, 95, 96, 97, 100, 101, 102, 105, 107, 108, 109, 110, 113, 114, 115, 118, 120, 121, 122, 123, 126, 127, 128, 129, 132, 133, 134, 137, 138, 139, 140, 143, 146, 147, 150]
theorem ck_291 : xChkM 12 false none prog_14_method_105_code cd_291 ps_291 = true := by decide +kernel
/-- LastCloudModel.canFly(II)Z -/
def cd_292 : List Instr := [.iload 1, .invokestatic 2103924, .ifCond .eq 14, .iload 2, .i2l, .jsr 0, .jsr 2000000000, .invokestatic 1511932, .ifCond .eq 14, .aload 0, .invokevirtual 2144964, .ifCond .eq 14, .iconst 1, .goto 15, 
  .iconst 0, .freturn]
def ps_292 : List Nat := [0, 1, 4, 7, 8, 9, 10, 13, 16, 19, 20, 23, 26, 27, 30, 31]
theorem ck_292 : xChkM 12 false (some .boolean) prog_14_method_106_code cd_292 ps_292 = true := by decide +kernel
/-- LastCloudModel.fly(II)I -/
def cd_293 : List Instr := [.aload 0, .iload 1, .iload 2, .invokevirtual 2336972, .ifCond .ne 7, .iconst (-2), .ireturn, .aload 0, .iload 1, .iload 2, .invokevirtual 2328975, .aload 0, .aload 0, .getfield 12380, .putfield 12400, 
  .iconst 0, .istore 3, .iload 3, .iconst 5, .aload 0, .getfield 12380, .imul, .if_icmp .ge 33, .aload 0, .getfield 12412, .iload 3, .aload 0, .getfield 12392, .iload 3, .iaload, .iastore, .iinc 3 1, 
  .goto 17, .aload 0, .getfield 12422, .iconst 0, .aload 0, .getfield 12330, .iastore, .aload 0, .getfield 12422, .iconst 1, .aload 0, .getfield 12340, .iastore, .aload 0, .getfield 12422, .iconst 2, 
  .aload 0, .getfield 12350, .iastore, .aload 0, .getfield 12422, .iconst 3, .aload 0, .aload 0, .getfield 12330, .aload 0, .getfield 12350, .invokevirtual 2040972, .iastore, .aload 0, .getfield 12422, 
  .iconst 4, .aload 0, .aload 0, .getfield 12330, .iconst 1, .invokevirtual 1560972, .iconst 2, .if_icmp .ne 73, .iconst 1, .goto 83, .aload 0, .aload 0, .getfield 12330, .iconst 1, 
  .invokevirtual 1560972, .iconst 1, .if_icmp .ne 82, .iconst 2, .goto 83, .iconst 3, .iastore, .aload 0, .getfield 12380, .ireturn]
def ps_293 : List Nat := [0, 1, 2, 3, 6, 9, 11, 12, 13, 14, 15, 18, 19, 20, 23, 26, 27, 28, 29, 30, 31, 34, 35, 38, 39, 42, 43, 44, 47, 48, 49, 50, 53, 56, 57, 60, 61, 62, 65, 66, 67, 70, 71, 72, 75, 76, 77, 80, 81, 82, 85, 86, 
  87, 90, 91, 92, 93, 96, 97, 100, 103, 104, 105, 108, 109, 110, 111, 114, 115, 118, 119, 122, 123, 126, 127, 128, 131, 132, 135, 136, 139, 140, 143, 144, 145, 146, 149]
theorem ck_293 : xChkM 12 false (some .int) prog_14_method_107_code cd_293 ps_293 = true := by decide +kernel
/-- LastCloudModel.flown(II)I -/
def cd_294 : List Instr := [.iload 1, .i2l, .jsr 0, .aload 0, .getfield 12400, .iconst 1, .isub, .i2l, .invokestatic 1511932, .ifCond .eq 25, .iload 2, .i2l, .jsr 0, .jsr 4, .invokestatic 1511932, .ifCond .eq 25, .aload 0, 
  .getfield 12412, .iconst 5, .iload 1, .imul, .iload 2, .iadd, .iaload, .goto 26, .iconst (-1), .ireturn]
def ps_294 : List Nat := [0, 1, 2, 3, 4, 7, 8, 9, 10, 13, 16, 17, 18, 19, 22, 25, 28, 29, 32, 33, 34, 35, 36, 37, 38, 41, 42]
theorem ck_294 : xChkM 12 false (some .int) prog_14_method_108_code cd_294 ps_294 = true := by decide +kernel
/-- LastCloudModel.landed(I)I -/
def cd_295 : List Instr := [.iload 1, .i2l, .jsr 0, .jsr 4, .invokestatic 1511932, .ifCond .eq 11, .aload 0, .getfield 12422, .iload 1, .iaload, .goto 12, .iconst (-1), .ireturn]
def ps_295 : List Nat := [0, 1, 2, 3, 6, 9, 12, 13, 16, 17, 18, 21, 22]
theorem ck_295 : xChkM 12 false (some .int) prog_14_method_109_code cd_295 ps_295 = true := by decide +kernel
/-- LastCloudModel.judge(II)I -/
def cd_296 : List Instr := [.iload 1, .invokestatic 2519924, .ifCond .eq 12, .iload 2, .i2l, .jsr 0, .jsr 2000000000, .invokestatic 1511932, .ifCond .eq 12, .aload 0, .invokevirtual 2144964, .ifCond .ne 14, .iconst (-2), 
  .ireturn, .aload 0, .getfield 12492, .iload 1, .iaload, .iconst (-1), .if_icmp .ne 22, .iconst (-6), .ireturn, .aload 0, .invokevirtual 1896967, .aload 0, .iload 2, .invokevirtual 2312971, .iconst 0, 
  .istore 3, .iload 3, .aload 0, .getfield 12492, .iload 1, .iaload, .if_icmp .ge 60, .aload 0, .getfield 12512, .iconst 60, .iload 1, .imul, .iload 3, .iadd, .laload, .lstore 4, .aload 0, .lload 4, 
  .invokevirtual 2320968, .ifCond .ne 50, .iload 3, .ireturn, .lload 4, .jsr (-1), .lcmp, .ifCond .ne 58, .iload 3, .iconst 1, .iadd, .ireturn, .iinc 3 1, .goto 29, .aload 0, .getfield 12492, .iload 1, 
  .iaload, .ireturn]
def ps_296 : List Nat := [0, 1, 4, 7, 8, 9, 10, 13, 16, 19, 20, 23, 26, 28, 29, 30, 33, 34, 35, 36, 39, 41, 42, 43, 46, 47, 48, 51, 52, 53, 54, 55, 58, 59, 60, 63, 64, 67, 69, 70, 71, 72, 73, 74, 76, 77, 79, 82, 85, 86, 87, 89, 
  92, 93, 96, 97, 98, 99, 100, 103, 106, 107, 110, 111, 112]
theorem ck_296 : xChkM 12 false (some .int) prog_14_method_110_code cd_296 ps_296 = true := by decide +kernel
end
section
/-- LastCloudModel.fliesAll(III)V -/
def cd_297 : List Instr := [.aload 0, .iconst 0, .putfield 12430, .aload 0, .iconst 0, .putfield 12440, .iconst 0, .istore 4, .iload 4, .iconst 5, .if_icmp .ge 18, .aload 0, .getfield 12452, .iload 4, .iconst 0, .iastore, 
  .iinc 4 1, .goto 8, .iconst 0, .istore 4, .iload 4, .iload 3, .if_icmp .ge 123, .aload 0, .iload 1, .iload 2, .iload 4, .iadd, .invokevirtual 2328975, .aload 0, .aload 0, .getfield 12330, .aload 0, 
  .getfield 12350, .invokevirtual 2040972, .istore 5, .aload 0, .dup, .getfield 12430, .aload 0, .aload 0, .getfield 12330, .iconst 1, .invokevirtual 1560972, .iconst 2, .if_icmp .ne 48, .iconst 1, 
  .goto 49, .iconst 0, .iadd, .putfield 12430, .aload 0, .dup, .getfield 12440, .iload 5, .iadd, .putfield 12440, .aload 0, .getfield 12452, .iconst 0, .iload 4, .ifCond .ne 64, .iload 5, .goto 70, 
  .aload 0, .getfield 12452, .iconst 0, .iaload, .iload 5, .dsub, .iastore, .aload 0, .getfield 12452, .iconst 1, .iload 4, .ifCond .ne 78, .iload 5, .goto 84, .aload 0, .getfield 12452, .iconst 1, 
  .iaload, .iload 5, .dadd, .iastore, .aload 0, .getfield 12452, .iconst 2, .dup2, .iaload, .aload 0, .aload 0, .getfield 12330, .iconst 1, .invokevirtual 1560972, .ifCond .ne 98, .iconst 1, .goto 99, 
  .iconst 0, .iadd, .iastore, .aload 0, .getfield 12452, .iconst 3, .dup2, .iaload, .aload 0, .getfield 12350, .iadd, .iastore, .aload 0, .getfield 12452, .iconst 4, .aload 0, .getfield 12452, .iconst 4, 
  .iaload, .aload 0, .getfield 12380, .dadd, .iastore, .iinc 4 1, .goto 20, .return_]
def ps_297 : List Nat := [0, 1, 2, 5, 6, 7, 10, 11, 13, 15, 16, 19, 20, 23, 25, 26, 27, 30, 33, 34, 36, 38, 39, 42, 43, 44, 45, 47, 48, 51, 52, 53, 56, 57, 60, 63, 65, 66, 67, 70, 71, 72, 75, 76, 79, 80, 83, 84, 87, 88, 89, 92, 
  93, 94, 97, 99, 100, 103, 104, 107, 108, 110, 113, 115, 118, 119, 122, 123, 124, 126, 129, 130, 131, 134, 135, 137, 140, 142, 145, 146, 149, 150, 151, 153, 156, 157, 158, 161, 162, 163, 164, 165, 166, 
  169, 170, 173, 176, 177, 180, 181, 182, 183, 184, 187, 188, 189, 190, 191, 194, 195, 196, 197, 200, 201, 202, 205, 206, 207, 208, 211, 214, 215, 218, 221]
theorem ck_297 : xChkM 12 false none prog_14_method_111_code cd_297 ps_297 = true := by decide +kernel
/-- LastCloudModel.canFlyAll(III)Z -/
def cd_298 : List Instr := [.aload 0, .iload 1, .iload 2, .invokevirtual 2336972, .ifCond .eq 13, .iload 3, .i2l, .jsr 1, .jsr 40, .invokestatic 1511932, .ifCond .eq 13, .iconst 1, .goto 14, .iconst 0, .freturn]
def ps_298 : List Nat := [0, 1, 2, 3, 6, 9, 10, 11, 12, 15, 18, 21, 22, 25, 26]
theorem ck_298 : xChkM 12 false (some .boolean) prog_14_method_112_code cd_298 ps_298 = true := by decide +kernel
/-- LastCloudModel.flights(III)I -/
def cd_299 : List Instr := [.aload 0, .iload 1, .iload 2, .iload 3, .invokevirtual 2384976, .ifCond .ne 8, .iconst (-2), .ireturn, .aload 0, .iload 1, .iload 2, .iload 3, .invokevirtual 2376979, .aload 0, .getfield 12430, 
  .ireturn]
def ps_299 : List Nat := [0, 1, 2, 3, 4, 7, 10, 12, 13, 14, 15, 16, 17, 20, 21, 24]
theorem ck_299 : xChkM 12 false (some .int) prog_14_method_113_code cd_299 ps_299 = true := by decide +kernel
/-- LastCloudModel.sum(III)I -/
def cd_300 : List Instr := [.aload 0, .iload 1, .iload 2, .iload 3, .invokevirtual 2384976, .ifCond .ne 8, .iconst (-2000000000), .ireturn, .aload 0, .iload 1, .iload 2, .iload 3, .invokevirtual 2376979, .aload 0, 
  .getfield 12440, .ireturn]
def ps_300 : List Nat := [0, 1, 2, 3, 4, 7, 10, 13, 14, 15, 16, 17, 18, 21, 22, 25]
theorem ck_300 : xChkM 12 false (some .int) prog_14_method_114_code cd_300 ps_300 = true := by decide +kernel
/-- LastCloudModel.spread(IIII)I -/
def cd_301 : List Instr := [.aload 0, .iload 1, .iload 2, .iload 3, .invokevirtual 2384976, .ifCond .eq 12, .iload 4, .i2l, .jsr 0, .jsr 4, .invokestatic 1511932, .ifCond .ne 14, .iconst (-2000000000), .ireturn, .aload 0, 
  .iload 1, .iload 2, .iload 3, .invokevirtual 2376979, .aload 0, .getfield 12452, .iload 4, .iaload, .ireturn]
def ps_301 : List Nat := [0, 1, 2, 3, 4, 7, 10, 12, 13, 14, 17, 20, 23, 26, 27, 28, 29, 30, 31, 34, 35, 38, 40, 41]
theorem ck_301 : xChkM 12 false (some .int) prog_14_method_115_code cd_301 ps_301 = true := by decide +kernel
/-- LastCloudModel.spot(III)I -/
def cd_302 : List Instr := [.iconst 8, .iload 0, .imul, .iload 1, .iadd, .iconst 61, .imul, .iload 2, .iadd, .ireturn]
def ps_302 : List Nat := [0, 2, 3, 4, 5, 6, 8, 9, 10, 11]
theorem ck_302 : xChkM 12 false (some .int) prog_14_method_116_code cd_302 ps_302 = true := by decide +kernel
/-- LastCloudModel.reckons(I)V -/
def cd_303 : List Instr := [.aload 0, .invokevirtual 1896967, .iconst 0, .istore 2, .iconst 0, .istore 3, .iload 3, .iconst 8, .if_icmp .ge 40, .aload 0, .getfield 12472, .iload 3, .aload 0, .getfield 12012, .iconst 15, .iaload, 
  .iload 3, .invokestatic 1519928, .ifCond .eq 23, .iconst 1, .iload 2, .ishl, .goto 24, .iconst 0, .iastore, .iload 2, .aload 0, .getfield 12012, .iconst 15, .iaload, .iload 3, .invokestatic 1519928, 
  .ifCond .eq 35, .iconst 1, .goto 36, .iconst 0, .iadd, .istore 2, .iinc 3 1, .goto 6, .aload 0, .iconst 1, .iload 2, .ishl, .iconst 1, .isub, .putfield 12480, .iconst 0, .istore 3, .iload 3, 
  .iconst 3904, .if_icmp .ge 59, .aload 0, .getfield 12462, .iload 3, .iconst 1000, .iastore, .iinc 3 1, .goto 49, .iconst 0, .istore 3, .iload 3, .aload 0, .getfield 12012, .iconst 8, .iaload, 
  .if_icmp .gt 124, .iconst 0, .istore 4, .iload 4, .aload 0, .getfield 12480, .if_icmp .gt 122, .iconst 0, .istore 5, .iload 5, .aload 0, .getfield 12012, .iconst 1, .iaload, .if_icmp .ge 120, .aload 0, 
  .iload 5, .iconst 0, .invokevirtual 1560972, .istore 6, .iload 6, .aload 0, .getfield 12012, .iconst 7, .iaload, .if_icmp .gt 118, .iload 4, .iload 5, .iload 6, .invokestatic 2423932, .istore 7, 
  .aload 0, .getfield 12462, .iload 7, .iaload, .iconst 1000, .if_icmp .ne 116, .aload 0, .iload 4, .iload 5, .iload 6, .iload 3, .iload 1, .invokevirtual 2432984, .ifCond .eq 116, .aload 0, 
  .getfield 12462, .iload 7, .iload 3, .iastore, .iinc 6 1, .goto 86, .iinc 5 1, .goto 75, .iinc 4 1, .goto 69, .iinc 3 1, .goto 61, .return_]
def ps_303 : List Nat := [0, 1, 4, 5, 6, 7, 8, 9, 11, 14, 15, 18, 19, 20, 23, 25, 26, 27, 30, 33, 34, 35, 36, 39, 40, 41, 42, 43, 46, 48, 49, 50, 53, 56, 57, 60, 61, 62, 63, 66, 69, 70, 71, 72, 73, 74, 75, 78, 79, 80, 81, 84, 
  87, 88, 91, 92, 95, 96, 99, 102, 103, 104, 105, 106, 109, 111, 112, 115, 116, 118, 120, 121, 124, 127, 128, 130, 132, 133, 136, 137, 138, 141, 142, 144, 145, 148, 150, 152, 153, 156, 158, 159, 162, 
  164, 166, 168, 171, 173, 174, 177, 179, 180, 183, 186, 187, 189, 191, 193, 194, 195, 198, 201, 202, 205, 207, 208, 209, 212, 215, 218, 221, 224, 227, 230, 233]
theorem ck_303 : xChkM 12 false none prog_14_method_117_code cd_303 ps_303 = true := by decide +kernel
/-- LastCloudModel.isIn(IIIII)Z -/
def cd_304 : List Instr := [.iload 4, .ifCond .ne 16, .iload 1, .aload 0, .getfield 12480, .if_icmp .ne 14, .aload 0, .iload 2, .iconst 1, .invokevirtual 1560972, .iconst 2, .if_icmp .ne 14, .iconst 1, .goto 15, .iconst 0, 
  .freturn, .aload 0, .iload 1, .iload 2, .iload 3, .iload 4, .iload 5, .invokevirtual 2440984, .ifCond .eq 26, .iconst 1, .freturn, .iconst 2, .iload 2, .imul, .aload 0, .invokevirtual 2152964, .iadd, 
  .istore 6, .iconst 0, .istore 7, .iload 7, .aload 0, .getfield 12202, .iload 6, .iaload, .if_icmp .ge 58, .aload 0, .iload 1, .iconst 300, .iload 6, .imul, .iconst 5, .iload 7, .imul, .iadd, .iload 3, 
  .iload 4, .invokevirtual 2448980, .ifCond .eq 56, .iconst 1, .freturn, .iinc 7 1, .goto 35, .iconst 0, .freturn]
def ps_304 : List Nat := [0, 2, 5, 6, 7, 10, 13, 14, 15, 16, 19, 20, 23, 24, 27, 28, 29, 30, 31, 32, 33, 35, 37, 40, 43, 44, 45, 46, 47, 48, 49, 52, 53, 55, 56, 58, 60, 61, 64, 66, 67, 70, 71, 72, 75, 77, 78, 79, 81, 82, 83, 
  84, 86, 89, 92, 93, 94, 97, 100, 101]
theorem ck_304 : xChkM 12 false (some .boolean) prog_14_method_118_code cd_304 ps_304 = true := by decide +kernel
/-- LastCloudModel.climbsIn(IIIII)Z -/
def cd_305 : List Instr := [.aload 0, .iload 2, .iload 3, .aload 0, .invokevirtual 2152964, .invokevirtual 2048976, .istore 6, .iload 5, .iload 2, .invokestatic 1519928, .ifCond .eq 27, .iload 6, .iload 3, .if_icmp .le 27, 
  .aload 0, .getfield 12462, .iload 1, .iload 2, .iload 6, .invokestatic 2423932, .iaload, .iload 4, .iconst 1, .isub, .if_icmp .ne 27, .iconst 1, .goto 28, .iconst 0, .freturn]
def ps_305 : List Nat := [0, 1, 2, 3, 4, 7, 10, 12, 14, 15, 18, 21, 23, 24, 27, 28, 31, 32, 33, 35, 38, 39, 41, 42, 43, 46, 47, 50, 51]
theorem ck_305 : xChkM 12 false (some .boolean) prog_14_method_119_code cd_305 ps_305 = true := by decide +kernel
/-- LastCloudModel.goesIn(IIII)Z -/
def cd_306 : List Instr := [.aload 0, .getfield 12212, .iload 2, .iconst 3, .iadd, .iaload, .iload 4, .if_icmp .le 10, .iconst 0, .freturn, .aload 0, .iload 2, .iload 3, .invokevirtual 1912972, .istore 5, .iload 5, .iconst (-1), 
  .if_icmp .eq 51, .aload 0, .getfield 12462, .iload 1, .aload 0, .getfield 12472, .aload 0, .getfield 12212, .iload 2, .iconst 2, .iadd, .iaload, .iaload, .ior, .aload 0, .getfield 12212, .iload 2, 
  .iconst 2, .iadd, .iaload, .iload 5, .invokestatic 2423932, .iaload, .iload 4, .aload 0, .getfield 12212, .iload 2, .iconst 3, .iadd, .iaload, .isub, .if_icmp .ne 51, .iconst 1, .goto 52, .iconst 0, 
  .freturn]
def ps_306 : List Nat := [0, 1, 4, 5, 6, 7, 8, 10, 13, 14, 15, 16, 17, 18, 21, 23, 25, 26, 29, 30, 33, 34, 35, 38, 39, 42, 43, 44, 45, 46, 47, 48, 49, 52, 53, 54, 55, 56, 58, 61, 62, 64, 65, 68, 69, 70, 71, 72, 73, 76, 77, 80, 
  81]
theorem ck_306 : xChkM 12 false (some .boolean) prog_14_method_120_code cd_306 ps_306 = true := by decide +kernel
/-- LastCloudModel.liftSet()I -/
def cd_307 : List Instr := [.iconst 0, .istore 1, .iconst 0, .istore 2, .iload 2, .aload 0, .getfield 12012, .iconst 1, .iaload, .if_icmp .ge 26, .iload 1, .aload 0, .iload 2, .iconst 3, .invokevirtual 1560972, .iconst 1, 
  .if_icmp .ne 21, .iconst 1, .iload 2, .ishl, .goto 22, .iconst 0, .ior, .istore 1, .iinc 2 1, .goto 4, .iload 1, .ireturn]
def ps_307 : List Nat := [0, 1, 2, 3, 4, 5, 6, 9, 10, 11, 14, 15, 16, 17, 18, 21, 22, 25, 26, 27, 28, 31, 32, 33, 34, 37, 40, 41]
theorem ck_307 : xChkM 12 false (some .int) prog_14_method_121_code cd_307 ps_307 = true := by decide +kernel
/-- LastCloudModel.soonBy(I)I -/
def cd_308 : List Instr := [.aload 0, .iload 1, .invokevirtual 2424971, .aload 0, .getfield 12462, .aload 0, .getfield 12472, .aload 0, .getfield 12012, .iconst 12, .iaload, .iaload, .aload 0, .getfield 12012, .iconst 12, 
  .iaload, .aload 0, .getfield 12012, .iconst 13, .iaload, .invokestatic 2423932, .iaload, .istore 2, .iload 2, .iconst 1000, .if_icmp .ne 28, .iconst (-1), .goto 29, .iload 2, .ireturn]
def ps_308 : List Nat := [0, 1, 2, 5, 6, 9, 10, 13, 14, 17, 19, 20, 21, 22, 25, 27, 28, 29, 32, 34, 35, 38, 39, 40, 41, 44, 47, 48, 51, 52]
theorem ck_308 : xChkM 12 false (some .int) prog_14_method_122_code cd_308 ps_308 = true := by decide +kernel
/-- LastCloudModel.soon()I -/
def cd_309 : List Instr := [.aload 0, .invokevirtual 2144964, .ifCond .eq 8, .aload 0, .aload 0, .invokevirtual 2456964, .invokevirtual 2464968, .goto 9, .iconst (-2), .ireturn]
def ps_309 : List Nat := [0, 1, 4, 7, 8, 9, 12, 15, 18, 20]
theorem ck_309 : xChkM 12 false (some .int) prog_14_method_123_code cd_309 ps_309 = true := by decide +kernel
/-- LastCloudModel.way(I)I -/
def cd_310 : List Instr := [.aload 0, .invokevirtual 2144964, .ifCond .ne 5, .iconst (-2), .ireturn, .aload 0, .aload 0, .invokevirtual 2456964, .invokevirtual 2464968, .istore 2, .iload 2, .iconst (-1), .if_icmp .eq 15, 
  .iload 1, .ifCond .ge 17, .iconst (-1), .ireturn, .aload 0, .getfield 12012, .iconst 12, .iaload, .istore 3, .aload 0, .getfield 12012, .iconst 13, .iaload, .istore 4, .aload 0, .getfield 12472, 
  .iload 3, .iaload, .istore 5, .iconst 0, .istore 6, .iload 2, .ifCond .le 105, .iload 6, .iload 1, .if_icmp .ge 105, .aload 0, .iload 5, .iload 3, .iload 4, .iload 2, .aload 0, .invokevirtual 2456964, 
  .invokevirtual 2440984, .ifCond .eq 57, .aload 0, .iload 3, .iload 4, .aload 0, .invokevirtual 2152964, .invokevirtual 2048976, .istore 4, .iinc 2 (-1), .goto 34, .iconst 300, .iconst 2, .iload 3, 
  .imul, .aload 0, .invokevirtual 2152964, .iadd, .imul, .istore 7, .aload 0, .iload 5, .iload 7, .iload 4, .iload 2, .invokevirtual 2448980, .ifCond .ne 75, .iinc 7 5, .goto 66, .aload 0, .iload 7, 
  .iload 4, .invokevirtual 1912972, .istore 4, .iload 2, .aload 0, .getfield 12212, .iload 7, .iconst 3, .iadd, .iaload, .isub, .istore 2, .aload 0, .getfield 12212, .iload 7, .iconst 2, .iadd, .iaload, 
  .istore 3, .iload 5, .aload 0, .getfield 12472, .iload 3, .iaload, .ior, .istore 5, .iinc 6 1, .goto 34, .iload 6, .iload 1, .if_icmp .ne 110, .iload 3, .goto 111, .iconst (-1), .ireturn]
def ps_310 : List Nat := [0, 1, 4, 7, 9, 10, 11, 12, 15, 18, 19, 20, 21, 24, 25, 28, 29, 30, 31, 34, 36, 37, 38, 39, 42, 44, 45, 47, 48, 51, 52, 53, 55, 56, 58, 59, 62, 64, 65, 68, 69, 71, 72, 74, 75, 76, 79, 82, 85, 86, 87, 
  89, 90, 93, 96, 98, 101, 104, 107, 108, 109, 110, 111, 114, 115, 116, 118, 119, 121, 123, 125, 126, 129, 132, 135, 138, 139, 141, 143, 146, 148, 149, 150, 153, 155, 156, 157, 158, 159, 160, 161, 164, 
  166, 167, 168, 169, 170, 172, 173, 176, 177, 178, 179, 181, 184, 187, 189, 190, 193, 194, 197, 198]
theorem ck_310 : xChkM 12 false (some .int) prog_14_method_124_code cd_310 ps_310 = true := by decide +kernel
/-- LastCloudModel.soonest(I)I -/
def cd_311 : List Instr := [.aload 0, .invokevirtual 2144964, .ifCond .eq 24, .iload 1, .i2l, .jsr 0, .iconst 1, .aload 0, .getfield 12012, .iconst 1, .iaload, .ishl, .iconst 1, .isub, .i2l, .invokestatic 1511932, .ifCond .eq 24, 
  .aload 0, .iload 1, .aload 0, .invokevirtual 2456964, .iand, .invokevirtual 2464968, .goto 25, .iconst (-2), .ireturn]
def ps_311 : List Nat := [0, 1, 4, 7, 8, 9, 10, 11, 12, 15, 16, 17, 18, 19, 20, 21, 24, 27, 28, 29, 30, 33, 34, 37, 40, 42]
theorem ck_311 : xChkM 12 false (some .int) prog_14_method_125_code cd_311 ps_311 = true := by decide +kernel
/-- LastCloudModel.key()I -/
def cd_312 : List Instr := [.aload 0, .invokevirtual 2144964, .ifCond .ne 5, .iconst (-2), .ireturn, .aload 0, .aload 0, .invokevirtual 2456964, .invokevirtual 2464968, .istore 1, .iload 1, .iconst (-1), .if_icmp .ne 15, 
  .iconst (-1), .ireturn, .iconst (-1), .istore 2, .iload 1, .istore 3, .iconst 0, .istore 4, .iload 4, .aload 0, .getfield 12012, .iconst 1, .iaload, .if_icmp .ge 61, .aload 0, .invokevirtual 2456964, 
  .iload 4, .invokestatic 1519928, .ifCond .ne 33, .goto 59, .aload 0, .aload 0, .invokevirtual 2456964, .iconst 1, .iload 4, .ishl, .iconst (-1), .ixor, .iand, .invokevirtual 2464968, .istore 5, 
  .iload 5, .iconst (-1), .if_icmp .ne 49, .iconst 1000, .goto 50, .iload 5, .istore 5, .iload 5, .iload 3, .if_icmp .gt 55, .goto 59, .iload 4, .istore 2, .iload 5, .istore 3, .iinc 4 1, .goto 21, 
  .iload 2, .ireturn]
def ps_312 : List Nat := [0, 1, 4, 7, 9, 10, 11, 12, 15, 18, 19, 20, 21, 24, 25, 26, 27, 28, 29, 30, 31, 33, 35, 36, 39, 40, 41, 44, 45, 48, 50, 53, 56, 59, 60, 61, 64, 65, 67, 68, 69, 70, 71, 74, 76, 78, 79, 82, 85, 88, 90, 
  92, 94, 95, 98, 101, 103, 104, 106, 107, 110, 113, 114]
theorem ck_312 : xChkM 12 false (some .int) prog_14_method_126_code cd_312 ps_312 = true := by decide +kernel
/-- LastCloudModel.count(I)I -/
def cd_313 : List Instr := [.iconst 0, .istore 2, .iload 1, .tableswitch 72 0 10 #[4, 9, 14, 18, 23, 28, 33, 38, 41, 46, 51], .aload 0, .getfield 12012, .iconst 1, .iaload, .ireturn, .aload 0, .getfield 12012, .iconst 2, .iaload, 
  .ireturn, .aload 0, .invokevirtual 2456964, .invokestatic 1735924, .ireturn, .aload 0, .getfield 12012, .iconst 3, .iaload, .ireturn, .aload 0, .getfield 12012, .iconst 0, .iaload, .ireturn, .aload 0, 
  .getfield 12012, .iconst 4, .iaload, .ireturn, .aload 0, .getfield 12012, .iconst 12, .iaload, .ireturn, .aload 0, .getfield 12050, .ireturn, .aload 0, .getfield 12012, .iconst 8, .iaload, .ireturn, 
  .aload 0, .getfield 12012, .iconst 7, .iaload, .ireturn, .iconst 0, .istore 3, .iload 3, .iconst 4, .if_icmp .ge 70, .iload 2, .aload 0, .getfield 12492, .iload 3, .iaload, .iconst (-1), 
  .if_icmp .ne 65, .iconst 0, .goto 66, .iconst 1, .iadd, .istore 2, .iinc 3 1, .goto 53, .iload 2, .ireturn, .iconst (-1), .ireturn]
def ps_313 : List Nat := [0, 1, 2, 3, 60, 61, 64, 65, 66, 67, 68, 71, 72, 73, 74, 75, 78, 81, 82, 83, 86, 87, 88, 89, 90, 93, 94, 95, 96, 97, 100, 101, 102, 103, 104, 107, 109, 110, 111, 112, 115, 116, 117, 120, 122, 123, 124, 
  125, 128, 130, 131, 132, 133, 134, 135, 136, 139, 140, 141, 144, 145, 146, 147, 150, 151, 154, 155, 156, 157, 160, 163, 164, 165, 166]
theorem ck_313 : xChkM 12 false (some .int) prog_14_method_127_code cd_313 ps_313 = true := by decide +kernel
/-- LastCloudModel.isSlot(I)Z -/
def cd_314 : List Instr := [.iload 0, .i2l, .jsr 0, .jsr 3, .invokestatic 1511932, .freturn]
def ps_314 : List Nat := [0, 1, 2, 3, 6, 9]
theorem ck_314 : xChkM 12 false (some .boolean) prog_14_method_128_code cd_314 ps_314 = true := by decide +kernel
/-- LastCloudModel.cut(JI)J -/
def cd_315 : List Instr := [.iconst 64, .iconst 8, .iload 2, .ishl, .isub, .istore 3, .lload 0, .iload 3, .lshl, .iload 3, .lshr, .lreturn]
def ps_315 : List Nat := [0, 2, 4, 5, 6, 7, 8, 9, 10, 11, 12, 13]
theorem ck_315 : xChkM 12 false (some .long) prog_14_method_129_code cd_315 ps_315 = true := by decide +kernel
/-- LastCloudModel.row(III)I -/
def cd_316 : List Instr := [.iload 1, .invokestatic 2519924, .ifCond .eq 12, .iload 2, .i2l, .jsr 0, .jsr 3, .invokestatic 1511932, .ifCond .eq 12, .iload 3, .iconst 60, .if_icmp .le 14, .iconst (-2), .ireturn, .iload 3, 
  .ifCond .ge 18, .iconst (-3), .ireturn, .aload 0, .getfield 12492, .iload 1, .iload 3, .iastore, .aload 0, .getfield 12502, .iload 1, .iload 2, .iastore, .iconst 0, .istore 4, .iload 4, .iconst 60, 
  .if_icmp .ge 44, .aload 0, .getfield 12512, .iconst 60, .iload 1, .imul, .iload 4, .iadd, .jsr 0, .lastore, .iinc 4 1, .goto 30, .iconst 0, .ireturn]
def ps_316 : List Nat := [0, 1, 4, 7, 8, 9, 10, 13, 16, 19, 20, 22, 25, 27, 28, 29, 32, 34, 35, 36, 39, 40, 41, 42, 43, 46, 47, 48, 49, 50, 52, 54, 56, 59, 60, 63, 65, 66, 67, 69, 70, 71, 72, 75, 78, 79]
theorem ck_316 : xChkM 12 false (some .int) prog_14_method_130_code cd_316 ps_316 = true := by decide +kernel
/-- LastCloudModel.write(IIJ)I -/
def cd_317 : List Instr := [.iload 1, .invokestatic 2519924, .ifCond .ne 5, .iconst (-2), .ireturn, .aload 0, .getfield 12492, .iload 1, .iaload, .iconst (-1), .if_icmp .ne 13, .iconst (-6), .ireturn, .iload 2, .i2l, .jsr 0, 
  .aload 0, .getfield 12492, .iload 1, .iaload, .iconst 1, .isub, .i2l, .invokestatic 1511932, .ifCond .ne 27, .iconst (-7), .ireturn, .aload 0, .getfield 12512, .iconst 60, .iload 1, .imul, .iload 2, 
  .iadd, .lload 3, .aload 0, .getfield 12502, .iload 1, .iaload, .invokestatic 2527929, .lastore, .iconst 0, .ireturn]
def ps_317 : List Nat := [0, 1, 4, 7, 9, 10, 11, 14, 15, 16, 17, 20, 22, 23, 24, 25, 26, 27, 30, 31, 32, 33, 34, 35, 38, 41, 43, 44, 45, 48, 50, 51, 52, 53, 54, 55, 56, 59, 60, 61, 64, 65, 66]
theorem ck_317 : xChkM 12 false (some .int) prog_14_method_131_code cd_317 ps_317 = true := by decide +kernel
/-- LastCloudModel.paste(IIIII)I -/
def cd_318 : List Instr := [.iload 1, .invokestatic 2519924, .ifCond .eq 6, .iload 3, .invokestatic 2519924, .ifCond .ne 8, .iconst (-2), .ireturn, .aload 0, .getfield 12492, .iload 1, .iaload, .iconst (-1), .if_icmp .eq 20, 
  .aload 0, .getfield 12492, .iload 3, .iaload, .iconst (-1), .if_icmp .ne 22, .iconst (-6), .ireturn, .aload 0, .getfield 12502, .iload 1, .iaload, .aload 0, .getfield 12502, .iload 3, .iaload, 
  .if_icmp .eq 33, .iconst (-8), .ireturn, .iload 2, .ifCond .lt 63, .iload 4, .ifCond .lt 63, .iload 5, .ifCond .lt 63, .iload 2, .i2l, .iload 5, .i2l, .ladd, .aload 0, .getfield 12492, .iload 1, 
  .iaload, .i2l, .lcmp, .ifCond .gt 63, .iload 4, .i2l, .iload 5, .i2l, .ladd, .aload 0, .getfield 12492, .iload 3, .iaload, .i2l, .lcmp, .ifCond .le 65, .iconst (-7), .ireturn, .iconst 0, .istore 6, 
  .iload 6, .iload 5, .if_icmp .ge 86, .aload 0, .getfield 12522, .iload 6, .aload 0, .getfield 12512, .iconst 60, .iload 1, .imul, .iload 2, .iadd, .iload 6, .iadd, .laload, .lastore, .iinc 6 1, 
  .goto 67, .iconst 0, .istore 6, .iload 6, .iload 5, .if_icmp .ge 107, .aload 0, .getfield 12512, .iconst 60, .iload 3, .imul, .iload 4, .iadd, .iload 6, .iadd, .aload 0, .getfield 12522, .iload 6, 
  .laload, .lastore, .iinc 6 1, .goto 88, .iconst 0, .ireturn]
def ps_318 : List Nat := [0, 1, 4, 7, 8, 11, 14, 16, 17, 18, 21, 22, 23, 24, 27, 28, 31, 32, 33, 34, 37, 39, 40, 41, 44, 45, 46, 47, 50, 51, 52, 55, 57, 58, 59, 62, 64, 67, 69, 72, 73, 74, 76, 77, 78, 79, 82, 83, 84, 85, 86, 
  89, 91, 92, 94, 95, 96, 97, 100, 101, 102, 103, 104, 107, 109, 110, 111, 113, 115, 117, 120, 121, 124, 126, 127, 130, 132, 133, 134, 135, 136, 138, 139, 140, 141, 144, 147, 148, 150, 152, 154, 157, 
  158, 161, 163, 164, 165, 167, 168, 170, 171, 172, 175, 177, 178, 179, 182, 185, 186]
theorem ck_318 : xChkM 12 false (some .int) prog_14_method_132_code cd_318 ps_318 = true := by decide +kernel
/-- java/lang/Integer.bitCount(I)I -/
def cd_319 : List Instr := [.iload 0, .iload 0, .iconst 1, .iushr, .iconst 1431655765, .iand, .isub, .istore 0, .iload 0, .iconst 858993459, .iand, .iload 0, .iconst 2, .iushr, .iconst 858993459, .iand, .iadd, .istore 0, 
  .iload 0, .iload 0, .iconst 4, .iushr, .iadd, .iconst 252645135, .iand, .istore 0, .iload 0, .iload 0, .iconst 8, .iushr, .iadd, .istore 0, .iload 0, .iload 0, .iconst 16, .iushr, .iadd, .istore 0, 
  .iload 0, .iconst 63, .iand, .ireturn]
def ps_319 : List Nat := [0, 1, 2, 3, 4, 7, 8, 9, 10, 11, 14, 15, 16, 17, 18, 21, 22, 23, 24, 25, 26, 27, 28, 29, 32, 33, 34, 35, 36, 38, 39, 40, 41, 42, 43, 45, 46, 47, 48, 49, 51, 52]
theorem ck_319 : xChkM 14 false (some .int) prog_15_method_49_code cd_319 ps_319 = true := by decide +kernel
/-- java/util/Arrays.fill([JJ)V -/
def cd_320 : List Instr := [.iconst 0, .istore 3, .aload 0, .arraylength, .istore 4, .iload 3, .iload 4, .if_icmp .ge 14, .aload 0, .iload 3, .lload 1, .lastore, .iinc 3 1, .goto 5, .return_]
def ps_320 : List Nat := [0, 1, 2, 3, 4, 6, 7, 9, 12, 13, 14, 15, 16, 19, 22]
theorem ck_320 : xChkM 15 false none prog_21_method_101_code cd_320 ps_320 = true := by decide +kernel
/-- java/util/Arrays.fill([II)V -/
def cd_321 : List Instr := [.iconst 0, .istore 2, .aload 0, .arraylength, .istore 3, .iload 2, .iload 3, .if_icmp .ge 14, .aload 0, .iload 2, .iload 1, .iastore, .iinc 2 1, .goto 5, .return_]
def ps_321 : List Nat := [0, 1, 2, 3, 4, 5, 6, 7, 10, 11, 12, 13, 14, 17, 20]
theorem ck_321 : xChkM 15 false none prog_21_method_103_code cd_321 ps_321 = true := by decide +kernel
/-- java/util/Arrays.fill([BB)V -/
def cd_322 : List Instr := [.iconst 0, .istore 2, .aload 0, .arraylength, .istore 3, .iload 2, .iload 3, .if_icmp .ge 14, .aload 0, .iload 2, .iload 1, .bastore, .iinc 2 1, .goto 5, .return_]
def ps_322 : List Nat := [0, 1, 2, 3, 4, 5, 6, 7, 10, 11, 12, 13, 14, 17, 20]
theorem ck_322 : xChkM 15 false none prog_21_method_109_code cd_322 ps_322 = true := by decide +kernel
end
section
def cdL_0 : List Instr := [.new 11, .dup, .invokespecial 952887, .astore 1, .new 12, .dup, .invokespecial 1520967, .astore 2, .iconst 0, .istore 3, .iload 3, .aload 0, .arraylength, .iconst 7, .isub, .if_icmp .gt 1617, .aload 0, 
  .iload 3, .iaload, .iconst 63, .iand, 
  .tableswitch 1615 0 50 #[22, 79, 96, 103, 120, 183, 246, 281, 298, 325, 342, 377, 432, 477, 512, 529, 546, 553, 636, 719, 802, 819, 836, 881, 926, 953, 990, 1025, 1070, 1077, 1094, 1111, 1128, 1135, 1142, 1169, 1196, 1213, 1240, 1277, 1314, 1361, 1368, 1385, 1402, 1409, 1426, 1443, 1460, 1497, 1558], 
  .aload 1, .aload 0, .iload 3, .iconst 1, .iadd, .iaload, .aload 0, .iload 3, .iconst 2, .iadd, .iaload, .aload 0, .iload 3, .iconst 3, .iadd, .iaload, .aload 0, .iload 3]
def psL_0 : List Nat := [0, 3, 4, 7, 8, 11, 12, 15, 16, 17, 18, 19, 20, 21, 23, 24, 27, 28, 29, 30, 32, 33, 252, 253, 254, 255, 256, 257, 258, 259, 260, 261, 262, 263, 264, 265, 266, 267, 268, 269]
def cdL_1 : List Instr := [.iconst 4, .iadd, .iaload, .aload 0, .iload 3, .iconst 5, .iadd, .iaload, .invokevirtual 960904, .aload 2, .aload 0, .iload 3, .iconst 1, .iadd, .iaload, .aload 0, .iload 3, .iconst 2, .iadd, .iaload, 
  .aload 0, .iload 3, .iconst 3, .iadd, .iaload, .aload 0, .iload 3, .iconst 4, .iadd, .iaload, .aload 0, .iload 3, .iconst 5, .iadd, .iaload, .invokevirtual 1576984, .if_icmp .eq 1615, .iconst 0, 
  .ireturn, .aload 1]
def psL_1 : List Nat := [270, 271, 272, 273, 274, 275, 276, 277, 278, 281, 282, 283, 284, 285, 286, 287, 288, 289, 290, 291, 292, 293, 294, 295, 296, 297, 298, 299, 300, 301, 302, 303, 304, 305, 306, 307, 310, 313, 314, 315]
def cdL_2 : List Instr := [.aload 0, .iload 3, .iconst 1, .iadd, .iaload, .invokevirtual 976888, .aload 2, .aload 0, .iload 3, .iconst 1, .iadd, .iaload, .invokevirtual 1584968, .if_icmp .eq 1615, .iconst 0, .ireturn, .aload 1, 
  .invokevirtual 984884, .aload 2, .invokevirtual 1760964, .if_icmp .eq 1615, .iconst 0, .ireturn, .aload 1, .aload 0, .iload 3, .iconst 1, .iadd, .iaload, .invokevirtual 992888, .aload 2, .aload 0, 
  .iload 3, .iconst 1, .iadd, .iaload, .invokevirtual 1664968, .if_icmp .eq 1615, .iconst 0, .ireturn]
def psL_2 : List Nat := [316, 317, 318, 319, 320, 321, 324, 325, 326, 327, 328, 329, 330, 333, 336, 337, 338, 339, 342, 343, 346, 349, 350, 351, 352, 353, 354, 355, 356, 357, 360, 361, 362, 363, 364, 365, 366, 369, 372, 373]
def cdL_3 : List Instr := [.aload 1, .aload 0, .iload 3, .iconst 1, .iadd, .iaload, .aload 0, .iload 3, .iconst 2, .iadd, .iaload, .ifCond .eq 134, .iconst 1, .goto 135, .iconst 0, .aload 0, .iload 3, .iconst 3, .iadd, .iaload, 
  .aload 0, .iload 3, .iconst 4, .iadd, .iaload, .ifCond .eq 148, .iconst 1, .goto 149, .iconst 0, .invokevirtual 1008900, .aload 2, .aload 0, .iload 3, .iconst 1, .iadd, .iaload, .aload 0, .iload 3, 
  .iconst 2, .iadd]
def psL_3 : List Nat := [374, 375, 376, 377, 378, 379, 380, 381, 382, 383, 384, 385, 388, 389, 392, 393, 394, 395, 396, 397, 398, 399, 400, 401, 402, 403, 406, 407, 410, 411, 414, 415, 416, 417, 418, 419, 420, 421, 422, 423]
def cdL_4 : List Instr := [.iaload, .ifCond .eq 164, .iconst 1, .goto 165, .iconst 0, .aload 0, .iload 3, .iconst 3, .iadd, .iaload, .aload 0, .iload 3, .iconst 4, .iadd, .iaload, .ifCond .eq 178, .iconst 1, .goto 179, 
  .iconst 0, .invokevirtual 1800980, .if_icmp .eq 1615, .iconst 0, .ireturn, .aload 1, .aload 0, .iload 3, .iconst 1, .iadd, .iaload, .aload 0, .iload 3, .iconst 2, .iadd, .iaload, .ifCond .eq 197, 
  .iconst 1, .goto 198, .iconst 0, .aload 0, .iload 3]
def psL_4 : List Nat := [424, 425, 428, 429, 432, 433, 434, 435, 436, 437, 438, 439, 440, 441, 442, 443, 446, 447, 450, 451, 454, 457, 458, 459, 460, 461, 462, 463, 464, 465, 466, 467, 468, 469, 470, 473, 474, 477, 478, 479]
def cdL_5 : List Instr := [.iconst 3, .iadd, .iaload, .aload 0, .iload 3, .iconst 4, .iadd, .iaload, .ifCond .eq 211, .iconst 1, .goto 212, .iconst 0, .invokevirtual 1016900, .aload 2, .aload 0, .iload 3, .iconst 1, .iadd, 
  .iaload, .aload 0, .iload 3, .iconst 2, .iadd, .iaload, .ifCond .eq 227, .iconst 1, .goto 228, .iconst 0, .aload 0, .iload 3, .iconst 3, .iadd, .iaload, .aload 0, .iload 3, .iconst 4, .iadd, .iaload, 
  .ifCond .eq 241, .iconst 1]
def psL_5 : List Nat := [480, 481, 482, 483, 484, 485, 486, 487, 488, 491, 492, 495, 496, 499, 500, 501, 502, 503, 504, 505, 506, 507, 508, 509, 510, 513, 514, 517, 518, 519, 520, 521, 522, 523, 524, 525, 526, 527, 528, 531]
def cdL_6 : List Instr := [.goto 242, .iconst 0, .invokevirtual 1808980, .if_icmp .eq 1615, .iconst 0, .ireturn, .aload 1, .aload 0, .iload 3, .iconst 1, .iadd, .iaload, .aload 0, .iload 3, .iconst 2, .iadd, .iaload, 
  .ifCond .eq 260, .iconst 1, .goto 261, .iconst 0, .invokevirtual 1024892, .aload 2, .aload 0, .iload 3, .iconst 1, .iadd, .iaload, .aload 0, .iload 3, .iconst 2, .iadd, .iaload, .ifCond .eq 276, 
  .iconst 1, .goto 277, .iconst 0, .invokevirtual 1832972, .if_icmp .eq 1615, .iconst 0]
def psL_6 : List Nat := [532, 535, 536, 539, 542, 543, 544, 545, 546, 547, 548, 549, 550, 551, 552, 553, 554, 555, 558, 559, 562, 563, 566, 567, 568, 569, 570, 571, 572, 573, 574, 575, 576, 577, 580, 581, 584, 585, 588, 591]
def cdL_7 : List Instr := [.ireturn, .aload 1, .aload 0, .iload 3, .iconst 1, .iadd, .iaload, .invokevirtual 1032888, .aload 2, .aload 0, .iload 3, .iconst 1, .iadd, .iaload, .invokevirtual 1864968, .if_icmp .eq 1615, .iconst 0, 
  .ireturn, .aload 1, .aload 0, .iload 3, .iconst 1, .iadd, .iaload, .aload 0, .iload 3, .iconst 2, .iadd, .iaload, .invokevirtual 1040892, .aload 2, .aload 0, .iload 3, .iconst 1, .iadd, .iaload, 
  .aload 0, .iload 3, .iconst 2, .iadd]
def psL_7 : List Nat := [592, 593, 594, 595, 596, 597, 598, 599, 602, 603, 604, 605, 606, 607, 608, 611, 614, 615, 616, 617, 618, 619, 620, 621, 622, 623, 624, 625, 626, 627, 630, 631, 632, 633, 634, 635, 636, 637, 638, 639]
def cdL_8 : List Instr := [.iaload, .invokevirtual 1872972, .if_icmp .eq 1615, .iconst 0, .ireturn, .aload 1, .aload 0, .iload 3, .iconst 1, .iadd, .iaload, .invokevirtual 1048888, .aload 2, .aload 0, .iload 3, .iconst 1, .iadd, 
  .iaload, .invokevirtual 1880968, .if_icmp .eq 1615, .iconst 0, .ireturn, .aload 1, .aload 0, .iload 3, .iconst 1, .iadd, .iaload, .aload 0, .iload 3, .iconst 2, .iadd, .iaload, .ifCond .eq 356, 
  .iconst 1, .goto 357, .iconst 0, .invokevirtual 1056892, .aload 2, .aload 0]
def psL_8 : List Nat := [640, 641, 644, 647, 648, 649, 650, 651, 652, 653, 654, 655, 658, 659, 660, 661, 662, 663, 664, 667, 670, 671, 672, 673, 674, 675, 676, 677, 678, 679, 680, 681, 682, 683, 686, 687, 690, 691, 694, 695]
def cdL_9 : List Instr := [.iload 3, .iconst 1, .iadd, .iaload, .aload 0, .iload 3, .iconst 2, .iadd, .iaload, .ifCond .eq 372, .iconst 1, .goto 373, .iconst 0, .invokevirtual 1888972, .if_icmp .eq 1615, .iconst 0, .ireturn, 
  .aload 1, .aload 0, .iload 3, .iconst 1, .iadd, .iaload, .aload 0, .iload 3, .iconst 2, .iadd, .iaload, .aload 0, .iload 3, .iconst 3, .iadd, .iaload, .aload 0, .iload 3, .iconst 4, .iadd, .iaload, 
  .ifCond .eq 401, .iconst 1]
def psL_9 : List Nat := [696, 697, 698, 699, 700, 701, 702, 703, 704, 705, 708, 709, 712, 713, 716, 719, 720, 721, 722, 723, 724, 725, 726, 727, 728, 729, 730, 731, 732, 733, 734, 735, 736, 737, 738, 739, 740, 741, 742, 745]
def cdL_10 : List Instr := [.goto 402, .iconst 0, .invokevirtual 1064900, .aload 2, .aload 0, .iload 3, .iconst 1, .iadd, .iaload, .aload 0, .iload 3, .iconst 2, .iadd, .iaload, .aload 0, .iload 3, .iconst 3, .iadd, .iaload, 
  .aload 0, .iload 3, .iconst 4, .iadd, .iaload, .ifCond .eq 427, .iconst 1, .goto 428, .iconst 0, .invokevirtual 1936980, .if_icmp .eq 1615, .iconst 0, .ireturn, .aload 1, .aload 0, .iload 3, .iconst 1, 
  .iadd, .iaload, .aload 0, .iload 3]
def psL_10 : List Nat := [746, 749, 750, 753, 754, 755, 756, 757, 758, 759, 760, 761, 762, 763, 764, 765, 766, 767, 768, 769, 770, 771, 772, 773, 774, 777, 778, 781, 782, 785, 788, 789, 790, 791, 792, 793, 794, 795, 796, 797]
def cdL_11 : List Instr := [.iconst 2, .iadd, .iaload, .aload 0, .iload 3, .iconst 3, .iadd, .iaload, .ifCond .eq 451, .iconst 1, .goto 452, .iconst 0, .invokevirtual 1072896, .aload 2, .aload 0, .iload 3, .iconst 1, .iadd, 
  .iaload, .aload 0, .iload 3, .iconst 2, .iadd, .iaload, .aload 0, .iload 3, .iconst 3, .iadd, .iaload, .ifCond .eq 472, .iconst 1, .goto 473, .iconst 0, .invokevirtual 1952976, .if_icmp .eq 1615, 
  .iconst 0, .ireturn, .aload 1, .aload 0, .iload 3]
def psL_11 : List Nat := [798, 799, 800, 801, 802, 803, 804, 805, 806, 809, 810, 813, 814, 817, 818, 819, 820, 821, 822, 823, 824, 825, 826, 827, 828, 829, 830, 831, 832, 833, 836, 837, 840, 841, 844, 847, 848, 849, 850, 851]
def cdL_12 : List Instr := [.iconst 1, .iadd, .iaload, .aload 0, .iload 3, .iconst 2, .iadd, .iaload, .ifCond .eq 491, .iconst 1, .goto 492, .iconst 0, .invokevirtual 1080892, .aload 2, .aload 0, .iload 3, .iconst 1, .iadd, 
  .iaload, .aload 0, .iload 3, .iconst 2, .iadd, .iaload, .ifCond .eq 507, .iconst 1, .goto 508, .iconst 0, .invokevirtual 1960972, .if_icmp .eq 1615, .iconst 0, .ireturn, .aload 1, .aload 0, .iload 3, 
  .iconst 1, .iadd, .iaload, .invokevirtual 1104888, .aload 2]
def psL_12 : List Nat := [852, 853, 854, 855, 856, 857, 858, 859, 860, 863, 864, 867, 868, 871, 872, 873, 874, 875, 876, 877, 878, 879, 880, 881, 882, 885, 886, 889, 890, 893, 896, 897, 898, 899, 900, 901, 902, 903, 904, 907]
def cdL_13 : List Instr := [.aload 0, .iload 3, .iconst 1, .iadd, .iaload, .invokevirtual 2000968, .if_icmp .eq 1615, .iconst 0, .ireturn, .aload 1, .aload 0, .iload 3, .iconst 1, .iadd, .iaload, .invokevirtual 1112888, .aload 2, 
  .aload 0, .iload 3, .iconst 1, .iadd, .iaload, .invokevirtual 2008968, .if_icmp .eq 1615, .iconst 0, .ireturn, .aload 1, .invokevirtual 1128884, .aload 2, .invokevirtual 2016964, .if_icmp .eq 1615, 
  .iconst 0, .ireturn, .aload 1, .aload 0, .iload 3, .iconst 1, .iadd, .iaload, .aload 0]
def psL_13 : List Nat := [908, 909, 910, 911, 912, 913, 916, 919, 920, 921, 922, 923, 924, 925, 926, 927, 930, 931, 932, 933, 934, 935, 936, 939, 942, 943, 944, 945, 948, 949, 952, 955, 956, 957, 958, 959, 960, 961, 962, 963]
def cdL_14 : List Instr := [.iload 3, .iconst 2, .iadd, .iaload, .aload 0, .iload 3, .iconst 3, .iadd, .iaload, .aload 0, .iload 3, .iconst 4, .iadd, .iaload, .aload 0, .iload 3, .iconst 5, .iadd, .iaload, .ifCond .eq 582, 
  .iconst 1, .goto 583, .iconst 0, .aload 0, .iload 3, .iconst 6, .iadd, .iaload, .ifCond .eq 591, .iconst 1, .goto 592, .iconst 0, .invokevirtual 1136908, .aload 2, .aload 0, .iload 3, .iconst 1, .iadd, 
  .iaload, .aload 0]
def psL_14 : List Nat := [964, 965, 966, 967, 968, 969, 970, 971, 972, 973, 974, 975, 976, 977, 978, 979, 980, 981, 982, 983, 986, 987, 990, 991, 992, 993, 995, 996, 997, 1000, 1001, 1004, 1005, 1008, 1009, 1010, 1011, 1012, 
  1013, 1014]
def cdL_15 : List Instr := [.iload 3, .iconst 2, .iadd, .iaload, .aload 0, .iload 3, .iconst 3, .iadd, .iaload, .aload 0, .iload 3, .iconst 4, .iadd, .iaload, .aload 0, .iload 3, .iconst 5, .iadd, .iaload, .ifCond .eq 622, 
  .iconst 1, .goto 623, .iconst 0, .aload 0, .iload 3, .iconst 6, .iadd, .iaload, .ifCond .eq 631, .iconst 1, .goto 632, .iconst 0, .invokevirtual 2120988, .if_icmp .eq 1615, .iconst 0, .ireturn, 
  .aload 1, .aload 0, .iload 3, .iconst 1]
def psL_15 : List Nat := [1015, 1016, 1017, 1018, 1019, 1020, 1021, 1022, 1023, 1024, 1025, 1026, 1027, 1028, 1029, 1030, 1031, 1032, 1033, 1034, 1037, 1038, 1041, 1042, 1043, 1044, 1046, 1047, 1048, 1051, 1052, 1055, 1056, 
  1059, 1062, 1063, 1064, 1065, 1066, 1067]
def cdL_16 : List Instr := [.iadd, .iaload, .aload 0, .iload 3, .iconst 2, .iadd, .iaload, .aload 0, .iload 3, .iconst 3, .iadd, .iaload, .aload 0, .iload 3, .iconst 4, .iadd, .iaload, .aload 0, .iload 3, .iconst 5, .iadd, 
  .iaload, .ifCond .eq 665, .iconst 1, .goto 666, .iconst 0, .aload 0, .iload 3, .iconst 6, .iadd, .iaload, .ifCond .eq 674, .iconst 1, .goto 675, .iconst 0, .invokevirtual 1144908, .aload 2, .aload 0, 
  .iload 3, .iconst 1]
def psL_16 : List Nat := [1068, 1069, 1070, 1071, 1072, 1073, 1074, 1075, 1076, 1077, 1078, 1079, 1080, 1081, 1082, 1083, 1084, 1085, 1086, 1087, 1088, 1089, 1090, 1093, 1094, 1097, 1098, 1099, 1100, 1102, 1103, 1104, 1107, 
  1108, 1111, 1112, 1115, 1116, 1117, 1118]
def cdL_17 : List Instr := [.iadd, .iaload, .aload 0, .iload 3, .iconst 2, .iadd, .iaload, .aload 0, .iload 3, .iconst 3, .iadd, .iaload, .aload 0, .iload 3, .iconst 4, .iadd, .iaload, .aload 0, .iload 3, .iconst 5, .iadd, 
  .iaload, .ifCond .eq 705, .iconst 1, .goto 706, .iconst 0, .aload 0, .iload 3, .iconst 6, .iadd, .iaload, .ifCond .eq 714, .iconst 1, .goto 715, .iconst 0, .invokevirtual 2128988, .if_icmp .eq 1615, 
  .iconst 0, .ireturn, .aload 1]
def psL_17 : List Nat := [1119, 1120, 1121, 1122, 1123, 1124, 1125, 1126, 1127, 1128, 1129, 1130, 1131, 1132, 1133, 1134, 1135, 1136, 1137, 1138, 1139, 1140, 1141, 1144, 1145, 1148, 1149, 1150, 1151, 1153, 1154, 1155, 1158, 
  1159, 1162, 1163, 1166, 1169, 1170, 1171]
def cdL_18 : List Instr := [.aload 0, .iload 3, .iconst 1, .iadd, .iaload, .aload 0, .iload 3, .iconst 2, .iadd, .iaload, .aload 0, .iload 3, .iconst 3, .iadd, .iaload, .aload 0, .iload 3, .iconst 4, .iadd, .iaload, .aload 0, 
  .iload 3, .iconst 5, .iadd, .iaload, .ifCond .eq 748, .iconst 1, .goto 749, .iconst 0, .aload 0, .iload 3, .iconst 6, .iadd, .iaload, .ifCond .eq 757, .iconst 1, .goto 758, .iconst 0, 
  .invokevirtual 1152908, .aload 2]
def psL_18 : List Nat := [1172, 1173, 1174, 1175, 1176, 1177, 1178, 1179, 1180, 1181, 1182, 1183, 1184, 1185, 1186, 1187, 1188, 1189, 1190, 1191, 1192, 1193, 1194, 1195, 1196, 1197, 1200, 1201, 1204, 1205, 1206, 1207, 1209, 
  1210, 1211, 1214, 1215, 1218, 1219, 1222]
def cdL_19 : List Instr := [.aload 0, .iload 3, .iconst 1, .iadd, .iaload, .aload 0, .iload 3, .iconst 2, .iadd, .iaload, .aload 0, .iload 3, .iconst 3, .iadd, .iaload, .aload 0, .iload 3, .iconst 4, .iadd, .iaload, .aload 0, 
  .iload 3, .iconst 5, .iadd, .iaload, .ifCond .eq 788, .iconst 1, .goto 789, .iconst 0, .aload 0, .iload 3, .iconst 6, .iadd, .iaload, .ifCond .eq 797, .iconst 1, .goto 798, .iconst 0, 
  .invokevirtual 2136988, .if_icmp .eq 1615]
def psL_19 : List Nat := [1223, 1224, 1225, 1226, 1227, 1228, 1229, 1230, 1231, 1232, 1233, 1234, 1235, 1236, 1237, 1238, 1239, 1240, 1241, 1242, 1243, 1244, 1245, 1246, 1247, 1248, 1251, 1252, 1255, 1256, 1257, 1258, 1260, 
  1261, 1262, 1265, 1266, 1269, 1270, 1273]
def cdL_20 : List Instr := [.iconst 0, .ireturn, .aload 1, .aload 0, .iload 3, .iconst 1, .iadd, .iaload, .invokevirtual 1184888, .aload 2, .aload 0, .iload 3, .iconst 1, .iadd, .iaload, .invokevirtual 2168968, .if_icmp .eq 1615, 
  .iconst 0, .ireturn, .aload 1, .aload 0, .iload 3, .iconst 1, .iadd, .iaload, .invokevirtual 1192888, .aload 2, .aload 0, .iload 3, .iconst 1, .iadd, .iaload, .invokevirtual 2176968, .if_icmp .eq 1615, 
  .iconst 0, .ireturn, .aload 1, .aload 0, .iload 3, .iconst 1]
def psL_20 : List Nat := [1276, 1277, 1278, 1279, 1280, 1281, 1282, 1283, 1284, 1287, 1288, 1289, 1290, 1291, 1292, 1293, 1296, 1299, 1300, 1301, 1302, 1303, 1304, 1305, 1306, 1307, 1310, 1311, 1312, 1313, 1314, 1315, 1316, 
  1319, 1322, 1323, 1324, 1325, 1326, 1327]
def cdL_21 : List Instr := [.iadd, .iaload, .aload 0, .iload 3, .iconst 2, .iadd, .iaload, .aload 0, .iload 3, .iconst 3, .iadd, .iaload, .ifCond .eq 855, .iconst 1, .goto 856, .iconst 0, .invokevirtual 1200896, .aload 2, 
  .aload 0, .iload 3, .iconst 1, .iadd, .iaload, .aload 0, .iload 3, .iconst 2, .iadd, .iaload, .aload 0, .iload 3, .iconst 3, .iadd, .iaload, .ifCond .eq 876, .iconst 1, .goto 877, .iconst 0, 
  .invokevirtual 2192976, .if_icmp .eq 1615, .iconst 0]
def psL_21 : List Nat := [1328, 1329, 1330, 1331, 1332, 1333, 1334, 1335, 1336, 1337, 1338, 1339, 1340, 1343, 1344, 1347, 1348, 1351, 1352, 1353, 1354, 1355, 1356, 1357, 1358, 1359, 1360, 1361, 1362, 1363, 1364, 1365, 1366, 
  1367, 1370, 1371, 1374, 1375, 1378, 1381]
def cdL_22 : List Instr := [.ireturn, .aload 1, .aload 0, .iload 3, .iconst 1, .iadd, .iaload, .aload 0, .iload 3, .iconst 2, .iadd, .iaload, .aload 0, .iload 3, .iconst 3, .iadd, .iaload, .ifCond .eq 900, .iconst 1, .goto 901, 
  .iconst 0, .invokevirtual 1208896, .aload 2, .aload 0, .iload 3, .iconst 1, .iadd, .iaload, .aload 0, .iload 3, .iconst 2, .iadd, .iaload, .aload 0, .iload 3, .iconst 3, .iadd, .iaload, 
  .ifCond .eq 921, .iconst 1]
def psL_22 : List Nat := [1382, 1383, 1384, 1385, 1386, 1387, 1388, 1389, 1390, 1391, 1392, 1393, 1394, 1395, 1396, 1397, 1398, 1399, 1402, 1403, 1406, 1407, 1410, 1411, 1412, 1413, 1414, 1415, 1416, 1417, 1418, 1419, 1420, 
  1421, 1422, 1423, 1424, 1425, 1426, 1429]
def cdL_23 : List Instr := [.goto 922, .iconst 0, .invokevirtual 2200976, .if_icmp .eq 1615, .iconst 0, .ireturn, .aload 1, .aload 0, .iload 3, .iconst 1, .iadd, .iaload, .aload 0, .iload 3, .iconst 2, .iadd, .iaload, 
  .invokevirtual 1224892, .aload 2, .aload 0, .iload 3, .iconst 1, .iadd, .iaload, .aload 0, .iload 3, .iconst 2, .iadd, .iaload, .invokevirtual 2208972, .if_icmp .eq 1615, .iconst 0, .ireturn, .aload 1, 
  .aload 0, .iload 3, .iconst 1, .iadd, .iaload, .aload 0]
def psL_23 : List Nat := [1430, 1433, 1434, 1437, 1440, 1441, 1442, 1443, 1444, 1445, 1446, 1447, 1448, 1449, 1450, 1451, 1452, 1453, 1456, 1457, 1458, 1459, 1460, 1461, 1462, 1463, 1464, 1465, 1466, 1467, 1470, 1473, 1474, 
  1475, 1476, 1477, 1478, 1479, 1480, 1481]
def cdL_24 : List Instr := [.iload 3, .iconst 2, .iadd, .iaload, .aload 0, .iload 3, .iconst 3, .iadd, .iaload, .invokevirtual 1232896, .aload 2, .aload 0, .iload 3, .iconst 1, .iadd, .iaload, .aload 0, .iload 3, .iconst 2, 
  .iadd, .iaload, .aload 0, .iload 3, .iconst 3, .iadd, .iaload, .invokevirtual 2216976, .if_icmp .eq 1615, .iconst 0, .ireturn, .aload 1, .aload 0, .iload 3, .iconst 1, .iadd, .iaload, .aload 0, 
  .iload 3, .iconst 2, .iadd]
def psL_24 : List Nat := [1482, 1483, 1484, 1485, 1486, 1487, 1488, 1489, 1490, 1491, 1494, 1495, 1496, 1497, 1498, 1499, 1500, 1501, 1502, 1503, 1504, 1505, 1506, 1507, 1508, 1509, 1510, 1513, 1516, 1517, 1518, 1519, 1520, 
  1521, 1522, 1523, 1524, 1525, 1526, 1527]
def cdL_25 : List Instr := [.iaload, .ifCond .eq 1004, .iconst 1, .goto 1005, .iconst 0, .invokevirtual 1240892, .aload 2, .aload 0, .iload 3, .iconst 1, .iadd, .iaload, .aload 0, .iload 3, .iconst 2, .iadd, .iaload, 
  .ifCond .eq 1020, .iconst 1, .goto 1021, .iconst 0, .invokevirtual 2248972, .if_icmp .eq 1615, .iconst 0, .ireturn, .aload 1, .aload 0, .iload 3, .iconst 1, .iadd, .iaload, .aload 0, .iload 3, 
  .iconst 2, .iadd, .iaload, .aload 0, .iload 3, .iconst 3, .iadd]
def psL_25 : List Nat := [1528, 1529, 1532, 1533, 1536, 1537, 1540, 1541, 1542, 1543, 1544, 1545, 1546, 1547, 1548, 1549, 1550, 1551, 1554, 1555, 1558, 1559, 1562, 1565, 1566, 1567, 1568, 1569, 1570, 1571, 1572, 1573, 1574, 
  1575, 1576, 1577, 1578, 1579, 1580, 1581]
def cdL_26 : List Instr := [.iaload, .ifCond .eq 1044, .iconst 1, .goto 1045, .iconst 0, .invokevirtual 1088896, .aload 2, .aload 0, .iload 3, .iconst 1, .iadd, .iaload, .aload 0, .iload 3, .iconst 2, .iadd, .iaload, .aload 0, 
  .iload 3, .iconst 3, .iadd, .iaload, .ifCond .eq 1065, .iconst 1, .goto 1066, .iconst 0, .invokevirtual 1968976, .if_icmp .eq 1615, .iconst 0, .ireturn, .aload 1, .invokevirtual 1096884, .aload 2, 
  .invokevirtual 1976964, .if_icmp .eq 1615, .iconst 0, .ireturn, .aload 1, .aload 0, .iload 3]
def psL_26 : List Nat := [1582, 1583, 1586, 1587, 1590, 1591, 1594, 1595, 1596, 1597, 1598, 1599, 1600, 1601, 1602, 1603, 1604, 1605, 1606, 1607, 1608, 1609, 1610, 1613, 1614, 1617, 1618, 1621, 1624, 1625, 1626, 1627, 1630, 
  1631, 1634, 1637, 1638, 1639, 1640, 1641]
def cdL_27 : List Instr := [.iconst 1, .iadd, .iaload, .invokevirtual 1248888, .aload 2, .aload 0, .iload 3, .iconst 1, .iadd, .iaload, .invokevirtual 2264968, .if_icmp .eq 1615, .iconst 0, .ireturn, .aload 1, .aload 0, .iload 3, 
  .iconst 1, .iadd, .iaload, .invokevirtual 1256888, .aload 2, .aload 0, .iload 3, .iconst 1, .iadd, .iaload, .invokevirtual 2272968, .if_icmp .eq 1615, .iconst 0, .ireturn, .aload 1, .aload 0, .iload 3, 
  .iconst 1, .iadd, .iaload, .invokevirtual 1264888, .aload 2, .aload 0]
def psL_27 : List Nat := [1642, 1643, 1644, 1645, 1648, 1649, 1650, 1651, 1652, 1653, 1654, 1657, 1660, 1661, 1662, 1663, 1664, 1665, 1666, 1667, 1668, 1671, 1672, 1673, 1674, 1675, 1676, 1677, 1680, 1683, 1684, 1685, 1686, 
  1687, 1688, 1689, 1690, 1691, 1694, 1695]
def cdL_28 : List Instr := [.iload 3, .iconst 1, .iadd, .iaload, .invokevirtual 2280968, .if_icmp .eq 1615, .iconst 0, .ireturn, .aload 1, .invokevirtual 1296884, .aload 2, .invokevirtual 2288964, .if_icmp .eq 1615, .iconst 0, 
  .ireturn, .aload 1, .invokevirtual 1304884, .aload 2, .invokevirtual 2296964, .if_icmp .eq 1615, .iconst 0, .ireturn, .aload 1, .aload 0, .iload 3, .iconst 1, .iadd, .iaload, .aload 0, .iload 3, 
  .iconst 2, .iadd, .iaload, .invokevirtual 1312892, .aload 2, .aload 0, .iload 3, .iconst 1, .iadd, .iaload]
def psL_28 : List Nat := [1696, 1697, 1698, 1699, 1700, 1703, 1706, 1707, 1708, 1709, 1712, 1713, 1716, 1719, 1720, 1721, 1722, 1725, 1726, 1729, 1732, 1733, 1734, 1735, 1736, 1737, 1738, 1739, 1740, 1741, 1742, 1743, 1744, 
  1745, 1748, 1749, 1750, 1751, 1752, 1753]
def cdL_29 : List Instr := [.aload 0, .iload 3, .iconst 2, .iadd, .iaload, .invokevirtual 2344972, .if_icmp .eq 1615, .iconst 0, .ireturn, .aload 1, .aload 0, .iload 3, .iconst 1, .iadd, .iaload, .aload 0, .iload 3, .iconst 2, 
  .iadd, .iaload, .invokevirtual 1336892, .aload 2, .aload 0, .iload 3, .iconst 1, .iadd, .iaload, .aload 0, .iload 3, .iconst 2, .iadd, .iaload, .invokevirtual 2352972, .if_icmp .eq 1615, .iconst 0, 
  .ireturn, .aload 1, .aload 0, .iload 3, .iconst 1]
def psL_29 : List Nat := [1754, 1755, 1756, 1757, 1758, 1759, 1762, 1765, 1766, 1767, 1768, 1769, 1770, 1771, 1772, 1773, 1774, 1775, 1776, 1777, 1778, 1781, 1782, 1783, 1784, 1785, 1786, 1787, 1788, 1789, 1790, 1791, 1792, 
  1795, 1798, 1799, 1800, 1801, 1802, 1803]
def cdL_30 : List Instr := [.iadd, .iaload, .invokevirtual 1344888, .aload 2, .aload 0, .iload 3, .iconst 1, .iadd, .iaload, .invokevirtual 2360968, .if_icmp .eq 1615, .iconst 0, .ireturn, .aload 1, .aload 0, .iload 3, .iconst 1, 
  .iadd, .iaload, .aload 0, .iload 3, .iconst 2, .iadd, .iaload, .invokevirtual 1352892, .aload 2, .aload 0, .iload 3, .iconst 1, .iadd, .iaload, .aload 0, .iload 3, .iconst 2, .iadd, .iaload, 
  .invokevirtual 2368972, .if_icmp .eq 1615, .iconst 0, .ireturn]
def psL_30 : List Nat := [1804, 1805, 1806, 1809, 1810, 1811, 1812, 1813, 1814, 1815, 1818, 1821, 1822, 1823, 1824, 1825, 1826, 1827, 1828, 1829, 1830, 1831, 1832, 1833, 1834, 1837, 1838, 1839, 1840, 1841, 1842, 1843, 1844, 
  1845, 1846, 1847, 1848, 1851, 1854, 1855]
def cdL_31 : List Instr := [.aload 1, .aload 0, .iload 3, .iconst 1, .iadd, .iaload, .aload 0, .iload 3, .iconst 2, .iadd, .iaload, .aload 0, .iload 3, .iconst 3, .iadd, .iaload, .invokevirtual 1360896, .aload 2, .aload 0, 
  .iload 3, .iconst 1, .iadd, .iaload, .aload 0, .iload 3, .iconst 2, .iadd, .iaload, .aload 0, .iload 3, .iconst 3, .iadd, .iaload, .invokevirtual 2392976, .if_icmp .eq 1615, .iconst 0, .ireturn, 
  .aload 1, .aload 0, .iload 3]
def psL_31 : List Nat := [1856, 1857, 1858, 1859, 1860, 1861, 1862, 1863, 1864, 1865, 1866, 1867, 1868, 1869, 1870, 1871, 1872, 1875, 1876, 1877, 1878, 1879, 1880, 1881, 1882, 1883, 1884, 1885, 1886, 1887, 1888, 1889, 1890, 
  1891, 1894, 1897, 1898, 1899, 1900, 1901]
def cdL_32 : List Instr := [.iconst 1, .iadd, .iaload, .aload 0, .iload 3, .iconst 2, .iadd, .iaload, .aload 0, .iload 3, .iconst 3, .iadd, .iaload, .invokevirtual 1376896, .aload 2, .aload 0, .iload 3, .iconst 1, .iadd, .iaload, 
  .aload 0, .iload 3, .iconst 2, .iadd, .iaload, .aload 0, .iload 3, .iconst 3, .iadd, .iaload, .invokevirtual 2400976, .if_icmp .eq 1615, .iconst 0, .ireturn, .aload 1, .aload 0, .iload 3, .iconst 1, 
  .iadd, .iaload]
def psL_32 : List Nat := [1902, 1903, 1904, 1905, 1906, 1907, 1908, 1909, 1910, 1911, 1912, 1913, 1914, 1915, 1918, 1919, 1920, 1921, 1922, 1923, 1924, 1925, 1926, 1927, 1928, 1929, 1930, 1931, 1932, 1933, 1934, 1937, 1940, 
  1941, 1942, 1943, 1944, 1945, 1946, 1947]
def cdL_33 : List Instr := [.aload 0, .iload 3, .iconst 2, .iadd, .iaload, .aload 0, .iload 3, .iconst 3, .iadd, .iaload, .aload 0, .iload 3, .iconst 4, .iadd, .iaload, .invokevirtual 1384900, .aload 2, .aload 0, .iload 3, 
  .iconst 1, .iadd, .iaload, .aload 0, .iload 3, .iconst 2, .iadd, .iaload, .aload 0, .iload 3, .iconst 3, .iadd, .iaload, .aload 0, .iload 3, .iconst 4, .iadd, .iaload, .invokevirtual 2408980, 
  .if_icmp .eq 1615, .iconst 0]
def psL_33 : List Nat := [1948, 1949, 1950, 1951, 1952, 1953, 1954, 1955, 1956, 1957, 1958, 1959, 1960, 1961, 1962, 1963, 1966, 1967, 1968, 1969, 1970, 1971, 1972, 1973, 1974, 1975, 1976, 1977, 1978, 1979, 1980, 1981, 1982, 
  1983, 1984, 1985, 1986, 1987, 1990, 1993]
def cdL_34 : List Instr := [.ireturn, .aload 1, .invokevirtual 1392884, .aload 2, .invokevirtual 2472964, .if_icmp .eq 1615, .iconst 0, .ireturn, .aload 1, .aload 0, .iload 3, .iconst 1, .iadd, .iaload, .invokevirtual 1400888, 
  .aload 2, .aload 0, .iload 3, .iconst 1, .iadd, .iaload, .invokevirtual 2480968, .if_icmp .eq 1615, .iconst 0, .ireturn, .aload 1, .aload 0, .iload 3, .iconst 1, .iadd, .iaload, .invokevirtual 1408888, 
  .aload 2, .aload 0, .iload 3, .iconst 1, .iadd, .iaload, .invokevirtual 2488968, .if_icmp .eq 1615]
def psL_34 : List Nat := [1994, 1995, 1996, 1999, 2000, 2003, 2006, 2007, 2008, 2009, 2010, 2011, 2012, 2013, 2014, 2017, 2018, 2019, 2020, 2021, 2022, 2023, 2026, 2029, 2030, 2031, 2032, 2033, 2034, 2035, 2036, 2037, 2040, 
  2041, 2042, 2043, 2044, 2045, 2046, 2049]
def cdL_35 : List Instr := [.iconst 0, .ireturn, .aload 1, .invokevirtual 1416884, .aload 2, .invokevirtual 2496964, .if_icmp .eq 1615, .iconst 0, .ireturn, .aload 1, .aload 0, .iload 3, .iconst 1, .iadd, .iaload, 
  .invokevirtual 1424888, .aload 2, .aload 0, .iload 3, .iconst 1, .iadd, .iaload, .invokevirtual 2504968, .if_icmp .eq 1615, .iconst 0, .ireturn, .aload 1, .aload 0, .iload 3, .iconst 1, .iadd, .iaload, 
  .invokevirtual 1440888, .aload 2, .aload 0, .iload 3, .iconst 1, .iadd, .iaload, .invokevirtual 1536968]
def psL_35 : List Nat := [2052, 2053, 2054, 2055, 2058, 2059, 2062, 2065, 2066, 2067, 2068, 2069, 2070, 2071, 2072, 2073, 2076, 2077, 2078, 2079, 2080, 2081, 2082, 2085, 2088, 2089, 2090, 2091, 2092, 2093, 2094, 2095, 2096, 
  2099, 2100, 2101, 2102, 2103, 2104, 2105]
def cdL_36 : List Instr := [.if_icmp .eq 1615, .iconst 0, .ireturn, .aload 1, .aload 0, .iload 3, .iconst 1, .iadd, .iaload, .invokevirtual 1448888, .aload 2, .aload 0, .iload 3, .iconst 1, .iadd, .iaload, .invokevirtual 1544968, 
  .if_icmp .eq 1615, .iconst 0, .ireturn, .aload 1, .aload 0, .iload 3, .iconst 1, .iadd, .iaload, .aload 0, .iload 3, .iconst 2, .iadd, .iaload, .aload 0, .iload 3, .iconst 3, .iadd, .iaload, 
  .invokevirtual 1464896, .aload 2, .aload 0, .iload 3]
def psL_36 : List Nat := [2108, 2111, 2112, 2113, 2114, 2115, 2116, 2117, 2118, 2119, 2122, 2123, 2124, 2125, 2126, 2127, 2128, 2131, 2134, 2135, 2136, 2137, 2138, 2139, 2140, 2141, 2142, 2143, 2144, 2145, 2146, 2147, 2148, 
  2149, 2150, 2151, 2152, 2155, 2156, 2157]
def cdL_37 : List Instr := [.iconst 1, .iadd, .iaload, .aload 0, .iload 3, .iconst 2, .iadd, .iaload, .aload 0, .iload 3, .iconst 3, .iadd, .iaload, .invokevirtual 2528976, .if_icmp .eq 1615, .iconst 0, .ireturn, .aload 1, 
  .aload 0, .iload 3, .iconst 1, .iadd, .iaload, .aload 0, .iload 3, .iconst 2, .iadd, .iaload, .aload 0, .iload 3, .iconst 3, .iadd, .iaload, .i2l, .iconst 32, .lshl, .aload 0, .iload 3, .iconst 4, 
  .iadd]
def psL_37 : List Nat := [2158, 2159, 2160, 2161, 2162, 2163, 2164, 2165, 2166, 2167, 2168, 2169, 2170, 2171, 2174, 2177, 2178, 2179, 2180, 2181, 2182, 2183, 2184, 2185, 2186, 2187, 2188, 2189, 2190, 2191, 2192, 2193, 2194, 
  2195, 2196, 2198, 2199, 2200, 2201, 2202]
def cdL_38 : List Instr := [.iaload, .i2l, .jsr 4294967295, .land, .lor, .invokevirtual 1472896, .aload 2, .aload 0, .iload 3, .iconst 1, .iadd, .iaload, .aload 0, .iload 3, .iconst 2, .iadd, .iaload, .aload 0, .iload 3, 
  .iconst 3, .iadd, .iaload, .i2l, .iconst 32, .lshl, .aload 0, .iload 3, .iconst 4, .iadd, .iaload, .i2l, .jsr 4294967295, .land, .lor, .invokevirtual 2536976, .if_icmp .eq 1615, .iconst 0, .ireturn, 
  .aload 1, .aload 0]
def psL_38 : List Nat := [2203, 2204, 2205, 2208, 2209, 2210, 2213, 2214, 2215, 2216, 2217, 2218, 2219, 2220, 2221, 2222, 2223, 2224, 2225, 2226, 2227, 2228, 2229, 2230, 2232, 2233, 2234, 2235, 2236, 2237, 2238, 2239, 2242, 
  2243, 2244, 2247, 2250, 2251, 2252, 2253]
def cdL_39 : List Instr := [.iload 3, .iconst 1, .iadd, .iaload, .aload 0, .iload 3, .iconst 2, .iadd, .iaload, .aload 0, .iload 3, .iconst 3, .iadd, .iaload, .aload 0, .iload 3, .iconst 4, .iadd, .iaload, .aload 0, .iload 3, 
  .iconst 5, .iadd, .iaload, .invokevirtual 1488904, .aload 2, .aload 0, .iload 3, .iconst 1, .iadd, .iaload, .aload 0, .iload 3, .iconst 2, .iadd, .iaload, .aload 0, .iload 3, .iconst 3, .iadd]
def psL_39 : List Nat := [2254, 2255, 2256, 2257, 2258, 2259, 2260, 2261, 2262, 2263, 2264, 2265, 2266, 2267, 2268, 2269, 2270, 2271, 2272, 2273, 2274, 2275, 2276, 2277, 2278, 2281, 2282, 2283, 2284, 2285, 2286, 2287, 2288, 
  2289, 2290, 2291, 2292, 2293, 2294, 2295]
def cdL_40 : List Instr := [.iaload, .aload 0, .iload 3, .iconst 4, .iadd, .iaload, .aload 0, .iload 3, .iconst 5, .iadd, .iaload, .invokevirtual 2544984, .if_icmp .eq 1615, .iconst 0, .ireturn, .iinc 3 7, .goto 10, .iconst 1, 
  .ireturn]
def psL_40 : List Nat := [2296, 2297, 2298, 2299, 2300, 2301, 2302, 2303, 2304, 2305, 2306, 2307, 2310, 2313, 2314, 2315, 2318, 2321, 2322]
def cdLaw : List Instr := cdL_0 ++ (cdL_1 ++ (cdL_2 ++ (cdL_3 ++ (cdL_4 ++ (cdL_5 ++ (cdL_6 ++ (cdL_7 ++ (cdL_8 ++ (cdL_9 ++ (cdL_10 ++ (cdL_11 ++ (cdL_12 ++ (cdL_13 ++ (cdL_14 ++ (cdL_15 ++ (cdL_16 ++ (cdL_17 ++ (cdL_18 ++ (cdL_19 ++ (cdL_20 ++ (cdL_21 ++ (cdL_22 ++ (cdL_23 ++ (cdL_24 ++ (cdL_25 ++ (cdL_26 ++ (cdL_27 ++ (cdL_28 ++ (cdL_29 ++ (cdL_30 ++ (cdL_31 ++ (cdL_32 ++ (cdL_33 ++ (cdL_34 ++ (cdL_35 ++ (cdL_36 ++ (cdL_37 ++ (cdL_38 ++ (cdL_39 ++ (cdL_40))))))))))))))))))))))))))))))))))))))))
def psLaw : List Nat := psL_0 ++ (psL_1 ++ (psL_2 ++ (psL_3 ++ (psL_4 ++ (psL_5 ++ (psL_6 ++ (psL_7 ++ (psL_8 ++ (psL_9 ++ (psL_10 ++ (psL_11 ++ (psL_12 ++ (psL_13 ++ (psL_14 ++ (psL_15 ++ (psL_16 ++ (psL_17 ++ (psL_18 ++ (psL_19 ++ (psL_20 ++ (psL_21 ++ (psL_22 ++ (psL_23 ++ (psL_24 ++ (psL_25 ++ (psL_26 ++ (psL_27 ++ (psL_28 ++ (psL_29 ++ (psL_30 ++ (psL_31 ++ (psL_32 ++ (psL_33 ++ (psL_34 ++ (psL_35 ++ (psL_36 ++ (psL_37 ++ (psL_38 ++ (psL_39 ++ (psL_40))))))))))))))))))))))))))))))))))))))))
theorem ckL_0 : xChkP 13 false (some .int) code psLaw (cdL_0.zip psL_0) (psL_0.tail ++ [270]) = true := by decide +kernel
theorem ckL_1 : xChkP 13 false (some .int) code psLaw (cdL_1.zip psL_1) (psL_1.tail ++ [316]) = true := by decide +kernel
theorem ckL_2 : xChkP 13 false (some .int) code psLaw (cdL_2.zip psL_2) (psL_2.tail ++ [374]) = true := by decide +kernel
theorem ckL_3 : xChkP 13 false (some .int) code psLaw (cdL_3.zip psL_3) (psL_3.tail ++ [424]) = true := by decide +kernel
theorem ckL_4 : xChkP 13 false (some .int) code psLaw (cdL_4.zip psL_4) (psL_4.tail ++ [480]) = true := by decide +kernel
theorem ckL_5 : xChkP 13 false (some .int) code psLaw (cdL_5.zip psL_5) (psL_5.tail ++ [532]) = true := by decide +kernel
theorem ckL_6 : xChkP 13 false (some .int) code psLaw (cdL_6.zip psL_6) (psL_6.tail ++ [592]) = true := by decide +kernel
theorem ckL_7 : xChkP 13 false (some .int) code psLaw (cdL_7.zip psL_7) (psL_7.tail ++ [640]) = true := by decide +kernel
theorem ckL_8 : xChkP 13 false (some .int) code psLaw (cdL_8.zip psL_8) (psL_8.tail ++ [696]) = true := by decide +kernel
theorem ckL_9 : xChkP 13 false (some .int) code psLaw (cdL_9.zip psL_9) (psL_9.tail ++ [746]) = true := by decide +kernel
theorem ckL_10 : xChkP 13 false (some .int) code psLaw (cdL_10.zip psL_10) (psL_10.tail ++ [798]) = true := by decide +kernel
theorem ckL_11 : xChkP 13 false (some .int) code psLaw (cdL_11.zip psL_11) (psL_11.tail ++ [852]) = true := by decide +kernel
theorem ckL_12 : xChkP 13 false (some .int) code psLaw (cdL_12.zip psL_12) (psL_12.tail ++ [908]) = true := by decide +kernel
theorem ckL_13 : xChkP 13 false (some .int) code psLaw (cdL_13.zip psL_13) (psL_13.tail ++ [964]) = true := by decide +kernel
theorem ckL_14 : xChkP 13 false (some .int) code psLaw (cdL_14.zip psL_14) (psL_14.tail ++ [1015]) = true := by decide +kernel
theorem ckL_15 : xChkP 13 false (some .int) code psLaw (cdL_15.zip psL_15) (psL_15.tail ++ [1068]) = true := by decide +kernel
theorem ckL_16 : xChkP 13 false (some .int) code psLaw (cdL_16.zip psL_16) (psL_16.tail ++ [1119]) = true := by decide +kernel
theorem ckL_17 : xChkP 13 false (some .int) code psLaw (cdL_17.zip psL_17) (psL_17.tail ++ [1172]) = true := by decide +kernel
theorem ckL_18 : xChkP 13 false (some .int) code psLaw (cdL_18.zip psL_18) (psL_18.tail ++ [1223]) = true := by decide +kernel
theorem ckL_19 : xChkP 13 false (some .int) code psLaw (cdL_19.zip psL_19) (psL_19.tail ++ [1276]) = true := by decide +kernel
theorem ckL_20 : xChkP 13 false (some .int) code psLaw (cdL_20.zip psL_20) (psL_20.tail ++ [1328]) = true := by decide +kernel
theorem ckL_21 : xChkP 13 false (some .int) code psLaw (cdL_21.zip psL_21) (psL_21.tail ++ [1382]) = true := by decide +kernel
theorem ckL_22 : xChkP 13 false (some .int) code psLaw (cdL_22.zip psL_22) (psL_22.tail ++ [1430]) = true := by decide +kernel
theorem ckL_23 : xChkP 13 false (some .int) code psLaw (cdL_23.zip psL_23) (psL_23.tail ++ [1482]) = true := by decide +kernel
theorem ckL_24 : xChkP 13 false (some .int) code psLaw (cdL_24.zip psL_24) (psL_24.tail ++ [1528]) = true := by decide +kernel
theorem ckL_25 : xChkP 13 false (some .int) code psLaw (cdL_25.zip psL_25) (psL_25.tail ++ [1582]) = true := by decide +kernel
theorem ckL_26 : xChkP 13 false (some .int) code psLaw (cdL_26.zip psL_26) (psL_26.tail ++ [1642]) = true := by decide +kernel
theorem ckL_27 : xChkP 13 false (some .int) code psLaw (cdL_27.zip psL_27) (psL_27.tail ++ [1696]) = true := by decide +kernel
theorem ckL_28 : xChkP 13 false (some .int) code psLaw (cdL_28.zip psL_28) (psL_28.tail ++ [1754]) = true := by decide +kernel
theorem ckL_29 : xChkP 13 false (some .int) code psLaw (cdL_29.zip psL_29) (psL_29.tail ++ [1804]) = true := by decide +kernel
theorem ckL_30 : xChkP 13 false (some .int) code psLaw (cdL_30.zip psL_30) (psL_30.tail ++ [1856]) = true := by decide +kernel
theorem ckL_31 : xChkP 13 false (some .int) code psLaw (cdL_31.zip psL_31) (psL_31.tail ++ [1902]) = true := by decide +kernel
theorem ckL_32 : xChkP 13 false (some .int) code psLaw (cdL_32.zip psL_32) (psL_32.tail ++ [1948]) = true := by decide +kernel
theorem ckL_33 : xChkP 13 false (some .int) code psLaw (cdL_33.zip psL_33) (psL_33.tail ++ [1994]) = true := by decide +kernel
theorem ckL_34 : xChkP 13 false (some .int) code psLaw (cdL_34.zip psL_34) (psL_34.tail ++ [2052]) = true := by decide +kernel
theorem ckL_35 : xChkP 13 false (some .int) code psLaw (cdL_35.zip psL_35) (psL_35.tail ++ [2108]) = true := by decide +kernel
theorem ckL_36 : xChkP 13 false (some .int) code psLaw (cdL_36.zip psL_36) (psL_36.tail ++ [2158]) = true := by decide +kernel
theorem ckL_37 : xChkP 13 false (some .int) code psLaw (cdL_37.zip psL_37) (psL_37.tail ++ [2203]) = true := by decide +kernel
theorem ckL_38 : xChkP 13 false (some .int) code psLaw (cdL_38.zip psL_38) (psL_38.tail ++ [2254]) = true := by decide +kernel
theorem ckL_39 : xChkP 13 false (some .int) code psLaw (cdL_39.zip psL_39) (psL_39.tail ++ [2296]) = true := by decide +kernel
theorem ckL_40 : xChkP 13 false (some .int) code psLaw (cdL_40.zip psL_40) (psL_40.tail ++ [2323]) = true := by decide +kernel
end
section
def xCd_0 : List (List Instr × List Nat) := [(cd_0, ps_0), (cd_1, ps_1), (cd_2, ps_2), (cd_3, ps_3), (cd_4, ps_4), (cd_5, ps_5), (cd_6, ps_6), (cd_7, ps_7), (cd_8, ps_8), (cd_9, ps_9), (cd_10, ps_10), (cd_11, ps_11), (cd_12, ps_12), 
  (cd_13, ps_13), (cd_14, ps_14), (cd_15, ps_15), (cd_16, ps_16), (cd_17, ps_17), (cd_18, ps_18), (cd_19, ps_19), (cd_20, ps_20), (cd_21, ps_21), (cd_22, ps_22), (cd_23, ps_23), (cd_24, ps_24), 
  (cd_25, ps_25), (cd_26, ps_26)]
def xCd_1 : List (List Instr × List Nat) := [(cd_27, ps_27), (cd_28, ps_28), (cd_29, ps_29), (cd_30, ps_30), (cd_31, ps_31), (cd_32, ps_32), (cd_33, ps_33), (cd_34, ps_34), (cd_35, ps_35), (cd_36, ps_36), (cd_37, ps_37), (cd_38, ps_38), 
  (cd_39, ps_39), (cd_40, ps_40), (cd_41, ps_41), (cd_42, ps_42), (cd_43, ps_43), (cd_44, ps_44), (cd_45, ps_45), (cd_46, ps_46), (cd_47, ps_47), (cd_48, ps_48), (cd_49, ps_49), (cd_50, ps_50), 
  (cd_51, ps_51), (cd_52, ps_52), (cd_53, ps_53)]
def xCd_2 : List (List Instr × List Nat) := [(cd_54, ps_54), (cd_55, ps_55), (cd_56, ps_56), (cd_57, ps_57), (cd_58, ps_58), (cd_59, ps_59), (cd_60, ps_60), (cd_61, ps_61), (cd_62, ps_62), (cd_63, ps_63), (cd_64, ps_64), (cd_65, ps_65), 
  (cd_66, ps_66), (cd_67, ps_67), (cd_68, ps_68), (cd_69, ps_69), (cd_70, ps_70), (cd_71, ps_71), (cd_72, ps_72), (cd_73, ps_73), (cd_74, ps_74), (cd_75, ps_75), (cd_76, ps_76), (cd_77, ps_77), 
  (cd_78, ps_78), (cd_79, ps_79), (cd_80, ps_80)]
def xCd_3 : List (List Instr × List Nat) := [(cd_81, ps_81), (cd_82, ps_82), (cd_83, ps_83), (cd_84, ps_84), (cd_85, ps_85), (cd_86, ps_86), (cd_87, ps_87), (cd_88, ps_88), (cd_89, ps_89), (cd_90, ps_90), (cd_91, ps_91), (cd_92, ps_92), 
  (cd_93, ps_93), (cd_94, ps_94), (cd_95, ps_95), (cd_96, ps_96), (cd_97, ps_97), (cd_98, ps_98), (cd_99, ps_99), (cd_100, ps_100), (cd_101, ps_101), (cd_102, ps_102), (cd_103, ps_103), (cd_104, ps_104), 
  (cd_105, ps_105), (cd_106, ps_106), (cd_107, ps_107)]
def xCd_4 : List (List Instr × List Nat) := [(cd_108, ps_108), (cd_109, ps_109), (cd_110, ps_110), (cd_111, ps_111), (cd_112, ps_112), (cd_113, ps_113), (cd_114, ps_114), (cd_115, ps_115), (cd_116, ps_116), (cd_117, ps_117), (cd_118, ps_118), 
  (cd_119, ps_119), (cd_120, ps_120), (cd_121, ps_121), (cd_122, ps_122), (cd_123, ps_123), (cd_124, ps_124), (cd_125, ps_125), (cd_126, ps_126), (cd_127, ps_127), (cd_128, ps_128), (cd_129, ps_129), 
  (cd_130, ps_130), (cd_131, ps_131), (cd_132, ps_132), (cd_133, ps_133), (cd_134, ps_134)]
def xCd_5 : List (List Instr × List Nat) := [(cd_135, ps_135), (cd_136, ps_136), (cd_137, ps_137), (cd_138, ps_138), (cd_139, ps_139), (cd_140, ps_140), (cd_141, ps_141), (cd_142, ps_142), (cd_143, ps_143), (cd_144, ps_144), (cd_145, ps_145), 
  (cd_146, ps_146), (cd_147, ps_147), (cd_148, ps_148), (cd_149, ps_149), (cd_150, ps_150), (cd_151, ps_151), (cd_152, ps_152), (cd_153, ps_153), (cd_154, ps_154), (cd_155, ps_155), (cd_156, ps_156), 
  (cd_157, ps_157), (cd_158, ps_158), (cd_159, ps_159), (cd_160, ps_160), (cd_161, ps_161)]
def xCd_6 : List (List Instr × List Nat) := [(cd_162, ps_162), (cd_163, ps_163), (cd_164, ps_164), (cd_165, ps_165), (cd_166, ps_166), (cd_167, ps_167), (cd_168, ps_168), (cd_169, ps_169), (cd_170, ps_170), (cd_171, ps_171), (cd_172, ps_172), 
  (cd_173, ps_173), (cd_174, ps_174), (cd_175, ps_175), (cd_176, ps_176), (cd_177, ps_177), (cd_178, ps_178), (cd_179, ps_179), (cd_180, ps_180), (cd_181, ps_181), (cd_182, ps_182), (cd_183, ps_183), 
  (cd_184, ps_184), (cd_185, ps_185), (cd_186, ps_186), (cd_187, ps_187), (cd_188, ps_188)]
def xCd_7 : List (List Instr × List Nat) := [(cd_189, ps_189), (cd_190, ps_190), (cd_191, ps_191), (cd_192, ps_192), (cd_193, ps_193), (cd_194, ps_194), (cd_195, ps_195), (cd_196, ps_196), (cd_197, ps_197), (cd_198, ps_198), (cd_199, ps_199), 
  (cd_200, ps_200), (cd_201, ps_201), (cd_202, ps_202), (cd_203, ps_203), (cd_204, ps_204), (cd_205, ps_205), (cd_206, ps_206), (cd_207, ps_207), (cd_208, ps_208), (cd_209, ps_209), (cd_210, ps_210), 
  (cd_211, ps_211), (cd_212, ps_212), (cd_213, ps_213), (cd_214, ps_214), (cd_215, ps_215)]
def xCd_8 : List (List Instr × List Nat) := [(cd_216, ps_216), (cd_217, ps_217), (cd_218, ps_218), (cd_219, ps_219), (cd_220, ps_220), (cd_221, ps_221), (cd_222, ps_222), (cd_223, ps_223), (cd_224, ps_224), (cd_225, ps_225), (cd_226, ps_226), 
  (cd_227, ps_227), (cd_228, ps_228), (cd_229, ps_229), (cd_230, ps_230), (cd_231, ps_231), (cd_232, ps_232), (cd_233, ps_233), (cd_234, ps_234), (cd_235, ps_235), (cd_236, ps_236), (cd_237, ps_237), 
  (cd_238, ps_238), (cd_239, ps_239), (cd_240, ps_240), (cd_241, ps_241), (cd_242, ps_242)]
def xCd_9 : List (List Instr × List Nat) := [(cd_243, ps_243), (cd_244, ps_244), (cd_245, ps_245), (cd_246, ps_246), (cd_247, ps_247), (cd_248, ps_248), (cd_249, ps_249), (cd_250, ps_250), (cd_251, ps_251), (cd_252, ps_252), (cd_253, ps_253), 
  (cd_254, ps_254), (cd_255, ps_255), (cd_256, ps_256), (cd_257, ps_257), (cd_258, ps_258), (cd_259, ps_259), (cd_260, ps_260), (cd_261, ps_261), (cd_262, ps_262), (cd_263, ps_263), (cd_264, ps_264), 
  (cd_265, ps_265), (cd_266, ps_266), (cd_267, ps_267), (cd_268, ps_268), (cd_269, ps_269)]
def xCd_10 : List (List Instr × List Nat) := [(cd_270, ps_270), (cd_271, ps_271), (cd_272, ps_272), (cd_273, ps_273), (cd_274, ps_274), (cd_275, ps_275), (cd_276, ps_276), (cd_277, ps_277), (cd_278, ps_278), (cd_279, ps_279), (cd_280, ps_280), 
  (cd_281, ps_281), (cd_282, ps_282), (cd_283, ps_283), (cd_284, ps_284), (cd_285, ps_285), (cd_286, ps_286), (cd_287, ps_287), (cd_288, ps_288), (cd_289, ps_289), (cd_290, ps_290), (cd_291, ps_291), 
  (cd_292, ps_292), (cd_293, ps_293), (cd_294, ps_294), (cd_295, ps_295), (cd_296, ps_296)]
def xCd_11 : List (List Instr × List Nat) := [(cd_297, ps_297), (cd_298, ps_298), (cd_299, ps_299), (cd_300, ps_300), (cd_301, ps_301), (cd_302, ps_302), (cd_303, ps_303), (cd_304, ps_304), (cd_305, ps_305), (cd_306, ps_306), (cd_307, ps_307), 
  (cd_308, ps_308), (cd_309, ps_309), (cd_310, ps_310), (cd_311, ps_311), (cd_312, ps_312), (cd_313, ps_313), (cd_314, ps_314), (cd_315, ps_315), (cd_316, ps_316), (cd_317, ps_317), (cd_318, ps_318), 
  (cd_319, ps_319), (cd_320, ps_320), (cd_321, ps_321), (cd_322, ps_322)]
def xCds : List (List Instr × List Nat) := xCd_0 ++ (xCd_1 ++ (xCd_2 ++ (xCd_3 ++ (xCd_4 ++ (xCd_5 ++ (xCd_6 ++ (xCd_7 ++ (xCd_8 ++ (xCd_9 ++ (xCd_10 ++ (xCd_11)))))))))))
def xCode (j : Nat) : List Instr := (xCds.getD j ([], [])).1
def xPs (j : Nat) : List Nat := (xCds.getD j ([], [])).2
def xMo : List Nat := [0, 0, 0, 0, 0, 0, 0, 0, 0, 0, 0, 0, 0, 0, 0, 1, 1, 1, 1, 1, 1, 1, 1, 1, 1, 1, 1, 2, 2, 3, 3, 3, 3, 3, 3, 4, 4, 4, 4, 4, 5, 5, 5, 5, 5, 5, 5, 5, 5, 5, 5, 5, 5, 5, 5, 6, 6, 6, 6, 6, 6, 7, 7, 7, 7, 7, 7, 
  7, 7, 7, 7, 7, 7, 7, 7, 7, 7, 7, 7, 7, 7, 7, 7, 7, 8, 8, 8, 8, 8, 8, 8, 8, 8, 8, 9, 9, 9, 10, 10, 10, 10, 10, 10, 10, 10, 10, 10, 10, 10, 10, 10, 10, 10, 10, 10, 10, 10, 10, 10, 11, 11, 11, 11, 11, 11, 
  11, 11, 11, 11, 11, 11, 11, 11, 11, 11, 11, 11, 11, 11, 11, 11, 11, 11, 11, 11, 11, 11, 11, 11, 11, 11, 11, 11, 11, 11, 11, 11, 11, 11, 11, 11, 11, 11, 11, 11, 11, 11, 11, 11, 11, 11, 11, 11, 11, 11, 
  11, 11, 11, 11, 11, 11, 11, 11, 11, 11, 11, 11, 11, 12, 12, 12, 12, 12, 12, 12, 12, 12, 12, 12, 12, 12, 12, 12, 12, 12, 12, 12, 12, 12, 12, 12, 12, 12, 12, 12, 12, 12, 12, 12, 12, 12, 12, 12, 12, 12, 
  12, 12, 12, 12, 12, 12, 12, 12, 12, 12, 12, 12, 12, 12, 12, 12, 12, 12, 12, 12, 12, 12, 12, 12, 12, 12, 12, 12, 12, 12, 12, 12, 12, 12, 12, 12, 12, 12, 12, 12, 12, 12, 12, 12, 12, 12, 12, 12, 12, 12, 
  12, 12, 12, 12, 12, 12, 12, 12, 12, 12, 12, 12, 12, 12, 12, 12, 12, 12, 12, 12, 12, 12, 12, 12, 12, 12, 12, 12, 12, 12, 12, 12, 12, 12, 12, 12, 12, 12, 12, 12, 12, 12, 12, 12, 14, 15, 15, 15]
def xMi : List Bool := [true, false, false, false, false, false, false, false, false, false, false, false, false, false, false, true, false, false, false, false, false, false, false, false, false, false, false, true, false, 
  true, false, false, false, false, false, true, false, false, false, false, true, false, false, false, false, false, false, false, false, false, false, false, false, false, false, true, false, false, 
  false, false, false, true, false, false, false, false, false, false, false, false, false, false, false, false, false, false, false, false, false, false, false, false, false, false, true, false, false, 
  false, false, false, false, false, false, false, true, false, false, true, false, false, false, false, false, false, false, false, false, false, false, false, false, false, false, false, false, false, 
  false, false, false, true, false, false, false, false, false, false, false, false, false, false, false, false, false, false, false, false, false, false, false, false, false, false, false, false, false, 
  false, false, false, false, false, false, false, false, false, false, false, false, false, false, false, false, false, false, false, false, false, false, false, false, false, false, false, false, 
  false, false, false, false, false, false, false, false, false, false, false, false, false, false, false, false, false, true, false, false, false, false, false, false, false, false, false, false, false, 
  false, false, false, false, false, false, false, false, false, false, false, false, false, false, false, false, false, false, false, false, false, false, false, false, false, false, false, false, 
  false, false, false, false, false, false, false, false, false, false, false, false, false, false, false, false, false, false, false, false, false, false, false, false, false, false, false, false, 
  false, false, false, false, false, false, false, false, false, false, false, false, false, false, false, false, false, false, false, false, false, false, false, false, false, false, false, false, 
  false, false, false, false, false, false, false, false, false, false, false, false, false, false, false, false, false, false, false, false, false, false, false, false, false, false, false, false, 
  false, false, false, false, false, false, false, false, false]
def xCkd (j : Nat) : Prop := xChkM (xMo.getD j 99) (xMi.getD j false) (xM j).2.2.2.1 (xM j).2.1 (xCode j) (xPs j) = true
set_option maxRecDepth 100000 in
theorem xCk_0 : ∀ j ∈ ([0, 1, 2, 3, 4, 5, 6, 7, 8, 9, 10, 11, 12, 13, 14, 15, 16, 17, 18, 19, 20, 21, 22, 23, 24, 25, 26] : List Nat), xCkd j := List.forall_mem_cons.mpr ⟨ck_0, List.forall_mem_cons.mpr ⟨ck_1, List.forall_mem_cons.mpr ⟨ck_2, List.forall_mem_cons.mpr ⟨ck_3, List.forall_mem_cons.mpr ⟨ck_4, List.forall_mem_cons.mpr ⟨ck_5, List.forall_mem_cons.mpr ⟨ck_6, List.forall_mem_cons.mpr ⟨ck_7, List.forall_mem_cons.mpr ⟨ck_8, List.forall_mem_cons.mpr ⟨ck_9, List.forall_mem_cons.mpr ⟨ck_10, List.forall_mem_cons.mpr ⟨ck_11, List.forall_mem_cons.mpr ⟨ck_12, List.forall_mem_cons.mpr ⟨ck_13, List.forall_mem_cons.mpr ⟨ck_14, List.forall_mem_cons.mpr ⟨ck_15, List.forall_mem_cons.mpr ⟨ck_16, List.forall_mem_cons.mpr ⟨ck_17, List.forall_mem_cons.mpr ⟨ck_18, List.forall_mem_cons.mpr ⟨ck_19, List.forall_mem_cons.mpr ⟨ck_20, List.forall_mem_cons.mpr ⟨ck_21, List.forall_mem_cons.mpr ⟨ck_22, List.forall_mem_cons.mpr ⟨ck_23, List.forall_mem_cons.mpr ⟨ck_24, List.forall_mem_cons.mpr ⟨ck_25, List.forall_mem_cons.mpr ⟨ck_26, fun _ h => absurd h List.not_mem_nil⟩⟩⟩⟩⟩⟩⟩⟩⟩⟩⟩⟩⟩⟩⟩⟩⟩⟩⟩⟩⟩⟩⟩⟩⟩⟩⟩
set_option maxRecDepth 100000 in
theorem xCk_1 : ∀ j ∈ ([27, 28, 29, 30, 31, 32, 33, 34, 35, 36, 37, 38, 39, 40, 41, 42, 43, 44, 45, 46, 47, 48, 49, 50, 51, 52, 53] : List Nat), xCkd j := List.forall_mem_cons.mpr ⟨ck_27, List.forall_mem_cons.mpr ⟨ck_28, List.forall_mem_cons.mpr ⟨ck_29, List.forall_mem_cons.mpr ⟨ck_30, List.forall_mem_cons.mpr ⟨ck_31, List.forall_mem_cons.mpr ⟨ck_32, List.forall_mem_cons.mpr ⟨ck_33, List.forall_mem_cons.mpr ⟨ck_34, List.forall_mem_cons.mpr ⟨ck_35, List.forall_mem_cons.mpr ⟨ck_36, List.forall_mem_cons.mpr ⟨ck_37, List.forall_mem_cons.mpr ⟨ck_38, List.forall_mem_cons.mpr ⟨ck_39, List.forall_mem_cons.mpr ⟨ck_40, List.forall_mem_cons.mpr ⟨ck_41, List.forall_mem_cons.mpr ⟨ck_42, List.forall_mem_cons.mpr ⟨ck_43, List.forall_mem_cons.mpr ⟨ck_44, List.forall_mem_cons.mpr ⟨ck_45, List.forall_mem_cons.mpr ⟨ck_46, List.forall_mem_cons.mpr ⟨ck_47, List.forall_mem_cons.mpr ⟨ck_48, List.forall_mem_cons.mpr ⟨ck_49, List.forall_mem_cons.mpr ⟨ck_50, List.forall_mem_cons.mpr ⟨ck_51, List.forall_mem_cons.mpr ⟨ck_52, List.forall_mem_cons.mpr ⟨ck_53, fun _ h => absurd h List.not_mem_nil⟩⟩⟩⟩⟩⟩⟩⟩⟩⟩⟩⟩⟩⟩⟩⟩⟩⟩⟩⟩⟩⟩⟩⟩⟩⟩⟩
set_option maxRecDepth 100000 in
theorem xCk_2 : ∀ j ∈ ([54, 55, 56, 57, 58, 59, 60, 61, 62, 63, 64, 65, 66, 67, 68, 69, 70, 71, 72, 73, 74, 75, 76, 77, 78, 79, 80] : List Nat), xCkd j := List.forall_mem_cons.mpr ⟨ck_54, List.forall_mem_cons.mpr ⟨ck_55, List.forall_mem_cons.mpr ⟨ck_56, List.forall_mem_cons.mpr ⟨ck_57, List.forall_mem_cons.mpr ⟨ck_58, List.forall_mem_cons.mpr ⟨ck_59, List.forall_mem_cons.mpr ⟨ck_60, List.forall_mem_cons.mpr ⟨ck_61, List.forall_mem_cons.mpr ⟨ck_62, List.forall_mem_cons.mpr ⟨ck_63, List.forall_mem_cons.mpr ⟨ck_64, List.forall_mem_cons.mpr ⟨ck_65, List.forall_mem_cons.mpr ⟨ck_66, List.forall_mem_cons.mpr ⟨ck_67, List.forall_mem_cons.mpr ⟨ck_68, List.forall_mem_cons.mpr ⟨ck_69, List.forall_mem_cons.mpr ⟨ck_70, List.forall_mem_cons.mpr ⟨ck_71, List.forall_mem_cons.mpr ⟨ck_72, List.forall_mem_cons.mpr ⟨ck_73, List.forall_mem_cons.mpr ⟨ck_74, List.forall_mem_cons.mpr ⟨ck_75, List.forall_mem_cons.mpr ⟨ck_76, List.forall_mem_cons.mpr ⟨ck_77, List.forall_mem_cons.mpr ⟨ck_78, List.forall_mem_cons.mpr ⟨ck_79, List.forall_mem_cons.mpr ⟨ck_80, fun _ h => absurd h List.not_mem_nil⟩⟩⟩⟩⟩⟩⟩⟩⟩⟩⟩⟩⟩⟩⟩⟩⟩⟩⟩⟩⟩⟩⟩⟩⟩⟩⟩
set_option maxRecDepth 100000 in
theorem xCk_3 : ∀ j ∈ ([81, 82, 83, 84, 85, 86, 87, 88, 89, 90, 91, 92, 93, 94, 95, 96, 97, 98, 99, 100, 101, 102, 103, 104, 105, 106, 107] : List Nat), xCkd j := List.forall_mem_cons.mpr ⟨ck_81, List.forall_mem_cons.mpr ⟨ck_82, List.forall_mem_cons.mpr ⟨ck_83, List.forall_mem_cons.mpr ⟨ck_84, List.forall_mem_cons.mpr ⟨ck_85, List.forall_mem_cons.mpr ⟨ck_86, List.forall_mem_cons.mpr ⟨ck_87, List.forall_mem_cons.mpr ⟨ck_88, List.forall_mem_cons.mpr ⟨ck_89, List.forall_mem_cons.mpr ⟨ck_90, List.forall_mem_cons.mpr ⟨ck_91, List.forall_mem_cons.mpr ⟨ck_92, List.forall_mem_cons.mpr ⟨ck_93, List.forall_mem_cons.mpr ⟨ck_94, List.forall_mem_cons.mpr ⟨ck_95, List.forall_mem_cons.mpr ⟨ck_96, List.forall_mem_cons.mpr ⟨ck_97, List.forall_mem_cons.mpr ⟨ck_98, List.forall_mem_cons.mpr ⟨ck_99, List.forall_mem_cons.mpr ⟨ck_100, List.forall_mem_cons.mpr ⟨ck_101, List.forall_mem_cons.mpr ⟨ck_102, List.forall_mem_cons.mpr ⟨ck_103, List.forall_mem_cons.mpr ⟨ck_104, List.forall_mem_cons.mpr ⟨ck_105, List.forall_mem_cons.mpr ⟨ck_106, List.forall_mem_cons.mpr ⟨ck_107, fun _ h => absurd h List.not_mem_nil⟩⟩⟩⟩⟩⟩⟩⟩⟩⟩⟩⟩⟩⟩⟩⟩⟩⟩⟩⟩⟩⟩⟩⟩⟩⟩⟩
set_option maxRecDepth 100000 in
theorem xCk_4 : ∀ j ∈ ([108, 109, 110, 111, 112, 113, 114, 115, 116, 117, 118, 119, 120, 121, 122, 123, 124, 125, 126, 127, 128, 129, 130, 131, 132, 133, 134] : List Nat), xCkd j := List.forall_mem_cons.mpr ⟨ck_108, List.forall_mem_cons.mpr ⟨ck_109, List.forall_mem_cons.mpr ⟨ck_110, List.forall_mem_cons.mpr ⟨ck_111, List.forall_mem_cons.mpr ⟨ck_112, List.forall_mem_cons.mpr ⟨ck_113, List.forall_mem_cons.mpr ⟨ck_114, List.forall_mem_cons.mpr ⟨ck_115, List.forall_mem_cons.mpr ⟨ck_116, List.forall_mem_cons.mpr ⟨ck_117, List.forall_mem_cons.mpr ⟨ck_118, List.forall_mem_cons.mpr ⟨ck_119, List.forall_mem_cons.mpr ⟨ck_120, List.forall_mem_cons.mpr ⟨ck_121, List.forall_mem_cons.mpr ⟨ck_122, List.forall_mem_cons.mpr ⟨ck_123, List.forall_mem_cons.mpr ⟨ck_124, List.forall_mem_cons.mpr ⟨ck_125, List.forall_mem_cons.mpr ⟨ck_126, List.forall_mem_cons.mpr ⟨ck_127, List.forall_mem_cons.mpr ⟨ck_128, List.forall_mem_cons.mpr ⟨ck_129, List.forall_mem_cons.mpr ⟨ck_130, List.forall_mem_cons.mpr ⟨ck_131, List.forall_mem_cons.mpr ⟨ck_132, List.forall_mem_cons.mpr ⟨ck_133, List.forall_mem_cons.mpr ⟨ck_134, fun _ h => absurd h List.not_mem_nil⟩⟩⟩⟩⟩⟩⟩⟩⟩⟩⟩⟩⟩⟩⟩⟩⟩⟩⟩⟩⟩⟩⟩⟩⟩⟩⟩
set_option maxRecDepth 100000 in
theorem xCk_5 : ∀ j ∈ ([135, 136, 137, 138, 139, 140, 141, 142, 143, 144, 145, 146, 147, 148, 149, 150, 151, 152, 153, 154, 155, 156, 157, 158, 159, 160, 161] : List Nat), xCkd j := List.forall_mem_cons.mpr ⟨ck_135, List.forall_mem_cons.mpr ⟨ck_136, List.forall_mem_cons.mpr ⟨ck_137, List.forall_mem_cons.mpr ⟨ck_138, List.forall_mem_cons.mpr ⟨ck_139, List.forall_mem_cons.mpr ⟨ck_140, List.forall_mem_cons.mpr ⟨ck_141, List.forall_mem_cons.mpr ⟨ck_142, List.forall_mem_cons.mpr ⟨ck_143, List.forall_mem_cons.mpr ⟨ck_144, List.forall_mem_cons.mpr ⟨ck_145, List.forall_mem_cons.mpr ⟨ck_146, List.forall_mem_cons.mpr ⟨ck_147, List.forall_mem_cons.mpr ⟨ck_148, List.forall_mem_cons.mpr ⟨ck_149, List.forall_mem_cons.mpr ⟨ck_150, List.forall_mem_cons.mpr ⟨ck_151, List.forall_mem_cons.mpr ⟨ck_152, List.forall_mem_cons.mpr ⟨ck_153, List.forall_mem_cons.mpr ⟨ck_154, List.forall_mem_cons.mpr ⟨ck_155, List.forall_mem_cons.mpr ⟨ck_156, List.forall_mem_cons.mpr ⟨ck_157, List.forall_mem_cons.mpr ⟨ck_158, List.forall_mem_cons.mpr ⟨ck_159, List.forall_mem_cons.mpr ⟨ck_160, List.forall_mem_cons.mpr ⟨ck_161, fun _ h => absurd h List.not_mem_nil⟩⟩⟩⟩⟩⟩⟩⟩⟩⟩⟩⟩⟩⟩⟩⟩⟩⟩⟩⟩⟩⟩⟩⟩⟩⟩⟩
set_option maxRecDepth 100000 in
theorem xCk_6 : ∀ j ∈ ([162, 163, 164, 165, 166, 167, 168, 169, 170, 171, 172, 173, 174, 175, 176, 177, 178, 179, 180, 181, 182, 183, 184, 185, 186, 187, 188] : List Nat), xCkd j := List.forall_mem_cons.mpr ⟨ck_162, List.forall_mem_cons.mpr ⟨ck_163, List.forall_mem_cons.mpr ⟨ck_164, List.forall_mem_cons.mpr ⟨ck_165, List.forall_mem_cons.mpr ⟨ck_166, List.forall_mem_cons.mpr ⟨ck_167, List.forall_mem_cons.mpr ⟨ck_168, List.forall_mem_cons.mpr ⟨ck_169, List.forall_mem_cons.mpr ⟨ck_170, List.forall_mem_cons.mpr ⟨ck_171, List.forall_mem_cons.mpr ⟨ck_172, List.forall_mem_cons.mpr ⟨ck_173, List.forall_mem_cons.mpr ⟨ck_174, List.forall_mem_cons.mpr ⟨ck_175, List.forall_mem_cons.mpr ⟨ck_176, List.forall_mem_cons.mpr ⟨ck_177, List.forall_mem_cons.mpr ⟨ck_178, List.forall_mem_cons.mpr ⟨ck_179, List.forall_mem_cons.mpr ⟨ck_180, List.forall_mem_cons.mpr ⟨ck_181, List.forall_mem_cons.mpr ⟨ck_182, List.forall_mem_cons.mpr ⟨ck_183, List.forall_mem_cons.mpr ⟨ck_184, List.forall_mem_cons.mpr ⟨ck_185, List.forall_mem_cons.mpr ⟨ck_186, List.forall_mem_cons.mpr ⟨ck_187, List.forall_mem_cons.mpr ⟨ck_188, fun _ h => absurd h List.not_mem_nil⟩⟩⟩⟩⟩⟩⟩⟩⟩⟩⟩⟩⟩⟩⟩⟩⟩⟩⟩⟩⟩⟩⟩⟩⟩⟩⟩
set_option maxRecDepth 100000 in
theorem xCk_7 : ∀ j ∈ ([189, 190, 191, 192, 193, 194, 195, 196, 197, 198, 199, 200, 201, 202, 203, 204, 205, 206, 207, 208, 209, 210, 211, 212, 213, 214, 215] : List Nat), xCkd j := List.forall_mem_cons.mpr ⟨ck_189, List.forall_mem_cons.mpr ⟨ck_190, List.forall_mem_cons.mpr ⟨ck_191, List.forall_mem_cons.mpr ⟨ck_192, List.forall_mem_cons.mpr ⟨ck_193, List.forall_mem_cons.mpr ⟨ck_194, List.forall_mem_cons.mpr ⟨ck_195, List.forall_mem_cons.mpr ⟨ck_196, List.forall_mem_cons.mpr ⟨ck_197, List.forall_mem_cons.mpr ⟨ck_198, List.forall_mem_cons.mpr ⟨ck_199, List.forall_mem_cons.mpr ⟨ck_200, List.forall_mem_cons.mpr ⟨ck_201, List.forall_mem_cons.mpr ⟨ck_202, List.forall_mem_cons.mpr ⟨ck_203, List.forall_mem_cons.mpr ⟨ck_204, List.forall_mem_cons.mpr ⟨ck_205, List.forall_mem_cons.mpr ⟨ck_206, List.forall_mem_cons.mpr ⟨ck_207, List.forall_mem_cons.mpr ⟨ck_208, List.forall_mem_cons.mpr ⟨ck_209, List.forall_mem_cons.mpr ⟨ck_210, List.forall_mem_cons.mpr ⟨ck_211, List.forall_mem_cons.mpr ⟨ck_212, List.forall_mem_cons.mpr ⟨ck_213, List.forall_mem_cons.mpr ⟨ck_214, List.forall_mem_cons.mpr ⟨ck_215, fun _ h => absurd h List.not_mem_nil⟩⟩⟩⟩⟩⟩⟩⟩⟩⟩⟩⟩⟩⟩⟩⟩⟩⟩⟩⟩⟩⟩⟩⟩⟩⟩⟩
set_option maxRecDepth 100000 in
theorem xCk_8 : ∀ j ∈ ([216, 217, 218, 219, 220, 221, 222, 223, 224, 225, 226, 227, 228, 229, 230, 231, 232, 233, 234, 235, 236, 237, 238, 239, 240, 241, 242] : List Nat), xCkd j := List.forall_mem_cons.mpr ⟨ck_216, List.forall_mem_cons.mpr ⟨ck_217, List.forall_mem_cons.mpr ⟨ck_218, List.forall_mem_cons.mpr ⟨ck_219, List.forall_mem_cons.mpr ⟨ck_220, List.forall_mem_cons.mpr ⟨ck_221, List.forall_mem_cons.mpr ⟨ck_222, List.forall_mem_cons.mpr ⟨ck_223, List.forall_mem_cons.mpr ⟨ck_224, List.forall_mem_cons.mpr ⟨ck_225, List.forall_mem_cons.mpr ⟨ck_226, List.forall_mem_cons.mpr ⟨ck_227, List.forall_mem_cons.mpr ⟨ck_228, List.forall_mem_cons.mpr ⟨ck_229, List.forall_mem_cons.mpr ⟨ck_230, List.forall_mem_cons.mpr ⟨ck_231, List.forall_mem_cons.mpr ⟨ck_232, List.forall_mem_cons.mpr ⟨ck_233, List.forall_mem_cons.mpr ⟨ck_234, List.forall_mem_cons.mpr ⟨ck_235, List.forall_mem_cons.mpr ⟨ck_236, List.forall_mem_cons.mpr ⟨ck_237, List.forall_mem_cons.mpr ⟨ck_238, List.forall_mem_cons.mpr ⟨ck_239, List.forall_mem_cons.mpr ⟨ck_240, List.forall_mem_cons.mpr ⟨ck_241, List.forall_mem_cons.mpr ⟨ck_242, fun _ h => absurd h List.not_mem_nil⟩⟩⟩⟩⟩⟩⟩⟩⟩⟩⟩⟩⟩⟩⟩⟩⟩⟩⟩⟩⟩⟩⟩⟩⟩⟩⟩
set_option maxRecDepth 100000 in
theorem xCk_9 : ∀ j ∈ ([243, 244, 245, 246, 247, 248, 249, 250, 251, 252, 253, 254, 255, 256, 257, 258, 259, 260, 261, 262, 263, 264, 265, 266, 267, 268, 269] : List Nat), xCkd j := List.forall_mem_cons.mpr ⟨ck_243, List.forall_mem_cons.mpr ⟨ck_244, List.forall_mem_cons.mpr ⟨ck_245, List.forall_mem_cons.mpr ⟨ck_246, List.forall_mem_cons.mpr ⟨ck_247, List.forall_mem_cons.mpr ⟨ck_248, List.forall_mem_cons.mpr ⟨ck_249, List.forall_mem_cons.mpr ⟨ck_250, List.forall_mem_cons.mpr ⟨ck_251, List.forall_mem_cons.mpr ⟨ck_252, List.forall_mem_cons.mpr ⟨ck_253, List.forall_mem_cons.mpr ⟨ck_254, List.forall_mem_cons.mpr ⟨ck_255, List.forall_mem_cons.mpr ⟨ck_256, List.forall_mem_cons.mpr ⟨ck_257, List.forall_mem_cons.mpr ⟨ck_258, List.forall_mem_cons.mpr ⟨ck_259, List.forall_mem_cons.mpr ⟨ck_260, List.forall_mem_cons.mpr ⟨ck_261, List.forall_mem_cons.mpr ⟨ck_262, List.forall_mem_cons.mpr ⟨ck_263, List.forall_mem_cons.mpr ⟨ck_264, List.forall_mem_cons.mpr ⟨ck_265, List.forall_mem_cons.mpr ⟨ck_266, List.forall_mem_cons.mpr ⟨ck_267, List.forall_mem_cons.mpr ⟨ck_268, List.forall_mem_cons.mpr ⟨ck_269, fun _ h => absurd h List.not_mem_nil⟩⟩⟩⟩⟩⟩⟩⟩⟩⟩⟩⟩⟩⟩⟩⟩⟩⟩⟩⟩⟩⟩⟩⟩⟩⟩⟩
set_option maxRecDepth 100000 in
theorem xCk_10 : ∀ j ∈ ([270, 271, 272, 273, 274, 275, 276, 277, 278, 279, 280, 281, 282, 283, 284, 285, 286, 287, 288, 289, 290, 291, 292, 293, 294, 295, 296] : List Nat), xCkd j := List.forall_mem_cons.mpr ⟨ck_270, List.forall_mem_cons.mpr ⟨ck_271, List.forall_mem_cons.mpr ⟨ck_272, List.forall_mem_cons.mpr ⟨ck_273, List.forall_mem_cons.mpr ⟨ck_274, List.forall_mem_cons.mpr ⟨ck_275, List.forall_mem_cons.mpr ⟨ck_276, List.forall_mem_cons.mpr ⟨ck_277, List.forall_mem_cons.mpr ⟨ck_278, List.forall_mem_cons.mpr ⟨ck_279, List.forall_mem_cons.mpr ⟨ck_280, List.forall_mem_cons.mpr ⟨ck_281, List.forall_mem_cons.mpr ⟨ck_282, List.forall_mem_cons.mpr ⟨ck_283, List.forall_mem_cons.mpr ⟨ck_284, List.forall_mem_cons.mpr ⟨ck_285, List.forall_mem_cons.mpr ⟨ck_286, List.forall_mem_cons.mpr ⟨ck_287, List.forall_mem_cons.mpr ⟨ck_288, List.forall_mem_cons.mpr ⟨ck_289, List.forall_mem_cons.mpr ⟨ck_290, List.forall_mem_cons.mpr ⟨ck_291, List.forall_mem_cons.mpr ⟨ck_292, List.forall_mem_cons.mpr ⟨ck_293, List.forall_mem_cons.mpr ⟨ck_294, List.forall_mem_cons.mpr ⟨ck_295, List.forall_mem_cons.mpr ⟨ck_296, fun _ h => absurd h List.not_mem_nil⟩⟩⟩⟩⟩⟩⟩⟩⟩⟩⟩⟩⟩⟩⟩⟩⟩⟩⟩⟩⟩⟩⟩⟩⟩⟩⟩
set_option maxRecDepth 100000 in
theorem xCk_11 : ∀ j ∈ ([297, 298, 299, 300, 301, 302, 303, 304, 305, 306, 307, 308, 309, 310, 311, 312, 313, 314, 315, 316, 317, 318, 319, 320, 321, 322] : List Nat), xCkd j := List.forall_mem_cons.mpr ⟨ck_297, List.forall_mem_cons.mpr ⟨ck_298, List.forall_mem_cons.mpr ⟨ck_299, List.forall_mem_cons.mpr ⟨ck_300, List.forall_mem_cons.mpr ⟨ck_301, List.forall_mem_cons.mpr ⟨ck_302, List.forall_mem_cons.mpr ⟨ck_303, List.forall_mem_cons.mpr ⟨ck_304, List.forall_mem_cons.mpr ⟨ck_305, List.forall_mem_cons.mpr ⟨ck_306, List.forall_mem_cons.mpr ⟨ck_307, List.forall_mem_cons.mpr ⟨ck_308, List.forall_mem_cons.mpr ⟨ck_309, List.forall_mem_cons.mpr ⟨ck_310, List.forall_mem_cons.mpr ⟨ck_311, List.forall_mem_cons.mpr ⟨ck_312, List.forall_mem_cons.mpr ⟨ck_313, List.forall_mem_cons.mpr ⟨ck_314, List.forall_mem_cons.mpr ⟨ck_315, List.forall_mem_cons.mpr ⟨ck_316, List.forall_mem_cons.mpr ⟨ck_317, List.forall_mem_cons.mpr ⟨ck_318, List.forall_mem_cons.mpr ⟨ck_319, List.forall_mem_cons.mpr ⟨ck_320, List.forall_mem_cons.mpr ⟨ck_321, List.forall_mem_cons.mpr ⟨ck_322, fun _ h => absurd h List.not_mem_nil⟩⟩⟩⟩⟩⟩⟩⟩⟩⟩⟩⟩⟩⟩⟩⟩⟩⟩⟩⟩⟩⟩⟩⟩⟩⟩
def xJs : List Nat := ([0, 1, 2, 3, 4, 5, 6, 7, 8, 9, 10, 11, 12, 13, 14, 15, 16, 17, 18, 19, 20, 21, 22, 23, 24, 25, 26] : List Nat) ++ (([27, 28, 29, 30, 31, 32, 33, 34, 35, 36, 37, 38, 39, 40, 41, 42, 43, 44, 45, 46, 47, 48, 49, 50, 51, 52, 53] : List Nat) ++ (([54, 55, 56, 57, 58, 59, 60, 61, 62, 63, 64, 65, 66, 67, 68, 69, 70, 71, 72, 73, 74, 75, 76, 77, 78, 79, 80] : List Nat) ++ (([81, 82, 83, 84, 85, 86, 87, 88, 89, 90, 91, 92, 93, 94, 95, 96, 97, 98, 99, 100, 101, 102, 103, 104, 105, 106, 107] : List Nat) ++ (([108, 109, 110, 111, 112, 113, 114, 115, 116, 117, 118, 119, 120, 121, 122, 123, 124, 125, 126, 127, 128, 129, 130, 131, 132, 133, 134] : List Nat) ++ (([135, 136, 137, 138, 139, 140, 141, 142, 143, 144, 145, 146, 147, 148, 149, 150, 151, 152, 153, 154, 155, 156, 157, 158, 159, 160, 161] : List Nat) ++ (([162, 163, 164, 165, 166, 167, 168, 169, 170, 171, 172, 173, 174, 175, 176, 177, 178, 179, 180, 181, 182, 183, 184, 185, 186, 187, 188] : List Nat) ++ (([189, 190, 191, 192, 193, 194, 195, 196, 197, 198, 199, 200, 201, 202, 203, 204, 205, 206, 207, 208, 209, 210, 211, 212, 213, 214, 215] : List Nat) ++ (([216, 217, 218, 219, 220, 221, 222, 223, 224, 225, 226, 227, 228, 229, 230, 231, 232, 233, 234, 235, 236, 237, 238, 239, 240, 241, 242] : List Nat) ++ (([243, 244, 245, 246, 247, 248, 249, 250, 251, 252, 253, 254, 255, 256, 257, 258, 259, 260, 261, 262, 263, 264, 265, 266, 267, 268, 269] : List Nat) ++ (([270, 271, 272, 273, 274, 275, 276, 277, 278, 279, 280, 281, 282, 283, 284, 285, 286, 287, 288, 289, 290, 291, 292, 293, 294, 295, 296] : List Nat) ++ (([297, 298, 299, 300, 301, 302, 303, 304, 305, 306, 307, 308, 309, 310, 311, 312, 313, 314, 315, 316, 317, 318, 319, 320, 321, 322] : List Nat))))))))))))
theorem xCk_js : ∀ j ∈ xJs, xCkd j := List.forall_mem_append.mpr ⟨xCk_0, List.forall_mem_append.mpr ⟨xCk_1, List.forall_mem_append.mpr ⟨xCk_2, List.forall_mem_append.mpr ⟨xCk_3, List.forall_mem_append.mpr ⟨xCk_4, List.forall_mem_append.mpr ⟨xCk_5, List.forall_mem_append.mpr ⟨xCk_6, List.forall_mem_append.mpr ⟨xCk_7, List.forall_mem_append.mpr ⟨xCk_8, List.forall_mem_append.mpr ⟨xCk_9, List.forall_mem_append.mpr ⟨xCk_10, xCk_11⟩⟩⟩⟩⟩⟩⟩⟩⟩⟩⟩
theorem xJs_ok : (List.range 323).all (fun j => xJs.contains j) = true := by decide +kernel
theorem xCk_all : ∀ j, j < 323 → xCkd j := fun j hj => xCk_js j (List.contains_iff_mem.mp (List.all_eq_true.mp xJs_ok j (List.mem_range.mpr hj)))
theorem xMo_ok : (List.range 323).all (fun j => xo (xMo.getD j 99) == (xM j).1.cls && xMi.getD j false == ((xM j).1.name == "<init>") && Nat.blt (xMo.getD j 99) 16) = true := by decide +kernel
theorem xMt_len : xMt.length = 323 := by decide +kernel
end
section
/-! numbers: Int32, Int64 against Int -/
def xIn (t : Nat) (x : Int) : Prop := match t with
  | 0 => -2147483648 ≤ x ∧ x < 2147483648
  | 1 => -9223372036854775808 ≤ x ∧ x < 9223372036854775808
  | 3 => x = 0 ∨ x = 1
  | 4 => -128 ≤ x ∧ x < 128
  | _ => True
theorem xi_toInt {x : Int} (h : xIn 0 x) : (Int32.ofInt x).toInt = x := by
  have h : -2147483648 ≤ x ∧ x < 2147483648 := h
  exact Int32.toInt_ofInt_of_le (by omega) (by omega)
theorem xj_toInt {x : Int} (h : xIn 1 x) : (Int64.ofInt x).toInt = x := by
  have h : -9223372036854775808 ≤ x ∧ x < 9223372036854775808 := h
  exact Int64.toInt_ofInt_of_le (by omega) (by omega)
theorem xi_in (i : Int32) : xIn 0 i.toInt := by
  have h1 := Int32.le_toInt i
  have h2 := Int32.toInt_lt i
  show -2147483648 ≤ i.toInt ∧ i.toInt < 2147483648
  omega
theorem xj_in (i : Int64) : xIn 1 i.toInt := by
  have h1 := Int64.le_toInt i
  have h2 := Int64.toInt_lt i
  show -9223372036854775808 ≤ i.toInt ∧ i.toInt < 9223372036854775808
  omega
theorem xi_eq (i : Int32) : Int32.ofInt i.toInt = i := Int32.ofInt_toInt i
theorem xj_eq (i : Int64) : Int64.ofInt i.toInt = i := Int64.ofInt_toInt i
theorem w32_in (x : Int) : xIn 0 (w32 x) := by
  have h1 := Int.le_bmod (x := x) (m := 4294967296) (by decide)
  have h2 := Int.bmod_lt (x := x) (m := 4294967296) (by decide)
  show -2147483648 ≤ x.bmod 4294967296 ∧ x.bmod 4294967296 < 2147483648
  omega
theorem w64_in (x : Int) : xIn 1 (w64 x) := by
  have h1 := Int.le_bmod (x := x) (m := 18446744073709551616) (by decide)
  have h2 := Int.bmod_lt (x := x) (m := 18446744073709551616) (by decide)
  show -9223372036854775808 ≤ x.bmod 18446744073709551616 ∧ x.bmod 18446744073709551616 < 9223372036854775808
  omega
theorem w8_in (x : Int) : xIn 4 (w8 x) := by
  have h1 := Int.le_bmod (x := x) (m := 256) (by decide)
  have h2 := Int.bmod_lt (x := x) (m := 256) (by decide)
  show -128 ≤ x.bmod 256 ∧ x.bmod 256 < 128
  omega
theorem w16_in (x : Int) : xIn 0 (w16 x) := by
  have h1 := Int.le_bmod (x := x) (m := 65536) (by decide)
  have h2 := Int.bmod_lt (x := x) (m := 65536) (by decide)
  show -2147483648 ≤ x.bmod 65536 ∧ x.bmod 65536 < 2147483648
  omega
theorem xIn40 {x : Int} (h : xIn 4 x) : xIn 0 x := by
  have h : -128 ≤ x ∧ x < 128 := h
  show -2147483648 ≤ x ∧ x < 2147483648
  omega
theorem xIn30 {x : Int} (h : xIn 3 x) : xIn 0 x := by
  have h : x = 0 ∨ x = 1 := h
  show -2147483648 ≤ x ∧ x < 2147483648
  omega
theorem xi_w (x : Int) : Int32.ofInt (w32 x) = Int32.ofInt x := by
  apply Int32.toInt_inj.mp
  rw [xi_toInt (w32_in x), Int32.toInt_ofInt]
  rfl
theorem xj_w (x : Int) : Int64.ofInt (w64 x) = Int64.ofInt x := by
  apply Int64.toInt_inj.mp
  rw [xj_toInt (w64_in x), Int64.toInt_ofInt]
  rfl
theorem w32_eq {x : Int} (h : xIn 0 x) : w32 x = x := by
  have e := xi_w x
  have e2 := congrArg Int32.toInt e
  rw [xi_toInt (w32_in x), xi_toInt h] at e2
  exact e2
theorem w64_eq {x : Int} (h : xIn 1 x) : w64 x = x := by
  have e := xj_w x
  have e2 := congrArg Int64.toInt e
  rw [xj_toInt (w64_in x), xj_toInt h] at e2
  exact e2
theorem xi_add (i j : Int32) : (i + j).toInt = w32 (i.toInt + j.toInt) := Int32.toInt_add i j
theorem xi_sub (i j : Int32) : (i - j).toInt = w32 (i.toInt - j.toInt) := Int32.toInt_sub i j
theorem xi_mul (i j : Int32) : (i * j).toInt = w32 (i.toInt * j.toInt) := Int32.toInt_mul i j
theorem xi_neg (i : Int32) : (-i).toInt = w32 (-i.toInt) := Int32.toInt_neg i
theorem xi_div (i j : Int32) : (i / j).toInt = w32 (i.toInt.tdiv j.toInt) := Int32.toInt_div i j
theorem xj_add (i j : Int64) : (i + j).toInt = w64 (i.toInt + j.toInt) := Int64.toInt_add i j
theorem xj_sub (i j : Int64) : (i - j).toInt = w64 (i.toInt - j.toInt) := Int64.toInt_sub i j
theorem xj_mul (i j : Int64) : (i * j).toInt = w64 (i.toInt * j.toInt) := Int64.toInt_mul i j
theorem xj_div (i j : Int64) : (i / j).toInt = w64 (i.toInt.tdiv j.toInt) := Int64.toInt_div i j
theorem x_tmod_in {t : Nat} (ht : t = 0 ∨ t = 1) {x : Int} (y : Int) (h : xIn t x) : xIn t (x.tmod y) := by
  have h1 : (x.tmod y).natAbs ≤ x.natAbs := by
    rw [Int.natAbs_tmod]
    exact Nat.mod_le _ _
  have h3 : x < 0 → x.tmod y ≤ 0 := fun hx => by
    have e : x.tmod y = -((-x).tmod y) := by rw [Int.neg_tmod, Int.neg_neg]
    have h5 : 0 ≤ (-x).tmod y := Int.tmod_nonneg y (by omega)
    omega
  rcases ht with rfl | rfl
  · have h : -2147483648 ≤ x ∧ x < 2147483648 := h
    have h2 : 0 ≤ x → 0 ≤ x.tmod y := fun hx => Int.tmod_nonneg y hx
    show -2147483648 ≤ x.tmod y ∧ x.tmod y < 2147483648
    omega
  · have h : -9223372036854775808 ≤ x ∧ x < 9223372036854775808 := h
    have h2 : 0 ≤ x → 0 ≤ x.tmod y := fun hx => Int.tmod_nonneg y hx
    show -9223372036854775808 ≤ x.tmod y ∧ x.tmod y < 9223372036854775808
    omega
theorem xi_rem (i j : Int32) : (i - i / j * j).toInt = i.toInt.tmod j.toInt := by
  rw [xi_sub, xi_mul, xi_div]
  have e : w32 (i.toInt - w32 (w32 (i.toInt.tdiv j.toInt) * j.toInt)) = w32 (i.toInt - i.toInt.tdiv j.toInt * j.toInt) := by
    simp only [w32, Int.sub_bmod_bmod, Int.bmod_mul_bmod]
  have e2 : i.toInt - i.toInt.tdiv j.toInt * j.toInt = i.toInt.tmod j.toInt := by
    rw [Int.tmod_def, Int.mul_comm j.toInt]
  rw [e, e2]
  exact w32_eq (x_tmod_in (Or.inl rfl) _ (xi_in i))
theorem xj_rem (i j : Int64) : (i - i / j * j).toInt = i.toInt.tmod j.toInt := by
  rw [xj_sub, xj_mul, xj_div]
  have e : w64 (i.toInt - w64 (w64 (i.toInt.tdiv j.toInt) * j.toInt)) = w64 (i.toInt - i.toInt.tdiv j.toInt * j.toInt) := by
    simp only [w64, Int.sub_bmod_bmod, Int.bmod_mul_bmod]
  have e2 : i.toInt - i.toInt.tdiv j.toInt * j.toInt = i.toInt.tmod j.toInt := by
    rw [Int.tmod_def, Int.mul_comm j.toInt]
  rw [e, e2]
  exact w64_eq (x_tmod_in (Or.inr rfl) _ (xj_in i))
theorem xi_lt {x y : Int} (hx : xIn 0 x) (hy : xIn 0 y) : Int32.ofInt x < Int32.ofInt y ↔ x < y := by
  rw [Int32.lt_iff_toInt_lt, xi_toInt hx, xi_toInt hy]
theorem xi_le {x y : Int} (hx : xIn 0 x) (hy : xIn 0 y) : Int32.ofInt x ≤ Int32.ofInt y ↔ x ≤ y := by
  rw [Int32.le_iff_toInt_le, xi_toInt hx, xi_toInt hy]
theorem xi_inj {x y : Int} (hx : xIn 0 x) (hy : xIn 0 y) : Int32.ofInt x = Int32.ofInt y ↔ x = y := by
  rw [← Int32.toInt_inj, xi_toInt hx, xi_toInt hy]
theorem xi_0 : xIn 0 0 := by show (-2147483648 : Int) ≤ 0 ∧ (0 : Int) < 2147483648; omega
theorem xi_z : Int32.ofInt 0 = 0 := rfl
theorem xi_lt0 {x : Int} (hx : xIn 0 x) : Int32.ofInt x < 0 ↔ x < 0 := xi_lt hx xi_0
theorem xi_le0 {x : Int} (hx : xIn 0 x) : Int32.ofInt x ≤ 0 ↔ x ≤ 0 := xi_le hx xi_0
theorem xi_ge0 {x : Int} (hx : xIn 0 x) : 0 ≤ Int32.ofInt x ↔ 0 ≤ x := xi_le xi_0 hx
theorem xi_gt0 {x : Int} (hx : xIn 0 x) : 0 < Int32.ofInt x ↔ 0 < x := xi_lt xi_0 hx
theorem xi_eq0 {x : Int} (hx : xIn 0 x) : Int32.ofInt x = 0 ↔ x = 0 := xi_inj hx xi_0
theorem xi_cl {x : Int} (hx : xIn 0 x) : (Int32.ofInt x).toNatClampNeg = x.toNat := by
  rw [← Int32.toNat_toInt, xi_toInt hx]
theorem xi_vin {x n : Int} (hx : xIn 0 x) (h0 : 0 ≤ x) (hn : x < n) : vp_in (Int32.ofInt x) n.toNat := by
  rw [vp_in_iff, xi_toInt hx]
  omega
theorem xi_nat (n : Nat) : Int32.ofInt (n : Int) = Int32.ofNat n := Int32.ofInt_eq_ofNat
theorem xi_lcmp {x y : Int} (hx : xIn 1 x) (hy : xIn 1 y) : lg_cmp (Int64.ofInt x) (Int64.ofInt y) = Int32.ofInt (xLcmp x y) := by
  unfold lg_cmp xLcmp
  have e1 : (Int64.ofInt x > Int64.ofInt y) ↔ y < x := by
    rw [gt_iff_lt, Int64.lt_iff_toInt_lt, xj_toInt hx, xj_toInt hy]
  have e2 : (Int64.ofInt x = Int64.ofInt y) ↔ x = y := by
    rw [← Int64.toInt_inj, xj_toInt hx, xj_toInt hy]
  by_cases h1 : y < x
  · rw [if_pos (e1.mpr h1), if_neg (by omega), if_neg (by omega)]; rfl
  · rw [if_neg (fun h => h1 (e1.mp h))]
    by_cases h2 : x = y
    · rw [if_pos (e2.mpr h2), if_neg (by omega), if_pos h2]; rfl
    · rw [if_neg (fun h => h2 (e2.mp h)), if_pos (by omega)]; rfl
theorem xLcmp_in (x y : Int) : xIn 0 (xLcmp x y) := by
  unfold xLcmp
  have h : ∀ z : Int, z = -1 ∨ z = 0 ∨ z = 1 → xIn 0 z := fun z hz => by
    show -2147483648 ≤ z ∧ z < 2147483648
    omega
  split
  · exact h _ (Or.inl rfl)
  · split
    · exact h _ (Or.inr (Or.inl rfl))
    · exact h _ (Or.inr (Or.inr rfl))
theorem xi_b (x : Int) (hx : xIn 0 x) : (Int32.ofInt x).toInt8.toInt32 = Int32.ofInt (w8 x) := by
  apply Int32.toInt_inj.mp
  rw [xi_toInt (xIn40 (w8_in x)), Int8.toInt_toInt32, Int32.toInt_toInt8, xi_toInt hx]
  rfl
theorem xi_s (x : Int) (hx : xIn 0 x) : (Int32.ofInt x).toInt16.toInt32 = Int32.ofInt (w16 x) := by
  apply Int32.toInt_inj.mp
  rw [xi_toInt (w16_in x), Int16.toInt_toInt32, Int32.toInt_toInt16, xi_toInt hx]
  rfl
theorem xi_l (x : Int) (hx : xIn 0 x) : (Int32.ofInt x).toInt64 = Int64.ofInt x := by
  have h1 : xIn 1 x := by
    have h : -2147483648 ≤ x ∧ x < 2147483648 := hx
    show -9223372036854775808 ≤ x ∧ x < 9223372036854775808
    omega
  apply Int64.toInt_inj.mp
  rw [Int32.toInt_toInt64, xi_toInt hx, xj_toInt h1]
theorem xIn01 {x : Int} (hx : xIn 0 x) : xIn 1 x := by
  have h : -2147483648 ≤ x ∧ x < 2147483648 := hx
  show -9223372036854775808 ≤ x ∧ x < 9223372036854775808
  omega
theorem xj_i (x : Int) (hx : xIn 1 x) : (Int64.ofInt x).toInt32 = Int32.ofInt (w32 x) := by
  apply Int32.toInt_inj.mp
  rw [Int64.toInt_toInt32, xj_toInt hx, xi_toInt (w32_in x)]
  rfl
theorem xi_ne0 {x : Int} (hx : xIn 0 x) (h : x ≠ 0) : ¬ Int32.ofInt x = 0 := fun e => h ((xi_eq0 hx).mp e)
theorem xj_ne0 {x : Int} (hx : xIn 1 x) (h : x ≠ 0) : ¬ Int64.ofInt x = 0 := fun e => by
  have e2 := congrArg Int64.toInt e
  rw [xj_toInt hx] at e2
  exact h e2
theorem xi_max {x y : Int} (hx : xIn 0 x) (hy : xIn 0 y) : (if Int32.ofInt x < Int32.ofInt y then Int32.ofInt y else Int32.ofInt x) = Int32.ofInt (max x y) := by
  by_cases h : x < y
  · rw [if_pos ((xi_lt hx hy).mpr h), Int.max_eq_right (by omega)]
  · rw [if_neg (fun q => h ((xi_lt hx hy).mp q)), Int.max_eq_left (by omega)]
theorem x_max_in {x y : Int} (hx : xIn 0 x) (hy : xIn 0 y) : xIn 0 (max x y) := by
  by_cases h : x ≤ y
  · rw [Int.max_eq_right h]; exact hy
  · rw [Int.max_eq_left (by omega)]; exact hx
theorem x_min_in {x y : Int} (hx : xIn 0 x) (hy : xIn 0 y) : xIn 0 (min x y) := by
  by_cases h : x ≤ y
  · rw [Int.min_eq_left h]; exact hx
  · rw [Int.min_eq_right (by omega)]; exact hy
theorem xi_min {x y : Int} (hx : xIn 0 x) (hy : xIn 0 y) : (if Int32.ofInt y < Int32.ofInt x then Int32.ofInt y else Int32.ofInt x) = Int32.ofInt (min x y) := by
  by_cases h : y < x
  · rw [if_pos ((xi_lt hy hx).mpr h), Int.min_eq_right (by omega)]
  · rw [if_neg (fun q => h ((xi_lt hy hx).mp q)), Int.min_eq_left (by omega)]
end
section
/-! how the plain memory stands for the machine's heap -/
theorem x13 {P : Nat → Prop} (h0 : P 0) (h1 : P 1) (h2 : P 2) (h3 : P 3) (h4 : P 4) (h5 : P 5) (h6 : P 6) (h7 : P 7) (h8 : P 8) (h9 : P 9) (h10 : P 10) (h11 : P 11) (h12 : P 12) : ∀ c : Nat, c < 13 → P c
  | 0, _ => h0
  | 1, _ => h1
  | 2, _ => h2
  | 3, _ => h3
  | 4, _ => h4
  | 5, _ => h5
  | 6, _ => h6
  | 7, _ => h7
  | 8, _ => h8
  | 9, _ => h9
  | 10, _ => h10
  | 11, _ => h11
  | 12, _ => h12
  | n + 13, h => absurd h (by omega)
theorem xCl_get : ∀ c : Nat, c < 13 → vwCl[c]? = some (xCl c) := x13 rfl rfl rfl rfl rfl rfl rfl rfl rfl rfl rfl rfl rfl
theorem xCl_ns : ∀ c : Nat, c < 13 → xNs.getD c 0 = (xCl c).2.2 := x13 rfl rfl rfl rfl rfl rfl rfl rfl rfl rfl rfl rfl rfl
theorem xCl_in : ∀ c : Nat, c < 13 → ∀ w ∈ u_ws (xCl c).1 (xCl c).2.1 (xCl c).2.2, w ∈ lw_tbl :=
  x13 (fun w h => x_in (inX0 w h)) (fun w h => x_in (inX1 w h)) (fun w h => x_in (inX2 w h)) (fun w h => x_in (inX3 w h)) (fun w h => x_in (inX4 w h)) (fun w h => x_in (inX5 w h)) (fun w h => x_in (inX6 w h)) (fun w h => x_in (inX7 w h)) (fun w h => x_in (inX8 w h)) (fun w h => x_in (inX9 w h)) (fun w h => x_in (inX10 w h)) (fun w h => x_in (inX11 w h)) (fun w h => x_in (inX12 w h))
theorem xCl_nm : ∀ c : Nat, c < 13 → ∀ a, a < (xCl c).2.2 → ∀ b, b < (xCl c).2.2 → a ≠ b → ((xCl c).2.1 a).2.1 ≠ ((xCl c).2.1 b).2.1 :=
  x13 nmX0 nmX1 nmX2 nmX3 nmX4 nmX5 nmX6 nmX7 nmX8 nmX9 nmX10 nmX11 nmX12
def xTyF (c k : Nat) : FieldType := (parseFieldDescriptor (xF c k).2.2.1).getD .int
def xFtB (c k : Nat) : Bool := (parseFieldDescriptor (xF c k).2.2.1 == some (xTyF c k)) && (match xTyF c k, xFT c k with
  | .int, 0 => true
  | .boolean, 3 => true
  | .long, 1 => true
  | .object _, 2 => true
  | .array _, 2 => true
  | _, _ => false) && (xF c k).1 == (xCl c).1
theorem xFtB_all : (List.range 13).all (fun c => (List.range (xCl c).2.2).all (xFtB c)) = true := by decide +kernel
theorem xFtB_at {c k : Nat} (hc : c < 13) (hk : k < (xCl c).2.2) : xFtB c k = true := by
  have h := List.all_eq_true.mp xFtB_all c (List.mem_range.mpr hc)
  exact List.all_eq_true.mp h k (List.mem_range.mpr hk)
theorem xFt_parse {c k : Nat} (hc : c < 13) (hk : k < (xCl c).2.2) : parseFieldDescriptor ((xCl c).2.1 k).2.2.1 = some (xTyF c k) := by
  have h := xFtB_at hc hk
  simp only [xFtB, Bool.and_eq_true, beq_iff_eq] at h
  exact h.1.1
theorem xFt_own {c k : Nat} (hc : c < 13) (hk : k < (xCl c).2.2) : ((xCl c).2.1 k).1 = (xCl c).1 := by
  have h := xFtB_at hc hk
  simp only [xFtB, Bool.and_eq_true, beq_iff_eq] at h
  exact h.2
theorem xFt_code {c k : Nat} (hc : c < 13) (hk : k < (xCl c).2.2) : (xTyF c k = .int ∧ xFT c k = 0) ∨ (xTyF c k = .boolean ∧ xFT c k = 3) ∨ (xTyF c k = .long ∧ xFT c k = 1) ∨ (((∃ n, xTyF c k = .object n) ∨ ∃ t, xTyF c k = .array t) ∧ xFT c k = 2) := by
  have h := xFtB_at hc hk
  simp only [xFtB, Bool.and_eq_true] at h
  have h2 := h.1.2
  split at h2
  · exact Or.inl ⟨by assumption, by assumption⟩
  · exact Or.inr (Or.inl ⟨by assumption, by assumption⟩)
  · exact Or.inr (Or.inr (Or.inl ⟨by assumption, by assumption⟩))
  · exact Or.inr (Or.inr (Or.inr ⟨Or.inl ⟨_, by assumption⟩, by assumption⟩))
  · exact Or.inr (Or.inr (Or.inr ⟨Or.inr ⟨_, by assumption⟩, by assumption⟩))
  · cases h2
def xRv (ad : Int → Nat) (x : Int) : Option Nat := if x = 0 then none else some (ad x)
def xc (ad : Int → Nat) (v : xV) : Value := match v.1 with
  | 0 => .int (Int32.ofInt v.2)
  | 1 => .long (Int64.ofInt v.2)
  | _ => va_rf (xRv ad v.2)
theorem xc_ref {ad : Int → Nat} {x : Int} (h : x ≠ 0) : xc ad (2, x) = .ref (ad x) := by
  show va_rf (xRv ad x) = _
  rw [xRv, if_neg h]
  rfl
theorem xc_null {ad : Int → Nat} : xc ad (2, 0) = .null := rfl
def xTg (t : Nat) : Nat := match t with
  | 3 => 0
  | 4 => 0
  | t => t
def xTy (κ k : Int) : Nat := if κ = 20 then 0 else if κ = 21 then 4 else if κ = 22 then 3 else if κ = 23 then 1 else if 24 ≤ κ then 2 else if 0 ≤ κ ∧ κ < 13 then xFT κ.toNat k.toNat else 9
/-- a number of a type, where nx is the next object's number -/
def xInN (nx : Nat) (t : Nat) (x : Int) : Prop := match t with
  | 2 => x < (nx : Int)
  | t => xIn t x
theorem xInN_2 {n : Nat} {x : Int} : xInN n 2 x ↔ x < (n : Int) := Iff.rfl
theorem xInN_ne {n t : Nat} {x : Int} (h : t ≠ 2) : xInN n t x ↔ xIn t x := by
  unfold xInN
  split
  · exact absurd rfl h
  · exact Iff.rfl
theorem xInN_mono {n n' t : Nat} {x : Int} (h : xInN n t x) (hn : n ≤ n') : xInN n' t x := by
  by_cases e : t = 2
  · subst e
    have h := xInN_2.mp h
    exact xInN_2.mpr (by omega)
  · exact (xInN_ne e).mpr ((xInN_ne e).mp h)
theorem xInN_0 {n : Nat} {t : Nat} (hn : 1 ≤ n) : xInN n t 0 := by
  by_cases e : t = 2
  · subst e
    exact xInN_2.mpr (by omega)
  · refine (xInN_ne e).mpr ?_
    unfold xIn
    split <;> first | trivial | omega | exact Or.inl rfl
abbrev xG : Type := (Int → Nat) × (Int → ClassId)
def xCont (ad : Int → Nat) (κ : Int) (f : Int → Int) : (Nat → Int32) ⊕ (Nat → Int64) ⊕ (Nat → UInt32) ⊕ (Nat → UInt64) ⊕ (Nat → Option Nat) :=
  if κ ≤ 22 then .inl (fun i => Int32.ofInt (f (i : Int))) else if κ = 23 then .inr (.inl (fun i => Int64.ofInt (f (i : Int)))) else .inr (.inr (.inr (.inr (fun i => xRv ad (f (i : Int))))))
def xFs (ad : Int → Nat) (c : Nat) (f : Int → Int) : List Value := (List.range (xCl c).2.2).map (fun k => xc ad (xTg (xFT c k), f (k : Int)))
def xEnt (G : xG) (H : xH) (a : Int) : va_E := if 20 ≤ H.2.1 a then .inl (G.2 a, (H.2.2.1 a).toNat, xCont G.1 (H.2.1 a) (H.1 a)) else .inr ((H.2.1 a).toNat, xFs G.1 (H.2.1 a).toNat (H.1 a))
def xWs (G : xG) (H : xH) : va_W := (List.range (H.2.2.2.1 - 1)).map (fun k : Nat => (G.1 ((k : Int) + 1), xEnt G H ((k : Int) + 1)))
theorem xWs_get {G : xG} {H : xH} {a : Int} (h0 : 0 < a) (h1 : a < (H.2.2.2.1 : Int)) : (xWs G H)[(a - 1).toNat]? = some (G.1 a, xEnt G H a) := by
  have h2 : (a - 1).toNat < H.2.2.2.1 - 1 := by omega
  have h3 : (((a - 1).toNat : Nat) : Int) + 1 = a := by omega
  rw [xWs, List.getElem?_map, List.getElem?_range h2]
  show some (G.1 ((((a - 1).toNat : Nat) : Int) + 1), xEnt G H ((((a - 1).toNat : Nat) : Int) + 1)) = _
  rw [h3]
theorem xWs_len (G : xG) (H : xH) : (xWs G H).length = H.2.2.2.1 - 1 := by
  rw [xWs, List.length_map, List.length_range]
theorem xWs_mem {G : xG} {H : xH} {k : Nat} {q : Nat × va_E} (h : (xWs G H)[k]? = some q) : k + 1 < H.2.2.2.1 ∧ q = (G.1 ((k : Int) + 1), xEnt G H ((k : Int) + 1)) := by
  have hk : k < (xWs G H).length := (List.getElem?_eq_some_iff.mp h).1
  rw [xWs_len] at hk
  have e := xWs_get (G := G) (H := H) (a := (k : Int) + 1) (by omega) (by omega)
  have e2 : ((k : Int) + 1 - 1).toNat = k := by omega
  rw [e2] at e
  rw [e] at h
  exact ⟨by omega, (Option.some.inj h).symm⟩
theorem xWs_set {G : xG} {H H' : xH} {a : Int} {z : Nat × va_E} (h0 : 0 < a) (hn : H'.2.2.2.1 = H.2.2.2.1) (hz : z = (G.1 a, xEnt G H' a)) (hE : ∀ b : Int, b ≠ a → xEnt G H' b = xEnt G H b) : (xWs G H).set (a - 1).toNat z = xWs G H' := by
  subst hz
  apply List.ext_getElem?
  intro k
  rw [List.getElem?_set]
  by_cases hk : k < H.2.2.2.1 - 1
  · have e1 := xWs_get (G := G) (H := H) (a := (k : Int) + 1) (by omega) (by omega)
    have e2 := xWs_get (G := G) (H := H') (a := (k : Int) + 1) (by omega) (by omega)
    have e3 : ((k : Int) + 1 - 1).toNat = k := by omega
    rw [e3] at e1 e2
    rw [e1, e2]
    by_cases hka : (a - 1).toNat = k
    · have e4 : (k : Int) + 1 = a := by omega
      rw [if_pos hka, if_pos (by rw [xWs_len]; omega), e4]
    · rw [if_neg hka, hE _ (by omega)]
  · have e1 : (xWs G H)[k]? = none := by rw [List.getElem?_eq_none_iff, xWs_len]; omega
    have e2 : (xWs G H')[k]? = none := by rw [List.getElem?_eq_none_iff, xWs_len]; omega
    rw [e1, e2]
    split
    · rw [if_neg (by rw [xWs_len]; omega)]
    · rfl
/-- what is true of every memory that stands for a heap -/
def xOk (H : xH) : Prop := 1 ≤ H.2.2.2.1 ∧ (∀ a : Int, 0 ≤ H.2.1 a → a = -1 ∨ (0 < a ∧ a < (H.2.2.2.1 : Int))) ∧ (∀ a : Int, 0 < a → a < (H.2.2.2.1 : Int) → (0 ≤ H.2.1 a ∧ H.2.1 a < 13) ∨ (20 ≤ H.2.1 a ∧ H.2.1 a ≤ 28)) ∧ (0 ≤ H.2.1 (-1) → H.2.1 (-1) = 20) ∧ (∀ a : Int, 20 ≤ H.2.1 a → 0 ≤ H.2.2.1 a ∧ H.2.2.1 a < 2147483648) ∧ ∀ a k : Int, xInN H.2.2.2.1 (xTy (H.2.1 a) k) (H.1 a k)
theorem xRv_ext {ad ad' : Int → Nat} {n : Int} (h : ∀ b : Int, b < n → ad' b = ad b) {x : Int} (hx : x < n) : xRv ad' x = xRv ad x := by
  unfold xRv
  rw [h x hx]
theorem xTy_ge {κ k : Int} (h : 24 ≤ κ) : xTy κ k = 2 := by
  unfold xTy
  rw [if_neg (by omega), if_neg (by omega), if_neg (by omega), if_neg (by omega), if_pos h]
theorem xTy_cl {κ k : Int} (h : 0 ≤ κ) (h2 : κ < 13) : xTy κ k = xFT κ.toNat k.toNat := by
  unfold xTy
  rw [if_neg (by omega), if_neg (by omega), if_neg (by omega), if_neg (by omega), if_neg (by omega), if_pos ⟨h, h2⟩]
theorem xCont_ext {ad ad' : Int → Nat} {n κ : Int} {f : Int → Int} (h : ∀ b : Int, b < n → ad' b = ad b) (hf : 24 ≤ κ → ∀ i : Int, f i < n) : xCont ad' κ f = xCont ad κ f := by
  unfold xCont
  by_cases h1 : κ ≤ 22
  · rw [if_pos h1, if_pos h1]
  · rw [if_neg h1, if_neg h1]
    by_cases h2 : κ = 23
    · rw [if_pos h2, if_pos h2]
    · rw [if_neg h2, if_neg h2]
      have e : (fun i : Nat => xRv ad' (f (i : Int))) = fun i : Nat => xRv ad (f (i : Int)) := funext fun i => xRv_ext h (hf (by omega) _)
      rw [e]
theorem xFs_ext {ad ad' : Int → Nat} {n : Int} {c : Nat} {f : Int → Int} (hc : c < 13) (h : ∀ b : Int, b < n → ad' b = ad b) (hf : ∀ k : Nat, k < (xCl c).2.2 → xFT c k = 2 → f (k : Int) < n) : xFs ad' c f = xFs ad c f := by
  unfold xFs
  apply List.map_congr_left
  intro k hk
  have hk := List.mem_range.mp hk
  rcases xFt_code hc hk with ⟨-, e⟩ | ⟨-, e⟩ | ⟨-, e⟩ | ⟨-, e⟩
  · rw [e]; rfl
  · rw [e]; rfl
  · rw [e]; rfl
  · have q := hf k hk e
    rw [e]
    show va_rf (xRv ad' _) = va_rf (xRv ad _)
    rw [xRv_ext h q]
theorem xEnt_ext {G G' : xG} {H : xH} {a : Int} (hok : xOk H) (h0 : 0 < a) (h1 : a < (H.2.2.2.1 : Int)) (h : ∀ b : Int, b < (H.2.2.2.1 : Int) → G'.1 b = G.1 b) (h2 : G'.2 a = G.2 a) : xEnt G' H a = xEnt G H a := by
  obtain ⟨-, -, k3, -, -, k6⟩ := hok
  unfold xEnt
  by_cases hk : 20 ≤ H.2.1 a
  · rw [if_pos hk, if_pos hk, h2, xCont_ext h (fun h24 i => ?_)]
    have q := k6 a i
    rw [xTy_ge h24] at q
    exact q
  · rw [if_neg hk, if_neg hk]
    have q0 := k3 a h0 h1
    rw [xFs_ext (by omega) h (fun k hk2 h2 => ?_)]
    have q := k6 a (k : Int)
    rw [xTy_cl (by omega) (by omega)] at q
    have e : ((k : Int)).toNat = k := by omega
    rw [e, h2] at q
    exact q
theorem xFs_get {ad : Int → Nat} {c k : Nat} {f : Int → Int} (hk : k < (xCl c).2.2) : (xFs ad c f)[k]? = some (xc ad (xTg (xFT c k), f (k : Int))) := by
  rw [xFs, List.getElem?_map, List.getElem?_range hk]
  rfl
theorem xFs_len (ad : Int → Nat) (c : Nat) (f : Int → Int) : (xFs ad c f).length = (xCl c).2.2 := by
  rw [xFs, List.length_map, List.length_range]
theorem xFs_set {ad : Int → Nat} {c k : Nat} {f f' : Int → Int} {v : Value} (hk : k < (xCl c).2.2) (hv : v = xc ad (xTg (xFT c k), f' (k : Int))) (hf : ∀ i : Int, i ≠ (k : Int) → f' i = f i) : (xFs ad c f).set k v = xFs ad c f' := by
  apply List.ext_getElem?
  intro i
  rw [List.getElem?_set]
  by_cases hi : i < (xCl c).2.2
  · rw [xFs_get hi, xFs_get hi]
    by_cases e : k = i
    · rw [if_pos e, if_pos (by rw [xFs_len]; omega), hv, e]
    · rw [if_neg e, hf _ (by omega)]
  · rw [if_neg (by omega)]
    have e1 : (xFs ad c f)[i]? = none := by rw [List.getElem?_eq_none_iff, xFs_len]; omega
    have e2 : (xFs ad c f')[i]? = none := by rw [List.getElem?_eq_none_iff, xFs_len]; omega
    rw [e1, e2]
def xAt (κ : Int) : FieldType := if κ = 20 then .int else if κ = 21 then .byte else if κ = 22 then .boolean else if κ = 23 then .long else if κ = 24 then .array .long else if κ = 25 then .object RX4 else if κ = 26 then .object RX2 else if κ = 27 then .object RX10 else .object RX5
/-- what stays the same in a whole run: the classes' tables, the constants' addresses and their bytes' addresses, the script; and the addresses of the objects that were there at the method's start, how many these are -/
abbrev xJT : Type := va_G × (Nat → Nat) × (Nat → Nat) × Nat × Nat × (Nat → Int32) × (Int → Nat) × Int
abbrev xKT : Type := Program × Launch × Env × Room × State × MethodId × Array Value × List Frame × Method × Code
def xGw : List Cond := lw_tbl.filter goodWord
def xSlen : List Nat := xStr.map (fun t => t.toList.length)
def xSbyt : List (List Int32) := xStr.map (fun t => t.toList.map (fun c => Int32.ofNat c.toNat))
def xZs (A : Nat → Prop) (U : State) (H : Heap) : Prop := va_Z "java/lang/String" "COMPACT_STRINGS" "Z" (.int 1) A U H ∧ ∃ r : Option Nat, va_Z "jdk/internal/util/Preconditions" "SIOOBE_FORMATTER" "Ljava/util/function/BiFunction;" (va_rf r) A U H
def xSs (adK adV : Nat → Nat) (A : Nat → Prop) (U : State) (H : Heap) : Prop := (∀ i : Nat, i < 27 → va_O "java/lang/String" (adK i) A U H ∧ va_OF "java/lang/String" "coder" "B" (.int 0) (adK i) A U H ∧ va_OF "java/lang/String" "value" "[B" (.ref (adV i)) (adK i) A U H ∧ va_T .byte (adV i) (xSlen.getD i 0) (fun j => .int ((xSbyt.getD i []).getD j 0)) A U H) ∧ xZs A U H
theorem xSs_moved {adK adV : Nat → Nat} {A : Nat → Prop} {u U : State} {H : Heap} (hvm : u.vm.Alike U.vm) (h : xSs adK adV A u H) : xSs adK adV A U H :=
  ⟨fun i hi => ⟨va_O.moved hvm (h.1 i hi).1, va_OF.moved hvm (h.1 i hi).2.1, va_OF.moved hvm (h.1 i hi).2.2.1, va_T.moved hvm (h.1 i hi).2.2.2⟩, va_Z.moved hvm h.2.1, h.2.2.choose, va_Z.moved hvm h.2.2.choose_spec⟩
theorem xSs_kept {adK adV : Nat → Nat} {A : Nat → Prop} {U : State} {H H1 : Heap} (h : xSs adK adV A U H) (hq : ∀ a : Nat, a < H.size → ¬ A a → H1[a]? = H[a]?) : xSs adK adV A U H1 :=
  ⟨fun i hi => ⟨(h.1 i hi).1.kept hq, (h.1 i hi).2.1.kept hq, (h.1 i hi).2.2.1.kept hq, (h.1 i hi).2.2.2.kept hq⟩, h.2.1.kept hq, h.2.2.choose, h.2.2.choose_spec.kept hq⟩
theorem xSs_narrow {adK adV : Nat → Nat} {A B : Nat → Prop} {U : State} {H : Heap} (h : xSs adK adV A U H) (hAB : ∀ q, B q → A q) : xSs adK adV B U H :=
  ⟨fun i hi => ⟨(h.1 i hi).1.narrow hAB, (h.1 i hi).2.1.narrow hAB, (h.1 i hi).2.2.1.narrow hAB, (h.1 i hi).2.2.2.narrow hAB⟩, h.2.1.narrow hAB, h.2.2.choose, h.2.2.choose_spec.narrow hAB⟩
def xAOL (s : State) : Prop := (Cond.arrayOver (.array .long)).before #[] s = true
def xTab (J : xJT) (s : State) : Prop := va_K J.1 vwCl [] s ∧ (∀ e ∈ xFn, va_Nw (xFnC e) s) ∧ (∀ e ∈ xMn, va_Nw (xMnC e) s) ∧ (∀ e ∈ xKs, vk_R (xo e.1) e.2.1 (xStr.getD e.2.2 "") (J.2.1 e.2.2) s) ∧ (∀ c : Nat, (c = 2 ∨ c = 4 ∨ c = 5 ∨ c = 10) → va_AO (xCl c).1 s) ∧ xAOL s
def xOld (J : xJT) (A : Nat → Prop) (s : State) (H : Heap) : Prop := va_X J.2.2.2.1 J.2.2.2.2.1 J.2.2.2.2.2.1 s H ∧ J.2.2.2.1 < H.size ∧ ¬ A J.2.2.2.1 ∧ xSs J.2.1 J.2.2.1 A s H
def xGd (J : xJT) (G : xG) (M : xH) : Prop := G.1 (-1) = J.2.2.2.1 ∧ ((∀ j : Nat, j < 27 → G.1 (-2 - (j : Int)) = J.2.1 j) ∧ ∀ b : Int, b < J.2.2.2.2.2.2.2 → G.1 b = J.2.2.2.2.2.2.1 b) ∧ J.2.2.2.2.2.2.2 ≤ (M.2.2.2.1 : Int) ∧ (M.2.1 (-1) = 20 → M.2.2.1 (-1) = (J.2.2.2.2.1 : Int) ∧ ∀ i : Nat, i < J.2.2.2.2.1 → M.1 (-1) (i : Int) = (J.2.2.2.2.2.1 i).toInt)
def xKn (G : xG) (M : xH) (s : State) : Prop := ∀ a : Int, 0 < a → a < (M.2.2.2.1 : Int) → 20 ≤ M.2.1 a → ArrOfT s (G.2 a) (xAt (M.2.1 a)) ∧ va_RA s (G.2 a) (xAt (M.2.1 a))
def xRel (J : xJT) (s : State) (A : Nat → Prop) (H0 : Heap) (G : xG) (M : xH) (H : Heap) (locs : List Loc) : Prop := xOk M ∧ va_P J.1 vwCl (xWs G M) H ∧ va_D A (xWs G M) ∧ va_S A H0 H locs ∧ xKn G M s ∧ xGd J G M
def xVk (nx : Nat) (v : xV) : Prop := v.1 ≤ 2 ∧ xInN nx v.1 v.2
def xLk (nx : Nat) (v : xV) : Prop := v.1 = 9 ∨ (xVk nx v ∧ (v.1 = 2 → v.2 ≠ 0))
def xLv (ad : Int → Nat) (L : List xV) : List (Nat × Value) := L.zipIdx.filterMap (fun q => if q.1.1 = 9 then none else some (q.2, xc ad q.1))
def xFr (nL : Nat) (G : xG) (M : xH) (L st : List xV) (ls : Array Slot) : Prop := lv_has ls nL (xLv G.1 L) ∧ L.length = nL ∧ (∀ v ∈ L, xLk M.2.2.2.1 v) ∧ ∀ v ∈ st, xVk M.2.2.2.1 v
def xRd (K : xKT) (J : xJT) (A : Nat → Prop) (Z : State → Prop) (nL c0 s0 : Nat) (ps : List Nat) (S : xS) : Prop :=
  ∀ (G : xG) (H : Heap) (locs : List Loc) (ls : Array Slot), xRel J K.2.2.2.2.1 A K.2.2.2.2.1.heap G S.2.2.2 H locs → xFr nL G S.2.2.2 S.2.1 S.2.2.1 ls → c0 ≤ S.2.2.2.2.2.2.1 → s0 ≤ S.2.2.2.2.2.2.2 →
    W K.1 K.2.1 K.2.2.1 K.2.2.2.1 K.2.2.2.2.1 K.2.2.2.2.2.1 K.2.2.2.2.2.2.1 K.2.2.2.2.2.2.2.1 K.2.2.2.2.2.2.2.2.1 K.2.2.2.2.2.2.2.2.2 H locs (S.2.2.2.2.2.2.1 - c0) (S.2.2.2.2.2.2.2 - s0) Z (F0 K.2.2.2.2.2.1 (ps.getD S.1 0) ls (S.2.2.1.map (xc G.1)))
def xCtx (p : Program) (R : Room) (s : State) (m : MethodId) (args : Array Value) (c : Code) (own : Nat) (cc : ByteArray) (nL d : Nat) (J : xJT) (A : Nat → Prop) : Prop :=
  p.tables.exec = Jvm.exec ∧ c.code = cc ∧ c.maxLocals = nL ∧ s.vm.findClass (xo own) = some m.cls ∧ (∀ w ∈ xGw, w.before args s = true) ∧ xTab J s ∧ xOld J A s s.heap ∧ (∀ q : Nat, s.heap.size ≤ q → A q) ∧ d ≤ R.frames ∧ 41 * d ≤ R.locals
theorem xLv_mem {ad : Int → Nat} {L : List xV} {i : Nat} {v : xV} (h : L[i]? = some v) (h9 : v.1 ≠ 9) : (i, xc ad v) ∈ xLv ad L := by
  refine List.mem_filterMap.mpr ⟨(v, i), ?_, by rw [if_neg h9]⟩
  rw [List.mem_zipIdx_iff_getElem?]
  exact h
theorem xLv_of {ad : Int → Nat} {L : List xV} {q : Nat × Value} (h : q ∈ xLv ad L) : ∃ v : xV, L[q.1]? = some v ∧ v.1 ≠ 9 ∧ q.2 = xc ad v := by
  obtain ⟨z, hz, e⟩ := List.mem_filterMap.mp h
  rw [List.mem_zipIdx_iff_getElem?] at hz
  by_cases h9 : z.1.1 = 9
  · rw [if_pos h9] at e; cases e
  · rw [if_neg h9] at e
    cases e
    exact ⟨z.1, hz, h9, rfl⟩
theorem xL_at {nL : Nat} {ad : Int → Nat} {L : List xV} {ls : Array Slot} (h : lv_has ls nL (xLv ad L)) {i : Nat} {v : xV} (hv : L[i]? = some v) (h9 : v.1 ≠ 9) : ls[i]? = some (.val (xc ad v)) := h.2.2 _ (xLv_mem hv h9)
theorem xL_sub {nL : Nat} {ls : Array Slot} {l l' : List (Nat × Value)} (h : lv_has ls nL l) (hs : ∀ q ∈ l', q ∈ l) : lv_has ls nL l' := ⟨h.1, h.2.1, fun q hq => h.2.2 q (hs q hq)⟩
theorem xGetD {α : Type} {L : List α} {i : Nat} {v d : α} (h : L.getD i d = v) (hv : v ≠ d) : L[i]? = some v := by
  rw [List.getD_eq_getElem?_getD] at h
  cases e : L[i]? with
  | none => rw [e] at h; exact absurd h.symm hv
  | some w => rw [e] at h; exact congrArg some h
theorem xc_cat (ad : Int → Nat) (v : xV) (h : v.1 ≤ 2) : (xc ad v).category = if v.1 = 1 then 2 else 1 := by
  obtain ⟨t, x⟩ := v
  match t, h with
  | 0, _ => rfl
  | 1, _ => rfl
  | 2, _ =>
    by_cases e : x = 0
    · subst e; rfl
    · rw [xc_ref e]; rfl
theorem xSet_get {Z : List xV} {i j : Nat} {v w : xV} (h : (Z.set i v)[j]? = some w) : (j = i ∧ w = v) ∨ (j ≠ i ∧ Z[j]? = some w) := by
  rw [List.getElem?_set] at h
  by_cases e : i = j
  · rw [if_pos e] at h
    by_cases hl : i < Z.length
    · rw [if_pos hl] at h
      exact Or.inl ⟨e.symm, (Option.some.inj h).symm⟩
    · rw [if_neg hl] at h
      cases h
  · rw [if_neg e] at h
    exact Or.inr ⟨fun q => e q.symm, h⟩
theorem xSt1_get {L : List xV} {i j : Nat} {v w : xV} (h : (xSt1 L i v)[j]? = some w) (h9 : w.1 ≠ 9) : (j = i ∧ w = v) ∨ (j ≠ i ∧ L[j]? = some w ∧ ¬ (j + 1 = i ∧ w.1 = 1)) := by
  unfold xSt1 at h
  rcases xSet_get h with q | ⟨q1, q2⟩
  · exact Or.inl q
  · refine Or.inr ⟨q1, ?_⟩
    match i, q1, q2 with
    | 0, q1, q2 => exact ⟨q2, fun q => by omega⟩
    | k + 1, q1, q2 =>
      have q2 : (match L.getD k (9, 0) with | (1, _) => L.set k (9, 0) | _ => L)[j]? = some w := q2
      split at q2
      · rename_i x hx
        rcases xSet_get q2 with ⟨e1, e2⟩ | ⟨e1, e2⟩
        · rw [e2] at h9; exact absurd rfl h9
        · exact ⟨e2, fun q => e1 (by omega)⟩
      · rename_i hx
        have q5 : L[j]? = some w := by assumption
        refine ⟨q5, fun q => ?_⟩
        obtain ⟨z1, z2⟩ := q
        have e3 : j = k := by omega
        subst e3
        obtain ⟨t, x⟩ := w
        have z2 : t = 1 := z2
        subst z2
        exact hx x (by rw [List.getD_eq_getElem?_getD, q5]; rfl)
theorem xSt1_len (L : List xV) (i : Nat) (v : xV) : (xSt1 L i v).length = L.length := by
  unfold xSt1
  rw [List.length_set]
  split
  · rfl
  · split
    · rw [List.length_set]
    · rfl
theorem xSt2_get {L : List xV} {i j : Nat} {v w : xV} (h : (xSt2 L i v)[j]? = some w) (h9 : w.1 ≠ 9) : (j = i ∧ w = v) ∨ (j ≠ i ∧ j ≠ i + 1 ∧ L[j]? = some w ∧ ¬ (j + 1 = i ∧ w.1 = 1)) := by
  unfold xSt2 at h
  rcases xSet_get h with ⟨q1, q2⟩ | ⟨q1, q2⟩
  · rw [q2] at h9; exact absurd rfl h9
  · rcases xSt1_get q2 h9 with ⟨h1, h2⟩ | ⟨h1, h2, h3⟩
    · exact Or.inl ⟨h1, h2⟩
    · exact Or.inr ⟨h1, q1, h2, h3⟩
theorem xSt2_len (L : List xV) (i : Nat) (v : xV) : (xSt2 L i v).length = L.length := by
  unfold xSt2
  rw [List.length_set, xSt1_len]
end
section
theorem xi_c8 {x : Int} (h : -128 ≤ x ∧ x < 128) : (Int8.ofInt x).toInt32 = Int32.ofInt x := by
  apply Int32.toInt_inj.mp
  rw [Int8.toInt_toInt32, Int8.toInt_ofInt_of_le (by omega) (by omega), xi_toInt (xIn40 h)]
theorem xi_c16 {x : Int} (h : -32768 ≤ x ∧ x < 32768) : (Int16.ofInt x).toInt32 = Int32.ofInt x := by
  apply Int32.toInt_inj.mp
  rw [Int16.toInt_toInt32, Int16.toInt_ofInt_of_le (by omega) (by omega), xi_toInt (show (-2147483648 : Int) ≤ x ∧ x < 2147483648 by omega)]
section XOPS
variable {p : Program} {l : Launch} {e : Env} {R : Room} {s : State} {m : MethodId} {args : Array Value} {below : List Frame} {meth : Method} {c : Code}
variable {J : xJT} {A : Nat → Prop} {Z : State → Prop} {nL c0 s0 own d pc : Nat} {cc : ByteArray} {ps : List Nat} {L r : List xV} {M : xH}
theorem o_iadd (C : xCtx p R s m args c own cc nL d J A) (hd : decode cc (ps.getD pc 0) = .ok (.iadd, 1)) (hn : ps.getD (pc + 1) 0 = ps.getD pc 0 + 1) {y : Int} {x : Int} (h : xRd (p, l, e, R, s, m, args, below, meth, c) J A Z nL c0 s0 ps (pc + 1, L, (0, w32 (x + y)) :: r, M)) : xRd (p, l, e, R, s, m, args, below, meth, c) J A Z nL c0 s0 ps (pc, L, (0, y) :: (0, x) :: r, M) := by
  intro G H locs ls hR hF h1 h2
  obtain ⟨f1, f2, f3, f4⟩ := hF
  show W p l e R s m args below meth c H locs (M.2.2.2.1 - c0) (M.2.2.2.2 - s0) Z (F0 m (ps.getD pc 0) ls (.int (Int32.ofInt y) :: .int (Int32.ofInt x) :: r.map (xc G.1)))
  have iy : xInN M.2.2.2.1 0 y := (f4 (0, y) (by simp)).2
  have ix : xInN M.2.2.2.1 0 x := (f4 (0, x) (by simp)).2
  have k := h G H locs ls hR ⟨f1, f2, f3, fun v hv => ?_⟩ h1 h2
  · refine lv_iadd C.1 C.2.1 hd ?_
    have k : W p l e R s m args below meth c H locs (M.2.2.2.1 - c0) (M.2.2.2.2 - s0) Z (F0 m (ps.getD (pc + 1) 0) ls (.int (Int32.ofInt (w32 (x + y))) :: r.map (xc G.1))) := k
    rw [hn] at k
    have q : Int32.ofInt x + Int32.ofInt y = Int32.ofInt (w32 (x + y)) := Int32.toInt_inj.mp (by rw [xi_add, xi_toInt (show xIn 0 x from ix), xi_toInt (show xIn 0 y from iy), xi_toInt (w32_in _)])
    rw [q]
    exact k
  · have hv : v ∈ ((0, w32 (x + y)) :: r : List xV) := hv
    simp only [List.mem_cons] at hv
    rcases hv with rfl | hv
    · exact ⟨Nat.le_of_ble_eq_true rfl, w32_in _⟩
    · exact f4 v (by simp [hv])
theorem o_isub (C : xCtx p R s m args c own cc nL d J A) (hd : decode cc (ps.getD pc 0) = .ok (.isub, 1)) (hn : ps.getD (pc + 1) 0 = ps.getD pc 0 + 1) {y : Int} {x : Int} (h : xRd (p, l, e, R, s, m, args, below, meth, c) J A Z nL c0 s0 ps (pc + 1, L, (0, w32 (x - y)) :: r, M)) : xRd (p, l, e, R, s, m, args, below, meth, c) J A Z nL c0 s0 ps (pc, L, (0, y) :: (0, x) :: r, M) := by
  intro G H locs ls hR hF h1 h2
  obtain ⟨f1, f2, f3, f4⟩ := hF
  show W p l e R s m args below meth c H locs (M.2.2.2.1 - c0) (M.2.2.2.2 - s0) Z (F0 m (ps.getD pc 0) ls (.int (Int32.ofInt y) :: .int (Int32.ofInt x) :: r.map (xc G.1)))
  have iy : xInN M.2.2.2.1 0 y := (f4 (0, y) (by simp)).2
  have ix : xInN M.2.2.2.1 0 x := (f4 (0, x) (by simp)).2
  have k := h G H locs ls hR ⟨f1, f2, f3, fun v hv => ?_⟩ h1 h2
  · refine lv_isub C.1 C.2.1 hd ?_
    have k : W p l e R s m args below meth c H locs (M.2.2.2.1 - c0) (M.2.2.2.2 - s0) Z (F0 m (ps.getD (pc + 1) 0) ls (.int (Int32.ofInt (w32 (x - y))) :: r.map (xc G.1))) := k
    rw [hn] at k
    have q : Int32.ofInt x - Int32.ofInt y = Int32.ofInt (w32 (x - y)) := Int32.toInt_inj.mp (by rw [xi_sub, xi_toInt (show xIn 0 x from ix), xi_toInt (show xIn 0 y from iy), xi_toInt (w32_in _)])
    rw [q]
    exact k
  · have hv : v ∈ ((0, w32 (x - y)) :: r : List xV) := hv
    simp only [List.mem_cons] at hv
    rcases hv with rfl | hv
    · exact ⟨Nat.le_of_ble_eq_true rfl, w32_in _⟩
    · exact f4 v (by simp [hv])
theorem o_imul (C : xCtx p R s m args c own cc nL d J A) (hd : decode cc (ps.getD pc 0) = .ok (.imul, 1)) (hn : ps.getD (pc + 1) 0 = ps.getD pc 0 + 1) {y : Int} {x : Int} (h : xRd (p, l, e, R, s, m, args, below, meth, c) J A Z nL c0 s0 ps (pc + 1, L, (0, w32 (x * y)) :: r, M)) : xRd (p, l, e, R, s, m, args, below, meth, c) J A Z nL c0 s0 ps (pc, L, (0, y) :: (0, x) :: r, M) := by
  intro G H locs ls hR hF h1 h2
  obtain ⟨f1, f2, f3, f4⟩ := hF
  show W p l e R s m args below meth c H locs (M.2.2.2.1 - c0) (M.2.2.2.2 - s0) Z (F0 m (ps.getD pc 0) ls (.int (Int32.ofInt y) :: .int (Int32.ofInt x) :: r.map (xc G.1)))
  have iy : xInN M.2.2.2.1 0 y := (f4 (0, y) (by simp)).2
  have ix : xInN M.2.2.2.1 0 x := (f4 (0, x) (by simp)).2
  have k := h G H locs ls hR ⟨f1, f2, f3, fun v hv => ?_⟩ h1 h2
  · refine lv_imul C.1 C.2.1 hd ?_
    have k : W p l e R s m args below meth c H locs (M.2.2.2.1 - c0) (M.2.2.2.2 - s0) Z (F0 m (ps.getD (pc + 1) 0) ls (.int (Int32.ofInt (w32 (x * y))) :: r.map (xc G.1))) := k
    rw [hn] at k
    have q : Int32.ofInt x * Int32.ofInt y = Int32.ofInt (w32 (x * y)) := Int32.toInt_inj.mp (by rw [xi_mul, xi_toInt (show xIn 0 x from ix), xi_toInt (show xIn 0 y from iy), xi_toInt (w32_in _)])
    rw [q]
    exact k
  · have hv : v ∈ ((0, w32 (x * y)) :: r : List xV) := hv
    simp only [List.mem_cons] at hv
    rcases hv with rfl | hv
    · exact ⟨Nat.le_of_ble_eq_true rfl, w32_in _⟩
    · exact f4 v (by simp [hv])
theorem o_idiv (C : xCtx p R s m args c own cc nL d J A) (hd : decode cc (ps.getD pc 0) = .ok (.idiv, 1)) (hn : ps.getD (pc + 1) 0 = ps.getD pc 0 + 1) {x y : Int} (hz : y ≠ 0) (h : xRd (p, l, e, R, s, m, args, below, meth, c) J A Z nL c0 s0 ps (pc + 1, L, (0, w32 (x.tdiv y)) :: r, M)) : xRd (p, l, e, R, s, m, args, below, meth, c) J A Z nL c0 s0 ps (pc, L, (0, y) :: (0, x) :: r, M) := by
  intro G H locs ls hR hF h1 h2
  obtain ⟨f1, f2, f3, f4⟩ := hF
  show W p l e R s m args below meth c H locs (M.2.2.2.1 - c0) (M.2.2.2.2 - s0) Z (F0 m (ps.getD pc 0) ls (.int (Int32.ofInt y) :: .int (Int32.ofInt x) :: r.map (xc G.1)))
  have ix : xIn 0 x := (f4 (0, x) (by simp)).2
  have iy : xIn 0 y := (f4 (0, y) (by simp)).2
  have k := h G H locs ls hR ⟨f1, f2, f3, fun v hv => ?_⟩ h1 h2
  · refine lv_idiv C.1 C.2.1 hd (xi_ne0 iy hz) ?_
    have k : W p l e R s m args below meth c H locs (M.2.2.2.1 - c0) (M.2.2.2.2 - s0) Z (F0 m (ps.getD (pc + 1) 0) ls (.int (Int32.ofInt (w32 (x.tdiv y))) :: r.map (xc G.1))) := k
    rw [hn] at k
    have q : Int32.ofInt x / Int32.ofInt y = Int32.ofInt (w32 (x.tdiv y)) := Int32.toInt_inj.mp (by rw [xi_div, xi_toInt ix, xi_toInt iy, xi_toInt (w32_in _)])
    rw [q]
    exact k
  · have hv : v ∈ ((0, w32 (x.tdiv y)) :: r : List xV) := hv
    simp only [List.mem_cons] at hv
    rcases hv with rfl | hv
    · exact ⟨Nat.le_of_ble_eq_true rfl, w32_in _⟩
    · exact f4 v (by simp [hv])
theorem o_ldiv (C : xCtx p R s m args c own cc nL d J A) (hd : decode cc (ps.getD pc 0) = .ok (.ldiv, 1)) (hn : ps.getD (pc + 1) 0 = ps.getD pc 0 + 1) {x y : Int} (hz : y ≠ 0) (h : xRd (p, l, e, R, s, m, args, below, meth, c) J A Z nL c0 s0 ps (pc + 1, L, (1, w64 (x.tdiv y)) :: r, M)) : xRd (p, l, e, R, s, m, args, below, meth, c) J A Z nL c0 s0 ps (pc, L, (1, y) :: (1, x) :: r, M) := by
  intro G H locs ls hR hF h1 h2
  obtain ⟨f1, f2, f3, f4⟩ := hF
  show W p l e R s m args below meth c H locs (M.2.2.2.1 - c0) (M.2.2.2.2 - s0) Z (F0 m (ps.getD pc 0) ls (.long (Int64.ofInt y) :: .long (Int64.ofInt x) :: r.map (xc G.1)))
  have ix : xIn 1 x := (f4 (1, x) (by simp)).2
  have iy : xIn 1 y := (f4 (1, y) (by simp)).2
  have k := h G H locs ls hR ⟨f1, f2, f3, fun v hv => ?_⟩ h1 h2
  · refine lv_ldiv C.1 C.2.1 hd (xj_ne0 iy hz) ?_
    have k : W p l e R s m args below meth c H locs (M.2.2.2.1 - c0) (M.2.2.2.2 - s0) Z (F0 m (ps.getD (pc + 1) 0) ls (.long (Int64.ofInt (w64 (x.tdiv y))) :: r.map (xc G.1))) := k
    rw [hn] at k
    have q : Int64.ofInt x / Int64.ofInt y = Int64.ofInt (w64 (x.tdiv y)) := Int64.toInt_inj.mp (by rw [xj_div, xj_toInt ix, xj_toInt iy, xj_toInt (w64_in _)])
    rw [q]
    exact k
  · have hv : v ∈ ((1, w64 (x.tdiv y)) :: r : List xV) := hv
    simp only [List.mem_cons] at hv
    rcases hv with rfl | hv
    · exact ⟨Nat.le_of_ble_eq_true rfl, w64_in _⟩
    · exact f4 v (by simp [hv])
theorem o_irem (C : xCtx p R s m args c own cc nL d J A) (hd : decode cc (ps.getD pc 0) = .ok (.irem, 1)) (hn : ps.getD (pc + 1) 0 = ps.getD pc 0 + 1) {x y : Int} (hz : y ≠ 0) (h : xRd (p, l, e, R, s, m, args, below, meth, c) J A Z nL c0 s0 ps (pc + 1, L, (0, x.tmod y) :: r, M)) : xRd (p, l, e, R, s, m, args, below, meth, c) J A Z nL c0 s0 ps (pc, L, (0, y) :: (0, x) :: r, M) := by
  intro G H locs ls hR hF h1 h2
  obtain ⟨f1, f2, f3, f4⟩ := hF
  show W p l e R s m args below meth c H locs (M.2.2.2.1 - c0) (M.2.2.2.2 - s0) Z (F0 m (ps.getD pc 0) ls (.int (Int32.ofInt y) :: .int (Int32.ofInt x) :: r.map (xc G.1)))
  have ix : xIn 0 x := (f4 (0, x) (by simp)).2
  have iy : xIn 0 y := (f4 (0, y) (by simp)).2
  have k := h G H locs ls hR ⟨f1, f2, f3, fun v hv => ?_⟩ h1 h2
  · refine lv_irem C.1 C.2.1 hd (xi_ne0 iy hz) ?_
    have k : W p l e R s m args below meth c H locs (M.2.2.2.1 - c0) (M.2.2.2.2 - s0) Z (F0 m (ps.getD (pc + 1) 0) ls (.int (Int32.ofInt (x.tmod y)) :: r.map (xc G.1))) := k
    rw [hn] at k
    have q : Int32.ofInt x - Int32.ofInt x / Int32.ofInt y * Int32.ofInt y = Int32.ofInt (x.tmod y) := Int32.toInt_inj.mp (by rw [xi_rem, xi_toInt ix, xi_toInt iy, xi_toInt (x_tmod_in (Or.inl rfl) _ ix)])
    rw [q]
    exact k
  · have hv : v ∈ ((0, x.tmod y) :: r : List xV) := hv
    simp only [List.mem_cons] at hv
    rcases hv with rfl | hv
    · exact ⟨Nat.le_of_ble_eq_true rfl, x_tmod_in (Or.inl rfl) _ ix⟩
    · exact f4 v (by simp [hv])
theorem o_lrem (C : xCtx p R s m args c own cc nL d J A) (hd : decode cc (ps.getD pc 0) = .ok (.lrem, 1)) (hn : ps.getD (pc + 1) 0 = ps.getD pc 0 + 1) {x y : Int} (hz : y ≠ 0) (h : xRd (p, l, e, R, s, m, args, below, meth, c) J A Z nL c0 s0 ps (pc + 1, L, (1, x.tmod y) :: r, M)) : xRd (p, l, e, R, s, m, args, below, meth, c) J A Z nL c0 s0 ps (pc, L, (1, y) :: (1, x) :: r, M) := by
  intro G H locs ls hR hF h1 h2
  obtain ⟨f1, f2, f3, f4⟩ := hF
  show W p l e R s m args below meth c H locs (M.2.2.2.1 - c0) (M.2.2.2.2 - s0) Z (F0 m (ps.getD pc 0) ls (.long (Int64.ofInt y) :: .long (Int64.ofInt x) :: r.map (xc G.1)))
  have ix : xIn 1 x := (f4 (1, x) (by simp)).2
  have iy : xIn 1 y := (f4 (1, y) (by simp)).2
  have k := h G H locs ls hR ⟨f1, f2, f3, fun v hv => ?_⟩ h1 h2
  · refine lv_lrem C.1 C.2.1 hd (xj_ne0 iy hz) ?_
    have k : W p l e R s m args below meth c H locs (M.2.2.2.1 - c0) (M.2.2.2.2 - s0) Z (F0 m (ps.getD (pc + 1) 0) ls (.long (Int64.ofInt (x.tmod y)) :: r.map (xc G.1))) := k
    rw [hn] at k
    have q : Int64.ofInt x - Int64.ofInt x / Int64.ofInt y * Int64.ofInt y = Int64.ofInt (x.tmod y) := Int64.toInt_inj.mp (by rw [xj_rem, xj_toInt ix, xj_toInt iy, xj_toInt (x_tmod_in (Or.inr rfl) _ ix)])
    rw [q]
    exact k
  · have hv : v ∈ ((1, x.tmod y) :: r : List xV) := hv
    simp only [List.mem_cons] at hv
    rcases hv with rfl | hv
    · exact ⟨Nat.le_of_ble_eq_true rfl, x_tmod_in (Or.inr rfl) _ ix⟩
    · exact f4 v (by simp [hv])
theorem o_ineg (C : xCtx p R s m args c own cc nL d J A) (hd : decode cc (ps.getD pc 0) = .ok (.ineg, 1)) (hn : ps.getD (pc + 1) 0 = ps.getD pc 0 + 1) {x : Int} (h : xRd (p, l, e, R, s, m, args, below, meth, c) J A Z nL c0 s0 ps (pc + 1, L, (0, w32 (-x)) :: r, M)) : xRd (p, l, e, R, s, m, args, below, meth, c) J A Z nL c0 s0 ps (pc, L, (0, x) :: r, M) := by
  intro G H locs ls hR hF h1 h2
  obtain ⟨f1, f2, f3, f4⟩ := hF
  show W p l e R s m args below meth c H locs (M.2.2.2.1 - c0) (M.2.2.2.2 - s0) Z (F0 m (ps.getD pc 0) ls (.int (Int32.ofInt x) :: r.map (xc G.1)))
  have ix : xInN M.2.2.2.1 0 x := (f4 (0, x) (by simp)).2
  have k := h G H locs ls hR ⟨f1, f2, f3, fun v hv => ?_⟩ h1 h2
  · refine lv_ineg C.1 C.2.1 hd ?_
    have k : W p l e R s m args below meth c H locs (M.2.2.2.1 - c0) (M.2.2.2.2 - s0) Z (F0 m (ps.getD (pc + 1) 0) ls (.int (Int32.ofInt (w32 (-x))) :: r.map (xc G.1))) := k
    rw [hn] at k
    have q : -Int32.ofInt x = Int32.ofInt (w32 (-x)) := Int32.toInt_inj.mp (by rw [xi_neg, xi_toInt (show xIn 0 x from ix), xi_toInt (w32_in _)])
    rw [q]
    exact k
  · have hv : v ∈ ((0, w32 (-x)) :: r : List xV) := hv
    simp only [List.mem_cons] at hv
    rcases hv with rfl | hv
    · exact ⟨Nat.le_of_ble_eq_true rfl, w32_in _⟩
    · exact f4 v (by simp [hv])
theorem o_ishl (C : xCtx p R s m args c own cc nL d J A) (hd : decode cc (ps.getD pc 0) = .ok (.ishl, 1)) (hn : ps.getD (pc + 1) 0 = ps.getD pc 0 + 1) {y : Int} {x : Int} (h : xRd (p, l, e, R, s, m, args, below, meth, c) J A Z nL c0 s0 ps (pc + 1, L, (0, xShl x y) :: r, M)) : xRd (p, l, e, R, s, m, args, below, meth, c) J A Z nL c0 s0 ps (pc, L, (0, y) :: (0, x) :: r, M) := by
  intro G H locs ls hR hF h1 h2
  obtain ⟨f1, f2, f3, f4⟩ := hF
  show W p l e R s m args below meth c H locs (M.2.2.2.1 - c0) (M.2.2.2.2 - s0) Z (F0 m (ps.getD pc 0) ls (.int (Int32.ofInt y) :: .int (Int32.ofInt x) :: r.map (xc G.1)))
  have iy : xInN M.2.2.2.1 0 y := (f4 (0, y) (by simp)).2
  have ix : xInN M.2.2.2.1 0 x := (f4 (0, x) (by simp)).2
  have k := h G H locs ls hR ⟨f1, f2, f3, fun v hv => ?_⟩ h1 h2
  · refine lv_ishl C.1 C.2.1 hd ?_
    have k : W p l e R s m args below meth c H locs (M.2.2.2.1 - c0) (M.2.2.2.2 - s0) Z (F0 m (ps.getD (pc + 1) 0) ls (.int (Int32.ofInt (xShl x y)) :: r.map (xc G.1))) := k
    rw [hn] at k
    rw [show Int32.ofInt (xShl x y) = _ from xi_eq _] at k
    exact k
  · have hv : v ∈ ((0, xShl x y) :: r : List xV) := hv
    simp only [List.mem_cons] at hv
    rcases hv with rfl | hv
    · exact ⟨Nat.le_of_ble_eq_true rfl, xi_in _⟩
    · exact f4 v (by simp [hv])
theorem o_ishr (C : xCtx p R s m args c own cc nL d J A) (hd : decode cc (ps.getD pc 0) = .ok (.ishr, 1)) (hn : ps.getD (pc + 1) 0 = ps.getD pc 0 + 1) {y : Int} {x : Int} (h : xRd (p, l, e, R, s, m, args, below, meth, c) J A Z nL c0 s0 ps (pc + 1, L, (0, xShr x y) :: r, M)) : xRd (p, l, e, R, s, m, args, below, meth, c) J A Z nL c0 s0 ps (pc, L, (0, y) :: (0, x) :: r, M) := by
  intro G H locs ls hR hF h1 h2
  obtain ⟨f1, f2, f3, f4⟩ := hF
  show W p l e R s m args below meth c H locs (M.2.2.2.1 - c0) (M.2.2.2.2 - s0) Z (F0 m (ps.getD pc 0) ls (.int (Int32.ofInt y) :: .int (Int32.ofInt x) :: r.map (xc G.1)))
  have iy : xInN M.2.2.2.1 0 y := (f4 (0, y) (by simp)).2
  have ix : xInN M.2.2.2.1 0 x := (f4 (0, x) (by simp)).2
  have k := h G H locs ls hR ⟨f1, f2, f3, fun v hv => ?_⟩ h1 h2
  · refine lv_ishr C.1 C.2.1 hd ?_
    have k : W p l e R s m args below meth c H locs (M.2.2.2.1 - c0) (M.2.2.2.2 - s0) Z (F0 m (ps.getD (pc + 1) 0) ls (.int (Int32.ofInt (xShr x y)) :: r.map (xc G.1))) := k
    rw [hn] at k
    rw [show Int32.ofInt (xShr x y) = _ from xi_eq _] at k
    exact k
  · have hv : v ∈ ((0, xShr x y) :: r : List xV) := hv
    simp only [List.mem_cons] at hv
    rcases hv with rfl | hv
    · exact ⟨Nat.le_of_ble_eq_true rfl, xi_in _⟩
    · exact f4 v (by simp [hv])
theorem o_iand (C : xCtx p R s m args c own cc nL d J A) (hd : decode cc (ps.getD pc 0) = .ok (.iand, 1)) (hn : ps.getD (pc + 1) 0 = ps.getD pc 0 + 1) {y : Int} {x : Int} (h : xRd (p, l, e, R, s, m, args, below, meth, c) J A Z nL c0 s0 ps (pc + 1, L, (0, xAnd x y) :: r, M)) : xRd (p, l, e, R, s, m, args, below, meth, c) J A Z nL c0 s0 ps (pc, L, (0, y) :: (0, x) :: r, M) := by
  intro G H locs ls hR hF h1 h2
  obtain ⟨f1, f2, f3, f4⟩ := hF
  show W p l e R s m args below meth c H locs (M.2.2.2.1 - c0) (M.2.2.2.2 - s0) Z (F0 m (ps.getD pc 0) ls (.int (Int32.ofInt y) :: .int (Int32.ofInt x) :: r.map (xc G.1)))
  have iy : xInN M.2.2.2.1 0 y := (f4 (0, y) (by simp)).2
  have ix : xInN M.2.2.2.1 0 x := (f4 (0, x) (by simp)).2
  have k := h G H locs ls hR ⟨f1, f2, f3, fun v hv => ?_⟩ h1 h2
  · refine lv_iand C.1 C.2.1 hd ?_
    have k : W p l e R s m args below meth c H locs (M.2.2.2.1 - c0) (M.2.2.2.2 - s0) Z (F0 m (ps.getD (pc + 1) 0) ls (.int (Int32.ofInt (xAnd x y)) :: r.map (xc G.1))) := k
    rw [hn] at k
    rw [show Int32.ofInt (xAnd x y) = _ from xi_eq _] at k
    exact k
  · have hv : v ∈ ((0, xAnd x y) :: r : List xV) := hv
    simp only [List.mem_cons] at hv
    rcases hv with rfl | hv
    · exact ⟨Nat.le_of_ble_eq_true rfl, xi_in _⟩
    · exact f4 v (by simp [hv])
theorem o_ior (C : xCtx p R s m args c own cc nL d J A) (hd : decode cc (ps.getD pc 0) = .ok (.ior, 1)) (hn : ps.getD (pc + 1) 0 = ps.getD pc 0 + 1) {y : Int} {x : Int} (h : xRd (p, l, e, R, s, m, args, below, meth, c) J A Z nL c0 s0 ps (pc + 1, L, (0, xOr x y) :: r, M)) : xRd (p, l, e, R, s, m, args, below, meth, c) J A Z nL c0 s0 ps (pc, L, (0, y) :: (0, x) :: r, M) := by
  intro G H locs ls hR hF h1 h2
  obtain ⟨f1, f2, f3, f4⟩ := hF
  show W p l e R s m args below meth c H locs (M.2.2.2.1 - c0) (M.2.2.2.2 - s0) Z (F0 m (ps.getD pc 0) ls (.int (Int32.ofInt y) :: .int (Int32.ofInt x) :: r.map (xc G.1)))
  have iy : xInN M.2.2.2.1 0 y := (f4 (0, y) (by simp)).2
  have ix : xInN M.2.2.2.1 0 x := (f4 (0, x) (by simp)).2
  have k := h G H locs ls hR ⟨f1, f2, f3, fun v hv => ?_⟩ h1 h2
  · refine lv_ior C.1 C.2.1 hd ?_
    have k : W p l e R s m args below meth c H locs (M.2.2.2.1 - c0) (M.2.2.2.2 - s0) Z (F0 m (ps.getD (pc + 1) 0) ls (.int (Int32.ofInt (xOr x y)) :: r.map (xc G.1))) := k
    rw [hn] at k
    rw [show Int32.ofInt (xOr x y) = _ from xi_eq _] at k
    exact k
  · have hv : v ∈ ((0, xOr x y) :: r : List xV) := hv
    simp only [List.mem_cons] at hv
    rcases hv with rfl | hv
    · exact ⟨Nat.le_of_ble_eq_true rfl, xi_in _⟩
    · exact f4 v (by simp [hv])
theorem o_ixor (C : xCtx p R s m args c own cc nL d J A) (hd : decode cc (ps.getD pc 0) = .ok (.ixor, 1)) (hn : ps.getD (pc + 1) 0 = ps.getD pc 0 + 1) {y : Int} {x : Int} (h : xRd (p, l, e, R, s, m, args, below, meth, c) J A Z nL c0 s0 ps (pc + 1, L, (0, xXor x y) :: r, M)) : xRd (p, l, e, R, s, m, args, below, meth, c) J A Z nL c0 s0 ps (pc, L, (0, y) :: (0, x) :: r, M) := by
  intro G H locs ls hR hF h1 h2
  obtain ⟨f1, f2, f3, f4⟩ := hF
  show W p l e R s m args below meth c H locs (M.2.2.2.1 - c0) (M.2.2.2.2 - s0) Z (F0 m (ps.getD pc 0) ls (.int (Int32.ofInt y) :: .int (Int32.ofInt x) :: r.map (xc G.1)))
  have iy : xInN M.2.2.2.1 0 y := (f4 (0, y) (by simp)).2
  have ix : xInN M.2.2.2.1 0 x := (f4 (0, x) (by simp)).2
  have k := h G H locs ls hR ⟨f1, f2, f3, fun v hv => ?_⟩ h1 h2
  · refine lv_ixor C.1 C.2.1 hd ?_
    have k : W p l e R s m args below meth c H locs (M.2.2.2.1 - c0) (M.2.2.2.2 - s0) Z (F0 m (ps.getD (pc + 1) 0) ls (.int (Int32.ofInt (xXor x y)) :: r.map (xc G.1))) := k
    rw [hn] at k
    rw [show Int32.ofInt (xXor x y) = _ from xi_eq _] at k
    exact k
  · have hv : v ∈ ((0, xXor x y) :: r : List xV) := hv
    simp only [List.mem_cons] at hv
    rcases hv with rfl | hv
    · exact ⟨Nat.le_of_ble_eq_true rfl, xi_in _⟩
    · exact f4 v (by simp [hv])
theorem o_ladd (C : xCtx p R s m args c own cc nL d J A) (hd : decode cc (ps.getD pc 0) = .ok (.ladd, 1)) (hn : ps.getD (pc + 1) 0 = ps.getD pc 0 + 1) {y : Int} {x : Int} (h : xRd (p, l, e, R, s, m, args, below, meth, c) J A Z nL c0 s0 ps (pc + 1, L, (1, w64 (x + y)) :: r, M)) : xRd (p, l, e, R, s, m, args, below, meth, c) J A Z nL c0 s0 ps (pc, L, (1, y) :: (1, x) :: r, M) := by
  intro G H locs ls hR hF h1 h2
  obtain ⟨f1, f2, f3, f4⟩ := hF
  show W p l e R s m args below meth c H locs (M.2.2.2.1 - c0) (M.2.2.2.2 - s0) Z (F0 m (ps.getD pc 0) ls (.long (Int64.ofInt y) :: .long (Int64.ofInt x) :: r.map (xc G.1)))
  have iy : xInN M.2.2.2.1 1 y := (f4 (1, y) (by simp)).2
  have ix : xInN M.2.2.2.1 1 x := (f4 (1, x) (by simp)).2
  have k := h G H locs ls hR ⟨f1, f2, f3, fun v hv => ?_⟩ h1 h2
  · refine lv_ladd C.1 C.2.1 hd ?_
    have k : W p l e R s m args below meth c H locs (M.2.2.2.1 - c0) (M.2.2.2.2 - s0) Z (F0 m (ps.getD (pc + 1) 0) ls (.long (Int64.ofInt (w64 (x + y))) :: r.map (xc G.1))) := k
    rw [hn] at k
    have q : Int64.ofInt x + Int64.ofInt y = Int64.ofInt (w64 (x + y)) := Int64.toInt_inj.mp (by rw [xj_add, xj_toInt (show xIn 1 x from ix), xj_toInt (show xIn 1 y from iy), xj_toInt (w64_in _)])
    rw [q]
    exact k
  · have hv : v ∈ ((1, w64 (x + y)) :: r : List xV) := hv
    simp only [List.mem_cons] at hv
    rcases hv with rfl | hv
    · exact ⟨Nat.le_of_ble_eq_true rfl, w64_in _⟩
    · exact f4 v (by simp [hv])
theorem o_lmul (C : xCtx p R s m args c own cc nL d J A) (hd : decode cc (ps.getD pc 0) = .ok (.lmul, 1)) (hn : ps.getD (pc + 1) 0 = ps.getD pc 0 + 1) {y : Int} {x : Int} (h : xRd (p, l, e, R, s, m, args, below, meth, c) J A Z nL c0 s0 ps (pc + 1, L, (1, w64 (x * y)) :: r, M)) : xRd (p, l, e, R, s, m, args, below, meth, c) J A Z nL c0 s0 ps (pc, L, (1, y) :: (1, x) :: r, M) := by
  intro G H locs ls hR hF h1 h2
  obtain ⟨f1, f2, f3, f4⟩ := hF
  show W p l e R s m args below meth c H locs (M.2.2.2.1 - c0) (M.2.2.2.2 - s0) Z (F0 m (ps.getD pc 0) ls (.long (Int64.ofInt y) :: .long (Int64.ofInt x) :: r.map (xc G.1)))
  have iy : xInN M.2.2.2.1 1 y := (f4 (1, y) (by simp)).2
  have ix : xInN M.2.2.2.1 1 x := (f4 (1, x) (by simp)).2
  have k := h G H locs ls hR ⟨f1, f2, f3, fun v hv => ?_⟩ h1 h2
  · refine lv_lmul C.1 C.2.1 hd ?_
    have k : W p l e R s m args below meth c H locs (M.2.2.2.1 - c0) (M.2.2.2.2 - s0) Z (F0 m (ps.getD (pc + 1) 0) ls (.long (Int64.ofInt (w64 (x * y))) :: r.map (xc G.1))) := k
    rw [hn] at k
    have q : Int64.ofInt x * Int64.ofInt y = Int64.ofInt (w64 (x * y)) := Int64.toInt_inj.mp (by rw [xj_mul, xj_toInt (show xIn 1 x from ix), xj_toInt (show xIn 1 y from iy), xj_toInt (w64_in _)])
    rw [q]
    exact k
  · have hv : v ∈ ((1, w64 (x * y)) :: r : List xV) := hv
    simp only [List.mem_cons] at hv
    rcases hv with rfl | hv
    · exact ⟨Nat.le_of_ble_eq_true rfl, w64_in _⟩
    · exact f4 v (by simp [hv])
theorem o_land (C : xCtx p R s m args c own cc nL d J A) (hd : decode cc (ps.getD pc 0) = .ok (.land, 1)) (hn : ps.getD (pc + 1) 0 = ps.getD pc 0 + 1) {y : Int} {x : Int} (h : xRd (p, l, e, R, s, m, args, below, meth, c) J A Z nL c0 s0 ps (pc + 1, L, (1, xLand x y) :: r, M)) : xRd (p, l, e, R, s, m, args, below, meth, c) J A Z nL c0 s0 ps (pc, L, (1, y) :: (1, x) :: r, M) := by
  intro G H locs ls hR hF h1 h2
  obtain ⟨f1, f2, f3, f4⟩ := hF
  show W p l e R s m args below meth c H locs (M.2.2.2.1 - c0) (M.2.2.2.2 - s0) Z (F0 m (ps.getD pc 0) ls (.long (Int64.ofInt y) :: .long (Int64.ofInt x) :: r.map (xc G.1)))
  have iy : xInN M.2.2.2.1 1 y := (f4 (1, y) (by simp)).2
  have ix : xInN M.2.2.2.1 1 x := (f4 (1, x) (by simp)).2
  have k := h G H locs ls hR ⟨f1, f2, f3, fun v hv => ?_⟩ h1 h2
  · refine lv_land C.1 C.2.1 hd ?_
    have k : W p l e R s m args below meth c H locs (M.2.2.2.1 - c0) (M.2.2.2.2 - s0) Z (F0 m (ps.getD (pc + 1) 0) ls (.long (Int64.ofInt (xLand x y)) :: r.map (xc G.1))) := k
    rw [hn] at k
    rw [show Int64.ofInt (xLand x y) = _ from xj_eq _] at k
    exact k
  · have hv : v ∈ ((1, xLand x y) :: r : List xV) := hv
    simp only [List.mem_cons] at hv
    rcases hv with rfl | hv
    · exact ⟨Nat.le_of_ble_eq_true rfl, xj_in _⟩
    · exact f4 v (by simp [hv])
theorem o_lor (C : xCtx p R s m args c own cc nL d J A) (hd : decode cc (ps.getD pc 0) = .ok (.lor, 1)) (hn : ps.getD (pc + 1) 0 = ps.getD pc 0 + 1) {y : Int} {x : Int} (h : xRd (p, l, e, R, s, m, args, below, meth, c) J A Z nL c0 s0 ps (pc + 1, L, (1, xLor x y) :: r, M)) : xRd (p, l, e, R, s, m, args, below, meth, c) J A Z nL c0 s0 ps (pc, L, (1, y) :: (1, x) :: r, M) := by
  intro G H locs ls hR hF h1 h2
  obtain ⟨f1, f2, f3, f4⟩ := hF
  show W p l e R s m args below meth c H locs (M.2.2.2.1 - c0) (M.2.2.2.2 - s0) Z (F0 m (ps.getD pc 0) ls (.long (Int64.ofInt y) :: .long (Int64.ofInt x) :: r.map (xc G.1)))
  have iy : xInN M.2.2.2.1 1 y := (f4 (1, y) (by simp)).2
  have ix : xInN M.2.2.2.1 1 x := (f4 (1, x) (by simp)).2
  have k := h G H locs ls hR ⟨f1, f2, f3, fun v hv => ?_⟩ h1 h2
  · refine lv_lor C.1 C.2.1 hd ?_
    have k : W p l e R s m args below meth c H locs (M.2.2.2.1 - c0) (M.2.2.2.2 - s0) Z (F0 m (ps.getD (pc + 1) 0) ls (.long (Int64.ofInt (xLor x y)) :: r.map (xc G.1))) := k
    rw [hn] at k
    rw [show Int64.ofInt (xLor x y) = _ from xj_eq _] at k
    exact k
  · have hv : v ∈ ((1, xLor x y) :: r : List xV) := hv
    simp only [List.mem_cons] at hv
    rcases hv with rfl | hv
    · exact ⟨Nat.le_of_ble_eq_true rfl, xj_in _⟩
    · exact f4 v (by simp [hv])
theorem o_iushr (C : xCtx p R s m args c own cc nL d J A) (hd : decode cc (ps.getD pc 0) = .ok (.iushr, 1)) (hn : ps.getD (pc + 1) 0 = ps.getD pc 0 + 1) {y : Int} {x : Int} (h : xRd (p, l, e, R, s, m, args, below, meth, c) J A Z nL c0 s0 ps (pc + 1, L, (0, xUsh x y) :: r, M)) : xRd (p, l, e, R, s, m, args, below, meth, c) J A Z nL c0 s0 ps (pc, L, (0, y) :: (0, x) :: r, M) := by
  intro G H locs ls hR hF h1 h2
  obtain ⟨f1, f2, f3, f4⟩ := hF
  show W p l e R s m args below meth c H locs (M.2.2.2.1 - c0) (M.2.2.2.2 - s0) Z (F0 m (ps.getD pc 0) ls (.int (Int32.ofInt y) :: .int (Int32.ofInt x) :: r.map (xc G.1)))
  have iy : xIn 0 y := (f4 (0, y) (by simp)).2
  have ix : xIn 0 x := (f4 (0, x) (by simp)).2
  have k := h G H locs ls hR ⟨f1, f2, f3, fun v hv => ?_⟩ h1 h2
  · have k : W p l e R s m args below meth c H locs (M.2.2.2.1 - c0) (M.2.2.2.2 - s0) Z (F0 m (ps.getD (pc + 1) 0) ls (.int (Int32.ofInt (xUsh x y)) :: r.map (xc G.1))) := k
    rw [hn] at k
    exact lv_iushr C.1 C.2.1 hd (xi_eq _).symm k
  · have hv : v ∈ ((0, xUsh x y) :: r : List xV) := hv
    simp only [List.mem_cons] at hv
    rcases hv with rfl | hv
    · exact ⟨Nat.le_of_ble_eq_true rfl, xi_in _⟩
    · exact f4 v (by simp [hv])
theorem o_i2b (C : xCtx p R s m args c own cc nL d J A) (hd : decode cc (ps.getD pc 0) = .ok (.i2b, 1)) (hn : ps.getD (pc + 1) 0 = ps.getD pc 0 + 1) {x : Int} (h : xRd (p, l, e, R, s, m, args, below, meth, c) J A Z nL c0 s0 ps (pc + 1, L, (0, w8 x) :: r, M)) : xRd (p, l, e, R, s, m, args, below, meth, c) J A Z nL c0 s0 ps (pc, L, (0, x) :: r, M) := by
  intro G H locs ls hR hF h1 h2
  obtain ⟨f1, f2, f3, f4⟩ := hF
  show W p l e R s m args below meth c H locs (M.2.2.2.1 - c0) (M.2.2.2.2 - s0) Z (F0 m (ps.getD pc 0) ls (.int (Int32.ofInt x) :: r.map (xc G.1)))
  have ix : xIn 0 x := (f4 (0, x) (by simp)).2
  have k := h G H locs ls hR ⟨f1, f2, f3, fun v hv => ?_⟩ h1 h2
  · have k : W p l e R s m args below meth c H locs (M.2.2.2.1 - c0) (M.2.2.2.2 - s0) Z (F0 m (ps.getD (pc + 1) 0) ls (.int (Int32.ofInt (w8 x)) :: r.map (xc G.1))) := k
    rw [hn] at k
    exact lv_i2b C.1 C.2.1 hd (xi_b x ix) k
  · have hv : v ∈ ((0, w8 x) :: r : List xV) := hv
    simp only [List.mem_cons] at hv
    rcases hv with rfl | hv
    · exact ⟨Nat.le_of_ble_eq_true rfl, xIn40 (w8_in _)⟩
    · exact f4 v (by simp [hv])
theorem o_i2s (C : xCtx p R s m args c own cc nL d J A) (hd : decode cc (ps.getD pc 0) = .ok (.i2s, 1)) (hn : ps.getD (pc + 1) 0 = ps.getD pc 0 + 1) {x : Int} (h : xRd (p, l, e, R, s, m, args, below, meth, c) J A Z nL c0 s0 ps (pc + 1, L, (0, w16 x) :: r, M)) : xRd (p, l, e, R, s, m, args, below, meth, c) J A Z nL c0 s0 ps (pc, L, (0, x) :: r, M) := by
  intro G H locs ls hR hF h1 h2
  obtain ⟨f1, f2, f3, f4⟩ := hF
  show W p l e R s m args below meth c H locs (M.2.2.2.1 - c0) (M.2.2.2.2 - s0) Z (F0 m (ps.getD pc 0) ls (.int (Int32.ofInt x) :: r.map (xc G.1)))
  have ix : xIn 0 x := (f4 (0, x) (by simp)).2
  have k := h G H locs ls hR ⟨f1, f2, f3, fun v hv => ?_⟩ h1 h2
  · have k : W p l e R s m args below meth c H locs (M.2.2.2.1 - c0) (M.2.2.2.2 - s0) Z (F0 m (ps.getD (pc + 1) 0) ls (.int (Int32.ofInt (w16 x)) :: r.map (xc G.1))) := k
    rw [hn] at k
    exact lv_i2s C.1 C.2.1 hd (xi_s x ix) k
  · have hv : v ∈ ((0, w16 x) :: r : List xV) := hv
    simp only [List.mem_cons] at hv
    rcases hv with rfl | hv
    · exact ⟨Nat.le_of_ble_eq_true rfl, w16_in _⟩
    · exact f4 v (by simp [hv])
theorem o_i2l (C : xCtx p R s m args c own cc nL d J A) (hd : decode cc (ps.getD pc 0) = .ok (.i2l, 1)) (hn : ps.getD (pc + 1) 0 = ps.getD pc 0 + 1) {x : Int} (h : xRd (p, l, e, R, s, m, args, below, meth, c) J A Z nL c0 s0 ps (pc + 1, L, (1, x) :: r, M)) : xRd (p, l, e, R, s, m, args, below, meth, c) J A Z nL c0 s0 ps (pc, L, (0, x) :: r, M) := by
  intro G H locs ls hR hF h1 h2
  obtain ⟨f1, f2, f3, f4⟩ := hF
  show W p l e R s m args below meth c H locs (M.2.2.2.1 - c0) (M.2.2.2.2 - s0) Z (F0 m (ps.getD pc 0) ls (.int (Int32.ofInt x) :: r.map (xc G.1)))
  have ix : xIn 0 x := (f4 (0, x) (by simp)).2
  have k := h G H locs ls hR ⟨f1, f2, f3, fun v hv => ?_⟩ h1 h2
  · have k : W p l e R s m args below meth c H locs (M.2.2.2.1 - c0) (M.2.2.2.2 - s0) Z (F0 m (ps.getD (pc + 1) 0) ls (.long (Int64.ofInt (x)) :: r.map (xc G.1))) := k
    rw [hn] at k
    exact lv_i2l C.1 C.2.1 hd (xi_l x ix) k
  · have hv : v ∈ ((1, x) :: r : List xV) := hv
    simp only [List.mem_cons] at hv
    rcases hv with rfl | hv
    · exact ⟨Nat.le_of_ble_eq_true rfl, xIn01 ix⟩
    · exact f4 v (by simp [hv])
theorem o_l2i (C : xCtx p R s m args c own cc nL d J A) (hd : decode cc (ps.getD pc 0) = .ok (.l2i, 1)) (hn : ps.getD (pc + 1) 0 = ps.getD pc 0 + 1) {x : Int} (h : xRd (p, l, e, R, s, m, args, below, meth, c) J A Z nL c0 s0 ps (pc + 1, L, (0, w32 x) :: r, M)) : xRd (p, l, e, R, s, m, args, below, meth, c) J A Z nL c0 s0 ps (pc, L, (1, x) :: r, M) := by
  intro G H locs ls hR hF h1 h2
  obtain ⟨f1, f2, f3, f4⟩ := hF
  show W p l e R s m args below meth c H locs (M.2.2.2.1 - c0) (M.2.2.2.2 - s0) Z (F0 m (ps.getD pc 0) ls (.long (Int64.ofInt x) :: r.map (xc G.1)))
  have ix : xIn 1 x := (f4 (1, x) (by simp)).2
  have k := h G H locs ls hR ⟨f1, f2, f3, fun v hv => ?_⟩ h1 h2
  · have k : W p l e R s m args below meth c H locs (M.2.2.2.1 - c0) (M.2.2.2.2 - s0) Z (F0 m (ps.getD (pc + 1) 0) ls (.int (Int32.ofInt (w32 x)) :: r.map (xc G.1))) := k
    rw [hn] at k
    exact lv_l2i C.1 C.2.1 hd (xj_i x ix) k
  · have hv : v ∈ ((0, w32 x) :: r : List xV) := hv
    simp only [List.mem_cons] at hv
    rcases hv with rfl | hv
    · exact ⟨Nat.le_of_ble_eq_true rfl, w32_in _⟩
    · exact f4 v (by simp [hv])
theorem o_lshl (C : xCtx p R s m args c own cc nL d J A) (hd : decode cc (ps.getD pc 0) = .ok (.lshl, 1)) (hn : ps.getD (pc + 1) 0 = ps.getD pc 0 + 1) {y : Int} {x : Int} (h : xRd (p, l, e, R, s, m, args, below, meth, c) J A Z nL c0 s0 ps (pc + 1, L, (1, xLshl x y) :: r, M)) : xRd (p, l, e, R, s, m, args, below, meth, c) J A Z nL c0 s0 ps (pc, L, (0, y) :: (1, x) :: r, M) := by
  intro G H locs ls hR hF h1 h2
  obtain ⟨f1, f2, f3, f4⟩ := hF
  show W p l e R s m args below meth c H locs (M.2.2.2.1 - c0) (M.2.2.2.2 - s0) Z (F0 m (ps.getD pc 0) ls (.int (Int32.ofInt y) :: .long (Int64.ofInt x) :: r.map (xc G.1)))
  have iy : xIn 0 y := (f4 (0, y) (by simp)).2
  have ix : xIn 1 x := (f4 (1, x) (by simp)).2
  have k := h G H locs ls hR ⟨f1, f2, f3, fun v hv => ?_⟩ h1 h2
  · have k : W p l e R s m args below meth c H locs (M.2.2.2.1 - c0) (M.2.2.2.2 - s0) Z (F0 m (ps.getD (pc + 1) 0) ls (.long (Int64.ofInt (xLshl x y)) :: r.map (xc G.1))) := k
    rw [hn] at k
    exact lv_lshl C.1 C.2.1 hd (xj_eq _).symm k
  · have hv : v ∈ ((1, xLshl x y) :: r : List xV) := hv
    simp only [List.mem_cons] at hv
    rcases hv with rfl | hv
    · exact ⟨Nat.le_of_ble_eq_true rfl, xj_in _⟩
    · exact f4 v (by simp [hv])
theorem o_lshr (C : xCtx p R s m args c own cc nL d J A) (hd : decode cc (ps.getD pc 0) = .ok (.lshr, 1)) (hn : ps.getD (pc + 1) 0 = ps.getD pc 0 + 1) {y : Int} {x : Int} (h : xRd (p, l, e, R, s, m, args, below, meth, c) J A Z nL c0 s0 ps (pc + 1, L, (1, xLshr x y) :: r, M)) : xRd (p, l, e, R, s, m, args, below, meth, c) J A Z nL c0 s0 ps (pc, L, (0, y) :: (1, x) :: r, M) := by
  intro G H locs ls hR hF h1 h2
  obtain ⟨f1, f2, f3, f4⟩ := hF
  show W p l e R s m args below meth c H locs (M.2.2.2.1 - c0) (M.2.2.2.2 - s0) Z (F0 m (ps.getD pc 0) ls (.int (Int32.ofInt y) :: .long (Int64.ofInt x) :: r.map (xc G.1)))
  have iy : xIn 0 y := (f4 (0, y) (by simp)).2
  have ix : xIn 1 x := (f4 (1, x) (by simp)).2
  have k := h G H locs ls hR ⟨f1, f2, f3, fun v hv => ?_⟩ h1 h2
  · have k : W p l e R s m args below meth c H locs (M.2.2.2.1 - c0) (M.2.2.2.2 - s0) Z (F0 m (ps.getD (pc + 1) 0) ls (.long (Int64.ofInt (xLshr x y)) :: r.map (xc G.1))) := k
    rw [hn] at k
    exact lv_lshr C.1 C.2.1 hd (xj_eq _).symm k
  · have hv : v ∈ ((1, xLshr x y) :: r : List xV) := hv
    simp only [List.mem_cons] at hv
    rcases hv with rfl | hv
    · exact ⟨Nat.le_of_ble_eq_true rfl, xj_in _⟩
    · exact f4 v (by simp [hv])
theorem o_lcmp (C : xCtx p R s m args c own cc nL d J A) (hd : decode cc (ps.getD pc 0) = .ok (.lcmp, 1)) (hn : ps.getD (pc + 1) 0 = ps.getD pc 0 + 1) {y : Int} {x : Int} (h : xRd (p, l, e, R, s, m, args, below, meth, c) J A Z nL c0 s0 ps (pc + 1, L, (0, xLcmp x y) :: r, M)) : xRd (p, l, e, R, s, m, args, below, meth, c) J A Z nL c0 s0 ps (pc, L, (1, y) :: (1, x) :: r, M) := by
  intro G H locs ls hR hF h1 h2
  obtain ⟨f1, f2, f3, f4⟩ := hF
  show W p l e R s m args below meth c H locs (M.2.2.2.1 - c0) (M.2.2.2.2 - s0) Z (F0 m (ps.getD pc 0) ls (.long (Int64.ofInt y) :: .long (Int64.ofInt x) :: r.map (xc G.1)))
  have iy : xInN M.2.2.2.1 1 y := (f4 (1, y) (by simp)).2
  have ix : xInN M.2.2.2.1 1 x := (f4 (1, x) (by simp)).2
  have k := h G H locs ls hR ⟨f1, f2, f3, fun v hv => ?_⟩ h1 h2
  · refine W.lcmp C.1 C.2.1 hd ?_
    have k : W p l e R s m args below meth c H locs (M.2.2.2.1 - c0) (M.2.2.2.2 - s0) Z (F0 m (ps.getD (pc + 1) 0) ls (.int (Int32.ofInt (xLcmp x y)) :: r.map (xc G.1))) := k
    rw [hn] at k
    rw [xi_lcmp (show xIn 1 x from ix) (show xIn 1 y from iy)]
    exact k
  · have hv : v ∈ ((0, xLcmp x y) :: r : List xV) := hv
    simp only [List.mem_cons] at hv
    rcases hv with rfl | hv
    · exact ⟨Nat.le_of_ble_eq_true rfl, xLcmp_in _ _⟩
    · exact f4 v (by simp [hv])
theorem o_pop_0 (C : xCtx p R s m args c own cc nL d J A) (hd : decode cc (ps.getD pc 0) = .ok (.pop, 1)) (hn : ps.getD (pc + 1) 0 = ps.getD pc 0 + 1) {x : Int} (h : xRd (p, l, e, R, s, m, args, below, meth, c) J A Z nL c0 s0 ps (pc + 1, L, r, M)) : xRd (p, l, e, R, s, m, args, below, meth, c) J A Z nL c0 s0 ps (pc, L, (0, x) :: r, M) := by
  intro G H locs ls hR hF h1 h2
  obtain ⟨f1, f2, f3, f4⟩ := hF
  show W p l e R s m args below meth c H locs (M.2.2.2.1 - c0) (M.2.2.2.2 - s0) Z (F0 m (ps.getD pc 0) ls (xc G.1 (0, x) :: r.map (xc G.1)))
  have k := h G H locs ls hR ⟨f1, f2, f3, fun v hv => ?_⟩ h1 h2
  · have k : W p l e R s m args below meth c H locs (M.2.2.2.1 - c0) (M.2.2.2.2 - s0) Z (F0 m (ps.getD (pc + 1) 0) ls (r.map (xc G.1))) := k
    rw [hn] at k
    exact lv_pop C.1 C.2.1 hd (by rw [xc_cat _ _ (Nat.le_of_ble_eq_true rfl)]; rfl) k
  · have hv : v ∈ (r : List xV) := hv
    refine f4 v ?_
    exact List.mem_cons_of_mem _ hv
theorem o_pop_2 (C : xCtx p R s m args c own cc nL d J A) (hd : decode cc (ps.getD pc 0) = .ok (.pop, 1)) (hn : ps.getD (pc + 1) 0 = ps.getD pc 0 + 1) {x : Int} (h : xRd (p, l, e, R, s, m, args, below, meth, c) J A Z nL c0 s0 ps (pc + 1, L, r, M)) : xRd (p, l, e, R, s, m, args, below, meth, c) J A Z nL c0 s0 ps (pc, L, (2, x) :: r, M) := by
  intro G H locs ls hR hF h1 h2
  obtain ⟨f1, f2, f3, f4⟩ := hF
  show W p l e R s m args below meth c H locs (M.2.2.2.1 - c0) (M.2.2.2.2 - s0) Z (F0 m (ps.getD pc 0) ls (xc G.1 (2, x) :: r.map (xc G.1)))
  have k := h G H locs ls hR ⟨f1, f2, f3, fun v hv => ?_⟩ h1 h2
  · have k : W p l e R s m args below meth c H locs (M.2.2.2.1 - c0) (M.2.2.2.2 - s0) Z (F0 m (ps.getD (pc + 1) 0) ls (r.map (xc G.1))) := k
    rw [hn] at k
    exact lv_pop C.1 C.2.1 hd (by rw [xc_cat _ _ (Nat.le_of_ble_eq_true rfl)]; rfl) k
  · have hv : v ∈ (r : List xV) := hv
    refine f4 v ?_
    exact List.mem_cons_of_mem _ hv
theorem o_dup_0 (C : xCtx p R s m args c own cc nL d J A) (hd : decode cc (ps.getD pc 0) = .ok (.dup, 1)) (hn : ps.getD (pc + 1) 0 = ps.getD pc 0 + 1) {x : Int} (h : xRd (p, l, e, R, s, m, args, below, meth, c) J A Z nL c0 s0 ps (pc + 1, L, (0, x) :: (0, x) :: r, M)) : xRd (p, l, e, R, s, m, args, below, meth, c) J A Z nL c0 s0 ps (pc, L, (0, x) :: r, M) := by
  intro G H locs ls hR hF h1 h2
  obtain ⟨f1, f2, f3, f4⟩ := hF
  show W p l e R s m args below meth c H locs (M.2.2.2.1 - c0) (M.2.2.2.2 - s0) Z (F0 m (ps.getD pc 0) ls (xc G.1 (0, x) :: r.map (xc G.1)))
  have k := h G H locs ls hR ⟨f1, f2, f3, fun v hv => ?_⟩ h1 h2
  · have k : W p l e R s m args below meth c H locs (M.2.2.2.1 - c0) (M.2.2.2.2 - s0) Z (F0 m (ps.getD (pc + 1) 0) ls (xc G.1 (0, x) :: xc G.1 (0, x) :: r.map (xc G.1))) := k
    rw [hn] at k
    exact lv_dup C.1 C.2.1 hd (by rw [xc_cat _ _ (Nat.le_of_ble_eq_true rfl)]; rfl) k
  · have hv : v ∈ ((0, x) :: (0, x) :: r : List xV) := hv
    refine f4 v ?_
    rcases List.mem_cons.mp hv with q | q
    · exact q ▸ List.mem_cons_self
    · exact q
theorem o_dup_2 (C : xCtx p R s m args c own cc nL d J A) (hd : decode cc (ps.getD pc 0) = .ok (.dup, 1)) (hn : ps.getD (pc + 1) 0 = ps.getD pc 0 + 1) {x : Int} (h : xRd (p, l, e, R, s, m, args, below, meth, c) J A Z nL c0 s0 ps (pc + 1, L, (2, x) :: (2, x) :: r, M)) : xRd (p, l, e, R, s, m, args, below, meth, c) J A Z nL c0 s0 ps (pc, L, (2, x) :: r, M) := by
  intro G H locs ls hR hF h1 h2
  obtain ⟨f1, f2, f3, f4⟩ := hF
  show W p l e R s m args below meth c H locs (M.2.2.2.1 - c0) (M.2.2.2.2 - s0) Z (F0 m (ps.getD pc 0) ls (xc G.1 (2, x) :: r.map (xc G.1)))
  have k := h G H locs ls hR ⟨f1, f2, f3, fun v hv => ?_⟩ h1 h2
  · have k : W p l e R s m args below meth c H locs (M.2.2.2.1 - c0) (M.2.2.2.2 - s0) Z (F0 m (ps.getD (pc + 1) 0) ls (xc G.1 (2, x) :: xc G.1 (2, x) :: r.map (xc G.1))) := k
    rw [hn] at k
    exact lv_dup C.1 C.2.1 hd (by rw [xc_cat _ _ (Nat.le_of_ble_eq_true rfl)]; rfl) k
  · have hv : v ∈ ((2, x) :: (2, x) :: r : List xV) := hv
    refine f4 v ?_
    rcases List.mem_cons.mp hv with q | q
    · exact q ▸ List.mem_cons_self
    · exact q
theorem o_dup2 (C : xCtx p R s m args c own cc nL d J A) (hd : decode cc (ps.getD pc 0) = .ok (.dup2, 1)) (hn : ps.getD (pc + 1) 0 = ps.getD pc 0 + 1) {x y : Int} (h : xRd (p, l, e, R, s, m, args, below, meth, c) J A Z nL c0 s0 ps (pc + 1, L, (0, x) :: (2, y) :: (0, x) :: (2, y) :: r, M)) : xRd (p, l, e, R, s, m, args, below, meth, c) J A Z nL c0 s0 ps (pc, L, (0, x) :: (2, y) :: r, M) := by
  intro G H locs ls hR hF h1 h2
  obtain ⟨f1, f2, f3, f4⟩ := hF
  show W p l e R s m args below meth c H locs (M.2.2.2.1 - c0) (M.2.2.2.2 - s0) Z (F0 m (ps.getD pc 0) ls (xc G.1 (0, x) :: xc G.1 (2, y) :: r.map (xc G.1)))
  have k := h G H locs ls hR ⟨f1, f2, f3, fun v hv => ?_⟩ h1 h2
  · have k : W p l e R s m args below meth c H locs (M.2.2.2.1 - c0) (M.2.2.2.2 - s0) Z (F0 m (ps.getD (pc + 1) 0) ls (xc G.1 (0, x) :: xc G.1 (2, y) :: xc G.1 (0, x) :: xc G.1 (2, y) :: r.map (xc G.1))) := k
    rw [hn] at k
    exact lv_dup2_11 C.1 C.2.1 hd (by rw [xc_cat _ _ (Nat.le_of_ble_eq_true rfl)]; rfl) (by rw [xc_cat _ _ (Nat.le_of_ble_eq_true rfl)]; rfl) k
  · have hv : v ∈ ((0, x) :: (2, y) :: (0, x) :: (2, y) :: r : List xV) := hv
    simp only [List.mem_cons] at hv
    refine f4 v ?_
    rcases hv with q | q | q | q | q
    · exact q ▸ List.mem_cons_self
    · exact q ▸ List.mem_cons_of_mem _ List.mem_cons_self
    · exact q ▸ List.mem_cons_self
    · exact q ▸ List.mem_cons_of_mem _ List.mem_cons_self
    · exact List.mem_cons_of_mem _ (List.mem_cons_of_mem _ q)
theorem o_iconst (C : xCtx p R s m args c own cc nL d J A) {x : Int} (hi : xIn 0 x) (hd : decode cc (ps.getD pc 0) = .ok (.iconst x, 1)) (hn : ps.getD (pc + 1) 0 = ps.getD pc 0 + 1) (h : xRd (p, l, e, R, s, m, args, below, meth, c) J A Z nL c0 s0 ps (pc + 1, L, (0, x) :: r, M)) : xRd (p, l, e, R, s, m, args, below, meth, c) J A Z nL c0 s0 ps (pc, L, r, M) := by
  intro G H locs ls hR hF h1 h2
  obtain ⟨f1, f2, f3, f4⟩ := hF
  show W p l e R s m args below meth c H locs (M.2.2.2.1 - c0) (M.2.2.2.2 - s0) Z (F0 m (ps.getD pc 0) ls (r.map (xc G.1)))
  have k := h G H locs ls hR ⟨f1, f2, f3, fun v hv => ?_⟩ h1 h2
  · have k : W p l e R s m args below meth c H locs (M.2.2.2.1 - c0) (M.2.2.2.2 - s0) Z (F0 m (ps.getD (pc + 1) 0) ls (.int (Int32.ofInt (x)) :: r.map (xc G.1))) := k
    rw [hn] at k
    exact lv_iconst C.1 C.2.1 hd rfl k
  · have hv : v ∈ ((0, x) :: r : List xV) := hv
    simp only [List.mem_cons] at hv
    rcases hv with rfl | hv
    · exact ⟨Nat.le_of_ble_eq_true rfl, hi⟩
    · exact f4 v hv
theorem o_bipush (C : xCtx p R s m args c own cc nL d J A) {x : Int} (h8 : -128 ≤ x ∧ x < 128) (hd : decode cc (ps.getD pc 0) = .ok (.bipush x, 2)) (hn : ps.getD (pc + 1) 0 = ps.getD pc 0 + 2) (h : xRd (p, l, e, R, s, m, args, below, meth, c) J A Z nL c0 s0 ps (pc + 1, L, (0, x) :: r, M)) : xRd (p, l, e, R, s, m, args, below, meth, c) J A Z nL c0 s0 ps (pc, L, r, M) := by
  intro G H locs ls hR hF h1 h2
  obtain ⟨f1, f2, f3, f4⟩ := hF
  show W p l e R s m args below meth c H locs (M.2.2.2.1 - c0) (M.2.2.2.2 - s0) Z (F0 m (ps.getD pc 0) ls (r.map (xc G.1)))
  have k := h G H locs ls hR ⟨f1, f2, f3, fun v hv => ?_⟩ h1 h2
  · have k : W p l e R s m args below meth c H locs (M.2.2.2.1 - c0) (M.2.2.2.2 - s0) Z (F0 m (ps.getD (pc + 1) 0) ls (.int (Int32.ofInt (x)) :: r.map (xc G.1))) := k
    rw [hn] at k
    exact lv_bipush C.1 C.2.1 hd (xi_c8 h8) k
  · have hv : v ∈ ((0, x) :: r : List xV) := hv
    simp only [List.mem_cons] at hv
    rcases hv with rfl | hv
    · exact ⟨Nat.le_of_ble_eq_true rfl, xIn40 h8⟩
    · exact f4 v hv
theorem o_sipush (C : xCtx p R s m args c own cc nL d J A) {x : Int} (h8 : -32768 ≤ x ∧ x < 32768) (hd : decode cc (ps.getD pc 0) = .ok (.sipush x, 3)) (hn : ps.getD (pc + 1) 0 = ps.getD pc 0 + 3) (h : xRd (p, l, e, R, s, m, args, below, meth, c) J A Z nL c0 s0 ps (pc + 1, L, (0, x) :: r, M)) : xRd (p, l, e, R, s, m, args, below, meth, c) J A Z nL c0 s0 ps (pc, L, r, M) := by
  intro G H locs ls hR hF h1 h2
  obtain ⟨f1, f2, f3, f4⟩ := hF
  show W p l e R s m args below meth c H locs (M.2.2.2.1 - c0) (M.2.2.2.2 - s0) Z (F0 m (ps.getD pc 0) ls (r.map (xc G.1)))
  have k := h G H locs ls hR ⟨f1, f2, f3, fun v hv => ?_⟩ h1 h2
  · have k : W p l e R s m args below meth c H locs (M.2.2.2.1 - c0) (M.2.2.2.2 - s0) Z (F0 m (ps.getD (pc + 1) 0) ls (.int (Int32.ofInt (x)) :: r.map (xc G.1))) := k
    rw [hn] at k
    exact lv_sipush C.1 C.2.1 hd (xi_c16 h8) k
  · have hv : v ∈ ((0, x) :: r : List xV) := hv
    simp only [List.mem_cons] at hv
    rcases hv with rfl | hv
    · exact ⟨Nat.le_of_ble_eq_true rfl, by show (-2147483648 : Int) ≤ x ∧ x < 2147483648; omega⟩
    · exact f4 v hv
theorem o_lconst (C : xCtx p R s m args c own cc nL d J A) {x : Fin 2} (hd : decode cc (ps.getD pc 0) = .ok (.lconst x, 1)) (hn : ps.getD (pc + 1) 0 = ps.getD pc 0 + 1) (h : xRd (p, l, e, R, s, m, args, below, meth, c) J A Z nL c0 s0 ps (pc + 1, L, (1, ((x.val : Nat) : Int)) :: r, M)) : xRd (p, l, e, R, s, m, args, below, meth, c) J A Z nL c0 s0 ps (pc, L, r, M) := by
  intro G H locs ls hR hF h1 h2
  obtain ⟨f1, f2, f3, f4⟩ := hF
  show W p l e R s m args below meth c H locs (M.2.2.2.1 - c0) (M.2.2.2.2 - s0) Z (F0 m (ps.getD pc 0) ls (r.map (xc G.1)))
  have k := h G H locs ls hR ⟨f1, f2, f3, fun v hv => ?_⟩ h1 h2
  · have k : W p l e R s m args below meth c H locs (M.2.2.2.1 - c0) (M.2.2.2.2 - s0) Z (F0 m (ps.getD (pc + 1) 0) ls (.long (Int64.ofInt (((x.val : Nat) : Int))) :: r.map (xc G.1))) := k
    rw [hn] at k
    exact lv_lconst C.1 C.2.1 hd (by rw [Int64.ofInt_eq_ofNat]) k
  · have hv : v ∈ ((1, ((x.val : Nat) : Int)) :: r : List xV) := hv
    simp only [List.mem_cons] at hv
    rcases hv with rfl | hv
    · exact ⟨Nat.le_of_ble_eq_true rfl, by have := x.isLt; show (-9223372036854775808 : Int) ≤ ((x.val : Nat) : Int) ∧ ((x.val : Nat) : Int) < 9223372036854775808; omega⟩
    · exact f4 v hv
theorem o_ldc (C : xCtx p R s m args c own cc nL d J A) {x : Int} {i : Nat} (hi : xIn 0 x) (hw : Cond.constant (xo own) i (Int32.ofInt x) ∈ xGw) (hd : decode cc (ps.getD pc 0) = .ok (.ldc i, 2)) (hn : ps.getD (pc + 1) 0 = ps.getD pc 0 + 2) (h : xRd (p, l, e, R, s, m, args, below, meth, c) J A Z nL c0 s0 ps (pc + 1, L, (0, x) :: r, M)) : xRd (p, l, e, R, s, m, args, below, meth, c) J A Z nL c0 s0 ps (pc, L, r, M) := by
  intro G H locs ls hR hF h1 h2
  obtain ⟨f1, f2, f3, f4⟩ := hF
  show W p l e R s m args below meth c H locs (M.2.2.2.1 - c0) (M.2.2.2.2 - s0) Z (F0 m (ps.getD pc 0) ls (r.map (xc G.1)))
  have k := h G H locs ls hR ⟨f1, f2, f3, fun v hv => ?_⟩ h1 h2
  · have k : W p l e R s m args below meth c H locs (M.2.2.2.1 - c0) (M.2.2.2.2 - s0) Z (F0 m (ps.getD (pc + 1) 0) ls (.int (Int32.ofInt (x)) :: r.map (xc G.1))) := k
    rw [hn] at k
    exact lv_ldc C.1 C.2.1 C.2.2.2.1 (C.2.2.2.2.1 _ hw) hd k
  · have hv : v ∈ ((0, x) :: r : List xV) := hv
    simp only [List.mem_cons] at hv
    rcases hv with rfl | hv
    · exact ⟨Nat.le_of_ble_eq_true rfl, hi⟩
    · exact f4 v hv
theorem o_ldcw (C : xCtx p R s m args c own cc nL d J A) {x : Int} {i : Nat} (hi : xIn 0 x) (hw : Cond.constant (xo own) i (Int32.ofInt x) ∈ xGw) (hd : decode cc (ps.getD pc 0) = .ok (.ldc_w i, 3)) (hn : ps.getD (pc + 1) 0 = ps.getD pc 0 + 3) (h : xRd (p, l, e, R, s, m, args, below, meth, c) J A Z nL c0 s0 ps (pc + 1, L, (0, x) :: r, M)) : xRd (p, l, e, R, s, m, args, below, meth, c) J A Z nL c0 s0 ps (pc, L, r, M) := by
  intro G H locs ls hR hF h1 h2
  obtain ⟨f1, f2, f3, f4⟩ := hF
  show W p l e R s m args below meth c H locs (M.2.2.2.1 - c0) (M.2.2.2.2 - s0) Z (F0 m (ps.getD pc 0) ls (r.map (xc G.1)))
  have k := h G H locs ls hR ⟨f1, f2, f3, fun v hv => ?_⟩ h1 h2
  · have k : W p l e R s m args below meth c H locs (M.2.2.2.1 - c0) (M.2.2.2.2 - s0) Z (F0 m (ps.getD (pc + 1) 0) ls (.int (Int32.ofInt (x)) :: r.map (xc G.1))) := k
    rw [hn] at k
    exact lv_ldcw C.1 C.2.1 C.2.2.2.1 (C.2.2.2.2.1 _ hw) hd k
  · have hv : v ∈ ((0, x) :: r : List xV) := hv
    simp only [List.mem_cons] at hv
    rcases hv with rfl | hv
    · exact ⟨Nat.le_of_ble_eq_true rfl, hi⟩
    · exact f4 v hv
theorem o_ldc2 (C : xCtx p R s m args c own cc nL d J A) {x : Int} {i : Nat} (hi : xIn 1 x) (hw : Cond.constantLong (xo own) i (Int64.ofInt x) ∈ xGw) (hd : decode cc (ps.getD pc 0) = .ok (.ldc2_w i, 3)) (hn : ps.getD (pc + 1) 0 = ps.getD pc 0 + 3) (h : xRd (p, l, e, R, s, m, args, below, meth, c) J A Z nL c0 s0 ps (pc + 1, L, (1, x) :: r, M)) : xRd (p, l, e, R, s, m, args, below, meth, c) J A Z nL c0 s0 ps (pc, L, r, M) := by
  intro G H locs ls hR hF h1 h2
  obtain ⟨f1, f2, f3, f4⟩ := hF
  show W p l e R s m args below meth c H locs (M.2.2.2.1 - c0) (M.2.2.2.2 - s0) Z (F0 m (ps.getD pc 0) ls (r.map (xc G.1)))
  have k := h G H locs ls hR ⟨f1, f2, f3, fun v hv => ?_⟩ h1 h2
  · have k : W p l e R s m args below meth c H locs (M.2.2.2.1 - c0) (M.2.2.2.2 - s0) Z (F0 m (ps.getD (pc + 1) 0) ls (.long (Int64.ofInt (x)) :: r.map (xc G.1))) := k
    rw [hn] at k
    exact lv_ldc2 C.1 C.2.1 C.2.2.2.1 (C.2.2.2.2.1 _ hw) hd k
  · have hv : v ∈ ((1, x) :: r : List xV) := hv
    simp only [List.mem_cons] at hv
    rcases hv with rfl | hv
    · exact ⟨Nat.le_of_ble_eq_true rfl, hi⟩
    · exact f4 v hv
end XOPS
end
section
section XOPT
variable {p : Program} {l : Launch} {e : Env} {R : Room} {s : State} {m : MethodId} {args : Array Value} {below : List Frame} {meth : Method} {c : Code}
variable {J : xJT} {A : Nat → Prop} {Z : State → Prop} {nL c0 s0 own d pc : Nat} {cc : ByteArray} {ps : List Nat} {L r : List xV} {M : xH}
theorem o_iload (C : xCtx p R s m args c own cc nL d J A) {i : Nat} (hd : decode cc (ps.getD pc 0) = .ok (.iload i, 2)) (hn : ps.getD (pc + 1) 0 = ps.getD pc 0 + 2) {x : Int} (hv : L[i]? = some (0, x)) (h : xRd (p, l, e, R, s, m, args, below, meth, c) J A Z nL c0 s0 ps (pc + 1, L, (0, x) :: r, M)) : xRd (p, l, e, R, s, m, args, below, meth, c) J A Z nL c0 s0 ps (pc, L, r, M) := by
  intro G H locs ls hR hF h1 h2
  obtain ⟨f1, f2, f3, f4⟩ := hF
  show W p l e R s m args below meth c H locs (M.2.2.2.1 - c0) (M.2.2.2.2 - s0) Z (F0 m (ps.getD pc 0) ls (r.map (xc G.1)))
  have hm := f3 _ (List.mem_of_getElem? hv)
  have hm2 : xVk M.2.2.2.1 (0, x) ∧ (0 = 2 → x ≠ 0) := hm.resolve_left (show ¬ (0 : Nat) = 9 by decide)
  have k := h G H locs ls hR ⟨f1, f2, f3, fun v hv => ?_⟩ h1 h2
  · have k : W p l e R s m args below meth c H locs (M.2.2.2.1 - c0) (M.2.2.2.2 - s0) Z (F0 m (ps.getD (pc + 1) 0) ls (.int (Int32.ofInt x) :: r.map (xc G.1))) := k
    have a : ls[i]? = some (.val (.int (Int32.ofInt x))) := xL_at f1 hv (show ¬ (0 : Nat) = 9 by decide)
    rw [hn] at k
    exact lv_iload C.1 C.2.1 hd a k
  · have hv : v ∈ ((0, x) :: r : List xV) := hv
    simp only [List.mem_cons] at hv
    rcases hv with rfl | hv
    · exact hm2.1
    · exact f4 v hv
theorem o_iload_n (C : xCtx p R s m args c own cc nL d J A) {i : Nat} {q : Fin 4} (hq : (q : Nat) = i) (hd : decode cc (ps.getD pc 0) = .ok (.iload_n q, 1)) (hn : ps.getD (pc + 1) 0 = ps.getD pc 0 + 1) {x : Int} (hv : L[i]? = some (0, x)) (h : xRd (p, l, e, R, s, m, args, below, meth, c) J A Z nL c0 s0 ps (pc + 1, L, (0, x) :: r, M)) : xRd (p, l, e, R, s, m, args, below, meth, c) J A Z nL c0 s0 ps (pc, L, r, M) := by
  intro G H locs ls hR hF h1 h2
  obtain ⟨f1, f2, f3, f4⟩ := hF
  show W p l e R s m args below meth c H locs (M.2.2.2.1 - c0) (M.2.2.2.2 - s0) Z (F0 m (ps.getD pc 0) ls (r.map (xc G.1)))
  have hm := f3 _ (List.mem_of_getElem? hv)
  have hm2 : xVk M.2.2.2.1 (0, x) ∧ (0 = 2 → x ≠ 0) := hm.resolve_left (show ¬ (0 : Nat) = 9 by decide)
  have k := h G H locs ls hR ⟨f1, f2, f3, fun v hv => ?_⟩ h1 h2
  · have k : W p l e R s m args below meth c H locs (M.2.2.2.1 - c0) (M.2.2.2.2 - s0) Z (F0 m (ps.getD (pc + 1) 0) ls (.int (Int32.ofInt x) :: r.map (xc G.1))) := k
    have a : ls[i]? = some (.val (.int (Int32.ofInt x))) := xL_at f1 hv (show ¬ (0 : Nat) = 9 by decide)
    rw [hn] at k
    exact lv_iload_n C.1 C.2.1 hd hq a k
  · have hv : v ∈ ((0, x) :: r : List xV) := hv
    simp only [List.mem_cons] at hv
    rcases hv with rfl | hv
    · exact hm2.1
    · exact f4 v hv
theorem o_lload (C : xCtx p R s m args c own cc nL d J A) {i : Nat} (hd : decode cc (ps.getD pc 0) = .ok (.lload i, 2)) (hn : ps.getD (pc + 1) 0 = ps.getD pc 0 + 2) {x : Int} (hv : L[i]? = some (1, x)) (h : xRd (p, l, e, R, s, m, args, below, meth, c) J A Z nL c0 s0 ps (pc + 1, L, (1, x) :: r, M)) : xRd (p, l, e, R, s, m, args, below, meth, c) J A Z nL c0 s0 ps (pc, L, r, M) := by
  intro G H locs ls hR hF h1 h2
  obtain ⟨f1, f2, f3, f4⟩ := hF
  show W p l e R s m args below meth c H locs (M.2.2.2.1 - c0) (M.2.2.2.2 - s0) Z (F0 m (ps.getD pc 0) ls (r.map (xc G.1)))
  have hm := f3 _ (List.mem_of_getElem? hv)
  have hm2 : xVk M.2.2.2.1 (1, x) ∧ (1 = 2 → x ≠ 0) := hm.resolve_left (show ¬ (1 : Nat) = 9 by decide)
  have k := h G H locs ls hR ⟨f1, f2, f3, fun v hv => ?_⟩ h1 h2
  · have k : W p l e R s m args below meth c H locs (M.2.2.2.1 - c0) (M.2.2.2.2 - s0) Z (F0 m (ps.getD (pc + 1) 0) ls (.long (Int64.ofInt x) :: r.map (xc G.1))) := k
    have a : ls[i]? = some (.val (.long (Int64.ofInt x))) := xL_at f1 hv (show ¬ (1 : Nat) = 9 by decide)
    rw [hn] at k
    exact lv_lload C.1 C.2.1 hd a k
  · have hv : v ∈ ((1, x) :: r : List xV) := hv
    simp only [List.mem_cons] at hv
    rcases hv with rfl | hv
    · exact hm2.1
    · exact f4 v hv
theorem o_lload_n (C : xCtx p R s m args c own cc nL d J A) {i : Nat} {q : Fin 4} (hq : (q : Nat) = i) (hd : decode cc (ps.getD pc 0) = .ok (.lload_n q, 1)) (hn : ps.getD (pc + 1) 0 = ps.getD pc 0 + 1) {x : Int} (hv : L[i]? = some (1, x)) (h : xRd (p, l, e, R, s, m, args, below, meth, c) J A Z nL c0 s0 ps (pc + 1, L, (1, x) :: r, M)) : xRd (p, l, e, R, s, m, args, below, meth, c) J A Z nL c0 s0 ps (pc, L, r, M) := by
  intro G H locs ls hR hF h1 h2
  obtain ⟨f1, f2, f3, f4⟩ := hF
  show W p l e R s m args below meth c H locs (M.2.2.2.1 - c0) (M.2.2.2.2 - s0) Z (F0 m (ps.getD pc 0) ls (r.map (xc G.1)))
  have hm := f3 _ (List.mem_of_getElem? hv)
  have hm2 : xVk M.2.2.2.1 (1, x) ∧ (1 = 2 → x ≠ 0) := hm.resolve_left (show ¬ (1 : Nat) = 9 by decide)
  have k := h G H locs ls hR ⟨f1, f2, f3, fun v hv => ?_⟩ h1 h2
  · have k : W p l e R s m args below meth c H locs (M.2.2.2.1 - c0) (M.2.2.2.2 - s0) Z (F0 m (ps.getD (pc + 1) 0) ls (.long (Int64.ofInt x) :: r.map (xc G.1))) := k
    have a : ls[i]? = some (.val (.long (Int64.ofInt x))) := xL_at f1 hv (show ¬ (1 : Nat) = 9 by decide)
    rw [hn] at k
    exact lv_lload_n C.1 C.2.1 hd hq a k
  · have hv : v ∈ ((1, x) :: r : List xV) := hv
    simp only [List.mem_cons] at hv
    rcases hv with rfl | hv
    · exact hm2.1
    · exact f4 v hv
theorem o_aload (C : xCtx p R s m args c own cc nL d J A) {i : Nat} (hd : decode cc (ps.getD pc 0) = .ok (.aload i, 2)) (hn : ps.getD (pc + 1) 0 = ps.getD pc 0 + 2) {x : Int} (hv : L[i]? = some (2, x)) (h : xRd (p, l, e, R, s, m, args, below, meth, c) J A Z nL c0 s0 ps (pc + 1, L, (2, x) :: r, M)) : xRd (p, l, e, R, s, m, args, below, meth, c) J A Z nL c0 s0 ps (pc, L, r, M) := by
  intro G H locs ls hR hF h1 h2
  obtain ⟨f1, f2, f3, f4⟩ := hF
  show W p l e R s m args below meth c H locs (M.2.2.2.1 - c0) (M.2.2.2.2 - s0) Z (F0 m (ps.getD pc 0) ls (r.map (xc G.1)))
  have hm := f3 _ (List.mem_of_getElem? hv)
  have hm2 : xVk M.2.2.2.1 (2, x) ∧ (2 = 2 → x ≠ 0) := hm.resolve_left (show ¬ (2 : Nat) = 9 by decide)
  have k := h G H locs ls hR ⟨f1, f2, f3, fun v hv => ?_⟩ h1 h2
  · have k : W p l e R s m args below meth c H locs (M.2.2.2.1 - c0) (M.2.2.2.2 - s0) Z (F0 m (ps.getD (pc + 1) 0) ls (xc G.1 (2, x) :: r.map (xc G.1))) := k
    have a := xL_at f1 hv (show ¬ (2 : Nat) = 9 by decide)
    rw [xc_ref (hm2.2 rfl)] at a k
    rw [hn] at k
    exact lv_aload C.1 C.2.1 hd a k
  · have hv : v ∈ ((2, x) :: r : List xV) := hv
    simp only [List.mem_cons] at hv
    rcases hv with rfl | hv
    · exact hm2.1
    · exact f4 v hv
theorem o_aload_n (C : xCtx p R s m args c own cc nL d J A) {i : Nat} {q : Fin 4} (hq : (q : Nat) = i) (hd : decode cc (ps.getD pc 0) = .ok (.aload_n q, 1)) (hn : ps.getD (pc + 1) 0 = ps.getD pc 0 + 1) {x : Int} (hv : L[i]? = some (2, x)) (h : xRd (p, l, e, R, s, m, args, below, meth, c) J A Z nL c0 s0 ps (pc + 1, L, (2, x) :: r, M)) : xRd (p, l, e, R, s, m, args, below, meth, c) J A Z nL c0 s0 ps (pc, L, r, M) := by
  intro G H locs ls hR hF h1 h2
  obtain ⟨f1, f2, f3, f4⟩ := hF
  show W p l e R s m args below meth c H locs (M.2.2.2.1 - c0) (M.2.2.2.2 - s0) Z (F0 m (ps.getD pc 0) ls (r.map (xc G.1)))
  have hm := f3 _ (List.mem_of_getElem? hv)
  have hm2 : xVk M.2.2.2.1 (2, x) ∧ (2 = 2 → x ≠ 0) := hm.resolve_left (show ¬ (2 : Nat) = 9 by decide)
  have k := h G H locs ls hR ⟨f1, f2, f3, fun v hv => ?_⟩ h1 h2
  · have k : W p l e R s m args below meth c H locs (M.2.2.2.1 - c0) (M.2.2.2.2 - s0) Z (F0 m (ps.getD (pc + 1) 0) ls (xc G.1 (2, x) :: r.map (xc G.1))) := k
    have a := xL_at f1 hv (show ¬ (2 : Nat) = 9 by decide)
    rw [xc_ref (hm2.2 rfl)] at a k
    rw [hn] at k
    exact lv_aload_n C.1 C.2.1 hd hq a k
  · have hv : v ∈ ((2, x) :: r : List xV) := hv
    simp only [List.mem_cons] at hv
    rcases hv with rfl | hv
    · exact hm2.1
    · exact f4 v hv
theorem xFrSt1 {G : xG} {ls' : Array Slot} {lv : List (Nat × Value)} {i : Nat} {v : xV} {st : List xV} (f1 : ∀ q ∈ xLv G.1 L, q ∈ lv) (h : lv_has ls' nL ((i, xc G.1 v) :: lv.filter (fun q => !(q.1 == i) && !(q.1 + 1 == i && q.2.category == 2)))) (f2 : L.length = nL) (f3 : ∀ v ∈ L, xLk M.2.2.2.1 v) (hv : xLk M.2.2.2.1 v) (f4 : ∀ v ∈ st, xVk M.2.2.2.1 v) : xFr nL G M (xSt1 L i v) st ls' := by
  refine ⟨xL_sub h (fun q hq => ?_), by rw [xSt1_len]; exact f2, fun w hw => ?_, f4⟩
  · obtain ⟨w, hw, h9, he⟩ := xLv_of hq
    rcases xSt1_get hw h9 with ⟨e1, e2⟩ | ⟨e1, e2, e3⟩
    · obtain ⟨q1, q2⟩ := q
      have e1 : q1 = i := e1
      have he : q2 = xc G.1 w := he
      rw [e1, he, e2]
      exact List.mem_cons_self
    · refine List.mem_cons_of_mem _ (List.mem_filter.mpr ⟨f1 _ ?_, ?_⟩)
      · have q3 := xLv_mem (ad := G.1) e2 h9
        rw [← he] at q3
        exact q3
      · have hc : q.2.category = 2 → w.1 = 1 := fun hc => by
          have hwk := (f3 w (List.mem_of_getElem? e2)).resolve_left h9
          rw [he, xc_cat _ _ hwk.1.1] at hc
          by_cases e4 : w.1 = 1
          · exact e4
          · rw [if_neg e4] at hc; omega
        simp only [Bool.and_eq_true, Bool.not_eq_true', beq_eq_false_iff_ne, Bool.and_eq_false_iff, ne_eq]
        refine ⟨e1, ?_⟩
        by_cases e5 : q.1 + 1 = i
        · exact Or.inr (fun z => e3 ⟨e5, hc z⟩)
        · exact Or.inl e5
  · obtain ⟨j, hj⟩ := List.getElem?_of_mem hw
    by_cases h9 : w.1 = 9
    · exact Or.inl h9
    · rcases xSt1_get hj h9 with ⟨e1, e2⟩ | ⟨e1, e2, e3⟩
      · rw [e2]; exact hv
      · exact f3 w (List.mem_of_getElem? e2)
theorem xFrSt2 {G : xG} {ls' : Array Slot} {i : Nat} {v : xV} {st : List xV} (h : lv_has ls' nL ((i, xc G.1 v) :: (xLv G.1 L).filter (fun q => !(q.1 == i) && (!(q.1 == i + 1) && !(q.1 + 1 == i && q.2.category == 2))))) (f2 : L.length = nL) (f3 : ∀ v ∈ L, xLk M.2.2.2.1 v) (hv : xLk M.2.2.2.1 v) (f4 : ∀ v ∈ st, xVk M.2.2.2.1 v) : xFr nL G M (xSt2 L i v) st ls' := by
  refine ⟨xL_sub h (fun q hq => ?_), by rw [xSt2_len]; exact f2, fun w hw => ?_, f4⟩
  · obtain ⟨w, hw, h9, he⟩ := xLv_of hq
    rcases xSt2_get hw h9 with ⟨e1, e2⟩ | ⟨e1, e0, e2, e3⟩
    · obtain ⟨q1, q2⟩ := q
      have e1 : q1 = i := e1
      have he : q2 = xc G.1 w := he
      rw [e1, he, e2]
      exact List.mem_cons_self
    · refine List.mem_cons_of_mem _ (List.mem_filter.mpr ⟨?_, ?_⟩)
      · have q3 := xLv_mem (ad := G.1) e2 h9
        rw [← he] at q3
        exact q3
      · have hc : q.2.category = 2 → w.1 = 1 := fun hc => by
          have hwk := (f3 w (List.mem_of_getElem? e2)).resolve_left h9
          rw [he, xc_cat _ _ hwk.1.1] at hc
          by_cases e4 : w.1 = 1
          · exact e4
          · rw [if_neg e4] at hc; omega
        simp only [Bool.and_eq_true, Bool.not_eq_true', beq_eq_false_iff_ne, Bool.and_eq_false_iff, ne_eq]
        refine ⟨e1, e0, ?_⟩
        by_cases e5 : q.1 + 1 = i
        · exact Or.inr (fun z => e3 ⟨e5, hc z⟩)
        · exact Or.inl e5
  · obtain ⟨j, hj⟩ := List.getElem?_of_mem hw
    by_cases h9 : w.1 = 9
    · exact Or.inl h9
    · rcases xSt2_get hj h9 with ⟨e1, e2⟩ | ⟨e1, e0, e2, e3⟩
      · rw [e2]; exact hv
      · exact f3 w (List.mem_of_getElem? e2)
theorem o_istore (C : xCtx p R s m args c own cc nL d J A) {i : Nat} (hd : decode cc (ps.getD pc 0) = .ok (.istore i, 2)) (hn : ps.getD (pc + 1) 0 = ps.getD pc 0 + 2) {x : Int} (hi : i < L.length) (h : xRd (p, l, e, R, s, m, args, below, meth, c) J A Z nL c0 s0 ps (pc + 1, xSt1 L i (0, x), r, M)) : xRd (p, l, e, R, s, m, args, below, meth, c) J A Z nL c0 s0 ps (pc, L, (0, x) :: r, M) := by
  intro G H locs ls hR hF h1 h2
  obtain ⟨f1, f2, f3, f4⟩ := hF
  show W p l e R s m args below meth c H locs (M.2.2.2.1 - c0) (M.2.2.2.2 - s0) Z (F0 m (ps.getD pc 0) ls (.int (Int32.ofInt x) :: r.map (xc G.1)))
  have hx := f4 (0, x) List.mem_cons_self
  have f2 : L.length = nL := f2
  refine lv_istore C.1 C.2.1 hd f1 (by omega) rfl (fun ls2 hl => ?_)
  have k := h G H locs ls2 hR (xFrSt1 (fun _ hq => hq) hl f2 f3 (Or.inr ⟨hx, fun q => absurd q (show ¬ (0 : Nat) = 2 by decide)⟩) (fun v hv => f4 v (List.mem_cons_of_mem _ hv))) h1 h2
  have k : W p l e R s m args below meth c H locs (M.2.2.2.1 - c0) (M.2.2.2.2 - s0) Z (F0 m (ps.getD (pc + 1) 0) ls2 (r.map (xc G.1))) := k
  rw [hn] at k
  exact k
theorem o_istore_n (C : xCtx p R s m args c own cc nL d J A) {i : Nat} {q : Fin 4} (hq : (q : Nat) = i) (hd : decode cc (ps.getD pc 0) = .ok (.istore_n q, 1)) (hn : ps.getD (pc + 1) 0 = ps.getD pc 0 + 1) {x : Int} (hi : i < L.length) (h : xRd (p, l, e, R, s, m, args, below, meth, c) J A Z nL c0 s0 ps (pc + 1, xSt1 L i (0, x), r, M)) : xRd (p, l, e, R, s, m, args, below, meth, c) J A Z nL c0 s0 ps (pc, L, (0, x) :: r, M) := by
  intro G H locs ls hR hF h1 h2
  obtain ⟨f1, f2, f3, f4⟩ := hF
  show W p l e R s m args below meth c H locs (M.2.2.2.1 - c0) (M.2.2.2.2 - s0) Z (F0 m (ps.getD pc 0) ls (.int (Int32.ofInt x) :: r.map (xc G.1)))
  have hx := f4 (0, x) List.mem_cons_self
  have f2 : L.length = nL := f2
  refine lv_istore_n C.1 C.2.1 hd hq f1 (by omega) rfl (fun ls2 hl => ?_)
  have k := h G H locs ls2 hR (xFrSt1 (fun _ hq => hq) hl f2 f3 (Or.inr ⟨hx, fun q => absurd q (show ¬ (0 : Nat) = 2 by decide)⟩) (fun v hv => f4 v (List.mem_cons_of_mem _ hv))) h1 h2
  have k : W p l e R s m args below meth c H locs (M.2.2.2.1 - c0) (M.2.2.2.2 - s0) Z (F0 m (ps.getD (pc + 1) 0) ls2 (r.map (xc G.1))) := k
  rw [hn] at k
  exact k
theorem o_lstore (C : xCtx p R s m args c own cc nL d J A) {i : Nat} (hd : decode cc (ps.getD pc 0) = .ok (.lstore i, 2)) (hn : ps.getD (pc + 1) 0 = ps.getD pc 0 + 2) {x : Int} (hi : i + 1 < L.length) (h : xRd (p, l, e, R, s, m, args, below, meth, c) J A Z nL c0 s0 ps (pc + 1, xSt2 L i (1, x), r, M)) : xRd (p, l, e, R, s, m, args, below, meth, c) J A Z nL c0 s0 ps (pc, L, (1, x) :: r, M) := by
  intro G H locs ls hR hF h1 h2
  obtain ⟨f1, f2, f3, f4⟩ := hF
  show W p l e R s m args below meth c H locs (M.2.2.2.1 - c0) (M.2.2.2.2 - s0) Z (F0 m (ps.getD pc 0) ls (.long (Int64.ofInt x) :: r.map (xc G.1)))
  have hx := f4 (1, x) List.mem_cons_self
  have f2 : L.length = nL := f2
  refine lv_lstore C.1 C.2.1 hd f1 (by omega) rfl (fun ls2 hl => ?_)
  have k := h G H locs ls2 hR (xFrSt2 hl f2 f3 (Or.inr ⟨hx, fun q => absurd q (show ¬ (1 : Nat) = 2 by decide)⟩) (fun v hv => f4 v (List.mem_cons_of_mem _ hv))) h1 h2
  have k : W p l e R s m args below meth c H locs (M.2.2.2.1 - c0) (M.2.2.2.2 - s0) Z (F0 m (ps.getD (pc + 1) 0) ls2 (r.map (xc G.1))) := k
  rw [hn] at k
  exact k
theorem o_lstore_n (C : xCtx p R s m args c own cc nL d J A) {i : Nat} {q : Fin 4} (hq : (q : Nat) = i) (hd : decode cc (ps.getD pc 0) = .ok (.lstore_n q, 1)) (hn : ps.getD (pc + 1) 0 = ps.getD pc 0 + 1) {x : Int} (hi : i + 1 < L.length) (h : xRd (p, l, e, R, s, m, args, below, meth, c) J A Z nL c0 s0 ps (pc + 1, xSt2 L i (1, x), r, M)) : xRd (p, l, e, R, s, m, args, below, meth, c) J A Z nL c0 s0 ps (pc, L, (1, x) :: r, M) := by
  intro G H locs ls hR hF h1 h2
  obtain ⟨f1, f2, f3, f4⟩ := hF
  show W p l e R s m args below meth c H locs (M.2.2.2.1 - c0) (M.2.2.2.2 - s0) Z (F0 m (ps.getD pc 0) ls (.long (Int64.ofInt x) :: r.map (xc G.1)))
  have hx := f4 (1, x) List.mem_cons_self
  have f2 : L.length = nL := f2
  refine lv_lstore_n C.1 C.2.1 hd hq f1 (by omega) rfl (fun ls2 hl => ?_)
  have k := h G H locs ls2 hR (xFrSt2 hl f2 f3 (Or.inr ⟨hx, fun q => absurd q (show ¬ (1 : Nat) = 2 by decide)⟩) (fun v hv => f4 v (List.mem_cons_of_mem _ hv))) h1 h2
  have k : W p l e R s m args below meth c H locs (M.2.2.2.1 - c0) (M.2.2.2.2 - s0) Z (F0 m (ps.getD (pc + 1) 0) ls2 (r.map (xc G.1))) := k
  rw [hn] at k
  exact k
theorem o_astore (C : xCtx p R s m args c own cc nL d J A) {i : Nat} (hd : decode cc (ps.getD pc 0) = .ok (.astore i, 2)) (hn : ps.getD (pc + 1) 0 = ps.getD pc 0 + 2) {x : Int} (hx0 : x ≠ 0) (hi : i < L.length) (h : xRd (p, l, e, R, s, m, args, below, meth, c) J A Z nL c0 s0 ps (pc + 1, xSt1 L i (2, x), r, M)) : xRd (p, l, e, R, s, m, args, below, meth, c) J A Z nL c0 s0 ps (pc, L, (2, x) :: r, M) := by
  intro G H locs ls hR hF h1 h2
  obtain ⟨f1, f2, f3, f4⟩ := hF
  show W p l e R s m args below meth c H locs (M.2.2.2.1 - c0) (M.2.2.2.2 - s0) Z (F0 m (ps.getD pc 0) ls (xc G.1 (2, x) :: r.map (xc G.1)))
  rw [xc_ref hx0]
  have hx := f4 (2, x) List.mem_cons_self
  have f2 : L.length = nL := f2
  refine lv_astore C.1 C.2.1 hd f1 (by omega) rfl (fun ls2 hl => ?_)
  rw [← xc_ref hx0] at hl
  have k := h G H locs ls2 hR (xFrSt1 (fun _ hq => hq) hl f2 f3 (Or.inr ⟨hx, fun _ => hx0⟩) (fun v hv => f4 v (List.mem_cons_of_mem _ hv))) h1 h2
  have k : W p l e R s m args below meth c H locs (M.2.2.2.1 - c0) (M.2.2.2.2 - s0) Z (F0 m (ps.getD (pc + 1) 0) ls2 (r.map (xc G.1))) := k
  rw [hn] at k
  exact k
theorem o_astore_n (C : xCtx p R s m args c own cc nL d J A) {i : Nat} {q : Fin 4} (hq : (q : Nat) = i) (hd : decode cc (ps.getD pc 0) = .ok (.astore_n q, 1)) (hn : ps.getD (pc + 1) 0 = ps.getD pc 0 + 1) {x : Int} (hx0 : x ≠ 0) (hi : i < L.length) (h : xRd (p, l, e, R, s, m, args, below, meth, c) J A Z nL c0 s0 ps (pc + 1, xSt1 L i (2, x), r, M)) : xRd (p, l, e, R, s, m, args, below, meth, c) J A Z nL c0 s0 ps (pc, L, (2, x) :: r, M) := by
  intro G H locs ls hR hF h1 h2
  obtain ⟨f1, f2, f3, f4⟩ := hF
  show W p l e R s m args below meth c H locs (M.2.2.2.1 - c0) (M.2.2.2.2 - s0) Z (F0 m (ps.getD pc 0) ls (xc G.1 (2, x) :: r.map (xc G.1)))
  rw [xc_ref hx0]
  have hx := f4 (2, x) List.mem_cons_self
  have f2 : L.length = nL := f2
  refine lv_astore_n C.1 C.2.1 hd hq f1 (by omega) rfl (fun ls2 hl => ?_)
  rw [← xc_ref hx0] at hl
  have k := h G H locs ls2 hR (xFrSt1 (fun _ hq => hq) hl f2 f3 (Or.inr ⟨hx, fun _ => hx0⟩) (fun v hv => f4 v (List.mem_cons_of_mem _ hv))) h1 h2
  have k : W p l e R s m args below meth c H locs (M.2.2.2.1 - c0) (M.2.2.2.2 - s0) Z (F0 m (ps.getD (pc + 1) 0) ls2 (r.map (xc G.1))) := k
  rw [hn] at k
  exact k
theorem o_iinc (C : xCtx p R s m args c own cc nL d J A) {i : Nat} {n : Int} (hd : decode cc (ps.getD pc 0) = .ok (.iinc i n, 3)) (hn : ps.getD (pc + 1) 0 = ps.getD pc 0 + 3) {x : Int} (hn32 : xIn 0 n) (hv : L[i]? = some (0, x)) (h : xRd (p, l, e, R, s, m, args, below, meth, c) J A Z nL c0 s0 ps (pc + 1, xSt1 L i (0, w32 (x + n)), r, M)) : xRd (p, l, e, R, s, m, args, below, meth, c) J A Z nL c0 s0 ps (pc, L, r, M) := by
  intro G H locs ls hR hF h1 h2
  obtain ⟨f1, f2, f3, f4⟩ := hF
  show W p l e R s m args below meth c H locs (M.2.2.2.1 - c0) (M.2.2.2.2 - s0) Z (F0 m (ps.getD pc 0) ls (r.map (xc G.1)))
  have f2 : L.length = nL := f2
  have hi : i < L.length := (List.getElem?_eq_some_iff.mp hv).1
  have hm := f3 _ (List.mem_of_getElem? hv)
  have hm2 : xVk M.2.2.2.1 (0, x) ∧ (0 = 2 → x ≠ 0) := hm.resolve_left (show ¬ (0 : Nat) = 9 by decide)
  have ix : xIn 0 x := hm2.1.2
  have g1 : lv_has ls nL ((i, .int (Int32.ofInt x)) :: xLv G.1 L) := ⟨f1.1, f1.2.1, fun q hq => by
    rcases List.mem_cons.mp hq with rfl | hq
    · exact xL_at f1 hv (show ¬ (0 : Nat) = 9 by decide)
    · exact f1.2.2 q hq⟩
  have q : Int32.ofInt x + Int32.ofInt n = Int32.ofInt (w32 (x + n)) := Int32.toInt_inj.mp (by rw [xi_add, xi_toInt ix, xi_toInt hn32, xi_toInt (w32_in _)])
  refine lv_iinc C.1 C.2.1 hd g1 (k := 0) rfl q (by omega) rfl (fun ls2 hl => ?_)
  have k := h G H locs ls2 hR (xFrSt1 (v := (0, w32 (x + n))) (fun _ hq => List.mem_cons_of_mem _ hq) hl f2 f3 (Or.inr ⟨⟨Nat.le_of_ble_eq_true rfl, w32_in _⟩, fun q => absurd q (show ¬ (0 : Nat) = 2 by decide)⟩) f4) h1 h2
  have k : W p l e R s m args below meth c H locs (M.2.2.2.1 - c0) (M.2.2.2.2 - s0) Z (F0 m (ps.getD (pc + 1) 0) ls2 (r.map (xc G.1))) := k
  rw [hn] at k
  exact k
theorem o_iincW (C : xCtx p R s m args c own cc nL d J A) {i : Nat} {n : Int} (hd : decode cc (ps.getD pc 0) = .ok (.iinc i n, 6)) (hn : ps.getD (pc + 1) 0 = ps.getD pc 0 + 6) {x : Int} (hn32 : xIn 0 n) (hv : L[i]? = some (0, x)) (h : xRd (p, l, e, R, s, m, args, below, meth, c) J A Z nL c0 s0 ps (pc + 1, xSt1 L i (0, w32 (x + n)), r, M)) : xRd (p, l, e, R, s, m, args, below, meth, c) J A Z nL c0 s0 ps (pc, L, r, M) := by
  intro G H locs ls hR hF h1 h2
  obtain ⟨f1, f2, f3, f4⟩ := hF
  show W p l e R s m args below meth c H locs (M.2.2.2.1 - c0) (M.2.2.2.2 - s0) Z (F0 m (ps.getD pc 0) ls (r.map (xc G.1)))
  have f2 : L.length = nL := f2
  have hi : i < L.length := (List.getElem?_eq_some_iff.mp hv).1
  have hm := f3 _ (List.mem_of_getElem? hv)
  have hm2 : xVk M.2.2.2.1 (0, x) ∧ (0 = 2 → x ≠ 0) := hm.resolve_left (show ¬ (0 : Nat) = 9 by decide)
  have ix : xIn 0 x := hm2.1.2
  have g1 : lv_has ls nL ((i, .int (Int32.ofInt x)) :: xLv G.1 L) := ⟨f1.1, f1.2.1, fun q hq => by
    rcases List.mem_cons.mp hq with rfl | hq
    · exact xL_at f1 hv (show ¬ (0 : Nat) = 9 by decide)
    · exact f1.2.2 q hq⟩
  have q : Int32.ofInt x + Int32.ofInt n = Int32.ofInt (w32 (x + n)) := Int32.toInt_inj.mp (by rw [xi_add, xi_toInt ix, xi_toInt hn32, xi_toInt (w32_in _)])
  refine lv_iincW C.1 C.2.1 hd g1 (k := 0) rfl q (by omega) rfl (fun ls2 hl => ?_)
  have k := h G H locs ls2 hR (xFrSt1 (v := (0, w32 (x + n))) (fun _ hq => List.mem_cons_of_mem _ hq) hl f2 f3 (Or.inr ⟨⟨Nat.le_of_ble_eq_true rfl, w32_in _⟩, fun q => absurd q (show ¬ (0 : Nat) = 2 by decide)⟩) f4) h1 h2
  have k : W p l e R s m args below meth c H locs (M.2.2.2.1 - c0) (M.2.2.2.2 - s0) Z (F0 m (ps.getD (pc + 1) 0) ls2 (r.map (xc G.1))) := k
  rw [hn] at k
  exact k
theorem o_goto (C : xCtx p R s m args c own cc nL d J A) {off : Int} {t : Nat} (hd : decode cc (ps.getD pc 0) = .ok (.goto off, 3)) (hj : ((ps.getD t 0 : Nat) : Int) = ((ps.getD pc 0 : Nat) : Int) + off) (h : xRd (p, l, e, R, s, m, args, below, meth, c) J A Z nL c0 s0 ps (t, L, r, M)) : xRd (p, l, e, R, s, m, args, below, meth, c) J A Z nL c0 s0 ps (pc, L, r, M) := by
  intro G H locs ls hR hF h1 h2
  exact lv_goto C.1 C.2.1 hd hj.symm (h G H locs ls hR hF h1 h2)
theorem xFr_tail {G : xG} {v : xV} {st : List xV} {ls : Array Slot} (h : xFr nL G M L (v :: st) ls) : xFr nL G M L st ls := ⟨h.1, h.2.1, h.2.2.1, fun w hw => h.2.2.2 w (List.mem_cons_of_mem _ hw)⟩
theorem o_ifCond (C : xCtx p R s m args c own cc nL d J A) {cnd : ClassFile.Cond} {off : Int} {t : Nat} (hd : decode cc (ps.getD pc 0) = .ok (.ifCond cnd off, 3)) (hn : ps.getD (pc + 1) 0 = ps.getD pc 0 + 3) (hj : ((ps.getD t 0 : Nat) : Int) = ((ps.getD pc 0 : Nat) : Int) + off) {x : Int} (ha : xT cnd x 0 → xRd (p, l, e, R, s, m, args, below, meth, c) J A Z nL c0 s0 ps (t, L, r, M)) (hb2 : xN cnd x 0 → xRd (p, l, e, R, s, m, args, below, meth, c) J A Z nL c0 s0 ps (pc + 1, L, r, M)) : xRd (p, l, e, R, s, m, args, below, meth, c) J A Z nL c0 s0 ps (pc, L, (0, x) :: r, M) := by
  intro G H locs ls hR hF h1 h2
  have ix : xIn 0 x := (hF.2.2.2 (0, x) (by simp)).2
  have hF2 : xFr nL G M L r ls := xFr_tail hF
  have ka : xT cnd x 0 → W p l e R s m args below meth c H locs (M.2.2.2.1 - c0) (M.2.2.2.2 - s0) Z (F0 m (ps.getD t 0) ls (r.map (xc G.1))) := fun q => ha q G H locs ls hR hF2 h1 h2
  have kb : xN cnd x 0 → W p l e R s m args below meth c H locs (M.2.2.2.1 - c0) (M.2.2.2.2 - s0) Z (F0 m (ps.getD pc 0 + 3) ls (r.map (xc G.1))) := fun q => by
    have k := hb2 q G H locs ls hR hF2 h1 h2
    have k : W p l e R s m args below meth c H locs (M.2.2.2.1 - c0) (M.2.2.2.2 - s0) Z (F0 m (ps.getD (pc + 1) 0) ls (r.map (xc G.1))) := k
    rw [hn] at k
    exact k
  show W p l e R s m args below meth c H locs (M.2.2.2.1 - c0) (M.2.2.2.2 - s0) Z (F0 m (ps.getD pc 0) ls (.int (Int32.ofInt x) :: r.map (xc G.1)))
  cases cnd
  · exact lv_if_eq C.1 C.2.1 hd hj.symm (fun q => ka ((xi_inj ix xi_0).mp q)) (fun q => kb (fun z => q ((xi_inj ix xi_0).mpr z)))
  · exact lv_if_ne C.1 C.2.1 hd hj.symm (fun q => ka (fun z => q ((xi_inj ix xi_0).mpr z))) (fun q => kb ((xi_inj ix xi_0).mp q))
  · exact lv_if_lt C.1 C.2.1 hd hj.symm (fun q => ka ((xi_lt ix xi_0).mp q)) (fun q => kb (by have z : ¬ (x < 0) := fun y => q ((xi_lt ix xi_0).mpr y); simp only [xN]; omega))
  · exact lv_if_ge C.1 C.2.1 hd hj.symm (fun q => ka ((xi_le xi_0 ix).mp q)) (fun q => kb (by have z : ¬ (0 ≤ x) := fun y => q ((xi_le xi_0 ix).mpr y); simp only [xN]; omega))
  · exact lv_if_gt C.1 C.2.1 hd hj.symm (fun q => ka ((xi_lt xi_0 ix).mp q)) (fun q => kb (by have z : ¬ (0 < x) := fun y => q ((xi_lt xi_0 ix).mpr y); simp only [xN]; omega))
  · exact lv_if_le C.1 C.2.1 hd hj.symm (fun q => ka ((xi_le ix xi_0).mp q)) (fun q => kb (by have z : ¬ (x ≤ 0) := fun y => q ((xi_le ix xi_0).mpr y); simp only [xN]; omega))
theorem o_if_icmp (C : xCtx p R s m args c own cc nL d J A) {cnd : ClassFile.Cond} {off : Int} {t : Nat} (hd : decode cc (ps.getD pc 0) = .ok (.if_icmp cnd off, 3)) (hn : ps.getD (pc + 1) 0 = ps.getD pc 0 + 3) (hj : ((ps.getD t 0 : Nat) : Int) = ((ps.getD pc 0 : Nat) : Int) + off) {x y : Int} (ha : xT cnd x y → xRd (p, l, e, R, s, m, args, below, meth, c) J A Z nL c0 s0 ps (t, L, r, M)) (hb2 : xN cnd x y → xRd (p, l, e, R, s, m, args, below, meth, c) J A Z nL c0 s0 ps (pc + 1, L, r, M)) : xRd (p, l, e, R, s, m, args, below, meth, c) J A Z nL c0 s0 ps (pc, L, (0, y) :: (0, x) :: r, M) := by
  intro G H locs ls hR hF h1 h2
  have ix : xIn 0 x := (hF.2.2.2 (0, x) (by simp)).2
  have iy : xIn 0 y := (hF.2.2.2 (0, y) (by simp)).2
  have hF2 : xFr nL G M L r ls := xFr_tail (xFr_tail hF)
  have ka : xT cnd x y → W p l e R s m args below meth c H locs (M.2.2.2.1 - c0) (M.2.2.2.2 - s0) Z (F0 m (ps.getD t 0) ls (r.map (xc G.1))) := fun q => ha q G H locs ls hR hF2 h1 h2
  have kb : xN cnd x y → W p l e R s m args below meth c H locs (M.2.2.2.1 - c0) (M.2.2.2.2 - s0) Z (F0 m (ps.getD pc 0 + 3) ls (r.map (xc G.1))) := fun q => by
    have k := hb2 q G H locs ls hR hF2 h1 h2
    have k : W p l e R s m args below meth c H locs (M.2.2.2.1 - c0) (M.2.2.2.2 - s0) Z (F0 m (ps.getD (pc + 1) 0) ls (r.map (xc G.1))) := k
    rw [hn] at k
    exact k
  show W p l e R s m args below meth c H locs (M.2.2.2.1 - c0) (M.2.2.2.2 - s0) Z (F0 m (ps.getD pc 0) ls (.int (Int32.ofInt y) :: .int (Int32.ofInt x) :: r.map (xc G.1)))
  cases cnd
  · exact lv_icmp_eq C.1 C.2.1 hd hj.symm (fun q => ka ((xi_inj ix iy).mp q)) (fun q => kb (fun z => q ((xi_inj ix iy).mpr z)))
  · exact lv_icmp_ne C.1 C.2.1 hd hj.symm (fun q => ka (fun z => q ((xi_inj ix iy).mpr z))) (fun q => kb ((xi_inj ix iy).mp q))
  · exact lv_icmp_lt C.1 C.2.1 hd hj.symm (fun q => ka ((xi_lt ix iy).mp q)) (fun q => kb (by have z : ¬ (x < y) := fun y => q ((xi_lt ix iy).mpr y); simp only [xN]; omega))
  · exact lv_icmp_ge C.1 C.2.1 hd hj.symm (fun q => ka ((xi_le iy ix).mp q)) (fun q => kb (by have z : ¬ (y ≤ x) := fun y => q ((xi_le iy ix).mpr y); simp only [xN]; omega))
  · exact lv_icmp_gt C.1 C.2.1 hd hj.symm (fun q => ka ((xi_lt iy ix).mp q)) (fun q => kb (by have z : ¬ (y < x) := fun y => q ((xi_lt iy ix).mpr y); simp only [xN]; omega))
  · exact lv_icmp_le C.1 C.2.1 hd hj.symm (fun q => ka ((xi_le ix iy).mp q)) (fun q => kb (by have z : ¬ (x ≤ y) := fun y => q ((xi_le ix iy).mpr y); simp only [xN]; omega))
theorem o_ifnull (C : xCtx p R s m args c own cc nL d J A) {off : Int} {t : Nat} (hd : decode cc (ps.getD pc 0) = .ok (.ifnull off, 3)) (hn : ps.getD (pc + 1) 0 = ps.getD pc 0 + 3) (hj : ((ps.getD t 0 : Nat) : Int) = ((ps.getD pc 0 : Nat) : Int) + off) {x : Int} (ha : xT .eq x 0 → xRd (p, l, e, R, s, m, args, below, meth, c) J A Z nL c0 s0 ps (t, L, r, M)) (hb2 : xN .eq x 0 → xRd (p, l, e, R, s, m, args, below, meth, c) J A Z nL c0 s0 ps (pc + 1, L, r, M)) : xRd (p, l, e, R, s, m, args, below, meth, c) J A Z nL c0 s0 ps (pc, L, (2, x) :: r, M) := by
  intro G H locs ls hR hF h1 h2
  have hF2 : xFr nL G M L r ls := xFr_tail hF
  have kb : xN .eq x 0 → W p l e R s m args below meth c H locs (M.2.2.2.1 - c0) (M.2.2.2.2 - s0) Z (F0 m (ps.getD pc 0 + 3) ls (r.map (xc G.1))) := fun q => by
    have k := hb2 q G H locs ls hR hF2 h1 h2
    have k : W p l e R s m args below meth c H locs (M.2.2.2.1 - c0) (M.2.2.2.2 - s0) Z (F0 m (ps.getD (pc + 1) 0) ls (r.map (xc G.1))) := k
    rw [hn] at k
    exact k
  show W p l e R s m args below meth c H locs (M.2.2.2.1 - c0) (M.2.2.2.2 - s0) Z (F0 m (ps.getD pc 0) ls (xc G.1 (2, x) :: r.map (xc G.1)))
  by_cases hx0 : x = 0
  · subst hx0
    exact lv_ifnullN C.1 C.2.1 hd hj.symm (ha rfl G H locs ls hR hF2 h1 h2)
  · rw [xc_ref hx0]
    exact lv_ifnull C.1 C.2.1 hd (kb hx0)
theorem o_ifnonnull (C : xCtx p R s m args c own cc nL d J A) {off : Int} {t : Nat} (hd : decode cc (ps.getD pc 0) = .ok (.ifnonnull off, 3)) (hn : ps.getD (pc + 1) 0 = ps.getD pc 0 + 3) (hj : ((ps.getD t 0 : Nat) : Int) = ((ps.getD pc 0 : Nat) : Int) + off) {x : Int} (ha : xT .ne x 0 → xRd (p, l, e, R, s, m, args, below, meth, c) J A Z nL c0 s0 ps (t, L, r, M)) (hb2 : xN .ne x 0 → xRd (p, l, e, R, s, m, args, below, meth, c) J A Z nL c0 s0 ps (pc + 1, L, r, M)) : xRd (p, l, e, R, s, m, args, below, meth, c) J A Z nL c0 s0 ps (pc, L, (2, x) :: r, M) := by
  intro G H locs ls hR hF h1 h2
  have hF2 : xFr nL G M L r ls := xFr_tail hF
  have kb : xN .ne x 0 → W p l e R s m args below meth c H locs (M.2.2.2.1 - c0) (M.2.2.2.2 - s0) Z (F0 m (ps.getD pc 0 + 3) ls (r.map (xc G.1))) := fun q => by
    have k := hb2 q G H locs ls hR hF2 h1 h2
    have k : W p l e R s m args below meth c H locs (M.2.2.2.1 - c0) (M.2.2.2.2 - s0) Z (F0 m (ps.getD (pc + 1) 0) ls (r.map (xc G.1))) := k
    rw [hn] at k
    exact k
  show W p l e R s m args below meth c H locs (M.2.2.2.1 - c0) (M.2.2.2.2 - s0) Z (F0 m (ps.getD pc 0) ls (xc G.1 (2, x) :: r.map (xc G.1)))
  by_cases hx0 : x = 0
  · subst hx0
    exact lv_ifnonnullN C.1 C.2.1 hd (kb rfl)
  · rw [xc_ref hx0]
    exact lv_ifnonnull C.1 C.2.1 hd hj.symm (ha hx0 G H locs ls hR hF2 h1 h2)
theorem xSw_at {k : xS → Prop} {x : Int} : ∀ {lo : Int} {ts : List xS}, xSw k x lo ts → ∀ j : Nat, ∀ t : xS, ts[j]? = some t → x = lo + (j : Int) → k t
  | lo, [], _, j, t, h, _ => by simp at h
  | lo, u :: ts, ⟨h1, h2⟩, 0, t, h, e => by
    simp at h
    subst h
    exact h1 (by omega)
  | lo, u :: ts, ⟨h1, h2⟩, j + 1, t, h, e => xSw_at h2 j t (by simpa using h) (by omega)
theorem o_table (C : xCtx p R s m args c own cc nL d J A) {dd lo hi : Int} {offs : Array Int} {ln t : Nat} {ts : List xS} (hd : decode cc (ps.getD pc 0) = .ok (.tableswitch dd lo hi offs, ln)) (hl : xIn 0 lo) (hh : xIn 0 hi) (hs : hi - lo + 1 = (offs.size : Int)) (hj : ((ps.getD t 0 : Nat) : Int) = ((ps.getD pc 0 : Nat) : Int) + dd) {x : Int} (ha : ∀ j : Nat, j < offs.size → x = lo + (j : Int) → ∃ (u : Nat) (off : Int), offs[j]? = some off ∧ ((ps.getD u 0 : Nat) : Int) = ((ps.getD pc 0 : Nat) : Int) + off ∧ xRd (p, l, e, R, s, m, args, below, meth, c) J A Z nL c0 s0 ps (u, L, r, M)) (hb2 : x < lo ∨ hi < x → xRd (p, l, e, R, s, m, args, below, meth, c) J A Z nL c0 s0 ps (t, L, r, M)) : xRd (p, l, e, R, s, m, args, below, meth, c) J A Z nL c0 s0 ps (pc, L, (0, x) :: r, M) := by
  intro G H locs ls hR hF h1 h2
  have ix : xIn 0 x := (hF.2.2.2 (0, x) (by simp)).2
  have hF2 : xFr nL G M L r ls := xFr_tail hF
  show W p l e R s m args below meth c H locs (M.2.2.2.1 - c0) (M.2.2.2.2 - s0) Z (F0 m (ps.getD pc 0) ls (.int (Int32.ofInt x) :: r.map (xc G.1)))
  have ex := xi_toInt ix
  by_cases h : x < lo ∨ hi < x
  · exact lv_tableOut C.1 C.2.1 hd (by rw [ex]; exact h) hj.symm (hb2 h G H locs ls hR hF2 h1 h2)
  · obtain ⟨u, off, q1, q2, q3⟩ := ha (x - lo).toNat (by omega) (by omega)
    exact lv_tableIn C.1 C.2.1 hd (by rw [ex]; omega) (by rw [ex]; omega) (by rw [ex]; exact q1) q2.symm (q3 G H locs ls hR hF2 h1 h2)
end XOPT
end
section
theorem xAt_ref {κ : Int} (h : 24 ≤ κ) : (xAt κ).isReference = true := by
  unfold xAt
  rw [if_neg (by omega), if_neg (by omega), if_neg (by omega), if_neg (by omega)]
  split
  · rfl
  · split
    · rfl
    · split
      · rfl
      · split <;> rfl
theorem xEl_ok {κ y : Int} (h : xEl κ = y) (hy : 0 ≤ y) : 25 ≤ κ ∧ (y = 4 ∨ y = 2 ∨ y = 10 ∨ y = 5) ∧ xAt κ = .object (xCl y.toNat).1 := by
  unfold xEl at h
  by_cases h1 : κ = 25
  · rw [if_pos h1] at h; subst h; subst h1; exact ⟨by omega, Or.inl rfl, rfl⟩
  · rw [if_neg h1] at h
    by_cases h2 : κ = 26
    · rw [if_pos h2] at h; subst h; subst h2; exact ⟨by omega, Or.inr (Or.inl rfl), rfl⟩
    · rw [if_neg h2] at h
      by_cases h3 : κ = 27
      · rw [if_pos h3] at h; subst h; subst h3; exact ⟨by omega, Or.inr (Or.inr (Or.inl rfl)), rfl⟩
      · rw [if_neg h3] at h
        by_cases h4 : κ = 28
        · rw [if_pos h4] at h; subst h; subst h4; exact ⟨by omega, Or.inr (Or.inr (Or.inr rfl)), rfl⟩
        · rw [if_neg h4] at h; omega
theorem xRel_set {J : xJT} {s : State} {A : Nat → Prop} {H0 H H1 : Heap} {G : xG} {M : xH} {locs locs1 : List Loc} {a : Int} {D' : xD} {z : Nat × va_E} (hR : xRel J s A H0 G M H locs) (h0 : 0 < a) (hd : ∀ b : Int, b ≠ a → D' b = M.1 b) (hv : ∀ j : Int, xInN M.2.2.2.1 (xTy (M.2.1 a) j) (D' a j)) (hz : z = (G.1 a, xEnt G (D', M.2) a)) (hP : va_P J.1 vwCl ((xWs G M).set (a - 1).toNat z) H1) (hD : va_D A ((xWs G M).set (a - 1).toNat z)) (hS : va_S A H0 H1 locs1) : xRel J s A H0 G (D', M.2) H1 locs1 := by
  obtain ⟨k0, -, -, -, k4, k5⟩ := hR
  have e : (xWs G M).set (a - 1).toNat z = xWs G (D', M.2) := xWs_set h0 rfl hz (fun b hb => by
    unfold xEnt
    show (if 20 ≤ M.2.1 b then Sum.inl (G.2 b, (M.2.2.1 b).toNat, xCont G.1 (M.2.1 b) (D' b)) else Sum.inr ((M.2.1 b).toNat, xFs G.1 (M.2.1 b).toNat (D' b))) = _
    rw [hd b hb])
  rw [e] at hP hD
  refine ⟨⟨k0.1, k0.2.1, k0.2.2.1, k0.2.2.2.1, k0.2.2.2.2.1, fun b j => ?_⟩, hP, hD, hS, k4, k5.1, k5.2.1, k5.2.2.1, fun q => ?_⟩
  · show xInN M.2.2.2.1 (xTy (M.2.1 b) j) (D' b j)
    by_cases hb : b = a
    · rw [hb]; exact hv j
    · rw [hd b hb]; exact k0.2.2.2.2.2 b j
  · have q2 := k5.2.2.2 q
    refine ⟨q2.1, fun i hi => ?_⟩
    show D' (-1) (i : Int) = _
    rw [hd (-1) (by omega)]
    exact q2.2 i hi
theorem xRel_lt {J : xJT} {s : State} {A : Nat → Prop} {H0 H : Heap} {G : xG} {M : xH} {locs : List Loc} (hR : xRel J s A H0 G M H locs) {a : Int} (h0 : 0 < a) (hk : 0 ≤ M.2.1 a) : a < (M.2.2.2.1 : Int) := by
  rcases hR.1.2.1 a hk with h | h
  · omega
  · exact h.2
theorem xK1 {J : xJT} {s : State} {A : Nat → Prop} {H0 H : Heap} {G : xG} {M : xH} {locs : List Loc} (hT : xTab J s) (hR : xRel J s A H0 G M H locs) {a : Int} (h0 : 0 < a) (hk : 20 ≤ M.2.1 a) : va_K J.1 vwCl [(G.2 a, xAt (M.2.1 a))] s := by
  refine ⟨hT.1.1, fun k q hq => ?_⟩
  match k, hq with
  | 0, hq =>
    have e : (G.2 a, xAt (M.2.1 a)) = q := Option.some.inj hq
    rw [← e]
    exact hR.2.2.2.2.1 a h0 (xRel_lt hR h0 (by omega)) hk
  | k + 1, hq => simp at hq
theorem xE_arr {G : xG} {M : xH} {a : Int} (hk : 20 ≤ M.2.1 a) : xEnt G M a = .inl (G.2 a, (M.2.2.1 a).toNat, xCont G.1 (M.2.1 a) (M.1 a)) := by
  rw [xEnt, if_pos hk]
theorem xE_obj {G : xG} {M : xH} {a : Int} {c : Nat} (hk : M.2.1 a = (c : Int)) (hc : c < 13) : xEnt G M a = .inr (c, xFs G.1 c (M.1 a)) := by
  rw [xEnt, if_neg (by omega), hk]
  rfl
theorem xCt_i (ad : Int → Nat) {κ : Int} (h : κ ≤ 22) (f : Int → Int) : xCont ad κ f = .inl (fun i => Int32.ofInt (f (i : Int))) := by rw [xCont, if_pos h]
theorem xCt_j (ad : Int → Nat) (f : Int → Int) : xCont ad 23 f = .inr (.inl (fun i => Int64.ofInt (f (i : Int)))) := by rw [xCont, if_neg (by omega), if_pos rfl]
theorem xCt_r (ad : Int → Nat) {κ : Int} (h : 24 ≤ κ) (f : Int → Int) : xCont ad κ f = .inr (.inr (.inr (.inr (fun i => xRv ad (f (i : Int)))))) := by rw [xCont, if_neg (by omega), if_neg (by omega)]
theorem xUp_ne (D : xD) {a i v b : Int} (h : b ≠ a) : xUp D a i v b = D b := by
  funext j
  show (if b = a ∧ j = i then v else D b j) = _
  rw [if_neg (fun q => h q.1)]
theorem xUp_i (D : xD) (a : Int) {i : Int} (v : Int) (hi : 0 ≤ i) : (fun k : Nat => Int32.ofInt (xUp D a i v a (k : Int))) = upd (fun k : Nat => Int32.ofInt (D a (k : Int))) i.toNat (Int32.ofInt v) := by
  funext k
  show Int32.ofInt (if a = a ∧ (k : Int) = i then v else D a (k : Int)) = if k = i.toNat then _ else _
  by_cases e : k = i.toNat
  · rw [if_pos e, if_pos ⟨rfl, by omega⟩]
  · rw [if_neg e, if_neg (fun q => e (by omega))]
theorem xUp_j (D : xD) (a : Int) {i : Int} (v : Int) (hi : 0 ≤ i) : (fun k : Nat => Int64.ofInt (xUp D a i v a (k : Int))) = vp_updL (fun k : Nat => Int64.ofInt (D a (k : Int))) i.toNat (Int64.ofInt v) := by
  funext k
  show Int64.ofInt (if a = a ∧ (k : Int) = i then v else D a (k : Int)) = if k = i.toNat then _ else _
  by_cases e : k = i.toNat
  · rw [if_pos e, if_pos ⟨rfl, by omega⟩]
  · rw [if_neg e, if_neg (fun q => e (by omega))]
theorem xUp_r (ad : Int → Nat) (D : xD) (a : Int) {i v : Int} (hv : v ≠ 0) (hi : 0 ≤ i) : (fun k : Nat => xRv ad (xUp D a i v a (k : Int))) = va_up (fun k : Nat => xRv ad (D a (k : Int))) i.toNat (some (ad v)) := by
  funext k
  show xRv ad (if a = a ∧ (k : Int) = i then v else D a (k : Int)) = if k = i.toNat then _ else _
  by_cases e : k = i.toNat
  · rw [if_pos e, if_pos ⟨rfl, by omega⟩, xRv, if_neg hv]
  · rw [if_neg e, if_neg (fun q => e (by omega))]
theorem xUp_v {n t : Nat} {D : xD} {a i v : Int} {ty : Int → Nat} (h : ∀ j, xInN n (ty j) (D a j)) (hv : ty i = t) (hx : xInN n t v) : ∀ j, xInN n (ty j) (xUp D a i v a j) := by
  intro j
  show xInN n (ty j) (if a = a ∧ j = i then v else D a j)
  by_cases e : j = i
  · rw [if_pos ⟨rfl, e⟩, e, hv]; exact hx
  · rw [if_neg (fun q => e q.2)]; exact h j
theorem xi_bool {x : Int} (h : x = 0 ∨ x = 1) : vp_nar .boolean (Int32.ofInt x) = Int32.ofInt x := by
  rcases h with rfl | rfl <;> rfl
section XOPU
variable {p : Program} {l : Launch} {e : Env} {R : Room} {s : State} {m : MethodId} {args : Array Value} {below : List Frame} {meth : Method} {c : Code}
variable {J : xJT} {A : Nat → Prop} {Z : State → Prop} {nL c0 s0 own d pc : Nat} {cc : ByteArray} {ps : List Nat} {L r : List xV} {M : xH}
theorem o_iaload (C : xCtx p R s m args c own cc nL d J A) (hd : decode cc (ps.getD pc 0) = .ok (.iaload, 1)) (hn : ps.getD (pc + 1) 0 = ps.getD pc 0 + 1) {a i : Int} (hk : M.2.1 a = 20) (hi0 : 0 ≤ i) (hi1 : i < M.2.2.1 a) (h : xRd (p, l, e, R, s, m, args, below, meth, c) J A Z nL c0 s0 ps (pc + 1, L, (0, M.1 a i) :: r, M)) : xRd (p, l, e, R, s, m, args, below, meth, c) J A Z nL c0 s0 ps (pc, L, (0, i) :: (2, a) :: r, M) := by
  intro G H locs ls hR hF h1 h2
  replace hR : xRel J s A s.heap G M H locs := hR
  have ii : xIn 0 i := (hF.2.2.2 (0, i) (by simp)).2
  have hT := C.2.2.2.2.2.1
  have ic := hR.1.2.2.2.2.2 a i
  rw [hk] at ic
  have ic : xInN M.2.2.2.1 0 (M.1 a i) := ic
  have k := h G H locs ls hR ⟨hF.1, hF.2.1, hF.2.2.1, fun v hv => ?_⟩ h1 h2
  · have k : W p l e R s m args below meth c H locs (M.2.2.2.1 - c0) (M.2.2.2.2 - s0) Z (F0 m (ps.getD (pc + 1) 0) ls (.int (Int32.ofInt (M.1 a i)) :: r.map (xc G.1))) := k
    rw [hn] at k
    have ei : ((i.toNat : Nat) : Int) = i := Int.toNat_of_nonneg hi0
    rcases hR.1.2.1 a (by omega) with h0 | ⟨h0, -⟩
    · subst h0
      obtain ⟨hX, hbl, hbA, -⟩ := C.2.2.2.2.2.2.1
      obtain ⟨g1, -, -, g3⟩ := hR.2.2.2.2.2
      obtain ⟨g4, g5⟩ := g3 hk
      have hin : vp_in (Int32.ofInt i) J.2.2.2.2.1 := by
        have q := xi_vin ii hi0 hi1
        rw [g4] at q
        exact q
      have hit : i.toNat < J.2.2.2.2.1 := by omega
      show W p l e R s m args below meth c H locs (M.2.2.2.1 - c0) (M.2.2.2.2 - s0) Z (F0 m (ps.getD pc 0) ls (.int (Int32.ofInt i) :: xc G.1 (2, -1) :: r.map (xc G.1)))
      rw [xc_ref (show (-1 : Int) ≠ 0 by decide), g1]
      refine va_sld C.1 C.2.1 hX hbl hbA hR.2.2.2.1 hin hd ?_
      have q := g5 i.toNat hit
      rw [ei] at q
      rw [xi_cl ii, ← xi_eq (J.2.2.2.2.2.1 i.toNat), ← q]
      exact k
    · have h0 : 0 < a := h0
      have hE : (xWs G M)[(a - 1).toNat]? = some (G.1 a, .inl (G.2 a, (M.2.2.1 a).toNat, .inl (fun i => Int32.ofInt (M.1 a (i : Int))))) := by
        rw [xWs_get h0 (xRel_lt hR h0 (by omega)), xE_arr (by omega), hk, xCt_i _ (by omega)]
      have hK := xK1 hT hR h0 (by omega)
      rw [hk] at hK
      show W p l e R s m args below meth c H locs (M.2.2.2.1 - c0) (M.2.2.2.2 - s0) Z (F0 m (ps.getD pc 0) ls (.int (Int32.ofInt i) :: xc G.1 (2, a) :: r.map (xc G.1)))
      rw [xc_ref (show a ≠ 0 by omega)]
      refine va_iald C.1 C.2.1 hK hR.2.1 (a - 1).toNat 0 hE rfl (xi_vin ii hi0 hi1) hd ?_
      rw [xi_cl ii, ei]
      exact k
  · have hv : v ∈ ((0, M.1 a i) :: r : List xV) := hv
    rcases List.mem_cons.mp hv with rfl | hv
    · exact ⟨Nat.le_of_ble_eq_true rfl, ic⟩
    · exact hF.2.2.2 v (by simp [hv])
theorem o_baload (C : xCtx p R s m args c own cc nL d J A) (hd : decode cc (ps.getD pc 0) = .ok (.baload, 1)) (hn : ps.getD (pc + 1) 0 = ps.getD pc 0 + 1) {a i : Int} (hk : M.2.1 a = 21) (hi0 : 0 ≤ i) (hi1 : i < M.2.2.1 a) (h : xRd (p, l, e, R, s, m, args, below, meth, c) J A Z nL c0 s0 ps (pc + 1, L, (0, M.1 a i) :: r, M)) : xRd (p, l, e, R, s, m, args, below, meth, c) J A Z nL c0 s0 ps (pc, L, (0, i) :: (2, a) :: r, M) := by
  intro G H locs ls hR hF h1 h2
  replace hR : xRel J s A s.heap G M H locs := hR
  have ii : xIn 0 i := (hF.2.2.2 (0, i) (by simp)).2
  have hT := C.2.2.2.2.2.1
  have ic := hR.1.2.2.2.2.2 a i
  rw [hk] at ic
  have ic : xInN M.2.2.2.1 4 (M.1 a i) := ic
  have k := h G H locs ls hR ⟨hF.1, hF.2.1, hF.2.2.1, fun v hv => ?_⟩ h1 h2
  · have k : W p l e R s m args below meth c H locs (M.2.2.2.1 - c0) (M.2.2.2.2 - s0) Z (F0 m (ps.getD (pc + 1) 0) ls (.int (Int32.ofInt (M.1 a i)) :: r.map (xc G.1))) := k
    rw [hn] at k
    have ei : ((i.toNat : Nat) : Int) = i := Int.toNat_of_nonneg hi0
    have h0 : 0 < a := by
      rcases hR.1.2.1 a (by omega) with z | z
      · subst z
        have q := hR.1.2.2.2.1 (by omega)
        omega
      · exact z.1
    have h0 : 0 < a := h0
    have hE : (xWs G M)[(a - 1).toNat]? = some (G.1 a, .inl (G.2 a, (M.2.2.1 a).toNat, .inl (fun i => Int32.ofInt (M.1 a (i : Int))))) := by
      rw [xWs_get h0 (xRel_lt hR h0 (by omega)), xE_arr (by omega), hk, xCt_i _ (by omega)]
    have hK := xK1 hT hR h0 (by omega)
    rw [hk] at hK
    show W p l e R s m args below meth c H locs (M.2.2.2.1 - c0) (M.2.2.2.2 - s0) Z (F0 m (ps.getD pc 0) ls (.int (Int32.ofInt i) :: xc G.1 (2, a) :: r.map (xc G.1)))
    rw [xc_ref (show a ≠ 0 by omega)]
    refine va_bald C.1 C.2.1 hK hR.2.1 (a - 1).toNat 0 hE rfl (xi_vin ii hi0 hi1) hd ?_
    rw [xi_cl ii, ei]
    exact k
  · have hv : v ∈ ((0, M.1 a i) :: r : List xV) := hv
    rcases List.mem_cons.mp hv with rfl | hv
    · exact ⟨Nat.le_of_ble_eq_true rfl, xIn40 ic⟩
    · exact hF.2.2.2 v (by simp [hv])
theorem o_caload (C : xCtx p R s m args c own cc nL d J A) (hd : decode cc (ps.getD pc 0) = .ok (.baload, 1)) (hn : ps.getD (pc + 1) 0 = ps.getD pc 0 + 1) {a i : Int} (hk : M.2.1 a = 22) (hi0 : 0 ≤ i) (hi1 : i < M.2.2.1 a) (h : xRd (p, l, e, R, s, m, args, below, meth, c) J A Z nL c0 s0 ps (pc + 1, L, (0, M.1 a i) :: r, M)) : xRd (p, l, e, R, s, m, args, below, meth, c) J A Z nL c0 s0 ps (pc, L, (0, i) :: (2, a) :: r, M) := by
  intro G H locs ls hR hF h1 h2
  replace hR : xRel J s A s.heap G M H locs := hR
  have ii : xIn 0 i := (hF.2.2.2 (0, i) (by simp)).2
  have hT := C.2.2.2.2.2.1
  have ic := hR.1.2.2.2.2.2 a i
  rw [hk] at ic
  have ic : xInN M.2.2.2.1 3 (M.1 a i) := ic
  have k := h G H locs ls hR ⟨hF.1, hF.2.1, hF.2.2.1, fun v hv => ?_⟩ h1 h2
  · have k : W p l e R s m args below meth c H locs (M.2.2.2.1 - c0) (M.2.2.2.2 - s0) Z (F0 m (ps.getD (pc + 1) 0) ls (.int (Int32.ofInt (M.1 a i)) :: r.map (xc G.1))) := k
    rw [hn] at k
    have ei : ((i.toNat : Nat) : Int) = i := Int.toNat_of_nonneg hi0
    have h0 : 0 < a := by
      rcases hR.1.2.1 a (by omega) with z | z
      · subst z
        have q := hR.1.2.2.2.1 (by omega)
        omega
      · exact z.1
    have h0 : 0 < a := h0
    have hE : (xWs G M)[(a - 1).toNat]? = some (G.1 a, .inl (G.2 a, (M.2.2.1 a).toNat, .inl (fun i => Int32.ofInt (M.1 a (i : Int))))) := by
      rw [xWs_get h0 (xRel_lt hR h0 (by omega)), xE_arr (by omega), hk, xCt_i _ (by omega)]
    have hK := xK1 hT hR h0 (by omega)
    rw [hk] at hK
    show W p l e R s m args below meth c H locs (M.2.2.2.1 - c0) (M.2.2.2.2 - s0) Z (F0 m (ps.getD pc 0) ls (.int (Int32.ofInt i) :: xc G.1 (2, a) :: r.map (xc G.1)))
    rw [xc_ref (show a ≠ 0 by omega)]
    refine va_zald C.1 C.2.1 hK hR.2.1 (a - 1).toNat 0 hE rfl (xi_vin ii hi0 hi1) hd ?_
    rw [xi_cl ii, ei]
    exact k
  · have hv : v ∈ ((0, M.1 a i) :: r : List xV) := hv
    rcases List.mem_cons.mp hv with rfl | hv
    · exact ⟨Nat.le_of_ble_eq_true rfl, xIn30 ic⟩
    · exact hF.2.2.2 v (by simp [hv])
theorem o_laload (C : xCtx p R s m args c own cc nL d J A) (hd : decode cc (ps.getD pc 0) = .ok (.laload, 1)) (hn : ps.getD (pc + 1) 0 = ps.getD pc 0 + 1) {a i : Int} (hk : M.2.1 a = 23) (hi0 : 0 ≤ i) (hi1 : i < M.2.2.1 a) (h : xRd (p, l, e, R, s, m, args, below, meth, c) J A Z nL c0 s0 ps (pc + 1, L, (1, M.1 a i) :: r, M)) : xRd (p, l, e, R, s, m, args, below, meth, c) J A Z nL c0 s0 ps (pc, L, (0, i) :: (2, a) :: r, M) := by
  intro G H locs ls hR hF h1 h2
  replace hR : xRel J s A s.heap G M H locs := hR
  have ii : xIn 0 i := (hF.2.2.2 (0, i) (by simp)).2
  have hT := C.2.2.2.2.2.1
  have ic := hR.1.2.2.2.2.2 a i
  rw [hk] at ic
  have ic : xInN M.2.2.2.1 1 (M.1 a i) := ic
  have k := h G H locs ls hR ⟨hF.1, hF.2.1, hF.2.2.1, fun v hv => ?_⟩ h1 h2
  · have k : W p l e R s m args below meth c H locs (M.2.2.2.1 - c0) (M.2.2.2.2 - s0) Z (F0 m (ps.getD (pc + 1) 0) ls (.long (Int64.ofInt (M.1 a i)) :: r.map (xc G.1))) := k
    rw [hn] at k
    have ei : ((i.toNat : Nat) : Int) = i := Int.toNat_of_nonneg hi0
    have h0 : 0 < a := by
      rcases hR.1.2.1 a (by omega) with z | z
      · subst z
        have q := hR.1.2.2.2.1 (by omega)
        omega
      · exact z.1
    have h0 : 0 < a := h0
    have hE : (xWs G M)[(a - 1).toNat]? = some (G.1 a, .inl (G.2 a, (M.2.2.1 a).toNat, .inr (.inl (fun i => Int64.ofInt (M.1 a (i : Int)))))) := by
      rw [xWs_get h0 (xRel_lt hR h0 (by omega)), xE_arr (by omega), hk, xCt_j]
    have hK := xK1 hT hR h0 (by omega)
    rw [hk] at hK
    show W p l e R s m args below meth c H locs (M.2.2.2.1 - c0) (M.2.2.2.2 - s0) Z (F0 m (ps.getD pc 0) ls (.int (Int32.ofInt i) :: xc G.1 (2, a) :: r.map (xc G.1)))
    rw [xc_ref (show a ≠ 0 by omega)]
    refine va_lald C.1 C.2.1 hK hR.2.1 (a - 1).toNat 0 hE rfl (xi_vin ii hi0 hi1) hd ?_
    rw [xi_cl ii, ei]
    exact k
  · have hv : v ∈ ((1, M.1 a i) :: r : List xV) := hv
    rcases List.mem_cons.mp hv with rfl | hv
    · exact ⟨Nat.le_of_ble_eq_true rfl, ic⟩
    · exact hF.2.2.2 v (by simp [hv])
theorem o_aaload (C : xCtx p R s m args c own cc nL d J A) (hd : decode cc (ps.getD pc 0) = .ok (.aaload, 1)) (hn : ps.getD (pc + 1) 0 = ps.getD pc 0 + 1) {a i : Int} (hk : 24 ≤ M.2.1 a) (hi0 : 0 ≤ i) (hi1 : i < M.2.2.1 a) (h : xRd (p, l, e, R, s, m, args, below, meth, c) J A Z nL c0 s0 ps (pc + 1, L, (2, M.1 a i) :: r, M)) : xRd (p, l, e, R, s, m, args, below, meth, c) J A Z nL c0 s0 ps (pc, L, (0, i) :: (2, a) :: r, M) := by
  intro G H locs ls hR hF h1 h2
  replace hR : xRel J s A s.heap G M H locs := hR
  have ii : xIn 0 i := (hF.2.2.2 (0, i) (by simp)).2
  have hT := C.2.2.2.2.2.1
  have ic := hR.1.2.2.2.2.2 a i
  rw [xTy_ge hk] at ic
  have k := h G H locs ls hR ⟨hF.1, hF.2.1, hF.2.2.1, fun v hv => ?_⟩ h1 h2
  · have k : W p l e R s m args below meth c H locs (M.2.2.2.1 - c0) (M.2.2.2.2 - s0) Z (F0 m (ps.getD (pc + 1) 0) ls (xc G.1 (2, M.1 a i) :: r.map (xc G.1))) := k
    rw [hn] at k
    have ei : ((i.toNat : Nat) : Int) = i := Int.toNat_of_nonneg hi0
    have h0 : 0 < a := by
      rcases hR.1.2.1 a (by omega) with z | z
      · subst z
        have q := hR.1.2.2.2.1 (by omega)
        omega
      · exact z.1
    have hE : (xWs G M)[(a - 1).toNat]? = some (G.1 a, .inl (G.2 a, (M.2.2.1 a).toNat, .inr (.inr (.inr (.inr (fun i => xRv G.1 (M.1 a (i : Int)))))))) := by
      rw [xWs_get h0 (xRel_lt hR h0 (by omega)), xE_arr (by omega), xCt_r _ hk]
    have hK := (xK1 hT hR h0 (by omega)).2 0 _ rfl
    have hv := xi_vin ii hi0 hi1
    show W p l e R s m args below meth c H locs (M.2.2.2.1 - c0) (M.2.2.2.2 - s0) Z (F0 m (ps.getD pc 0) ls (.int (Int32.ofInt i) :: xc G.1 (2, a) :: r.map (xc G.1)))
    rw [xc_ref (show a ≠ 0 by omega)]
    have hlt : (Int32.ofInt i).toNatClampNeg < (M.2.2.1 a).toNat := Nat.not_le.mp fun q => hv (Or.inr q)
    refine W.aald (v := va_rf (xRv G.1 (M.1 a (((Int32.ofInt i).toNatClampNeg : Nat) : Int)))) (ty := xAt (M.2.1 a)) C.1 C.2.1 (hR.2.1 _ _ hE) (hK.1 (M.2.2.1 a).toNat (fun j => va_rf (xRv G.1 (M.1 a (j : Int))))) (xAt_ref hk) (fun q => by cases q) (by show ¬ (Int32.ofInt i < 0 ∨ (arrV _ _ _).slots.size ≤ _); rw [arrV_size]; exact hv) (by show (arrV _ _ _).slots[_]? = _; rw [arrV_read _ _ hlt]) rfl rfl hd ?_
    rw [xi_cl ii, ei]
    exact k
  · have hv : v ∈ ((2, M.1 a i) :: r : List xV) := hv
    rcases List.mem_cons.mp hv with rfl | hv
    · exact ⟨Nat.le_of_ble_eq_true rfl, ic⟩
    · exact hF.2.2.2 v (by simp [hv])
theorem o_alen (C : xCtx p R s m args c own cc nL d J A) (hd : decode cc (ps.getD pc 0) = .ok (.arraylength, 1)) (hn : ps.getD (pc + 1) 0 = ps.getD pc 0 + 1) {a : Int} (hk : 20 ≤ M.2.1 a) (h : xRd (p, l, e, R, s, m, args, below, meth, c) J A Z nL c0 s0 ps (pc + 1, L, (0, M.2.2.1 a) :: r, M)) : xRd (p, l, e, R, s, m, args, below, meth, c) J A Z nL c0 s0 ps (pc, L, (2, a) :: r, M) := by
  intro G H locs ls hR hF h1 h2
  replace hR : xRel J s A s.heap G M H locs := hR
  have hT := C.2.2.2.2.2.1
  have hN := hR.1.2.2.2.2.1 a hk
  have iN : xIn 0 (M.2.2.1 a) := by
    show (-2147483648 : Int) ≤ M.2.2.1 a ∧ M.2.2.1 a < 2147483648
    omega
  have k := h G H locs ls hR ⟨hF.1, hF.2.1, hF.2.2.1, fun v hv => ?_⟩ h1 h2
  · have k : W p l e R s m args below meth c H locs (M.2.2.2.1 - c0) (M.2.2.2.2 - s0) Z (F0 m (ps.getD (pc + 1) 0) ls (.int (Int32.ofInt (M.2.2.1 a)) :: r.map (xc G.1))) := k
    rw [hn] at k
    show W p l e R s m args below meth c H locs (M.2.2.2.1 - c0) (M.2.2.2.2 - s0) Z (F0 m (ps.getD pc 0) ls (xc G.1 (2, a) :: r.map (xc G.1)))
    rcases hR.1.2.1 a (by omega) with h0 | ⟨h0, -⟩
    · subst h0
      obtain ⟨hX, hbl, hbA, -⟩ := C.2.2.2.2.2.2.1
      obtain ⟨g1, -, -, g3⟩ := hR.2.2.2.2.2
      obtain ⟨g4, g5⟩ := g3 (hR.1.2.2.2.1 (by omega))
      rw [xc_ref (show (-1 : Int) ≠ 0 by decide), g1]
      refine va_slen C.1 C.2.1 hX hbl hbA hR.2.2.2.1 hd ?_
      rw [g4, xi_nat] at k
      exact k
    · rw [xc_ref (show a ≠ 0 by omega)]
      have hE : (xWs G M)[(a - 1).toNat]? = some (G.1 a, .inl (G.2 a, (M.2.2.1 a).toNat, xCont G.1 (M.2.1 a) (M.1 a))) := by
        rw [xWs_get h0 (xRel_lt hR h0 (by omega)), xE_arr hk]
      refine va_alen C.1 C.2.1 (xK1 hT hR h0 hk) hR.2.1 (a - 1).toNat 0 hE rfl (v := Int32.ofInt (M.2.2.1 a)) ?_ hd k
      show Int32.ofNat (M.2.2.1 a).toNat = _
      rw [← xi_nat, Int.toNat_of_nonneg hN.1]
  · have hv : v ∈ ((0, M.2.2.1 a) :: r : List xV) := hv
    rcases List.mem_cons.mp hv with rfl | hv
    · exact ⟨Nat.le_of_ble_eq_true rfl, iN⟩
    · exact hF.2.2.2 v (by simp [hv])
theorem o_iastore (C : xCtx p R s m args c own cc nL d J A) (hd : decode cc (ps.getD pc 0) = .ok (.iastore, 1)) (hn : ps.getD (pc + 1) 0 = ps.getD pc 0 + 1) {a i x : Int} (h0 : 0 < a) (hk : M.2.1 a = 20) (hi0 : 0 ≤ i) (hi1 : i < M.2.2.1 a) (h : xRd (p, l, e, R, s, m, args, below, meth, c) J A Z nL c0 s0 ps (pc + 1, L, r, (xUp M.1 a i (x), M.2))) : xRd (p, l, e, R, s, m, args, below, meth, c) J A Z nL c0 s0 ps (pc, L, (0, x) :: (0, i) :: (2, a) :: r, M) := by
  intro G H locs ls hR hF h1 h2
  replace hR : xRel J s A s.heap G M H locs := hR
  have ix : xIn 0 x := (hF.2.2.2 (0, x) (by simp)).2
  have ii : xIn 0 i := (hF.2.2.2 (0, i) (by simp)).2
  have hT := C.2.2.2.2.2.1
  have hE : (xWs G M)[(a - 1).toNat]? = some (G.1 a, .inl (G.2 a, (M.2.2.1 a).toNat, .inl (fun i => Int32.ofInt (M.1 a (i : Int))))) := by
    rw [xWs_get h0 (xRel_lt hR h0 (by omega)), xE_arr (by omega), hk, xCt_i _ (by omega)]
  have hK := xK1 hT hR h0 (by omega)
  rw [hk] at hK
  show W p l e R s m args below meth c H locs (M.2.2.2.1 - c0) (M.2.2.2.2 - s0) Z (F0 m (ps.getD pc 0) ls (.int (Int32.ofInt x) :: .int (Int32.ofInt i) :: xc G.1 (2, a) :: r.map (xc G.1)))
  rw [xc_ref (show a ≠ 0 by omega)]
  refine va_iast C.1 C.2.1 hK hR.2.1 hR.2.2.1 hR.2.2.2.1 (a - 1).toNat 0 hE rfl (xi_vin ii hi0 hi1) hd (fun H1 locs1 hP hD hS => ?_)
  have hR2 := xRel_set (D' := xUp M.1 a i (x)) hR h0 (fun b hb => xUp_ne _ hb) (xUp_v (hR.1.2.2.2.2.2 a) (t := 0) (by rw [hk]; rfl) ix) (by
    rw [xE_arr (by show 20 ≤ M.2.1 a; omega)]
    show _ = (G.1 a, Sum.inl (G.2 a, (M.2.2.1 a).toNat, xCont G.1 (M.2.1 a) (xUp M.1 a i (x) a)))
    rw [hk, xCt_i _ (by omega), xUp_i _ _ _ hi0, xi_cl ii]) hP hD hS
  have k := h G H1 locs1 ls hR2 ⟨hF.1, hF.2.1, hF.2.2.1, fun v hv => hF.2.2.2 v (by simp [show v ∈ r from hv])⟩ h1 h2
  have k : W p l e R s m args below meth c H1 locs1 (M.2.2.2.1 - c0) (M.2.2.2.2 - s0) Z (F0 m (ps.getD (pc + 1) 0) ls (r.map (xc G.1))) := k
  rw [hn] at k
  exact k
theorem o_bastore (C : xCtx p R s m args c own cc nL d J A) (hd : decode cc (ps.getD pc 0) = .ok (.bastore, 1)) (hn : ps.getD (pc + 1) 0 = ps.getD pc 0 + 1) {a i x : Int} (h0 : 0 < a) (hk : M.2.1 a = 21) (hi0 : 0 ≤ i) (hi1 : i < M.2.2.1 a) (h : xRd (p, l, e, R, s, m, args, below, meth, c) J A Z nL c0 s0 ps (pc + 1, L, r, (xUp M.1 a i (w8 x), M.2))) : xRd (p, l, e, R, s, m, args, below, meth, c) J A Z nL c0 s0 ps (pc, L, (0, x) :: (0, i) :: (2, a) :: r, M) := by
  intro G H locs ls hR hF h1 h2
  replace hR : xRel J s A s.heap G M H locs := hR
  have ix : xIn 0 x := (hF.2.2.2 (0, x) (by simp)).2
  have ii : xIn 0 i := (hF.2.2.2 (0, i) (by simp)).2
  have hT := C.2.2.2.2.2.1
  have hE : (xWs G M)[(a - 1).toNat]? = some (G.1 a, .inl (G.2 a, (M.2.2.1 a).toNat, .inl (fun i => Int32.ofInt (M.1 a (i : Int))))) := by
    rw [xWs_get h0 (xRel_lt hR h0 (by omega)), xE_arr (by omega), hk, xCt_i _ (by omega)]
  have hK := xK1 hT hR h0 (by omega)
  rw [hk] at hK
  show W p l e R s m args below meth c H locs (M.2.2.2.1 - c0) (M.2.2.2.2 - s0) Z (F0 m (ps.getD pc 0) ls (.int (Int32.ofInt x) :: .int (Int32.ofInt i) :: xc G.1 (2, a) :: r.map (xc G.1)))
  rw [xc_ref (show a ≠ 0 by omega)]
  refine va_bast C.1 C.2.1 hK hR.2.1 hR.2.2.1 hR.2.2.2.1 (a - 1).toNat 0 hE rfl (xi_vin ii hi0 hi1) hd (fun H1 locs1 hP hD hS => ?_)
  have hR2 := xRel_set (D' := xUp M.1 a i (w8 x)) hR h0 (fun b hb => xUp_ne _ hb) (xUp_v (hR.1.2.2.2.2.2 a) (t := 4) (by rw [hk]; rfl) (w8_in x)) (by
    rw [xE_arr (by show 20 ≤ M.2.1 a; omega)]
    show _ = (G.1 a, Sum.inl (G.2 a, (M.2.2.1 a).toNat, xCont G.1 (M.2.1 a) (xUp M.1 a i (w8 x) a)))
    rw [hk, xCt_i _ (by omega), xUp_i _ _ _ hi0, xi_cl ii, vp_nar_byte, xi_b x ix]) hP hD hS
  have k := h G H1 locs1 ls hR2 ⟨hF.1, hF.2.1, hF.2.2.1, fun v hv => hF.2.2.2 v (by simp [show v ∈ r from hv])⟩ h1 h2
  have k : W p l e R s m args below meth c H1 locs1 (M.2.2.2.1 - c0) (M.2.2.2.2 - s0) Z (F0 m (ps.getD (pc + 1) 0) ls (r.map (xc G.1))) := k
  rw [hn] at k
  exact k
theorem o_castore (C : xCtx p R s m args c own cc nL d J A) (hd : decode cc (ps.getD pc 0) = .ok (.bastore, 1)) (hn : ps.getD (pc + 1) 0 = ps.getD pc 0 + 1) {a i x : Int} (h0 : 0 < a) (hk : M.2.1 a = 22) (hi0 : 0 ≤ i) (hi1 : i < M.2.2.1 a) (hb1 : x = 0 ∨ x = 1) (h : xRd (p, l, e, R, s, m, args, below, meth, c) J A Z nL c0 s0 ps (pc + 1, L, r, (xUp M.1 a i (x), M.2))) : xRd (p, l, e, R, s, m, args, below, meth, c) J A Z nL c0 s0 ps (pc, L, (0, x) :: (0, i) :: (2, a) :: r, M) := by
  intro G H locs ls hR hF h1 h2
  replace hR : xRel J s A s.heap G M H locs := hR
  have ix : xIn 0 x := (hF.2.2.2 (0, x) (by simp)).2
  have ii : xIn 0 i := (hF.2.2.2 (0, i) (by simp)).2
  have hT := C.2.2.2.2.2.1
  have hE : (xWs G M)[(a - 1).toNat]? = some (G.1 a, .inl (G.2 a, (M.2.2.1 a).toNat, .inl (fun i => Int32.ofInt (M.1 a (i : Int))))) := by
    rw [xWs_get h0 (xRel_lt hR h0 (by omega)), xE_arr (by omega), hk, xCt_i _ (by omega)]
  have hK := xK1 hT hR h0 (by omega)
  rw [hk] at hK
  show W p l e R s m args below meth c H locs (M.2.2.2.1 - c0) (M.2.2.2.2 - s0) Z (F0 m (ps.getD pc 0) ls (.int (Int32.ofInt x) :: .int (Int32.ofInt i) :: xc G.1 (2, a) :: r.map (xc G.1)))
  rw [xc_ref (show a ≠ 0 by omega)]
  refine va_zast C.1 C.2.1 hK hR.2.1 hR.2.2.1 hR.2.2.2.1 (a - 1).toNat 0 hE rfl (xi_vin ii hi0 hi1) hd (fun H1 locs1 hP hD hS => ?_)
  have hR2 := xRel_set (D' := xUp M.1 a i (x)) hR h0 (fun b hb => xUp_ne _ hb) (xUp_v (hR.1.2.2.2.2.2 a) (t := 3) (by rw [hk]; rfl) hb1) (by
    rw [xE_arr (by show 20 ≤ M.2.1 a; omega)]
    show _ = (G.1 a, Sum.inl (G.2 a, (M.2.2.1 a).toNat, xCont G.1 (M.2.1 a) (xUp M.1 a i (x) a)))
    rw [hk, xCt_i _ (by omega), xUp_i _ _ _ hi0, xi_cl ii, xi_bool hb1]) hP hD hS
  have k := h G H1 locs1 ls hR2 ⟨hF.1, hF.2.1, hF.2.2.1, fun v hv => hF.2.2.2 v (by simp [show v ∈ r from hv])⟩ h1 h2
  have k : W p l e R s m args below meth c H1 locs1 (M.2.2.2.1 - c0) (M.2.2.2.2 - s0) Z (F0 m (ps.getD (pc + 1) 0) ls (r.map (xc G.1))) := k
  rw [hn] at k
  exact k
theorem o_lastore (C : xCtx p R s m args c own cc nL d J A) (hd : decode cc (ps.getD pc 0) = .ok (.lastore, 1)) (hn : ps.getD (pc + 1) 0 = ps.getD pc 0 + 1) {a i x : Int} (h0 : 0 < a) (hk : M.2.1 a = 23) (hi0 : 0 ≤ i) (hi1 : i < M.2.2.1 a) (h : xRd (p, l, e, R, s, m, args, below, meth, c) J A Z nL c0 s0 ps (pc + 1, L, r, (xUp M.1 a i (x), M.2))) : xRd (p, l, e, R, s, m, args, below, meth, c) J A Z nL c0 s0 ps (pc, L, (1, x) :: (0, i) :: (2, a) :: r, M) := by
  intro G H locs ls hR hF h1 h2
  replace hR : xRel J s A s.heap G M H locs := hR
  have ix : xIn 1 x := (hF.2.2.2 (1, x) (by simp)).2
  have ii : xIn 0 i := (hF.2.2.2 (0, i) (by simp)).2
  have hT := C.2.2.2.2.2.1
  have hE : (xWs G M)[(a - 1).toNat]? = some (G.1 a, .inl (G.2 a, (M.2.2.1 a).toNat, .inr (.inl (fun i => Int64.ofInt (M.1 a (i : Int)))))) := by
    rw [xWs_get h0 (xRel_lt hR h0 (by omega)), xE_arr (by omega), hk, xCt_j]
  have hK := xK1 hT hR h0 (by omega)
  rw [hk] at hK
  show W p l e R s m args below meth c H locs (M.2.2.2.1 - c0) (M.2.2.2.2 - s0) Z (F0 m (ps.getD pc 0) ls (.long (Int64.ofInt x) :: .int (Int32.ofInt i) :: xc G.1 (2, a) :: r.map (xc G.1)))
  rw [xc_ref (show a ≠ 0 by omega)]
  refine va_last C.1 C.2.1 hK hR.2.1 hR.2.2.1 hR.2.2.2.1 (a - 1).toNat 0 hE rfl (xi_vin ii hi0 hi1) hd (fun H1 locs1 hP hD hS => ?_)
  have hR2 := xRel_set (D' := xUp M.1 a i (x)) hR h0 (fun b hb => xUp_ne _ hb) (xUp_v (hR.1.2.2.2.2.2 a) (t := 1) (by rw [hk]; rfl) ix) (by
    rw [xE_arr (by show 20 ≤ M.2.1 a; omega)]
    show _ = (G.1 a, Sum.inl (G.2 a, (M.2.2.1 a).toNat, xCont G.1 (M.2.1 a) (xUp M.1 a i (x) a)))
    rw [hk, xCt_j, xUp_j _ _ _ hi0, xi_cl ii]) hP hD hS
  have k := h G H1 locs1 ls hR2 ⟨hF.1, hF.2.1, hF.2.2.1, fun v hv => hF.2.2.2 v (by simp [show v ∈ r from hv])⟩ h1 h2
  have k : W p l e R s m args below meth c H1 locs1 (M.2.2.2.1 - c0) (M.2.2.2.2 - s0) Z (F0 m (ps.getD (pc + 1) 0) ls (r.map (xc G.1))) := k
  rw [hn] at k
  exact k
theorem o_aastore (C : xCtx p R s m args c own cc nL d J A) (hd : decode cc (ps.getD pc 0) = .ok (.aastore, 1)) (hn : ps.getD (pc + 1) 0 = ps.getD pc 0 + 1) {a i x : Int} (h0 : 0 < a) (hk : xEl (M.2.1 a) = M.2.1 x) (hk2 : 0 ≤ M.2.1 x) (hi0 : 0 ≤ i) (hi1 : i < M.2.2.1 a) (h : xRd (p, l, e, R, s, m, args, below, meth, c) J A Z nL c0 s0 ps (pc + 1, L, r, (xUp M.1 a i x, M.2))) : xRd (p, l, e, R, s, m, args, below, meth, c) J A Z nL c0 s0 ps (pc, L, (2, x) :: (0, i) :: (2, a) :: r, M) := by
  intro G H locs ls hR hF h1 h2
  replace hR : xRel J s A s.heap G M H locs := hR
  have ix : x < (M.2.2.2.1 : Int) := (hF.2.2.2 (2, x) (by simp)).2
  have ii : xIn 0 i := (hF.2.2.2 (0, i) (by simp)).2
  have hT := C.2.2.2.2.2.1
  obtain ⟨q1, q2, q3⟩ := xEl_ok hk hk2
  have hx0 : 0 < x := by
    rcases hR.1.2.1 x hk2 with z | z
    · subst z
      have q := hR.1.2.2.2.1 hk2
      omega
    · exact z.1
  have hE : (xWs G M)[(a - 1).toNat]? = some (G.1 a, .inl (G.2 a, (M.2.2.1 a).toNat, .inr (.inr (.inr (.inr (fun i => xRv G.1 (M.1 a (i : Int)))))))) := by
    rw [xWs_get h0 (xRel_lt hR h0 (by omega)), xE_arr (by omega), xCt_r _ (by omega)]
  have hE2 : (xWs G M)[(x - 1).toNat]? = some (G.1 x, .inr ((M.2.1 x).toNat, xFs G.1 (M.2.1 x).toNat (M.1 x))) := by
    rw [xWs_get hx0 ix, xE_obj (c := (M.2.1 x).toNat) (by omega) (by omega)]
  have hK := xK1 hT hR h0 (by omega)
  rw [q3] at hK
  show W p l e R s m args below meth c H locs (M.2.2.2.1 - c0) (M.2.2.2.2 - s0) Z (F0 m (ps.getD pc 0) ls (xc G.1 (2, x) :: .int (Int32.ofInt i) :: xc G.1 (2, a) :: r.map (xc G.1)))
  rw [xc_ref (show a ≠ 0 by omega), xc_ref (show x ≠ 0 by omega)]
  refine va_astq C.1 C.2.1 hK hR.2.1 hR.2.2.1 hR.2.2.2.1 (a - 1).toNat 0 (x - 1).toNat (M.2.1 x).toNat hE rfl hE2 (xCl_get _ (by omega)) (xi_vin ii hi0 hi1) hd (fun H1 locs1 hP hD hS => ?_)
  have hR2 := xRel_set (D' := xUp M.1 a i x) hR h0 (fun b hb => xUp_ne _ hb) (xUp_v (hR.1.2.2.2.2.2 a) (t := 2) (xTy_ge (by omega)) ix) (by
    rw [xE_arr (by show 20 ≤ M.2.1 a; omega)]
    show _ = (G.1 a, Sum.inl (G.2 a, (M.2.2.1 a).toNat, xCont G.1 (M.2.1 a) (xUp M.1 a i x a)))
    rw [xCt_r _ (by omega), xUp_r _ _ _ (show x ≠ 0 by omega) hi0, xi_cl ii]) hP hD hS
  have k := h G H1 locs1 ls hR2 ⟨hF.1, hF.2.1, hF.2.2.1, fun v hv => hF.2.2.2 v (by simp [show v ∈ r from hv])⟩ h1 h2
  have k : W p l e R s m args below meth c H1 locs1 (M.2.2.2.1 - c0) (M.2.2.2.2 - s0) Z (F0 m (ps.getD (pc + 1) 0) ls (r.map (xc G.1))) := k
  rw [hn] at k
  exact k
end XOPU
end
section
theorem xGw_of {w : Cond} (h : w ∈ tables_1) (g : goodWord w = true) : w ∈ xGw := List.mem_filter.mpr ⟨x_in h, g⟩
theorem xUws_good {C : String} {T : u_T} {N : Nat} : ∀ w ∈ u_ws C T N, goodWord w = true := by
  intro w hw
  obtain ⟨k, -, rfl⟩ := List.mem_map.mp hw
  unfold u_lay
  split <;> rfl
theorem xCl_gw {c : Nat} (hc : c < 13) : ∀ w ∈ u_ws (xCl c).1 (xCl c).2.1 (xCl c).2.2, w ∈ xGw := fun w hw => List.mem_filter.mpr ⟨xCl_in c hc w hw, xUws_good w hw⟩
theorem xFl_rng : xFl.all (fun e => Nat.blt e.2.2.1 13 && Nat.blt e.2.2.2 (xCl e.2.2.1).2.2) = true := by decide +kernel
theorem xFn_rng : xFn.all (fun e => Nat.blt e.2.2.1 13 && Nat.blt e.2.2.2 (xCl e.2.2.1).2.2) = true := by decide +kernel
theorem xFd_rng {own i c k : Nat} (h : (own, i, c, k) ∈ xFl ∨ (own, i, c, k) ∈ xFn) : c < 13 ∧ k < (xCl c).2.2 := by
  have q : (Nat.blt c 13 && Nat.blt k (xCl c).2.2) = true := by
    rcases h with h | h
    · exact List.all_eq_true.mp xFl_rng _ h
    · exact List.all_eq_true.mp xFn_rng _ h
  simp only [Bool.and_eq_true, Nat.blt_eq] at q
  exact q
theorem xTg_le {c k : Nat} (hc : c < 13) (hk : k < (xCl c).2.2) : xTg (xFT c k) ≤ 2 := by
  rcases xFt_code hc hk with ⟨-, e⟩ | ⟨-, e⟩ | ⟨-, e⟩ | ⟨-, e⟩ <;> rw [e] <;> decide
theorem xTg_in {n c k : Nat} {x : Int} (hc : c < 13) (hk : k < (xCl c).2.2) (h : xInN n (xFT c k) x) : xInN n (xTg (xFT c k)) x := by
  rcases xFt_code hc hk with ⟨-, e⟩ | ⟨-, e⟩ | ⟨-, e⟩ | ⟨-, e⟩ <;> rw [e] at h ⊢
  · exact h
  · exact xIn30 h
  · exact h
  · exact h
theorem xOk_obj {M : xH} (hok : xOk M) {a : Int} {c : Nat} (hk : M.2.1 a = (c : Int)) (hc : c < 13) : 0 < a ∧ a < (M.2.2.2.1 : Int) := by
  rcases hok.2.1 a (by omega) with z | z
  · subst z
    have q := hok.2.2.2.1 (by omega)
    omega
  · exact z
theorem xOk_fld {M : xH} (hok : xOk M) {a : Int} {c k : Nat} (hk : M.2.1 a = (c : Int)) (hc : c < 13) : xInN M.2.2.2.1 (xFT c k) (M.1 a (k : Int)) := by
  have q := hok.2.2.2.2.2 a (k : Int)
  rw [xTy_cl (by omega) (by omega), hk] at q
  exact q
theorem xFs_def {ad : Int → Nat} {c : Nat} (hc : c < 13) : ∀ j, j < (xCl c).2.2 → defaultValue (xTyF c j) = vp_V (xFs ad c (fun _ => 0)) j := by
  intro j hj
  have e : vp_V (xFs ad c (fun _ => 0)) j = xc ad (xTg (xFT c j), 0) := by
    unfold vp_V
    rw [List.getD_eq_getElem?_getD, xFs_get hj]
    rfl
  rw [e]
  rcases xFt_code hc hj with ⟨e1, e2⟩ | ⟨e1, e2⟩ | ⟨e1, e2⟩ | ⟨⟨n, e1⟩ | ⟨n, e1⟩, e2⟩ <;> rw [e1, e2] <;> rfl
theorem xTys_ok {c : Nat} (hc : c < 13) : ∀ k, k < (xCl c).2.2 → parseFieldDescriptor ((xCl c).2.1 k).2.2.1 = some (xTyF c k) := fun _ hk => xFt_parse hc hk
theorem xo_cl : ∀ c : Nat, c < 13 → xo c = (xCl c).1 := x13 rfl rfl rfl rfl rfl rfl rfl rfl rfl rfl rfl rfl rfl
/-- the relation, behind a new object -/
theorem xWs_push {G G' : xG} {M M' : xH} {z : Nat × va_E} (h1 : 1 ≤ M.2.2.2.1) (hn : M'.2.2.2.1 = M.2.2.2.1 + 1) (hz : z = (G'.1 (M.2.2.2.1 : Int), xEnt G' M' (M.2.2.2.1 : Int))) (hE : ∀ b : Int, 0 < b → b < (M.2.2.2.1 : Int) → G'.1 b = G.1 b ∧ xEnt G' M' b = xEnt G M b) : xWs G M ++ [z] = xWs G' M' := by
  subst hz
  unfold xWs
  have e : M'.2.2.2.1 - 1 = (M.2.2.2.1 - 1) + 1 := by omega
  rw [e, List.range_succ, List.map_append]
  congr 1
  · apply List.map_congr_left
    intro k hk
    have hk := List.mem_range.mp hk
    have q := hE ((k : Int) + 1) (by omega) (by omega)
    rw [q.1, q.2]
  · have e2 : ((M.2.2.2.1 - 1 : Nat) : Int) + 1 = (M.2.2.2.1 : Int) := by omega
    show _ = [(G'.1 (((M.2.2.2.1 - 1 : Nat) : Int) + 1), xEnt G' M' (((M.2.2.2.1 - 1 : Nat) : Int) + 1))]
    rw [e2]
def xGn (G : xG) (n : Int) (q : Nat) (cA : ClassId) : xG := (fun b => if b = n then q else G.1 b, fun b => if b = n then cA else G.2 b)
theorem xGn_ne {G : xG} {n b : Int} {q : Nat} {cA : ClassId} (h : b ≠ n) : (xGn G n q cA).1 b = G.1 b ∧ (xGn G n q cA).2 b = G.2 b := ⟨if_neg h, if_neg h⟩
theorem xRel_push {J : xJT} {s : State} {A : Nat → Prop} {H0 H H1 : Heap} {G : xG} {M : xH} {locs locs1 : List Loc} {κ n : Int} {ns q : Nat} {cA : ClassId} {z : Nat × va_E} (hR : xRel J s A H0 G M H locs) (hκ : (0 ≤ κ ∧ κ < 13) ∨ (20 ≤ κ ∧ κ ≤ 28)) (hn : 0 ≤ n ∧ n < 2147483648) (hkn : 20 ≤ κ → ArrOfT s cA (xAt κ) ∧ va_RA s cA (xAt κ)) (hz : z = (q, xEnt (xGn G (M.2.2.2.1 : Int) q cA) (xNw M κ n ns) (M.2.2.2.1 : Int))) (hP : va_P J.1 vwCl (xWs G M ++ [z]) H1) (hD : va_D A (xWs G M ++ [z])) (hS : va_S A H0 H1 locs1) : xRel J s A H0 (xGn G (M.2.2.2.1 : Int) q cA) (xNw M κ n ns) H1 locs1 := by
  obtain ⟨k0, -, -, -, k4, k5⟩ := hR
  have hx1 := k0.1
  have hK : ∀ b : Int, b ≠ (M.2.2.2.1 : Int) → (xNw M κ n ns).1 b = M.1 b ∧ (xNw M κ n ns).2.1 b = M.2.1 b ∧ (xNw M κ n ns).2.2.1 b = M.2.2.1 b := fun b hb => by
    refine ⟨funext fun j => ?_, ?_, ?_⟩
    · show (if b = (M.2.2.2.1 : Int) then 0 else M.1 b j) = _; rw [if_neg hb]
    · show (if b = (M.2.2.2.1 : Int) then κ else M.2.1 b) = _; rw [if_neg hb]
    · show (if b = (M.2.2.2.1 : Int) then n else M.2.2.1 b) = _; rw [if_neg hb]
  have hC : (xNw M κ n ns).2.1 (M.2.2.2.1 : Int) = κ := by
    show (if (M.2.2.2.1 : Int) = (M.2.2.2.1 : Int) then κ else _) = _; rw [if_pos rfl]
  have hN : (xNw M κ n ns).2.2.1 (M.2.2.2.1 : Int) = n := by
    show (if (M.2.2.2.1 : Int) = (M.2.2.2.1 : Int) then n else _) = _; rw [if_pos rfl]
  have e : xWs G M ++ [z] = xWs (xGn G (M.2.2.2.1 : Int) q cA) (xNw M κ n ns) := by
    refine xWs_push hx1 rfl ?_ (fun b b0 b1 => ⟨(xGn_ne (by omega)).1, ?_⟩)
    · rw [hz]
      show _ = ((if (M.2.2.2.1 : Int) = (M.2.2.2.1 : Int) then q else _), _)
      rw [if_pos rfl]
    · obtain ⟨e1, e2, e3⟩ := hK b (by omega)
      have e4 : xEnt (xGn G (M.2.2.2.1 : Int) q cA) (xNw M κ n ns) b = xEnt (xGn G (M.2.2.2.1 : Int) q cA) M b := by
        unfold xEnt
        rw [e1, e2, e3]
      rw [e4]
      exact xEnt_ext k0 b0 b1 (fun y hy => (xGn_ne (by omega)).1) (xGn_ne (by omega)).2
  rw [e] at hP hD
  refine ⟨⟨by show 1 ≤ M.2.2.2.1 + 1; omega, fun a ha => ?_, fun a a0 a1 => ?_, fun ha => ?_, fun a ha => ?_, fun a j => ?_⟩, hP, hD, hS, fun a a0 a1 ha => ?_, ?_, ⟨fun j hj => ?_, fun b hb => ?_⟩, ?_, fun ha => ?_⟩
  · show a = -1 ∨ (0 < a ∧ a < ((M.2.2.2.1 + 1 : Nat) : Int))
    by_cases hb : a = (M.2.2.2.1 : Int)
    · right; omega
    · rw [(hK a hb).2.1] at ha
      rcases k0.2.1 a ha with y | y
      · left; exact y
      · right; omega
  · have a1 : a < ((M.2.2.2.1 + 1 : Nat) : Int) := a1
    by_cases hb : a = (M.2.2.2.1 : Int)
    · rw [hb, hC]; exact hκ
    · rw [(hK a hb).2.1]; exact k0.2.2.1 a a0 (by omega)
  · rw [(hK (-1) (by omega)).2.1] at ha ⊢; exact k0.2.2.2.1 ha
  · by_cases hb : a = (M.2.2.2.1 : Int)
    · rw [hb, hN]; exact hn
    · rw [(hK a hb).2.1] at ha
      rw [(hK a hb).2.2]
      exact k0.2.2.2.2.1 a ha
  · show xInN (M.2.2.2.1 + 1) _ _
    by_cases hb : a = (M.2.2.2.1 : Int)
    · have q0 : (xNw M κ n ns).1 a j = 0 := by
        show (if a = (M.2.2.2.1 : Int) then 0 else M.1 a j) = _; rw [if_pos hb]
      rw [q0]
      exact xInN_0 (by omega)
    · rw [(hK a hb).1, (hK a hb).2.1]
      exact xInN_mono (k0.2.2.2.2.2 a j) (by omega)
  · have a1 : a < ((M.2.2.2.1 + 1 : Nat) : Int) := a1
    by_cases hb : a = (M.2.2.2.1 : Int)
    · rw [hb, hC] at ha
      rw [hb, hC]
      show ArrOfT s (if (M.2.2.2.1 : Int) = (M.2.2.2.1 : Int) then cA else _) _ ∧ va_RA s (if (M.2.2.2.1 : Int) = (M.2.2.2.1 : Int) then cA else _) _
      rw [if_pos rfl]
      exact hkn ha
    · rw [(hK a hb).2.1] at ha ⊢
      rw [(xGn_ne hb).2]
      exact k4 a a0 (by omega) ha
  · rw [(xGn_ne (by omega)).1]; exact k5.1
  · rw [(xGn_ne (by omega)).1]; exact k5.2.1.1 j hj
  · have z := k5.2.2.1
    rw [(xGn_ne (by omega)).1]; exact k5.2.1.2 b hb
  · have z := k5.2.2.1
    show J.2.2.2.2.2.2.2 ≤ ((M.2.2.2.1 + 1 : Nat) : Int)
    omega
  · rw [(hK (-1) (by omega)).2.1] at ha
    rw [(hK (-1) (by omega)).2.2, (hK (-1) (by omega)).1]
    exact k5.2.2.2 ha
theorem xc_ext {ad ad' : Int → Nat} {n : Nat} (h : ∀ b : Int, b < (n : Int) → ad' b = ad b) {v : xV} (hv : xVk n v) : xc ad' v = xc ad v := by
  obtain ⟨t, x⟩ := v
  obtain ⟨q1, q2⟩ := hv
  match t, q1, q2 with
  | 0, _, _ => rfl
  | 1, _, _ => rfl
  | 2, _, q2 =>
    show va_rf (xRv ad' x) = va_rf (xRv ad x)
    rw [xRv_ext h q2]
theorem xMap_ext {ad ad' : Int → Nat} {n : Nat} (h : ∀ b : Int, b < (n : Int) → ad' b = ad b) {st : List xV} (hv : ∀ v ∈ st, xVk n v) : st.map (xc ad') = st.map (xc ad) := List.map_congr_left fun v hm => xc_ext h (hv v hm)
theorem xVk_mono {n n' : Nat} {v : xV} (h : xVk n v) (hn : n ≤ n') : xVk n' v := ⟨h.1, xInN_mono h.2 hn⟩
theorem xFr_grow {nL : Nat} {G G' : xG} {M M' : xH} {L st : List xV} {ls : Array Slot} (h : xFr nL G M L st ls) (hn : M.2.2.2.1 ≤ M'.2.2.2.1) (hG : ∀ b : Int, b < (M.2.2.2.1 : Int) → G'.1 b = G.1 b) : xFr nL G' M' L st ls := by
  obtain ⟨f1, f2, f3, f4⟩ := h
  refine ⟨xL_sub f1 (fun q hq => ?_), f2, fun v hv => ?_, fun v hv => xVk_mono (f4 v hv) hn⟩
  · obtain ⟨v, hv, h9, he⟩ := xLv_of hq
    have hk := ((f3 v (List.mem_of_getElem? hv)).resolve_left h9).1
    rw [xc_ext hG hk] at he
    have q3 := xLv_mem (ad := G.1) hv h9
    rw [← he] at q3
    exact q3
  · rcases f3 v hv with h9 | h9
    · exact Or.inl h9
    · exact Or.inr ⟨xVk_mono h9.1 hn, h9.2⟩
end
section
theorem AC_boolean : Cond.arrayClass .boolean ∈ tables_1 := List.mem_of_getElem? (i := 393) (by decide +kernel)
theorem AC_byte : Cond.arrayClass .byte ∈ tables_1 := List.mem_of_getElem? (i := 68) (by decide +kernel)
theorem AC_int : Cond.arrayClass .int ∈ tables_1 := List.mem_of_getElem? (i := 69) (by decide +kernel)
theorem AC_long : Cond.arrayClass .long ∈ tables_1 := List.mem_of_getElem? (i := 631) (by decide +kernel)
theorem xIns_all : ∀ c : Nat, c < 13 → Cond.instantiable (xCl c).1 (xCl c).2.2 ∈ tables_1 := x13 xIns_0 xIns_1 xIns_2 xIns_3 xIns_4 xIns_5 xIns_6 xIns_7 xIns_8 xIns_9 xIns_10 xIns_11 xIns_12
theorem xIni_all : ∀ c : Nat, c < 13 → Cond.initialized (xCl c).1 ∈ tables_1 := x13 xIni_0 xIni_1 xIni_2 xIni_3 xIni_4 xIni_5 xIni_6 xIni_7 xIni_8 xIni_9 xIni_10 xIni_11 xIni_12
theorem xCont_ext' (ad ad' : Int → Nat) (κ : Int) : xCont ad' κ (fun _ => 0) = xCont ad κ (fun _ => 0) := by
  unfold xCont
  split
  · rfl
  · split
    · rfl
    · rfl
theorem xCont_0 (ad ad' : Int → Nat) {κ : Int} : xCont ad' κ (fun _ => 0) = xCont ad κ (fun _ => 0) := xCont_ext' ad ad' κ
theorem xCb {κ : Int} {x : Int} (h1 : 20 ≤ κ) (h2 : κ ≤ 23) (h3 : 0 ≤ x) (h4 : x ≤ 1000000) : x.toNat * componentBytes (xAt κ) ≤ 536870912 := by
  have h5 : κ = 20 ∨ κ = 21 ∨ κ = 22 ∨ κ = 23 := by omega
  have h6 : componentBytes (xAt κ) ≤ 8 := by rcases h5 with rfl | rfl | rfl | rfl <;> decide
  calc x.toNat * componentBytes (xAt κ) ≤ x.toNat * 8 := Nat.mul_le_mul_left _ h6
    _ ≤ 536870912 := by omega
theorem xCont_def (ad : Int → Nat) {κ : Int} (h1 : 20 ≤ κ) (h2 : κ ≤ 23) (cA : ClassId) (n : Nat) : vp_cell cA (n, xCont ad κ (fun _ => 0)) = arrV cA n (fun _ => defaultValue (xAt κ)) := by
  have h5 : κ = 20 ∨ κ = 21 ∨ κ = 22 ∨ κ = 23 := by omega
  rcases h5 with rfl | rfl | rfl | rfl <;> rfl
theorem xEl_rng {κ : Nat} (h1 : 25 ≤ κ) (h2 : κ ≤ 28) : (xEl (κ : Int)).toNat < 13 ∧ ((xEl (κ : Int)).toNat = 2 ∨ (xEl (κ : Int)).toNat = 4 ∨ (xEl (κ : Int)).toNat = 5 ∨ (xEl (κ : Int)).toNat = 10) ∧ xAt (κ : Int) = .object (xCl (xEl (κ : Int)).toNat).1 := by
  have h5 : κ = 25 ∨ κ = 26 ∨ κ = 27 ∨ κ = 28 := by omega
  rcases h5 with rfl | rfl | rfl | rfl
  · exact ⟨by decide, Or.inr (Or.inl rfl), rfl⟩
  · exact ⟨by decide, Or.inl rfl, rfl⟩
  · exact ⟨by decide, Or.inr (Or.inr (Or.inr rfl)), rfl⟩
  · exact ⟨by decide, Or.inr (Or.inr (Or.inl rfl)), rfl⟩
theorem xPut_val {ad : Int → Nat} {nx c k t : Nat} {x : Int} {p : Prop} (hc : c < 13) (hk : k < (xCl c).2.2) (h : xPt (xFT c k) t x p) (hv : xVk nx (t, x)) : p ∧ xInN nx (xFT c k) x ∧ xc ad (t, x) = xc ad (xTg (xFT c k), x) ∧ narrow (xTyF c k) (xc ad (t, x)) = xc ad (t, x) ∧ fits (xTyF c k) (xc ad (t, x)) = true := by
  rcases xFt_code hc hk with ⟨e1, e2⟩ | ⟨e1, e2⟩ | ⟨e1, e2⟩ | ⟨e1, e2⟩
  · rw [e2] at h ⊢
    rw [e1]
    match t, h, hv with
    | 0, h, hv => exact ⟨h, hv.2, rfl, rfl, rfl⟩
    | t + 1, h, _ => exact absurd h (by simp [xPt])
  · rw [e2] at h ⊢
    rw [e1]
    match t, h, hv with
    | 0, h, hv =>
      obtain ⟨h1, h2⟩ := h
      exact ⟨h1, h2, rfl, by rcases h2 with rfl | rfl <;> rfl, by rcases h2 with rfl | rfl <;> rfl⟩
    | t + 1, h, _ => exact absurd h (by simp [xPt])
  · rw [e2] at h ⊢
    rw [e1]
    match t, h, hv with
    | 0, h, _ => exact absurd h (by simp [xPt])
    | 1, h, hv => exact ⟨h, hv.2, rfl, rfl, rfl⟩
    | t + 2, h, _ => exact absurd h (by simp [xPt])
  · rw [e2] at h ⊢
    match t, h, hv with
    | 0, h, _ => exact absurd h (by simp [xPt])
    | 1, h, _ => exact absurd h (by simp [xPt])
    | 2, h, hv =>
      refine ⟨h, hv.2, rfl, ?_, ?_⟩
      · rcases e1 with ⟨n, e1⟩ | ⟨n, e1⟩ <;> rw [e1] <;> rfl
      · by_cases hx : x = 0
        · subst hx
          rcases e1 with ⟨n, e1⟩ | ⟨n, e1⟩ <;> rw [e1] <;> rfl
        · rw [xc_ref hx]
          rcases e1 with ⟨n, e1⟩ | ⟨n, e1⟩ <;> rw [e1] <;> rfl
    | t + 3, h, _ => exact absurd h (by simp [xPt])
theorem xFsUp {ad : Int → Nat} {c k : Nat} {D : xD} {a x : Int} {v : Value} (hk : k < (xCl c).2.2) (hv : v = xc ad (xTg (xFT c k), x)) : (xFs ad c (D a)).set k v = xFs ad c (xUp D a (k : Int) x a) := by
  refine xFs_set hk ?_ (fun i hi => ?_)
  · rw [hv]
    show xc ad (_, x) = xc ad (_, if a = a ∧ (k : Int) = (k : Int) then x else D a (k : Int))
    rw [if_pos ⟨rfl, rfl⟩]
  · show (if a = a ∧ i = (k : Int) then x else D a i) = D a i
    rw [if_neg (fun q => hi q.2)]
theorem xAk_ok {t : ArrayType} (h : 0 ≤ xAk t) : 20 ≤ xAk t ∧ xAk t ≤ 23 ∧ xAt (xAk t) = newarray.typeOf t ∧ Cond.arrayClass (newarray.typeOf t) ∈ xGw := by
  cases t
  · exact ⟨by decide, by decide, rfl, xGw_of AC_boolean rfl⟩
  · exact absurd h (by decide)
  · exact absurd h (by decide)
  · exact absurd h (by decide)
  · exact ⟨by decide, by decide, rfl, xGw_of AC_byte rfl⟩
  · exact absurd h (by decide)
  · exact ⟨by decide, by decide, rfl, xGw_of AC_int rfl⟩
  · exact ⟨by decide, by decide, rfl, xGw_of AC_long rfl⟩
section XOPF
variable {p : Program} {l : Launch} {e : Env} {R : Room} {s : State} {m : MethodId} {args : Array Value} {below : List Frame} {meth : Method} {c : Code}
variable {J : xJT} {A : Nat → Prop} {Z : State → Prop} {nL c0 s0 own d pc : Nat} {cc : ByteArray} {ps : List Nat} {L r : List xV} {M : xH}
theorem o_getf (C : xCtx p R s m args c own cc nL d J A) {i ci k : Nat} (hf : (own, i, ci, k) ∈ xFl ∨ (own, i, ci, k) ∈ xFn) (hd : decode cc (ps.getD pc 0) = .ok (.getfield i, 3)) (hn : ps.getD (pc + 1) 0 = ps.getD pc 0 + 3) {a : Int} (hk : M.2.1 a = (ci : Int)) (h : xRd (p, l, e, R, s, m, args, below, meth, c) J A Z nL c0 s0 ps (pc + 1, L, (xTg (xFT ci k), M.1 a (k : Int)) :: r, M)) : xRd (p, l, e, R, s, m, args, below, meth, c) J A Z nL c0 s0 ps (pc, L, (2, a) :: r, M) := by
  intro G H locs ls hR hF h1 h2
  replace hR : xRel J s A s.heap G M H locs := hR
  obtain ⟨hc, hkk⟩ := xFd_rng hf
  have hT := C.2.2.2.2.2.1
  obtain ⟨a0, a1⟩ := xOk_obj hR.1 hk hc
  have k9 := h G H locs ls hR ⟨hF.1, hF.2.1, hF.2.2.1, fun v hv => ?_⟩ h1 h2
  · have k9 : W p l e R s m args below meth c H locs (M.2.2.2.1 - c0) (M.2.2.2.2 - s0) Z (F0 m (ps.getD (pc + 1) 0) ls (xc G.1 (xTg (xFT ci k), M.1 a (k : Int)) :: r.map (xc G.1))) := k9
    rw [hn] at k9
    have hE : (xWs G M)[(a - 1).toNat]? = some (G.1 a, .inr (ci, xFs G.1 ci (M.1 a))) := by
      rw [xWs_get a0 a1, xE_obj hk hc]
    show W p l e R s m args below meth c H locs (M.2.2.2.1 - c0) (M.2.2.2.2 - s0) Z (F0 m (ps.getD pc 0) ls (xc G.1 (2, a) :: r.map (xc G.1)))
    rw [xc_ref (show a ≠ 0 by omega)]
    rcases hf with hf | hf
    · exact va_get C.1 C.2.1 C.2.2.2.2.1 (xCl_gw hc) C.2.2.2.1 hT.1 hR.2.1 (a - 1).toNat hE (xCl_get ci hc) k hkk (C.2.2.2.2.1 _ (xGw_of (xFl_ok _ hf) rfl)) (fun _ q => q) (xFs_get hkk) hd k9
    · exact va_getN C.1 C.2.1 C.2.2.2.2.1 (xCl_gw hc) C.2.2.2.1 hT.1 hR.2.1 (a - 1).toNat hE (xCl_get ci hc) k hkk (va_Nw.use rfl (hT.2.1 _ hf)) (fun _ q => q) (xFs_get hkk) hd k9
  · have hv : v ∈ ((xTg (xFT ci k), M.1 a (k : Int)) :: r : List xV) := hv
    rcases List.mem_cons.mp hv with rfl | hv
    · exact ⟨xTg_le hc hkk, xTg_in hc hkk (xOk_fld hR.1 hk hc)⟩
    · exact hF.2.2.2 v (by simp [hv])
theorem o_putf (C : xCtx p R s m args c own cc nL d J A) {i ci k : Nat} (hf : (own, i, ci, k) ∈ xFl ∨ (own, i, ci, k) ∈ xFn) (hfin : (xF ci k).2.2.2 = false ∨ ((own, i, ci, k) ∈ xFl ∧ own = ci ∧ meth.name = "<init>")) (hd : decode cc (ps.getD pc 0) = .ok (.putfield i, 3)) (hn : ps.getD (pc + 1) 0 = ps.getD pc 0 + 3) {a x : Int} {t : Nat} (hp : xPt (xFT ci k) t x (M.2.1 a = (ci : Int))) (h : xRd (p, l, e, R, s, m, args, below, meth, c) J A Z nL c0 s0 ps (pc + 1, L, r, (xUp M.1 a (k : Int) x, M.2))) : xRd (p, l, e, R, s, m, args, below, meth, c) J A Z nL c0 s0 ps (pc, L, (t, x) :: (2, a) :: r, M) := by
  intro G H locs ls hR hF h1 h2
  replace hR : xRel J s A s.heap G M H locs := hR
  obtain ⟨hc, hkk⟩ := xFd_rng hf
  have hT := C.2.2.2.2.2.1
  obtain ⟨hk, hvi, hv1, hv2, hv3⟩ := xPut_val (ad := G.1) (nx := M.2.2.2.1) hc hkk hp (hF.2.2.2 (t, x) (by simp))
  obtain ⟨a0, a1⟩ := xOk_obj hR.1 hk hc
  have hE : (xWs G M)[(a - 1).toNat]? = some (G.1 a, .inr (ci, xFs G.1 ci (M.1 a))) := by
    rw [xWs_get a0 a1, xE_obj hk hc]
  have kk : ∀ (H1 : Heap) (locs1 : List Loc), va_P J.1 vwCl ((xWs G M).set (a - 1).toNat (G.1 a, .inr (ci, (xFs G.1 ci (M.1 a)).set k (xc G.1 (t, x))))) H1 → va_D A ((xWs G M).set (a - 1).toNat (G.1 a, .inr (ci, (xFs G.1 ci (M.1 a)).set k (xc G.1 (t, x))))) → va_S A s.heap H1 locs1 → W p l e R s m args below meth c H1 locs1 (M.2.2.2.1 - c0) (M.2.2.2.2 - s0) Z (F0 m (ps.getD pc 0 + 3) ls (r.map (xc G.1))) := by
    intro H1 locs1 hP hD hS
    have hR2 := xRel_set (D' := xUp M.1 a (k : Int) x) hR a0 (fun b hb => xUp_ne _ hb) (xUp_v (hR.1.2.2.2.2.2 a) (t := xFT ci k) (by rw [hk, xTy_cl (by omega) (by omega)]; rfl) hvi) (by
      rw [xE_obj (c := ci) (by show M.2.1 a = _; exact hk) hc, xFsUp hkk hv1]) hP hD hS
    have k9 := h G H1 locs1 ls hR2 ⟨hF.1, hF.2.1, hF.2.2.1, fun v hv => hF.2.2.2 v (by simp [show v ∈ r from hv])⟩ h1 h2
    have k9 : W p l e R s m args below meth c H1 locs1 (M.2.2.2.1 - c0) (M.2.2.2.2 - s0) Z (F0 m (ps.getD (pc + 1) 0) ls (r.map (xc G.1))) := k9
    rw [hn] at k9
    exact k9
  show W p l e R s m args below meth c H locs (M.2.2.2.1 - c0) (M.2.2.2.2 - s0) Z (F0 m (ps.getD pc 0) ls (xc G.1 (t, x) :: xc G.1 (2, a) :: r.map (xc G.1)))
  rw [xc_ref (show a ≠ 0 by omega)]
  have hl : k < (xFs G.1 ci (M.1 a)).length := by rw [xFs_len]; exact hkk
  rcases hfin with hfin | ⟨hf2, ho, hi⟩
  · rcases hf with hf | hf
    · exact va_put C.1 C.2.1 C.2.2.2.2.1 (xCl_gw hc) (xTyF ci) (xTys_ok hc) (xCl_nm ci hc) C.2.2.2.1 hT.1 hR.2.1 hR.2.2.1 hR.2.2.2.1 (a - 1).toNat hE (xCl_get ci hc) k hkk (C.2.2.2.2.1 _ (xGw_of (xFl_ok _ hf) rfl)) (fun _ q => q) hfin (xFt_parse hc hkk) hv2 hv3 hl hd kk
    · exact va_putN C.1 C.2.1 C.2.2.2.2.1 (xCl_gw hc) (xTyF ci) (xTys_ok hc) (xCl_nm ci hc) C.2.2.2.1 hT.1 hR.2.1 hR.2.2.1 hR.2.2.2.1 (a - 1).toNat hE (xCl_get ci hc) k hkk (va_Nw.use rfl (hT.2.1 _ hf)) (fun _ q => q) hfin (xFt_parse hc hkk) hv2 hv3 hl hd kk
  · by_cases hfin : (xF ci k).2.2.2 = false
    · exact va_put C.1 C.2.1 C.2.2.2.2.1 (xCl_gw hc) (xTyF ci) (xTys_ok hc) (xCl_nm ci hc) C.2.2.2.1 hT.1 hR.2.1 hR.2.2.1 hR.2.2.2.1 (a - 1).toNat hE (xCl_get ci hc) k hkk (C.2.2.2.2.1 _ (xGw_of (xFl_ok _ hf2) rfl)) (fun _ q => q) hfin (xFt_parse hc hkk) hv2 hv3 hl hd kk
    · have hft : (xF ci k).2.2.2 = true := by
        cases q : (xF ci k).2.2.2
        · exact absurd q hfin
        · rfl
      exact va_putF C.1 C.2.1 C.2.2.2.2.1 (xCl_gw hc) (xTyF ci) (xTys_ok hc) (xCl_nm ci hc) C.2.2.2.1 hT.1 hR.2.1 hR.2.2.1 hR.2.2.2.1 (a - 1).toNat hE (xCl_get ci hc) k hkk (C.2.2.2.2.1 _ (xGw_of (xFl_ok _ hf2) rfl)) (fun _ q => q) hft hi ((xFt_own hc hkk).trans (by rw [ho, xo_cl ci hc])) (xFt_parse hc hkk) hv2 hv3 hl hd kk
theorem o_new (C : xCtx p R s m args c own cc nL d J A) {i ci : Nat} (hc : ci < 13) (hw : (own, i, ci) ∈ xKc) (hd : decode cc (ps.getD pc 0) = .ok (.new i, 3)) (hn : ps.getD (pc + 1) 0 = ps.getD pc 0 + 3) (hl1 : M.2.2.2.1 + 1 ≤ c0 + R.cells) (hl2 : M.2.2.2.2 + ((xCl ci).2.2) ≤ s0 + R.slots) (h : xRd (p, l, e, R, s, m, args, below, meth, c) J A Z nL c0 s0 ps (pc + 1, L, (2, (M.2.2.2.1 : Int)) :: r, xNw M ((ci : Int)) (0) ((xCl ci).2.2))) : xRd (p, l, e, R, s, m, args, below, meth, c) J A Z nL c0 s0 ps (pc, L, r, M) := by
  intro G H locs ls hR hF h1 h2
  replace hR : xRel J s A s.heap G M H locs := hR
  have h1 : c0 ≤ M.2.2.2.1 := h1
  have h2 : s0 ≤ M.2.2.2.2 := h2
  have hT := C.2.2.2.2.2.1
  have hr : ∀ v ∈ r, xVk M.2.2.2.1 v := fun v hv => hF.2.2.2 v (hv)
  have kk : ∀ (q : Nat) (cA : ClassId) (H1 : Heap) (locs1 : List Loc), xRel J s A s.heap (xGn G (M.2.2.2.1 : Int) q cA) (xNw M ((ci : Int)) (0) ((xCl ci).2.2)) H1 locs1 → W p l e R s m args below meth c H1 locs1 (M.2.2.2.1 - c0 + 1) (M.2.2.2.2 - s0 + ((xCl ci).2.2)) Z (F0 m (ps.getD pc 0 + 3) ls (.ref q :: r.map (xc G.1))) := by
    intro q cA H1 locs1 hR2
    have hG : ∀ b : Int, b < (M.2.2.2.1 : Int) → (xGn G (M.2.2.2.1 : Int) q cA).1 b = G.1 b := fun b hb => (xGn_ne (by omega)).1
    have hF2 : xFr nL (xGn G (M.2.2.2.1 : Int) q cA) (xNw M ((ci : Int)) (0) ((xCl ci).2.2)) L ((2, (M.2.2.2.1 : Int)) :: r) ls := by
      have g := xFr_grow (G' := xGn G (M.2.2.2.1 : Int) q cA) (M' := xNw M ((ci : Int)) (0) ((xCl ci).2.2)) (st := r) ⟨hF.1, hF.2.1, hF.2.2.1, hr⟩ (by show M.2.2.2.1 ≤ M.2.2.2.1 + 1; omega) hG
      refine ⟨g.1, g.2.1, g.2.2.1, fun v hv => ?_⟩
      rcases List.mem_cons.mp hv with rfl | hv
      · exact ⟨Nat.le_of_ble_eq_true rfl, by show (M.2.2.2.1 : Int) < ((M.2.2.2.1 + 1 : Nat) : Int); omega⟩
      · exact g.2.2.2 v hv
    have k9 := h _ H1 locs1 ls hR2 hF2 (by show c0 ≤ M.2.2.2.1 + 1; omega) (by show s0 ≤ M.2.2.2.2 + ((xCl ci).2.2); omega)
    have k9 : W p l e R s m args below meth c H1 locs1 (M.2.2.2.1 + 1 - c0) (M.2.2.2.2 + ((xCl ci).2.2) - s0) Z (F0 m (ps.getD (pc + 1) 0) ls (xc (xGn G (M.2.2.2.1 : Int) q cA).1 (2, (M.2.2.2.1 : Int)) :: r.map (xc (xGn G (M.2.2.2.1 : Int) q cA).1))) := k9
    rw [hn, xMap_ext hG hr, xc_ref (show (M.2.2.2.1 : Int) ≠ 0 by have := hR.1.1; omega)] at k9
    have e1 : M.2.2.2.1 + 1 - c0 = M.2.2.2.1 - c0 + 1 := by omega
    have e2 : M.2.2.2.2 + ((xCl ci).2.2) - s0 = M.2.2.2.2 - s0 + ((xCl ci).2.2) := by omega
    have e3 : (xGn G (M.2.2.2.1 : Int) q cA).1 (M.2.2.2.1 : Int) = q := if_pos rfl
    rw [e1, e2, e3] at k9
    exact k9
  show W p l e R s m args below meth c H locs (M.2.2.2.1 - c0) (M.2.2.2.2 - s0) Z (F0 m (ps.getD pc 0) ls (r.map (xc G.1)))
  have hok := hR.1
  refine va_new (fs := xFs G.1 ci (fun _ => 0)) C.1 C.2.1 C.2.2.2.2.1 (xCl_gw hc) (xTyF ci) (xTys_ok hc) C.2.2.2.1 (C.2.2.2.2.1 _ (xGw_of (xKc_ok _ hw) rfl)) (C.2.2.2.2.1 _ (xGw_of (xIns_all ci hc) rfl)) (C.2.2.2.2.1 _ (xGw_of (xIni_all ci hc) rfl)) hT.1 hR.2.1 hR.2.2.1 hR.2.2.2.1 C.2.2.2.2.2.2.2.1 (xCl_get ci hc) (xFs_def hc) (by omega) (by omega) hd (fun q H1 hP hD hS => kk q 0 H1 locs (xRel_push hR (Or.inl ⟨by omega, by omega⟩) ⟨by omega, by omega⟩ (fun z => by omega) ?_ hP hD hS))
  rw [xE_obj (c := ci) (by show (if (M.2.2.2.1 : Int) = (M.2.2.2.1 : Int) then (ci : Int) else _) = _; rw [if_pos rfl]) hc]
  have e9 : (xNw M (ci : Int) 0 ((xCl ci).2.2)).1 (M.2.2.2.1 : Int) = fun _ => 0 := funext fun j => if_pos rfl
  rw [e9, xFs_ext (n := 1) hc (ad := G.1) (ad' := (xGn G (M.2.2.2.1 : Int) q 0).1) (fun b hb => (xGn_ne (by have := hok.1; omega)).1) (fun _ _ _ => by decide)]
theorem o_newarray (C : xCtx p R s m args c own cc nL d J A) {t : ArrayType} {x : Int} (hk : 0 ≤ xAk t) (hx0 : 0 ≤ x) (hx1 : x ≤ 1000000) (hd : decode cc (ps.getD pc 0) = .ok (.newarray t, 2)) (hn : ps.getD (pc + 1) 0 = ps.getD pc 0 + 2) (hl1 : M.2.2.2.1 + 1 ≤ c0 + R.cells) (hl2 : M.2.2.2.2 + (x.toNat) ≤ s0 + R.slots) (h : xRd (p, l, e, R, s, m, args, below, meth, c) J A Z nL c0 s0 ps (pc + 1, L, (2, (M.2.2.2.1 : Int)) :: r, xNw M (xAk t) (x) (x.toNat))) : xRd (p, l, e, R, s, m, args, below, meth, c) J A Z nL c0 s0 ps (pc, L, (0, x) :: r, M) := by
  intro G H locs ls hR hF h1 h2
  replace hR : xRel J s A s.heap G M H locs := hR
  have h1 : c0 ≤ M.2.2.2.1 := h1
  have h2 : s0 ≤ M.2.2.2.2 := h2
  have hT := C.2.2.2.2.2.1
  have hr : ∀ v ∈ r, xVk M.2.2.2.1 v := fun v hv => hF.2.2.2 v (by simp [hv])
  have kk : ∀ (q : Nat) (cA : ClassId) (H1 : Heap) (locs1 : List Loc), xRel J s A s.heap (xGn G (M.2.2.2.1 : Int) q cA) (xNw M (xAk t) (x) (x.toNat)) H1 locs1 → W p l e R s m args below meth c H1 locs1 (M.2.2.2.1 - c0 + 1) (M.2.2.2.2 - s0 + (x.toNat)) Z (F0 m (ps.getD pc 0 + 2) ls (.ref q :: r.map (xc G.1))) := by
    intro q cA H1 locs1 hR2
    have hG : ∀ b : Int, b < (M.2.2.2.1 : Int) → (xGn G (M.2.2.2.1 : Int) q cA).1 b = G.1 b := fun b hb => (xGn_ne (by omega)).1
    have hF2 : xFr nL (xGn G (M.2.2.2.1 : Int) q cA) (xNw M (xAk t) (x) (x.toNat)) L ((2, (M.2.2.2.1 : Int)) :: r) ls := by
      have g := xFr_grow (G' := xGn G (M.2.2.2.1 : Int) q cA) (M' := xNw M (xAk t) (x) (x.toNat)) (st := r) ⟨hF.1, hF.2.1, hF.2.2.1, hr⟩ (by show M.2.2.2.1 ≤ M.2.2.2.1 + 1; omega) hG
      refine ⟨g.1, g.2.1, g.2.2.1, fun v hv => ?_⟩
      rcases List.mem_cons.mp hv with rfl | hv
      · exact ⟨Nat.le_of_ble_eq_true rfl, by show (M.2.2.2.1 : Int) < ((M.2.2.2.1 + 1 : Nat) : Int); omega⟩
      · exact g.2.2.2 v hv
    have k9 := h _ H1 locs1 ls hR2 hF2 (by show c0 ≤ M.2.2.2.1 + 1; omega) (by show s0 ≤ M.2.2.2.2 + (x.toNat); omega)
    have k9 : W p l e R s m args below meth c H1 locs1 (M.2.2.2.1 + 1 - c0) (M.2.2.2.2 + (x.toNat) - s0) Z (F0 m (ps.getD (pc + 1) 0) ls (xc (xGn G (M.2.2.2.1 : Int) q cA).1 (2, (M.2.2.2.1 : Int)) :: r.map (xc (xGn G (M.2.2.2.1 : Int) q cA).1))) := k9
    rw [hn, xMap_ext hG hr, xc_ref (show (M.2.2.2.1 : Int) ≠ 0 by have := hR.1.1; omega)] at k9
    have e1 : M.2.2.2.1 + 1 - c0 = M.2.2.2.1 - c0 + 1 := by omega
    have e2 : M.2.2.2.2 + (x.toNat) - s0 = M.2.2.2.2 - s0 + (x.toNat) := by omega
    have e3 : (xGn G (M.2.2.2.1 : Int) q cA).1 (M.2.2.2.1 : Int) = q := if_pos rfl
    rw [e1, e2, e3] at k9
    exact k9
  show W p l e R s m args below meth c H locs (M.2.2.2.1 - c0) (M.2.2.2.2 - s0) Z (F0 m (ps.getD pc 0) ls (.int (Int32.ofInt x) :: r.map (xc G.1)))
  have ix : xIn 0 x := (hF.2.2.2 (0, x) (by simp)).2
  obtain ⟨b1, b2, b3, b4⟩ := xAk_ok hk
  refine va_newa (ty := xAt (xAk t)) (a0 := (x.toNat, xCont G.1 (xAk t) (fun _ => 0))) C.1 C.2.1 (C.2.2.2.2.1 _ b4) b3.symm hT.1 hR.2.1 hR.2.2.1 hR.2.2.2.1 C.2.2.2.2.2.2.2.1 (fun cA => xCont_def G.1 (by omega) (by omega) cA x.toNat) (fun z => by have := (xi_lt0 ix).mp z; omega) (xi_cl ix) (xCb (by omega) (by omega) hx0 hx1) (by omega) (by omega) hd (fun q cA H1 hK hP hD hS => kk q cA H1 locs (xRel_push hR (Or.inr ⟨by omega, by omega⟩) ⟨hx0, by omega⟩ (fun _ => hK.2 0 _ rfl) ?_ hP hD hS))
  have e1 : (xNw M (xAk t) x x.toNat).2.1 (M.2.2.2.1 : Int) = xAk t := if_pos rfl
  have e2 : (xNw M (xAk t) x x.toNat).2.2.1 (M.2.2.2.1 : Int) = x := if_pos rfl
  have e3 : (xGn G (M.2.2.2.1 : Int) q cA).2 (M.2.2.2.1 : Int) = cA := if_pos rfl
  have e9 : (xNw M (xAk t) x x.toNat).1 (M.2.2.2.1 : Int) = fun _ => 0 := funext fun j => if_pos rfl
  rw [xE_arr (by rw [e1]; omega), e1, e2, e3, e9, xCont_0 G.1 (xGn G (M.2.2.2.1 : Int) q cA).1]
theorem o_anewarray (C : xCtx p R s m args c own cc nL d J A) {i κ : Nat} {x : Int} (hκ1 : 25 ≤ κ) (hκ2 : κ ≤ 28) (hw : (own, i, (xEl (κ : Int)).toNat) ∈ xKc) (hx0 : 0 ≤ x) (hx1 : x ≤ 1000000) (hd : decode cc (ps.getD pc 0) = .ok (.anewarray i, 3)) (hn : ps.getD (pc + 1) 0 = ps.getD pc 0 + 3) (hl1 : M.2.2.2.1 + 1 ≤ c0 + R.cells) (hl2 : M.2.2.2.2 + (x.toNat) ≤ s0 + R.slots) (h : xRd (p, l, e, R, s, m, args, below, meth, c) J A Z nL c0 s0 ps (pc + 1, L, (2, (M.2.2.2.1 : Int)) :: r, xNw M ((κ : Int)) (x) (x.toNat))) : xRd (p, l, e, R, s, m, args, below, meth, c) J A Z nL c0 s0 ps (pc, L, (0, x) :: r, M) := by
  intro G H locs ls hR hF h1 h2
  replace hR : xRel J s A s.heap G M H locs := hR
  have h1 : c0 ≤ M.2.2.2.1 := h1
  have h2 : s0 ≤ M.2.2.2.2 := h2
  have hT := C.2.2.2.2.2.1
  have hr : ∀ v ∈ r, xVk M.2.2.2.1 v := fun v hv => hF.2.2.2 v (by simp [hv])
  have kk : ∀ (q : Nat) (cA : ClassId) (H1 : Heap) (locs1 : List Loc), xRel J s A s.heap (xGn G (M.2.2.2.1 : Int) q cA) (xNw M ((κ : Int)) (x) (x.toNat)) H1 locs1 → W p l e R s m args below meth c H1 locs1 (M.2.2.2.1 - c0 + 1) (M.2.2.2.2 - s0 + (x.toNat)) Z (F0 m (ps.getD pc 0 + 3) ls (.ref q :: r.map (xc G.1))) := by
    intro q cA H1 locs1 hR2
    have hG : ∀ b : Int, b < (M.2.2.2.1 : Int) → (xGn G (M.2.2.2.1 : Int) q cA).1 b = G.1 b := fun b hb => (xGn_ne (by omega)).1
    have hF2 : xFr nL (xGn G (M.2.2.2.1 : Int) q cA) (xNw M ((κ : Int)) (x) (x.toNat)) L ((2, (M.2.2.2.1 : Int)) :: r) ls := by
      have g := xFr_grow (G' := xGn G (M.2.2.2.1 : Int) q cA) (M' := xNw M ((κ : Int)) (x) (x.toNat)) (st := r) ⟨hF.1, hF.2.1, hF.2.2.1, hr⟩ (by show M.2.2.2.1 ≤ M.2.2.2.1 + 1; omega) hG
      refine ⟨g.1, g.2.1, g.2.2.1, fun v hv => ?_⟩
      rcases List.mem_cons.mp hv with rfl | hv
      · exact ⟨Nat.le_of_ble_eq_true rfl, by show (M.2.2.2.1 : Int) < ((M.2.2.2.1 + 1 : Nat) : Int); omega⟩
      · exact g.2.2.2 v hv
    have k9 := h _ H1 locs1 ls hR2 hF2 (by show c0 ≤ M.2.2.2.1 + 1; omega) (by show s0 ≤ M.2.2.2.2 + (x.toNat); omega)
    have k9 : W p l e R s m args below meth c H1 locs1 (M.2.2.2.1 + 1 - c0) (M.2.2.2.2 + (x.toNat) - s0) Z (F0 m (ps.getD (pc + 1) 0) ls (xc (xGn G (M.2.2.2.1 : Int) q cA).1 (2, (M.2.2.2.1 : Int)) :: r.map (xc (xGn G (M.2.2.2.1 : Int) q cA).1))) := k9
    rw [hn, xMap_ext hG hr, xc_ref (show (M.2.2.2.1 : Int) ≠ 0 by have := hR.1.1; omega)] at k9
    have e1 : M.2.2.2.1 + 1 - c0 = M.2.2.2.1 - c0 + 1 := by omega
    have e2 : M.2.2.2.2 + (x.toNat) - s0 = M.2.2.2.2 - s0 + (x.toNat) := by omega
    have e3 : (xGn G (M.2.2.2.1 : Int) q cA).1 (M.2.2.2.1 : Int) = q := if_pos rfl
    rw [e1, e2, e3] at k9
    exact k9
  show W p l e R s m args below meth c H locs (M.2.2.2.1 - c0) (M.2.2.2.2 - s0) Z (F0 m (ps.getD pc 0) ls (.int (Int32.ofInt x) :: r.map (xc G.1)))
  have ix : xIn 0 x := (hF.2.2.2 (0, x) (by simp)).2
  obtain ⟨b1, b2, b3⟩ := xEl_rng hκ1 hκ2
  refine va_newq (N' := x.toNat) C.1 C.2.1 C.2.2.2.1 (C.2.2.2.2.1 _ (xGw_of (xKc_ok _ hw) rfl)) (hT.2.2.2.2.1 _ b2) hT.1 hR.2.1 hR.2.2.1 hR.2.2.2.1 C.2.2.2.2.2.2.2.1 (fun z => by have := (xi_lt0 ix).mp z; omega) (xi_cl ix) (by omega) (by omega) (by omega) hd (fun q cA H1 hK hP hD hS => kk q cA H1 locs (xRel_push hR (Or.inr ⟨by omega, by omega⟩) ⟨hx0, by omega⟩ (fun _ => by have z := hK.2 0 _ rfl; rw [b3]; exact z) ?_ hP hD hS))
  have e1 : (xNw M (κ : Int) x x.toNat).2.1 (M.2.2.2.1 : Int) = (κ : Int) := if_pos rfl
  have e2 : (xNw M (κ : Int) x x.toNat).2.2.1 (M.2.2.2.1 : Int) = x := if_pos rfl
  have e3 : (xGn G (M.2.2.2.1 : Int) q cA).2 (M.2.2.2.1 : Int) = cA := if_pos rfl
  have e9 : (xNw M (κ : Int) x x.toNat).1 (M.2.2.2.1 : Int) = fun _ => 0 := funext fun j => if_pos rfl
  rw [xE_arr (by rw [e1]; omega), e1, e2, e3, e9, xCt_r _ (by omega)]
  rfl
end XOPF
end
section
/-! calls of the plain machine; a run has one end alone, and its room only grows -/
def xCall : Nat → Nat → List xV → xH → (Int → xH → Prop) → Prop
  | 0, _, _, _, _ => False
  | d + 1, j, as, H, Q => Nat.ble (xFlat as).length (xM j).2.2.1 = true ∧ ∃ n, xWp d (xCall d) (xCode j) Q n 0 (xEntry (xM j).2.2.1 as) [] H
def xLe (H H' : xH) : Prop := H.2.2.2.1 ≤ H'.2.2.2.1 ∧ H.2.2.2.2 ≤ H'.2.2.2.2
theorem xLe_rf (H : xH) : xLe H H := ⟨Nat.le_refl _, Nat.le_refl _⟩
theorem xLe_tr {H H' H2 : xH} (h : xLe H H') (h2 : xLe H' H2) : xLe H H2 := ⟨Nat.le_trans h.1 h2.1, Nat.le_trans h.2 h2.2⟩
def xMono (H : xH) : xO → Prop
  | .inl s => xLe H s.2.2.2
  | .inr (.inl (p, s)) => p → xLe H s.2.2.2
  | .inr (.inr (.inl (_, _, _, s, t))) => xLe H s.2.2.2 ∧ xLe H t.2.2.2
  | .inr (.inr (.inr (.inl (_, _, _, H', f)))) => H' = H ∧ ∀ x H2, (f x H2).2.2.2 = H2
  | .inr (.inr (.inr (.inr (.inl (_, _, H'))))) => H' = H
  | .inr (.inr (.inr (.inr (.inr (_, _, ts, t))))) => (∀ u ∈ ts, xLe H u.2.2.2) ∧ xLe H t.2.2.2
theorem xMono_bad {H : xH} (s : xS) : xMono H (xBad s) := fun h => absurd h id
theorem xMono_B1 {H : xH} {s : xS} {st : List xV} {f : Int → List xV → xO} (h : ∀ x r, xMono H (f x r)) : xMono H (xB1 s st f) := by
  unfold xB1; split
  · exact h _ _
  · exact xMono_bad s
theorem xMono_B2 {H : xH} {s : xS} {st : List xV} {f : Int → Int → List xV → xO} (h : ∀ x y r, xMono H (f x y r)) : xMono H (xB2 s st f) := by
  unfold xB2; split
  · exact h _ _ _
  · exact xMono_bad s
theorem xMono_J1 {H : xH} {s : xS} {st : List xV} {f : Int → List xV → xO} (h : ∀ x r, xMono H (f x r)) : xMono H (xJ1 s st f) := by
  unfold xJ1; split
  · exact h _ _
  · exact xMono_bad s
theorem xMono_J2 {H : xH} {s : xS} {st : List xV} {f : Int → Int → List xV → xO} (h : ∀ x y r, xMono H (f x y r)) : xMono H (xJ2 s st f) := by
  unfold xJ2; split
  · exact h _ _ _
  · exact xMono_bad s
theorem xMono_Ji {H : xH} {s : xS} {st : List xV} {f : Int → Int → List xV → xO} (h : ∀ x y r, xMono H (f x y r)) : xMono H (xJi s st f) := by
  unfold xJi; split
  · exact h _ _ _
  · exact xMono_bad s
theorem xMono_R1 {H : xH} {s : xS} {st : List xV} {f : Int → List xV → xO} (h : ∀ x r, xMono H (f x r)) : xMono H (xR1 s st f) := by
  unfold xR1; split
  · exact h _ _
  · exact xMono_bad s
theorem xMono_A2 {H : xH} {s : xS} {st : List xV} {f : Int → Int → List xV → xO} (h : ∀ x y r, xMono H (f x y r)) : xMono H (xA2 s st f) := by
  unfold xA2; split
  · exact h _ _ _
  · exact xMono_bad s
theorem xMono_A3 {H : xH} {s : xS} {t : Nat} {st : List xV} {f : Int → Int → Int → List xV → xO} (h : ∀ x y z r, xMono H (f x y z r)) : xMono H (xA3 s t st f) := by
  unfold xA3; split
  · split
    · exact h _ _ _ _
    · exact xMono_bad s
  · exact xMono_bad s
theorem xMono_Lo {H : xH} {L : List xV} {i t : Nat} {s : xS} {f : xV → xO} (h : ∀ v, xMono H (f v)) : xMono H (xLo L i t s f) := by
  unfold xLo
  split
  split
  · exact h _
  · exact xMono_bad s
theorem xMono_If {H : xH} {b : Bool} {x y : xO} (h : xMono H x) (h2 : xMono H y) : xMono H (xIf b x y) := by
  cases b
  · exact h2
  · exact h
theorem xLe_D (H : xH) (D : xD) : xLe H (D, H.2) := ⟨Nat.le_refl _, Nat.le_refl _⟩
theorem xLe_Nw (H : xH) (κ n : Int) (ns : Nat) : xLe H (xNw H κ n ns) := ⟨Nat.le_succ _, Nat.le_add_right _ _⟩
theorem xLe_Nm (H : xH) (l m : Int) : xLe H (xNm H l m) := ⟨by show H.2.2.2.1 ≤ H.2.2.2.1 + 1 + l.toNat; omega, Nat.le_add_right _ _⟩
theorem xMono_nx {H : xH} {a : Nat} {b f : List xV} : xMono H (xNx (a, b, f, H)) := xLe_rf H
theorem xMono_nw {H : xH} {a : Nat} {b f : List xV} {κ n : Int} {ns : Nat} : xMono H (xNx (a, b, f, xNw H κ n ns)) := xLe_Nw _ _ _ _
theorem xMono_ck {H : xH} {a : Nat} {b f : List xV} {p : Prop} : xMono H (xCk p (a, b, f, H)) := fun _ => xLe_rf H
theorem xMono_ckD {H : xH} {a : Nat} {b f : List xV} {p : Prop} {D : xD} : xMono H (xCk p (a, b, f, (D, H.2))) := fun _ => xLe_D H D
theorem xMono_ckw {H : xH} {a : Nat} {b f : List xV} {p : Prop} {κ n : Int} {ns : Nat} : xMono H (xCk p (a, b, f, xNw H κ n ns)) := fun _ => xLe_Nw _ _ _ _
theorem xMono_ckm {H : xH} {a : Nat} {b f : List xV} {p : Prop} {l n : Int} : xMono H (xCk p (a, b, f, xNm H l n)) := fun _ => xLe_Nm _ _ _
theorem xMono_br {H : xH} {a a' : Nat} {b f b' f' : List xV} {c : ClassFile.Cond} {x y : Int} : xMono H (xBr c x y (a, b, f, H) (a', b', f', H)) := ⟨xLe_rf H, xLe_rf H⟩
theorem xMono_sw {H : xH} {a : Nat} {b f : List xV} {x lo : Int} {ts : List Int} : xMono H (xSwt x lo (ts.map fun u => (u.toNat, b, f, H)) (a, b, f, H)) := ⟨fun u hu => by obtain ⟨z, -, rfl⟩ := List.mem_map.mp hu; exact xLe_rf _, xLe_rf H⟩
theorem xMono_cl {H : xH} {p : Prop} {j : Nat} {as : List xV} {a : Nat} {b : List xV} {g : Int → List xV} : xMono H (xCl4 p j as H fun x H2 => (a, b, g x, H2)) := ⟨rfl, fun _ _ => rfl⟩
theorem xMono_rt {H : xH} {p : Prop} {x : Int} : xMono H (xRt p x H) := rfl
set_option maxHeartbeats 4000000 in
theorem xNext_mono (d : Nat) (i : Instr) (pc : Nat) (L st : List xV) (H : xH) : xMono H (xNext d i pc L st H) := by
  cases i <;> simp only [xNext]
  all_goals first
    | exact xMono_bad _
    | exact xMono_nx
    | exact xMono_nw
    | exact xMono_B1 (fun x r => xMono_nx)
    | exact xMono_B1 (fun x r => xMono_ckw)
    | exact xMono_B1 (fun x r => xMono_br)
    | exact xMono_B1 (fun x r => xMono_sw)
    | exact xMono_B1 (fun x r => xMono_If xMono_nx (xMono_bad _))
    | exact xMono_B2 (fun x y r => xMono_nx)
    | exact xMono_B2 (fun x y r => xMono_ck)
    | exact xMono_B2 (fun x y r => xMono_br)
    | exact xMono_B2 (fun x y r => xMono_If xMono_ck (xMono_bad _))
    | exact xMono_B2 (fun x y r => xMono_ckm)
    | exact xMono_J1 (fun x r => xMono_nx)
    | exact xMono_J1 (fun x r => xMono_If xMono_nx (xMono_bad _))
    | exact xMono_J2 (fun x y r => xMono_nx)
    | exact xMono_J2 (fun x y r => xMono_ck)
    | exact xMono_Ji (fun x y r => xMono_nx)
    | exact xMono_Lo (fun v => xMono_nx)
    | exact xMono_Lo (fun v => xMono_If xMono_nx (xMono_bad _))
    | exact xMono_R1 (fun x r => xMono_If xMono_ck (xMono_bad _))
    | exact xMono_R1 (fun x r => xMono_ck)
    | exact xMono_R1 (fun x r => xMono_br)
    | exact xMono_A2 (fun x y r => xMono_nx)
    | exact xMono_A2 (fun x y r => xMono_ck)
    | exact xMono_A3 (fun x y z r => xMono_ckD)
    | (split
       all_goals first
         | exact xMono_bad _
         | exact xMono_nx
         | exact xMono_ck
         | exact xMono_ckD
         | exact xMono_If xMono_ck (xMono_bad _)
         | exact xMono_If xMono_ckD (xMono_bad _)
         | exact xMono_cl
         | exact xMono_rt)
theorem xSw_imp {k k' : xS → Prop} {x : Int} : ∀ {lo : Int} {ts : List xS}, (∀ u ∈ ts, k u → k' u) → xSw k x lo ts → xSw k' x lo ts
  | _, [], _, _ => trivial
  | lo, u :: ts, h, ⟨h1, h2⟩ => ⟨fun e => h u List.mem_cons_self (h1 e), xSw_imp (fun v hv => h v (List.mem_cons_of_mem _ hv)) h2⟩
theorem xSw_no {k : xS → Prop} {x : Int} : ∀ {lo : Int} {ts : List xS}, (x < lo ∨ lo + (ts.length : Int) ≤ x) → xSw k x lo ts
  | _, [], _ => trivial
  | lo, u :: ts, h => by
    have hl : ((u :: ts).length : Int) = (ts.length : Int) + 1 := by simp
    rw [hl] at h
    exact ⟨fun e => by omega, xSw_no (by omega)⟩
theorem xSw_one {k : xS → Prop} {x : Int} : ∀ {lo : Int} {ts : List xS} (j : Nat) (u : xS), ts[j]? = some u → x = lo + (j : Int) → k u → xSw k x lo ts
  | _, [], j, u, h, _, _ => trivial
  | lo, w :: ts, 0, u, h, e, hk => by
    simp at h
    subst h
    exact ⟨fun _ => hk, xSw_no (by omega)⟩
  | lo, w :: ts, j + 1, u, h, e, hk => ⟨fun q => by omega, xSw_one j u (by simpa using h) (by omega) hk⟩
theorem xSw_get {k : xS → Prop} {x : Int} : ∀ {lo : Int} {ts : List xS} (j : Nat) (u : xS), ts[j]? = some u → x = lo + (j : Int) → xSw k x lo ts → k u
  | _, [], j, u, h, _, _ => by simp at h
  | lo, w :: ts, 0, u, h, e, ⟨h1, _⟩ => by
    simp at h
    subst h
    exact h1 (by omega)
  | lo, w :: ts, j + 1, u, h, e, ⟨_, h2⟩ => xSw_get j u (by simpa using h) (by omega) h2
/-- of a call: one end, room that only grows -/
def xDet (call : xCallT) : Prop := ∀ j as H F, call j as H F → ∃ r H', F r H' ∧ xLe H H' ∧ call j as H (fun r2 H2 => r2 = r ∧ H2 = H')
def xMon (call : xCallT) : Prop := ∀ (j : Nat) (as : List xV) (H : xH) (F F' : Int → xH → Prop), (∀ r H2, F r H2 → F' r H2) → call j as H F → call j as H F'
theorem xGo_mono {call : xCallT} (hc : xMon call) {k k' : xS → Prop} {Q Q' : Int → xH → Prop} (hk : ∀ s, k s → k' s) (hQ : ∀ r H, Q r H → Q' r H) : ∀ o : xO, xGo call k Q o → xGo call k' Q' o
  | .inl s, h => hk s h
  | .inr (.inl (p, s)), h => ⟨h.1, hk s h.2⟩
  | .inr (.inr (.inl (c, x, y, s, t))), h => ⟨fun q => hk s (h.1 q), fun q => hk t (h.2 q)⟩
  | .inr (.inr (.inr (.inl (p, j, as, H, f)))), h => ⟨h.1, hc j as H _ _ (fun r H2 q => hk _ q) h.2⟩
  | .inr (.inr (.inr (.inr (.inl (p, x, H))))), h => ⟨h.1, hQ x H h.2⟩
  | .inr (.inr (.inr (.inr (.inr (x, lo, ts, t))))), h => ⟨xSw_imp (fun u _ => hk u) h.1, fun q => hk t (h.2 q)⟩
theorem xWp_mono {d : Nat} {call : xCallT} (hc : xMon call) {code : List Instr} {Q Q' : Int → xH → Prop} (hQ : ∀ r H, Q r H → Q' r H) : ∀ (n pc : Nat) (L st : List xV) (H : xH), xWp d call code Q n pc L st H → xWp d call code Q' n pc L st H
  | 0, _, _, _, _, h => absurd h id
  | n + 1, pc, L, st, H, h => xGo_mono hc (fun s q => xWp_mono hc hQ n s.1 s.2.1 s.2.2.1 s.2.2.2 q) hQ _ h
theorem xWp_up {d : Nat} {call : xCallT} (hc : xMon call) {code : List Instr} {Q : Int → xH → Prop} : ∀ (n pc : Nat) (L st : List xV) (H : xH), xWp d call code Q n pc L st H → xWp d call code Q (n + 1) pc L st H
  | 0, _, _, _, _, h => absurd h id
  | n + 1, pc, L, st, H, h => xGo_mono hc (fun s q => xWp_up hc n s.1 s.2.1 s.2.2.1 s.2.2.2 q) (fun _ _ q => q) _ h
theorem xWp_le {d : Nat} {call : xCallT} (hc : xMon call) {code : List Instr} {Q : Int → xH → Prop} {n n' pc : Nat} {L st : List xV} {H : xH} (hn : n ≤ n') (h : xWp d call code Q n pc L st H) : xWp d call code Q n' pc L st H := by
  induction hn with
  | refl => exact h
  | step _ ih => exact xWp_up hc _ _ _ _ _ ih
theorem xWp_det {d : Nat} {call : xCallT} (hc : xMon call) (hd : xDet call) {code : List Instr} {Q : Int → xH → Prop} : ∀ (n pc : Nat) (L st : List xV) (H : xH), xWp d call code Q n pc L st H → ∃ r H', Q r H' ∧ xLe H H' ∧ xWp d call code (fun r2 H2 => r2 = r ∧ H2 = H') n pc L st H := by
  intro n
  induction n with
  | zero => intro pc L st H h; exact absurd h id
  | succ n ih =>
    intro pc L st H h
    have hm := xNext_mono d (code.getD pc .nop) pc L st H
    have step : ∀ o : xO, xMono H o → xGo call (fun s => xWp d call code Q n s.1 s.2.1 s.2.2.1 s.2.2.2) Q o → ∃ r H', Q r H' ∧ xLe H H' ∧ xGo call (fun s => xWp d call code (fun r2 H2 => r2 = r ∧ H2 = H') n s.1 s.2.1 s.2.2.1 s.2.2.2) (fun r2 H2 => r2 = r ∧ H2 = H') o := by
      intro o hm h
      match o, hm, h with
      | .inl s, hm, h =>
        obtain ⟨r, H', q1, q2, q3⟩ := ih _ _ _ _ h
        exact ⟨r, H', q1, xLe_tr hm q2, q3⟩
      | .inr (.inl (p, s)), hm, h =>
        obtain ⟨r, H', q1, q2, q3⟩ := ih _ _ _ _ h.2
        exact ⟨r, H', q1, xLe_tr (hm h.1) q2, h.1, q3⟩
      | .inr (.inr (.inl (c, x, y, s, t))), hm, h =>
        rcases xT_or c x y with q | q
        · obtain ⟨r, H', q1, q2, q3⟩ := ih _ _ _ _ (h.1 q)
          exact ⟨r, H', q1, xLe_tr hm.1 q2, fun _ => q3, fun z => absurd ⟨q, z⟩ (xT_not c x y)⟩
        · obtain ⟨r, H', q1, q2, q3⟩ := ih _ _ _ _ (h.2 q)
          exact ⟨r, H', q1, xLe_tr hm.2 q2, fun z => absurd ⟨z, q⟩ (xT_not c x y), fun _ => q3⟩
      | .inr (.inr (.inr (.inl (p, j, as, H1, f)))), hm, h =>
        obtain ⟨e1, hf⟩ := hm
        have h4 : call j as H1 (fun x H2 => xWp d call code Q n (f x H2).1 (f x H2).2.1 (f x H2).2.2.1 (f x H2).2.2.2) := h.2
        obtain ⟨r1, M1, q1, q2, q3⟩ := hd j as H1 _ h4
        have q1 : xWp d call code Q n (f r1 M1).1 (f r1 M1).2.1 (f r1 M1).2.2.1 (f r1 M1).2.2.2 := q1
        obtain ⟨r, H', k1, k2, k3⟩ := ih _ _ _ _ q1
        rw [hf r1 M1] at k2
        refine ⟨r, H', k1, by rw [← e1]; exact xLe_tr q2 k2, h.1, hc j as H1 _ _ (fun r2 H2 z => ?_) q3⟩
        rw [z.1, z.2]
        exact k3
      | .inr (.inr (.inr (.inr (.inl (p, x, H1))))), hm, h =>
        have hm : H1 = H := hm
        exact ⟨x, H1, h.2, by rw [hm]; exact xLe_rf _, h.1, rfl, rfl⟩
      | .inr (.inr (.inr (.inr (.inr (x, lo, ts, t))))), hm, h =>
        by_cases q : x < lo ∨ lo + (ts.length : Int) ≤ x
        · obtain ⟨r, H', q1, q2, q3⟩ := ih _ _ _ _ (h.2 q)
          exact ⟨r, H', q1, xLe_tr hm.2 q2, xSw_no q, fun _ => q3⟩
        · have hl : (x - lo).toNat < ts.length := by omega
          have hu : ts[(x - lo).toNat]? = some (ts[(x - lo).toNat]) := List.getElem?_eq_getElem hl
          obtain ⟨r, H', q1, q2, q3⟩ := ih _ _ _ _ (xSw_get _ _ hu (by omega) h.1)
          exact ⟨r, H', q1, xLe_tr (hm.1 _ (List.mem_of_getElem? hu)) q2, xSw_one _ _ hu (by omega) q3, fun z => absurd z q⟩
    exact step _ hm h
theorem xCall_md : ∀ d : Nat, xMon (xCall d) ∧ xDet (xCall d)
  | 0 => ⟨fun _ _ _ _ _ _ h => absurd h id, fun _ _ _ _ h => absurd h id⟩
  | d + 1 => by
    obtain ⟨hm, hd⟩ := xCall_md d
    refine ⟨fun j as H F F' hF h => ?_, fun j as H F h => ?_⟩
    · obtain ⟨hb, n, h⟩ := h
      exact ⟨hb, n, xWp_mono hm hF n _ _ _ _ h⟩
    · obtain ⟨hb, n, h⟩ := h
      obtain ⟨r, H', q1, q2, q3⟩ := xWp_det hm hd n _ _ _ _ h
      exact ⟨r, H', q1, q2, hb, n, q3⟩
end
section
set_option maxRecDepth 100000 in
theorem bw_oi1 : Cond.instanceMethod Lib.objectInit ∈ xGw := xGw_of (List.mem_of_getElem? (i := 28) (by decide +kernel)) rfl
set_option maxRecDepth 100000 in
theorem bw_oi2 : Cond.code Lib.objectInit ⟨#[0xb1]⟩ 1 none ∈ xGw := xGw_of (List.mem_of_getElem? (i := 29) rfl) rfl
set_option maxRecDepth 100000 in
theorem bw_max1 : Cond.static Lib.Math.max.name ∈ xGw := xGw_of (List.mem_of_getElem? (i := 555) (by decide +kernel)) rfl
set_option maxRecDepth 100000 in
theorem bw_max2 : Cond.code Lib.Math.max.name Lib.Math.max.code 2 (some .int) ∈ xGw := xGw_of (List.mem_of_getElem? (i := 556) rfl) rfl
set_option maxRecDepth 100000 in
theorem bw_min1 : Cond.static Lib.Math.min.name ∈ xGw := xGw_of (List.mem_of_getElem? (i := 574) (by decide +kernel)) rfl
set_option maxRecDepth 100000 in
theorem bw_min2 : Cond.code Lib.Math.min.name Lib.Math.min.code 2 (some .int) ∈ xGw := xGw_of (List.mem_of_getElem? (i := 575) rfl) rfl
set_option maxRecDepth 100000 in
theorem bw_math : Cond.initialized "java/lang/Math" ∈ xGw := xGw_of (List.mem_of_getElem? (i := 13) (by decide +kernel)) rfl
set_option maxRecDepth 100000 in
theorem bw_ac1 : Cond.native arraycopyName ∈ xGw := xGw_of (List.mem_of_getElem? (i := 1477) (by decide +kernel)) rfl
set_option maxRecDepth 100000 in
theorem bw_ac2 : Cond.static arraycopyName ∈ xGw := xGw_of (List.mem_of_getElem? (i := 1476) (by decide +kernel)) rfl
set_option maxRecDepth 100000 in
theorem bw_ac3 : Cond.initialized "java/lang/System" ∈ xGw := xGw_of (List.mem_of_getElem? (i := 21) (by decide +kernel)) rfl
theorem xSum_cat {ad : Int → Nat} : ∀ {r : List xV}, (∀ v ∈ r, v.1 ≤ 2) → ((r.map (xc ad)).map fun v => v.category).sum = xCat r
  | [], _ => rfl
  | (t, x) :: r, h => by
    have ih := xSum_cat (ad := ad) (r := r) (fun v hv => h v (List.mem_cons_of_mem _ hv))
    have ht : t ≤ 2 := h (t, x) List.mem_cons_self
    have hc := xc_cat ad (t, x) ht
    simp only [List.map_cons, List.sum_cons, hc, ih]
    match t, ht with
    | 0, _ => rfl
    | 1, _ => rfl
    | 2, _ => rfl
theorem x_ldcwS {p : Program} {l : Launch} {e : Env} {R : Room} {s : State} {m : MethodId} {args : Array Value} {below : List Frame} {meth : Method} {c : Code} {H : Heap} {locs : List Loc} {cells slots : Nat} {Q : State → Prop} {cc : ByteArray} {pc : Nat} {ls : Array Slot} {rest : List Value} (hexec : p.tables.exec = Jvm.exec) (hb : c.code = cc) {own tx : String} {index q : Nat} (hown : s.vm.findClass own = some m.cls) (hZ : vk_R own index tx q s) (hdg : decode cc pc = .ok (.ldc_w index, 3))
    (k : W p l e R s m args below meth c H locs cells slots Q (F0 m (pc + 3) ls (.ref q :: rest))) : W p l e R s m args below meth c H locs cells slots Q (F0 m pc ls rest) := by
  intro T hT X
  obtain ⟨t, a1, b1⟩ := k T hT X
  refine ⟨t, ?_, b1⟩
  obtain ⟨hz1, hz2⟩ := hZ
  obtain ⟨k0, cf, i, a', hk, hcf, hcp, -, hr, hev'⟩ := Cond.stringRef_spec hown hz1
  cases hz2.symm.trans hev'
  obtain ⟨k', hk', he⟩ := X.warmed.alike.2.2 _ _ hk
  have hr' : k'.resolved[index]? = some (some (.string q)) := by
    rcases X.warmed.entry hk hk' index with h | ⟨h, -⟩
    · rw [h]; exact hr
    · rw [hr] at h; cases h
  have hdg' : decode c.code pc = .ok (.ldc_w index, 3) := by rw [hb]; exact hdg
  jvm_step X.here [hexec, hdg', ldc_w.wp_string (e := e) (s := T) (f := F0 m pc ls rest) X.here.top hk' (by rw [he]; exact hcf) hcp hr']
  exact a1
theorem xKs_rng : xKs.all (fun e => Nat.blt e.2.2 27) = true := by decide +kernel
theorem xKs_lt {own i j : Nat} (h : (own, i, j) ∈ xKs) : j < 27 := by
  have q := List.all_eq_true.mp xKs_rng _ h
  simpa using q
theorem xRoom {d : Nat} {R : Room} {n k : Nat} (hd : 0 < d) (h : 41 * d ≤ R.locals) (hn : n ≤ 8) (hk : k ≤ 33) : n + k ≤ R.locals := by omega
section XOPB
variable {p : Program} {l : Launch} {e : Env} {R : Room} {s : State} {m : MethodId} {args : Array Value} {below : List Frame} {meth : Method} {c : Code}
variable {J : xJT} {A : Nat → Prop} {Z : State → Prop} {nL c0 s0 own d pc : Nat} {cc : ByteArray} {ps : List Nat} {L r : List xV} {M : xH}
theorem o_ldcS (C : xCtx p R s m args c own cc nL d J A) {i j : Nat} (hw : (own, i, j) ∈ xKs) (hd : decode cc (ps.getD pc 0) = .ok (.ldc i, 2)) (hn : ps.getD (pc + 1) 0 = ps.getD pc 0 + 2) (h : xRd (p, l, e, R, s, m, args, below, meth, c) J A Z nL c0 s0 ps (pc + 1, L, (2, -2 - (j : Int)) :: r, M)) : xRd (p, l, e, R, s, m, args, below, meth, c) J A Z nL c0 s0 ps (pc, L, r, M) := by
  intro G H locs ls hR hF h1 h2
  replace hR : xRel J s A s.heap G M H locs := hR
  have hT := C.2.2.2.2.2.1
  have hj := xKs_lt hw
  have k := h G H locs ls hR ⟨hF.1, hF.2.1, hF.2.2.1, fun v hv => ?_⟩ h1 h2
  · have k : W p l e R s m args below meth c H locs (M.2.2.2.1 - c0) (M.2.2.2.2 - s0) Z (F0 m (ps.getD (pc + 1) 0) ls (xc G.1 (2, -2 - (j : Int)) :: r.map (xc G.1))) := k
    rw [hn, xc_ref (show -2 - (j : Int) ≠ 0 by omega), hR.2.2.2.2.2.2.1.1 j hj] at k
    have hz : vk_R (xo own) i (xStr.getD j "") (J.2.1 j) s := hT.2.2.2.1 (own, i, j) hw
    generalize xStr.getD j "" = tx at hz
    exact va_ldcS C.1 C.2.1 C.2.2.2.1 hz hd k
  · have hv : v ∈ ((2, -2 - (j : Int)) :: r : List xV) := hv
    rcases List.mem_cons.mp hv with rfl | hv
    · exact ⟨Nat.le_of_ble_eq_true rfl, by have z := hR.1.1; show -2 - (j : Int) < (M.2.2.2.1 : Int); omega⟩
    · exact hF.2.2.2 v hv
theorem o_ldcwS (C : xCtx p R s m args c own cc nL d J A) {i j : Nat} (hw : (own, i, j) ∈ xKs) (hd : decode cc (ps.getD pc 0) = .ok (.ldc_w i, 3)) (hn : ps.getD (pc + 1) 0 = ps.getD pc 0 + 3) (h : xRd (p, l, e, R, s, m, args, below, meth, c) J A Z nL c0 s0 ps (pc + 1, L, (2, -2 - (j : Int)) :: r, M)) : xRd (p, l, e, R, s, m, args, below, meth, c) J A Z nL c0 s0 ps (pc, L, r, M) := by
  intro G H locs ls hR hF h1 h2
  replace hR : xRel J s A s.heap G M H locs := hR
  have hT := C.2.2.2.2.2.1
  have hj := xKs_lt hw
  have k := h G H locs ls hR ⟨hF.1, hF.2.1, hF.2.2.1, fun v hv => ?_⟩ h1 h2
  · have k : W p l e R s m args below meth c H locs (M.2.2.2.1 - c0) (M.2.2.2.2 - s0) Z (F0 m (ps.getD (pc + 1) 0) ls (xc G.1 (2, -2 - (j : Int)) :: r.map (xc G.1))) := k
    rw [hn, xc_ref (show -2 - (j : Int) ≠ 0 by omega), hR.2.2.2.2.2.2.1.1 j hj] at k
    have hz : vk_R (xo own) i (xStr.getD j "") (J.2.1 j) s := hT.2.2.2.1 (own, i, j) hw
    generalize xStr.getD j "" = tx at hz
    exact x_ldcwS C.1 C.2.1 C.2.2.2.1 hz hd k
  · have hv : v ∈ ((2, -2 - (j : Int)) :: r : List xV) := hv
    rcases List.mem_cons.mp hv with rfl | hv
    · exact ⟨Nat.le_of_ble_eq_true rfl, by have z := hR.1.1; show -2 - (j : Int) < (M.2.2.2.1 : Int); omega⟩
    · exact hF.2.2.2 v hv
theorem o_init (C : xCtx p R s m args c own cc nL d J A) {i : Nat} (hw : (own, i, 0) ∈ xBl) (hd : decode cc (ps.getD pc 0) = .ok (.invokespecial i, 3)) (hn : ps.getD (pc + 1) 0 = ps.getD pc 0 + 3) {a : Int} (ha : 0 < a) (hd0 : 0 < d) (hr8 : xCat r ≤ 8) (h : xRd (p, l, e, R, s, m, args, below, meth, c) J A Z nL c0 s0 ps (pc + 1, L, r, M)) : xRd (p, l, e, R, s, m, args, below, meth, c) J A Z nL c0 s0 ps (pc, L, (2, a) :: r, M) := by
  intro G H locs ls hR hF h1 h2
  have hF2 : xFr nL G M L r ls := xFr_tail hF
  have hs : ((r.map (xc G.1)).map fun v => v.category).sum = xCat r := xSum_cat (fun v hv => (hF2.2.2.2 v hv).1)
  have k := h G H locs ls hR hF2 h1 h2
  have k : W p l e R s m args below meth c H locs (M.2.2.2.1 - c0) (M.2.2.2.2 - s0) Z (F0 m (ps.getD (pc + 1) 0) ls (r.map (xc G.1))) := k
  rw [hn] at k
  show W p l e R s m args below meth c H locs (M.2.2.2.1 - c0) (M.2.2.2.2 - s0) Z (F0 m (ps.getD pc 0) ls (xc G.1 (2, a) :: r.map (xc G.1)))
  rw [xc_ref (show a ≠ 0 by omega)]
  refine W.objInit C.1 C.2.1 C.2.2.2.1 (C.2.2.2.2.1 _ (xGw_of (xBl_ok _ hw) rfl)) (C.2.2.2.2.1 _ bw_oi1) (C.2.2.2.2.1 _ bw_oi2) rfl (by rw [C.2.2.1]; exact hF.1.1) rfl hd (Nat.le_trans hd0 C.2.2.2.2.2.2.2.2.1) ?_ ?_
  · show 0 + ((r.map (xc G.1)).map fun v => v.category).sum + 12 ≤ R.locals
    have := C.2.2.2.2.2.2.2.2.2
    omega
  · exact k
theorem o_max (C : xCtx p R s m args c own cc nL d J A) {i : Nat} (hw : (own, i, 1) ∈ xBl) (hd : decode cc (ps.getD pc 0) = .ok (.invokestatic i, 3)) (hn : ps.getD (pc + 1) 0 = ps.getD pc 0 + 3) {x y : Int} (hd0 : 0 < d) (hr8 : xCat r ≤ 8) (hcl : M.2.2.2.1 ≤ c0 + R.cells) (hsl : M.2.2.2.2 ≤ s0 + R.slots) (h : xRd (p, l, e, R, s, m, args, below, meth, c) J A Z nL c0 s0 ps (pc + 1, L, (0, max x y) :: r, M)) : xRd (p, l, e, R, s, m, args, below, meth, c) J A Z nL c0 s0 ps (pc, L, (0, y) :: (0, x) :: r, M) := by
  intro G H locs ls hR hF h1 h2
  have ix : xIn 0 x := (hF.2.2.2 (0, x) (by simp)).2
  have iy : xIn 0 y := (hF.2.2.2 (0, y) (by simp)).2
  have hF2 : xFr nL G M L r ls := xFr_tail (xFr_tail hF)
  have hs : ((r.map (xc G.1)).map fun v => v.category).sum = xCat r := xSum_cat (fun v hv => (hF2.2.2.2 v hv).1)
  have k := h G H locs ls hR ⟨hF.1, hF.2.1, hF.2.2.1, fun v hv => ?_⟩ h1 h2
  · have k : W p l e R s m args below meth c H locs (M.2.2.2.1 - c0) (M.2.2.2.2 - s0) Z (F0 m (ps.getD (pc + 1) 0) ls (.int (Int32.ofInt (max x y)) :: r.map (xc G.1))) := k
    rw [hn] at k
    show W p l e R s m args below meth c H locs (M.2.2.2.1 - c0) (M.2.2.2.2 - s0) Z (F0 m (ps.getD pc 0) ls (.int (Int32.ofInt y) :: .int (Int32.ofInt x) :: r.map (xc G.1)))
    refine va_mmax C.1 C.2.1 (by rw [C.2.2.1]; exact hF.1.1.symm) C.2.2.2.1 (C.2.2.2.2.1 _ (xGw_of (xBl_ok _ hw) rfl)) (C.2.2.2.2.1 _ bw_max1) (C.2.2.2.2.1 _ bw_math) (C.2.2.2.2.1 _ bw_max2) (Nat.le_trans hd0 C.2.2.2.2.2.2.2.2.1) (by have := C.2.2.2.2.2.2.2.2.2; omega) (by omega) (by omega) hd ?_
    rw [xi_max ix iy]
    exact k
  · have hv : v ∈ ((0, max x y) :: r : List xV) := hv
    rcases List.mem_cons.mp hv with rfl | hv
    · exact ⟨Nat.le_of_ble_eq_true rfl, x_max_in ix iy⟩
    · exact hF.2.2.2 v (by simp [hv])
theorem o_min (C : xCtx p R s m args c own cc nL d J A) {i : Nat} (hw : (own, i, 2) ∈ xBl) (hd : decode cc (ps.getD pc 0) = .ok (.invokestatic i, 3)) (hn : ps.getD (pc + 1) 0 = ps.getD pc 0 + 3) {x y : Int} (hd0 : 0 < d) (hr8 : xCat r ≤ 8) (hcl : M.2.2.2.1 ≤ c0 + R.cells) (hsl : M.2.2.2.2 ≤ s0 + R.slots) (h : xRd (p, l, e, R, s, m, args, below, meth, c) J A Z nL c0 s0 ps (pc + 1, L, (0, min x y) :: r, M)) : xRd (p, l, e, R, s, m, args, below, meth, c) J A Z nL c0 s0 ps (pc, L, (0, y) :: (0, x) :: r, M) := by
  intro G H locs ls hR hF h1 h2
  have ix : xIn 0 x := (hF.2.2.2 (0, x) (by simp)).2
  have iy : xIn 0 y := (hF.2.2.2 (0, y) (by simp)).2
  have hF2 : xFr nL G M L r ls := xFr_tail (xFr_tail hF)
  have hs : ((r.map (xc G.1)).map fun v => v.category).sum = xCat r := xSum_cat (fun v hv => (hF2.2.2.2 v hv).1)
  have k := h G H locs ls hR ⟨hF.1, hF.2.1, hF.2.2.1, fun v hv => ?_⟩ h1 h2
  · have k : W p l e R s m args below meth c H locs (M.2.2.2.1 - c0) (M.2.2.2.2 - s0) Z (F0 m (ps.getD (pc + 1) 0) ls (.int (Int32.ofInt (min x y)) :: r.map (xc G.1))) := k
    rw [hn] at k
    show W p l e R s m args below meth c H locs (M.2.2.2.1 - c0) (M.2.2.2.2 - s0) Z (F0 m (ps.getD pc 0) ls (.int (Int32.ofInt y) :: .int (Int32.ofInt x) :: r.map (xc G.1)))
    refine va_mmin C.1 C.2.1 (by rw [C.2.2.1]; exact hF.1.1.symm) C.2.2.2.1 (C.2.2.2.2.1 _ (xGw_of (xBl_ok _ hw) rfl)) (C.2.2.2.2.1 _ bw_min1) (C.2.2.2.2.1 _ bw_math) (C.2.2.2.2.1 _ bw_min2) (Nat.le_trans hd0 C.2.2.2.2.2.2.2.2.1) (by have := C.2.2.2.2.2.2.2.2.2; omega) (by omega) (by omega) hd ?_
    rw [xi_min ix iy]
    exact k
  · have hv : v ∈ ((0, min x y) :: r : List xV) := hv
    rcases List.mem_cons.mp hv with rfl | hv
    · exact ⟨Nat.le_of_ble_eq_true rfl, x_min_in ix iy⟩
    · exact hF.2.2.2 v (by simp [hv])
theorem x_copyi (D : xD) (a b : Int) {sp dp n : Int} (h1 : 0 ≤ sp) (h2 : 0 ≤ dp) (h3 : 0 ≤ n) : (fun j : Nat => Int32.ofInt (xCpy D a sp b dp n b (j : Int))) = va_cpy (fun j : Nat => Int32.ofInt (D a (j : Int))) (fun j : Nat => Int32.ofInt (D b (j : Int))) sp.toNat dp.toNat n.toNat := by
  funext j
  show Int32.ofInt (if b = b ∧ dp ≤ (j : Int) ∧ (j : Int) < dp + n then D a (sp + ((j : Int) - dp)) else D b (j : Int)) = if dp.toNat ≤ j ∧ j < dp.toNat + n.toNat then Int32.ofInt (D a ((sp.toNat + (j - dp.toNat) : Nat) : Int)) else Int32.ofInt (D b (j : Int))
  by_cases q : dp ≤ (j : Int) ∧ (j : Int) < dp + n
  · rw [if_pos ⟨rfl, q⟩, if_pos (by omega)]
    congr 2
    omega
  · rw [if_neg (fun z => q z.2), if_neg (by omega)]
theorem o_copyi (C : xCtx p R s m args c own cc nL d J A) {i : Nat} (hw : (own, i, 3) ∈ xBl) (hd : decode cc (ps.getD pc 0) = .ok (.invokestatic i, 3)) (hn : ps.getD (pc + 1) 0 = ps.getD pc 0 + 3) {a b sp dp n : Int} (hd0 : 0 < d) (hr8 : xCat r ≤ 8) (ha0 : 0 < a) (hb0 : 0 < b) (hka : M.2.1 a = 20) (hkb : M.2.1 b = 20) (hsp : 0 ≤ sp) (hdp : 0 ≤ dp) (hn0 : 0 ≤ n) (hs1 : sp + n ≤ M.2.2.1 a) (hs2 : dp + n ≤ M.2.2.1 b) (h : xRd (p, l, e, R, s, m, args, below, meth, c) J A Z nL c0 s0 ps (pc + 1, L, r, (xCpy M.1 a sp b dp n, M.2))) : xRd (p, l, e, R, s, m, args, below, meth, c) J A Z nL c0 s0 ps (pc, L, (0, n) :: (0, dp) :: (2, b) :: (0, sp) :: (2, a) :: r, M) := by
  intro G H locs ls hR hF h1 h2
  replace hR : xRel J s A s.heap G M H locs := hR
  have isp : xIn 0 sp := (hF.2.2.2 (0, sp) (by simp)).2
  have idp : xIn 0 dp := (hF.2.2.2 (0, dp) (by simp)).2
  have i_n : xIn 0 n := (hF.2.2.2 (0, n) (by simp)).2
  have hF2 : xFr nL G M L r ls := xFr_tail (xFr_tail (xFr_tail (xFr_tail (xFr_tail hF))))
  have hs : ((r.map (xc G.1)).map fun v => v.category).sum = xCat r := xSum_cat (fun v hv => (hF2.2.2.2 v hv).1)
  have hT := C.2.2.2.2.2.1
  have hEa : (xWs G M)[(a - 1).toNat]? = some (G.1 a, .inl (G.2 a, (M.2.2.1 a).toNat, .inl (fun i => Int32.ofInt (M.1 a (i : Int))))) := by
    rw [xWs_get ha0 (xRel_lt hR ha0 (by omega)), xE_arr (by omega), hka, xCt_i _ (by omega)]
  have hEb : (xWs G M)[(b - 1).toNat]? = some (G.1 b, .inl (G.2 b, (M.2.2.1 b).toNat, .inl (fun i => Int32.ofInt (M.1 b (i : Int))))) := by
    rw [xWs_get hb0 (xRel_lt hR hb0 (by omega)), xE_arr (by omega), hkb, xCt_i _ (by omega)]
  have hKa := xK1 hT hR ha0 (by omega)
  have hKb := xK1 hT hR hb0 (by omega)
  rw [hka] at hKa
  rw [hkb] at hKb
  have hK := hKa.app hKb
  show W p l e R s m args below meth c H locs (M.2.2.2.1 - c0) (M.2.2.2.2 - s0) Z (F0 m (ps.getD pc 0) ls (.int (Int32.ofInt n) :: .int (Int32.ofInt dp) :: xc G.1 (2, b) :: .int (Int32.ofInt sp) :: xc G.1 (2, a) :: r.map (xc G.1)))
  rw [xc_ref (show a ≠ 0 by omega), xc_ref (show b ≠ 0 by omega)]
  refine va_copyi (ty := xAt 20) C.1 C.2.1 (by rw [C.2.2.1]; exact hF.1.1.symm) C.2.2.2.1 (C.2.2.2.2.1 _ (xGw_of (xBl_ok _ hw) rfl)) (C.2.2.2.2.1 _ bw_ac1) (C.2.2.2.2.1 _ bw_ac2) (C.2.2.2.2.1 _ bw_ac3) hK hR.2.1 hR.2.2.1 hR.2.2.2.1 (a - 1).toNat (b - 1).toNat 0 1 hEa hEb rfl rfl rfl
    (fun z => by have := (xi_lt0 isp).mp z; omega) (fun z => by have := (xi_lt0 idp).mp z; omega) (fun z => by have := (xi_lt0 i_n).mp z; omega) (by rw [xi_cl isp, xi_cl i_n]; omega) (by rw [xi_cl idp, xi_cl i_n]; omega) (fun j _ => rfl) (Nat.le_trans hd0 C.2.2.2.2.2.2.2.2.1) (by rw [hs, show nativeFrameWords "java/lang/System" "arraycopy" 5 = 7 by decide +kernel]; have := C.2.2.2.2.2.2.2.2.2; omega) hd (fun H1 locs1 hP hD hS => ?_)
  have hR2 := xRel_set (D' := xCpy M.1 a sp b dp n) hR hb0 (fun c hc => funext fun j => by show (if c = b ∧ _ then _ else M.1 c j) = _; rw [if_neg (fun z => hc z.1)]) (fun j => by
    show xInN _ _ (if b = b ∧ dp ≤ j ∧ j < dp + n then M.1 a (sp + (j - dp)) else M.1 b j)
    have e1 : xTy (M.2.1 b) j = 0 := by rw [hkb]; rfl
    rw [e1]
    split
    · have q := hR.1.2.2.2.2.2 a (sp + (j - dp))
      rw [hka] at q
      exact q
    · have q := hR.1.2.2.2.2.2 b j
      rw [e1] at q
      exact q) (by
    rw [xE_arr (by show 20 ≤ M.2.1 b; omega)]
    show _ = (G.1 b, Sum.inl (G.2 b, (M.2.2.1 b).toNat, xCont G.1 (M.2.1 b) (xCpy M.1 a sp b dp n b)))
    rw [hkb, xCt_i _ (by omega), x_copyi _ _ _ hsp hdp hn0, xi_cl isp, xi_cl idp, xi_cl i_n]) hP hD hS
  have k := h G H1 locs1 ls hR2 ⟨hF.1, hF.2.1, hF.2.2.1, fun v hv => hF.2.2.2 v (by simp [show v ∈ r from hv])⟩ h1 h2
  have k : W p l e R s m args below meth c H1 locs1 (M.2.2.2.1 - c0) (M.2.2.2.2 - s0) Z (F0 m (ps.getD (pc + 1) 0) ls (r.map (xc G.1))) := k
  rw [hn] at k
  exact k
theorem x_copyl (D : xD) (a b : Int) {sp dp n : Int} (h1 : 0 ≤ sp) (h2 : 0 ≤ dp) (h3 : 0 ≤ n) : (fun j : Nat => Int64.ofInt (xCpy D a sp b dp n b (j : Int))) = va_cpy (fun j : Nat => Int64.ofInt (D a (j : Int))) (fun j : Nat => Int64.ofInt (D b (j : Int))) sp.toNat dp.toNat n.toNat := by
  funext j
  show Int64.ofInt (if b = b ∧ dp ≤ (j : Int) ∧ (j : Int) < dp + n then D a (sp + ((j : Int) - dp)) else D b (j : Int)) = if dp.toNat ≤ j ∧ j < dp.toNat + n.toNat then Int64.ofInt (D a ((sp.toNat + (j - dp.toNat) : Nat) : Int)) else Int64.ofInt (D b (j : Int))
  by_cases q : dp ≤ (j : Int) ∧ (j : Int) < dp + n
  · rw [if_pos ⟨rfl, q⟩, if_pos (by omega)]
    congr 2
    omega
  · rw [if_neg (fun z => q z.2), if_neg (by omega)]
theorem o_copyl (C : xCtx p R s m args c own cc nL d J A) {i : Nat} (hw : (own, i, 3) ∈ xBl) (hd : decode cc (ps.getD pc 0) = .ok (.invokestatic i, 3)) (hn : ps.getD (pc + 1) 0 = ps.getD pc 0 + 3) {a b sp dp n : Int} (hd0 : 0 < d) (hr8 : xCat r ≤ 8) (ha0 : 0 < a) (hb0 : 0 < b) (hka : M.2.1 a = 23) (hkb : M.2.1 b = 23) (hsp : 0 ≤ sp) (hdp : 0 ≤ dp) (hn0 : 0 ≤ n) (hs1 : sp + n ≤ M.2.2.1 a) (hs2 : dp + n ≤ M.2.2.1 b) (h : xRd (p, l, e, R, s, m, args, below, meth, c) J A Z nL c0 s0 ps (pc + 1, L, r, (xCpy M.1 a sp b dp n, M.2))) : xRd (p, l, e, R, s, m, args, below, meth, c) J A Z nL c0 s0 ps (pc, L, (0, n) :: (0, dp) :: (2, b) :: (0, sp) :: (2, a) :: r, M) := by
  intro G H locs ls hR hF h1 h2
  replace hR : xRel J s A s.heap G M H locs := hR
  have isp : xIn 0 sp := (hF.2.2.2 (0, sp) (by simp)).2
  have idp : xIn 0 dp := (hF.2.2.2 (0, dp) (by simp)).2
  have i_n : xIn 0 n := (hF.2.2.2 (0, n) (by simp)).2
  have hF2 : xFr nL G M L r ls := xFr_tail (xFr_tail (xFr_tail (xFr_tail (xFr_tail hF))))
  have hs : ((r.map (xc G.1)).map fun v => v.category).sum = xCat r := xSum_cat (fun v hv => (hF2.2.2.2 v hv).1)
  have hT := C.2.2.2.2.2.1
  have hEa : (xWs G M)[(a - 1).toNat]? = some (G.1 a, .inl (G.2 a, (M.2.2.1 a).toNat, .inr (.inl (fun i => Int64.ofInt (M.1 a (i : Int)))))) := by
    rw [xWs_get ha0 (xRel_lt hR ha0 (by omega)), xE_arr (by omega), hka, xCt_j]
  have hEb : (xWs G M)[(b - 1).toNat]? = some (G.1 b, .inl (G.2 b, (M.2.2.1 b).toNat, .inr (.inl (fun i => Int64.ofInt (M.1 b (i : Int)))))) := by
    rw [xWs_get hb0 (xRel_lt hR hb0 (by omega)), xE_arr (by omega), hkb, xCt_j]
  have hKa := xK1 hT hR ha0 (by omega)
  have hKb := xK1 hT hR hb0 (by omega)
  rw [hka] at hKa
  rw [hkb] at hKb
  have hK := hKa.app hKb
  show W p l e R s m args below meth c H locs (M.2.2.2.1 - c0) (M.2.2.2.2 - s0) Z (F0 m (ps.getD pc 0) ls (.int (Int32.ofInt n) :: .int (Int32.ofInt dp) :: xc G.1 (2, b) :: .int (Int32.ofInt sp) :: xc G.1 (2, a) :: r.map (xc G.1)))
  rw [xc_ref (show a ≠ 0 by omega), xc_ref (show b ≠ 0 by omega)]
  refine va_copyl (ty := xAt 23) C.1 C.2.1 (by rw [C.2.2.1]; exact hF.1.1.symm) C.2.2.2.1 (C.2.2.2.2.1 _ (xGw_of (xBl_ok _ hw) rfl)) (C.2.2.2.2.1 _ bw_ac1) (C.2.2.2.2.1 _ bw_ac2) (C.2.2.2.2.1 _ bw_ac3) hK hR.2.1 hR.2.2.1 hR.2.2.2.1 (a - 1).toNat (b - 1).toNat 0 1 hEa hEb rfl rfl rfl
    (fun z => by have := (xi_lt0 isp).mp z; omega) (fun z => by have := (xi_lt0 idp).mp z; omega) (fun z => by have := (xi_lt0 i_n).mp z; omega) (by rw [xi_cl isp, xi_cl i_n]; omega) (by rw [xi_cl idp, xi_cl i_n]; omega) (fun j _ => rfl) (Nat.le_trans hd0 C.2.2.2.2.2.2.2.2.1) (by rw [hs, show nativeFrameWords "java/lang/System" "arraycopy" 5 = 7 by decide +kernel]; have := C.2.2.2.2.2.2.2.2.2; omega) hd (fun H1 locs1 hP hD hS => ?_)
  have hR2 := xRel_set (D' := xCpy M.1 a sp b dp n) hR hb0 (fun c hc => funext fun j => by show (if c = b ∧ _ then _ else M.1 c j) = _; rw [if_neg (fun z => hc z.1)]) (fun j => by
    show xInN _ _ (if b = b ∧ dp ≤ j ∧ j < dp + n then M.1 a (sp + (j - dp)) else M.1 b j)
    have e1 : xTy (M.2.1 b) j = 1 := by rw [hkb]; rfl
    rw [e1]
    split
    · have q := hR.1.2.2.2.2.2 a (sp + (j - dp))
      rw [hka] at q
      exact q
    · have q := hR.1.2.2.2.2.2 b j
      rw [e1] at q
      exact q) (by
    rw [xE_arr (by show 20 ≤ M.2.1 b; omega)]
    show _ = (G.1 b, Sum.inl (G.2 b, (M.2.2.1 b).toNat, xCont G.1 (M.2.1 b) (xCpy M.1 a sp b dp n b)))
    rw [hkb, xCt_j, x_copyl _ _ _ hsp hdp hn0, xi_cl isp, xi_cl idp, xi_cl i_n]) hP hD hS
  have k := h G H1 locs1 ls hR2 ⟨hF.1, hF.2.1, hF.2.2.1, fun v hv => hF.2.2.2 v (by simp [show v ∈ r from hv])⟩ h1 h2
  have k : W p l e R s m args below meth c H1 locs1 (M.2.2.2.1 - c0) (M.2.2.2.2 - s0) Z (F0 m (ps.getD (pc + 1) 0) ls (r.map (xc G.1))) := k
  rw [hn] at k
  exact k
end XOPB
end
section
abbrev cs_coder : ByteArray := prog_17_method_152_code
def ys_coder : MethodName := ⟨"java/lang/String", "coder", "()B"⟩
def ws_coder : List Cond := Cond.code ys_coder cs_coder 1 (some .byte) :: xGw
set_option maxRecDepth 100000 in
theorem ws_coder_c : Cond.code ys_coder cs_coder 1 (some .byte) ∈ xGw := xGw_of (List.mem_of_getElem? (i := 685) rfl) rfl
theorem ds_coder_0 : decode cs_coder 0 = .ok (.getstatic 38, 3) := by decide +kernel
theorem ds_coder_3 : decode cs_coder 3 = .ok (.ifCond .eq 10, 3) := by decide +kernel
theorem ds_coder_6 : decode cs_coder 6 = .ok (.aload_n 0, 1) := by decide +kernel
theorem ds_coder_7 : decode cs_coder 7 = .ok (.getfield 15, 3) := by decide +kernel
theorem ds_coder_10 : decode cs_coder 10 = .ok (.goto 4, 3) := by decide +kernel
theorem ds_coder_13 : decode cs_coder 13 = .ok (.iconst 1, 1) := by decide +kernel
theorem ds_coder_14 : decode cs_coder 14 = .ok (.ireturn, 1) := by decide +kernel
abbrev cs_length : ByteArray := prog_17_method_54_code
def ys_length : MethodName := ⟨"java/lang/String", "length", "()I"⟩
def ws_length : List Cond := Cond.code ys_length cs_length 1 (some .int) :: xGw
set_option maxRecDepth 100000 in
theorem ws_length_c : Cond.code ys_length cs_length 1 (some .int) ∈ xGw := xGw_of (List.mem_of_getElem? (i := 681) rfl) rfl
theorem ds_length_0 : decode cs_length 0 = .ok (.aload_n 0, 1) := by decide +kernel
theorem ds_length_1 : decode cs_length 1 = .ok (.getfield 9, 3) := by decide +kernel
theorem ds_length_4 : decode cs_length 4 = .ok (.arraylength, 1) := by decide +kernel
theorem ds_length_5 : decode cs_length 5 = .ok (.aload_n 0, 1) := by decide +kernel
theorem ds_length_6 : decode cs_length 6 = .ok (.invokevirtual 335, 3) := by decide +kernel
theorem ds_length_9 : decode cs_length 9 = .ok (.ishr, 1) := by decide +kernel
theorem ds_length_10 : decode cs_length 10 = .ok (.ireturn, 1) := by decide +kernel
abbrev cs_isL : ByteArray := prog_17_method_154_code
def ys_isL : MethodName := ⟨"java/lang/String", "isLatin1", "()Z"⟩
def ws_isL : List Cond := Cond.code ys_isL cs_isL 1 (some .boolean) :: xGw
set_option maxRecDepth 100000 in
theorem ws_isL_c : Cond.code ys_isL cs_isL 1 (some .boolean) ∈ xGw := xGw_of (List.mem_of_getElem? (i := 695) rfl) rfl
theorem ds_isL_0 : decode cs_isL 0 = .ok (.getstatic 38, 3) := by decide +kernel
theorem ds_isL_3 : decode cs_isL 3 = .ok (.ifCond .eq 14, 3) := by decide +kernel
theorem ds_isL_6 : decode cs_isL 6 = .ok (.aload_n 0, 1) := by decide +kernel
theorem ds_isL_7 : decode cs_isL 7 = .ok (.getfield 15, 3) := by decide +kernel
theorem ds_isL_10 : decode cs_isL 10 = .ok (.ifCond .ne 7, 3) := by decide +kernel
theorem ds_isL_13 : decode cs_isL 13 = .ok (.iconst 1, 1) := by decide +kernel
theorem ds_isL_14 : decode cs_isL 14 = .ok (.goto 4, 3) := by decide +kernel
theorem ds_isL_17 : decode cs_isL 17 = .ok (.iconst 0, 1) := by decide +kernel
theorem ds_isL_18 : decode cs_isL 18 = .ok (.ireturn, 1) := by decide +kernel
abbrev cs_pchk : ByteArray := prog_22_method_11_code
def ys_pchk : MethodName := ⟨"jdk/internal/util/Preconditions", "checkIndex", "(IILjava/util/function/BiFunction;)I"⟩
def ws_pchk : List Cond := Cond.code ys_pchk cs_pchk 3 (some .int) :: xGw
set_option maxRecDepth 100000 in
theorem ws_pchk_c : Cond.code ys_pchk cs_pchk 3 (some .int) ∈ xGw := xGw_of (List.mem_of_getElem? (i := 706) rfl) rfl
theorem ds_pchk_0 : decode cs_pchk 0 = .ok (.iload_n 0, 1) := by decide +kernel
theorem ds_pchk_1 : decode cs_pchk 1 = .ok (.ifCond .lt 8, 3) := by decide +kernel
theorem ds_pchk_4 : decode cs_pchk 4 = .ok (.iload_n 0, 1) := by decide +kernel
theorem ds_pchk_5 : decode cs_pchk 5 = .ok (.iload_n 1, 1) := by decide +kernel
theorem ds_pchk_6 : decode cs_pchk 6 = .ok (.if_icmp .lt 10, 3) := by decide +kernel
theorem ds_pchk_9 : decode cs_pchk 9 = .ok (.aload_n 2, 1) := by decide +kernel
theorem ds_pchk_10 : decode cs_pchk 10 = .ok (.iload_n 0, 1) := by decide +kernel
theorem ds_pchk_11 : decode cs_pchk 11 = .ok (.iload_n 1, 1) := by decide +kernel
theorem ds_pchk_12 : decode cs_pchk 12 = .ok (.invokestatic 95, 3) := by decide +kernel
theorem ds_pchk_16 : decode cs_pchk 16 = .ok (.iload_n 0, 1) := by decide +kernel
theorem ds_pchk_17 : decode cs_pchk 17 = .ok (.ireturn, 1) := by decide +kernel
abbrev cs_schk : ByteArray := prog_17_method_155_code
def ys_schk : MethodName := ⟨"java/lang/String", "checkIndex", "(II)V"⟩
def ws_schk : List Cond := Cond.code ys_schk cs_schk 2 (none) :: xGw
set_option maxRecDepth 100000 in
theorem ws_schk_c : Cond.code ys_schk cs_schk 2 (none) ∈ xGw := xGw_of (List.mem_of_getElem? (i := 701) rfl) rfl
theorem ds_schk_0 : decode cs_schk 0 = .ok (.iload_n 0, 1) := by decide +kernel
theorem ds_schk_1 : decode cs_schk 1 = .ok (.iload_n 1, 1) := by decide +kernel
theorem ds_schk_2 : decode cs_schk 2 = .ok (.getstatic 1053, 3) := by decide +kernel
theorem ds_schk_5 : decode cs_schk 5 = .ok (.invokestatic 1059, 3) := by decide +kernel
theorem ds_schk_8 : decode cs_schk 8 = .ok (.pop, 1) := by decide +kernel
theorem ds_schk_9 : decode cs_schk 9 = .ok (.return_, 1) := by decide +kernel
abbrev cs_lchr : ByteArray := prog_18_method_2_code
def ys_lchr : MethodName := ⟨"java/lang/StringLatin1", "charAt", "([BI)C"⟩
def ws_lchr : List Cond := Cond.code ys_lchr cs_lchr 2 (some .char) :: xGw
set_option maxRecDepth 100000 in
theorem ws_lchr_c : Cond.code ys_lchr cs_lchr 2 (some .char) ∈ xGw := xGw_of (List.mem_of_getElem? (i := 698) rfl) rfl
theorem ds_lchr_0 : decode cs_lchr 0 = .ok (.iload_n 1, 1) := by decide +kernel
theorem ds_lchr_1 : decode cs_lchr 1 = .ok (.aload_n 0, 1) := by decide +kernel
theorem ds_lchr_2 : decode cs_lchr 2 = .ok (.arraylength, 1) := by decide +kernel
theorem ds_lchr_3 : decode cs_lchr 3 = .ok (.invokestatic 9, 3) := by decide +kernel
theorem ds_lchr_6 : decode cs_lchr 6 = .ok (.aload_n 0, 1) := by decide +kernel
theorem ds_lchr_7 : decode cs_lchr 7 = .ok (.iload_n 1, 1) := by decide +kernel
theorem ds_lchr_8 : decode cs_lchr 8 = .ok (.baload, 1) := by decide +kernel
theorem ds_lchr_9 : decode cs_lchr 9 = .ok (.sipush 255, 3) := by decide +kernel
theorem ds_lchr_12 : decode cs_lchr 12 = .ok (.iand, 1) := by decide +kernel
theorem ds_lchr_13 : decode cs_lchr 13 = .ok (.i2c, 1) := by decide +kernel
theorem ds_lchr_14 : decode cs_lchr 14 = .ok (.ireturn, 1) := by decide +kernel
abbrev cs_chr : ByteArray := prog_17_method_56_code
def ys_chr : MethodName := ⟨"java/lang/String", "charAt", "(I)C"⟩
def ws_chr : List Cond := Cond.code ys_chr cs_chr 2 (some .char) :: xGw
set_option maxRecDepth 100000 in
theorem ws_chr_c : Cond.code ys_chr cs_chr 2 (some .char) ∈ xGw := xGw_of (List.mem_of_getElem? (i := 691) rfl) rfl
theorem ds_chr_0 : decode cs_chr 0 = .ok (.aload_n 0, 1) := by decide +kernel
theorem ds_chr_1 : decode cs_chr 1 = .ok (.invokevirtual 492, 3) := by decide +kernel
theorem ds_chr_4 : decode cs_chr 4 = .ok (.ifCond .eq 12, 3) := by decide +kernel
theorem ds_chr_7 : decode cs_chr 7 = .ok (.aload_n 0, 1) := by decide +kernel
theorem ds_chr_8 : decode cs_chr 8 = .ok (.getfield 9, 3) := by decide +kernel
theorem ds_chr_11 : decode cs_chr 11 = .ok (.iload_n 1, 1) := by decide +kernel
theorem ds_chr_12 : decode cs_chr 12 = .ok (.invokestatic 495, 3) := by decide +kernel
theorem ds_chr_15 : decode cs_chr 15 = .ok (.ireturn, 1) := by decide +kernel
theorem wl_cs : Cond.fieldLink "java/lang/String" 38 "java/lang/String" "COMPACT_STRINGS" "Z" ∈ xGw := xGw_of (List.mem_of_getElem? (i := 686) (by decide +kernel)) rfl
theorem wl_cod : Cond.fieldLink "java/lang/String" 15 "java/lang/String" "coder" "B" ∈ xGw := xGw_of (List.mem_of_getElem? (i := 2236) (by decide +kernel)) rfl
theorem wl_val : Cond.fieldLink "java/lang/String" 9 "java/lang/String" "value" "[B" ∈ xGw := xGw_of (List.mem_of_getElem? (i := 2235) (by decide +kernel)) rfl
theorem wl_sio : Cond.fieldLink "java/lang/String" 1053 "jdk/internal/util/Preconditions" "SIOOBE_FORMATTER" "Ljava/util/function/BiFunction;" ∈ xGw := xGw_of (List.mem_of_getElem? (i := 702) (by decide +kernel)) rfl
theorem wm_coder : Cond.methodLink "java/lang/String" 335 ys_coder ∈ xGw := xGw_of (List.mem_of_getElem? (i := 682) (by decide +kernel)) rfl
theorem wm_isL : Cond.methodLink "java/lang/String" 492 ys_isL ∈ xGw := xGw_of (List.mem_of_getElem? (i := 692) (by decide +kernel)) rfl
theorem wm_lchr : Cond.methodLink "java/lang/String" 495 ys_lchr ∈ xGw := xGw_of (List.mem_of_getElem? (i := 696) (by decide +kernel)) rfl
theorem wm_schk : Cond.methodLink "java/lang/StringLatin1" 9 ys_schk ∈ xGw := xGw_of (List.mem_of_getElem? (i := 699) (by decide +kernel)) rfl
theorem wm_pchk : Cond.methodLink "java/lang/String" 1059 ys_pchk ∈ xGw := xGw_of (List.mem_of_getElem? (i := 704) (by decide +kernel)) rfl
theorem wi_coder : Cond.instanceMethod ys_coder ∈ xGw := xGw_of (List.mem_of_getElem? (i := 683) (by decide +kernel)) rfl
theorem wx_coder : Cond.selects "java/lang/String" ys_coder ys_coder ∈ xGw := xGw_of (List.mem_of_getElem? (i := 684) (by decide +kernel)) rfl
theorem wi_isL : Cond.instanceMethod ys_isL ∈ xGw := xGw_of (List.mem_of_getElem? (i := 693) (by decide +kernel)) rfl
theorem wx_isL : Cond.selects "java/lang/String" ys_isL ys_isL ∈ xGw := xGw_of (List.mem_of_getElem? (i := 694) (by decide +kernel)) rfl
theorem wi_length : Cond.instanceMethod ys_length ∈ xGw := xGw_of (List.mem_of_getElem? (i := 679) (by decide +kernel)) rfl
theorem wx_length : Cond.selects "java/lang/String" ys_length ys_length ∈ xGw := xGw_of (List.mem_of_getElem? (i := 680) (by decide +kernel)) rfl
theorem wi_chr : Cond.instanceMethod ys_chr ∈ xGw := xGw_of (List.mem_of_getElem? (i := 689) (by decide +kernel)) rfl
theorem wx_chr : Cond.selects "java/lang/String" ys_chr ys_chr ∈ xGw := xGw_of (List.mem_of_getElem? (i := 690) (by decide +kernel)) rfl
theorem wt_lchr : Cond.static ys_lchr ∈ xGw := xGw_of (List.mem_of_getElem? (i := 697) (by decide +kernel)) rfl
theorem wt_schk : Cond.static ys_schk ∈ xGw := xGw_of (List.mem_of_getElem? (i := 700) (by decide +kernel)) rfl
theorem wt_pchk : Cond.static ys_pchk ∈ xGw := xGw_of (List.mem_of_getElem? (i := 705) (by decide +kernel)) rfl
theorem wn_st : Cond.initialized "java/lang/String" ∈ xGw := xGw_of (List.mem_of_getElem? (i := 15) (by decide +kernel)) rfl
theorem wn_l1 : Cond.initialized "java/lang/StringLatin1" ∈ xGw := xGw_of (List.mem_of_getElem? (i := 16) (by decide +kernel)) rfl
theorem wn_pc : Cond.initialized "jdk/internal/util/Preconditions" ∈ xGw := xGw_of (List.mem_of_getElem? (i := 17) (by decide +kernel)) rfl
theorem xTx_len : ∀ j, j < 27 → (xTx.getD j []).length = xSlen.getD j 0 := by decide +kernel
theorem xIn32_ok {v : Int} (h : xIn32 v = true) : xIn 0 v := by
  simp only [xIn32, Bool.and_eq_true, decide_eq_true_eq] at h
  exact h
def xRm (d nc ns : Nat) : Room := { frames := d, cells := nc, slots := ns, locals := 41 * d }
theorem xRoom8 {nL : Nat} {M : xH} {L r : List xV} {m : MethodId} {pcv : Nat} {ls : Array Slot} {st0 : List Value} {G : xG} (hF : xFr nL G M L r ls) (hr8 : xCat r ≤ 8) : 2 * (F0 m pcv ls st0).monitorRoom + ((r.map (xc G.1)).map fun v => v.category).sum ≤ 8 := by
  have hs : ((r.map (xc G.1)).map fun v => v.category).sum = xCat r := xSum_cat (fun v hv => (hF.2.2.2 v hv).1)
  exact lv_room (by rw [hs]; exact hr8)
theorem xSgood {y : MethodName} {b : ByteArray} {n : Nat} {r : Option FieldType} (h : Cond.code y b n r ∈ xGw) : GoodIn xGw (Cond.code y b n r :: xGw) := by
  intro w hw
  have hx : w ∈ xGw := by
    rcases List.mem_cons.mp hw with rfl | h2
    · exact h
    · exact h2
  exact ⟨hx, good_of_word (List.mem_filter.mp hx).2⟩
theorem xSCB {R : Room} {s : State} {args : Array Value} {own : String} {index : Nat} {y : MethodName} {b : ByteArray} {n : Nat} {r : Option FieldType} {k np : Nat} (hts : ∀ w ∈ xGw, w.before args s = true) (h : Cond.code y b n r ∈ xGw) (hi : Cond.initialized y.cls ∈ xGw) (hm : Cond.methodLink own index y ∈ xGw) (hc : y.cls ≠ "java/lang/invoke/MethodHandle" ∧ y.cls ≠ "java/lang/invoke/VarHandle") (hp : (parseMethodDescriptor y.desc).map (fun d => d.parameters.length) = some np) (hf : k + 1 ≤ R.frames) (hl : 8 + (n + 11) + 41 * k ≤ R.locals) : CallB R s args own index y b n r (Cond.code y b n r :: xGw) (xRm k 0 0) 0 0 np := by
  refine ⟨rfl, rfl, hf, hl, pay_in hts (xSgood h), List.mem_cons_self, hts _ h, hts _ hi, hc, fun sig hs => ?_, hts _ hm⟩
  rw [hs] at hp
  exact (Option.some.inj hp).symm
theorem xSblind {as : List Value} {sk sv : Nat → Nat} : FrameBlind (va_Pc as (fun U => xSs sk sv (fun _ => False) U U.heap)) := fun a U g mk q => ⟨q.1, xSs_moved (u := U) (U := U.calling g mk a) (Vm.Alike.refl U.vm) q.2⟩
theorem xSblind0 {as : List Value} : FrameBlind (va_Pc as (fun _ => True)) := fun a U g mk q => ⟨q.1, trivial⟩
theorem ok_coder (l : Launch) (sk sv : Nat → Nat) (j : Nat) (hj : j < 27) : Met l ys_coder ws_coder (xRm 0 0 0) (va_Pc [.ref (sk j)] (fun U => xSs sk sv (fun _ => False) U U.heap)) (va_Qi (fun r (_ : Unit) => r = 0) (fun _ _ => True) (fun _ => False)) 0 0 (fun _ => False) := by
  refine Met.ofW (cc := cs_coder) (maxL := 1) (ret := (some .byte)) (by decide) rfl ?_
  intro p e s m args below meth c s₁ B hml hv
  obtain ⟨rfl, hSt⟩ := hv
  have hx := B.exec
  have hb := B.bytes
  have hr := B.returns
  have hts : ∀ w ∈ xGw, w.before ([.ref (sk j)] : List Value).toArray s = true := fun w hw => atoms_spec (ws := ws_coder) B.pre w (List.mem_cons_of_mem _ hw)
  have hown : s.vm.findClass "java/lang/String" = some m.cls := findClass_of_methodNamed B.named
  have hlocks := B.notSynchronized
  have hS : va_S (fun _ : Nat => False) s.heap s.heap [] := va_S.rf
  have hl := lv_entry ([.ref (sk j)]) (n := 1) (Nat.le_of_ble_eq_true rfl)
  rw [lg_entry_eq]
  generalize (lg_sl ([.ref (sk j)]) ++ List.replicate (1 - (lg_sl ([.ref (sk j)])).length) Slot.unset).toArray = ls at hl ⊢
  have hl : lv_has ls 1 [(0, .ref (sk j))] := hl
  obtain ⟨hO, hCo, hVa, hBy⟩ := hSt.1 j hj
  refine va_gets hx hb hSt.2.1 hS hown (hts _ wl_cs) (fun _ h => h) ds_coder_0 ?_
  refine lv_if_eq (tgt := 13) hx hb ds_coder_3 (by decide) (fun q => absurd q (by decide)) (fun _ => ?_)
  refine lv_aload_n hx hb ds_coder_6 rfl (lv_at hl 0 rfl) ?_
  refine vk_getf hx hb hCo hS hown (hts _ wl_cod) (fun _ h => h) ds_coder_7 ?_
  refine lv_goto (tgt := 14) hx hb ds_coder_10 (by decide) ?_
  exact W.zret (v := 0) (ty := .byte) hx hb hr rfl (fun t ht hW => ⟨⟨0, (), rfl, rfl, trivial⟩, hS.F ht⟩) (fun _ h => absurd h List.not_mem_nil) ds_coder_14
theorem ok_isL (l : Launch) (sk sv : Nat → Nat) (j : Nat) (hj : j < 27) : Met l ys_isL ws_isL (xRm 0 0 0) (va_Pc [.ref (sk j)] (fun U => xSs sk sv (fun _ => False) U U.heap)) (va_Qi (fun r (_ : Unit) => r = 1) (fun _ _ => True) (fun _ => False)) 0 0 (fun _ => False) := by
  refine Met.ofW (cc := cs_isL) (maxL := 1) (ret := (some .boolean)) (by decide) rfl ?_
  intro p e s m args below meth c s₁ B hml hv
  obtain ⟨rfl, hSt⟩ := hv
  have hx := B.exec
  have hb := B.bytes
  have hr := B.returns
  have hts : ∀ w ∈ xGw, w.before ([.ref (sk j)] : List Value).toArray s = true := fun w hw => atoms_spec (ws := ws_isL) B.pre w (List.mem_cons_of_mem _ hw)
  have hown : s.vm.findClass "java/lang/String" = some m.cls := findClass_of_methodNamed B.named
  have hlocks := B.notSynchronized
  have hS : va_S (fun _ : Nat => False) s.heap s.heap [] := va_S.rf
  have hl := lv_entry ([.ref (sk j)]) (n := 1) (Nat.le_of_ble_eq_true rfl)
  rw [lg_entry_eq]
  generalize (lg_sl ([.ref (sk j)]) ++ List.replicate (1 - (lg_sl ([.ref (sk j)])).length) Slot.unset).toArray = ls at hl ⊢
  have hl : lv_has ls 1 [(0, .ref (sk j))] := hl
  obtain ⟨hO, hCo, hVa, hBy⟩ := hSt.1 j hj
  refine va_gets hx hb hSt.2.1 hS hown (hts _ wl_cs) (fun _ h => h) ds_isL_0 ?_
  refine lv_if_eq (tgt := 17) hx hb ds_isL_3 (by decide) (fun q => absurd q (by decide)) (fun _ => ?_)
  refine lv_aload_n hx hb ds_isL_6 rfl (lv_at hl 0 rfl) ?_
  refine vk_getf hx hb hCo hS hown (hts _ wl_cod) (fun _ h => h) ds_isL_7 ?_
  refine lv_if_ne (tgt := 17) hx hb ds_isL_10 (by decide) (fun q => absurd rfl q) (fun _ => ?_)
  refine lv_iconst (v := 1) hx hb ds_isL_13 (by decide) ?_
  refine lv_goto (tgt := 18) hx hb ds_isL_14 (by decide) ?_
  exact W.zret (v := 1) (ty := .boolean) hx hb hr rfl (fun t ht hW => ⟨⟨1, (), rfl, rfl, trivial⟩, hS.F ht⟩) (fun _ h => absurd h List.not_mem_nil) ds_isL_18
theorem ok_length (l : Launch) (sk sv : Nat → Nat) (j : Nat) (hj : j < 27) : Met l ys_length ws_length (xRm 1 0 0) (va_Pc [.ref (sk j)] (fun U => xSs sk sv (fun _ => False) U U.heap)) (va_Qi (fun r (_ : Unit) => r = Int32.ofNat (xSlen.getD j 0)) (fun _ _ => True) (fun _ => False)) 0 0 (fun _ => False) := by
  refine Met.ofW (cc := cs_length) (maxL := 1) (ret := (some .int)) (by decide) rfl ?_
  intro p e s m args below meth c s₁ B hml hv
  obtain ⟨rfl, hSt⟩ := hv
  have hx := B.exec
  have hb := B.bytes
  have hr := B.returns
  have hts : ∀ w ∈ xGw, w.before ([.ref (sk j)] : List Value).toArray s = true := fun w hw => atoms_spec (ws := ws_length) B.pre w (List.mem_cons_of_mem _ hw)
  have hown : s.vm.findClass "java/lang/String" = some m.cls := findClass_of_methodNamed B.named
  have hlocks := B.notSynchronized
  have hS : va_S (fun _ : Nat => False) s.heap s.heap [] := va_S.rf
  have hl := lv_entry ([.ref (sk j)]) (n := 1) (Nat.le_of_ble_eq_true rfl)
  rw [lg_entry_eq]
  generalize (lg_sl ([.ref (sk j)]) ++ List.replicate (1 - (lg_sl ([.ref (sk j)])).length) Slot.unset).toArray = ls at hl ⊢
  have hl : lv_has ls 1 [(0, .ref (sk j))] := hl
  obtain ⟨hO, hCo, hVa, hBy⟩ := hSt.1 j hj
  refine lv_aload_n hx hb ds_length_0 rfl (lv_at hl 0 rfl) ?_
  refine vk_getf hx hb hVa hS hown (hts _ wl_val) (fun _ h => h) ds_length_1 ?_
  refine va_tlen hx hb hBy hS rfl ds_length_4 ?_
  refine lv_aload_n hx hb ds_length_5 rfl (lv_at hl 0 rfl) ?_
  refine va_calli (va_runV (C := "java/lang/String") (n := 0) (As := []) (rest := [.int (Int32.ofNat (xSlen.getD j 0))]) ⟨hx, hb, hml, hown, hts⟩ (ok_coder l sk sv j hj) ⟨xSCB hts ws_coder_c wn_st wm_coder (by decide) (by decide +kernel) (Nat.le_of_ble_eq_true rfl) (Nat.le_of_ble_eq_true rfl), hts _ wi_coder, hts _ wx_coder⟩ ⟨xSblind, (by obtain ⟨cell, z1, z2, z3, -⟩ := hO; exact ⟨cell, z1, z2, z3⟩), fun U hU hW => ⟨rfl, by show xSs _ _ _ U U.heap; rw [hU]; exact xSs_moved hW.alike hSt⟩⟩ rfl rfl hl.1 rfl (lv_room (Nat.le_of_ble_eq_true rfl)) ds_length_6 ⟨Nat.le_refl _, Nat.le_refl _⟩) hS (fun q _ h => h) (fun q h => h) (fun r u t H1 locs ht hvm hw hB hz1 hk1 hS => ?_)
  subst hw
  refine lv_ishr hx hb ds_length_9 ?_
  rw [sb_shr0]
  exact W.iret (v := Int32.ofNat (xSlen.getD j 0)) hx hb hr (fun t ht hW => ⟨⟨_, (), rfl, rfl, trivial⟩, hS.F ht⟩) (fun q h => hS.2.2 q h) ds_length_10
theorem ok_pchk (l : Launch) {i n : Int32} (h0 : ¬ i < 0) (h1 : i < n) (q : Option Nat) : Met l ys_pchk ws_pchk (xRm 0 0 0) (va_Pc [.int i, .int n, va_rf q] (fun _ => True)) (va_Qi (fun r (_ : Unit) => r = i) (fun _ _ => True) (fun _ => False)) 0 0 (fun _ => False) := by
  have hq : (lg_sl ([.int i, .int n, va_rf q] : List Value)).length = 3 := by cases q <;> rfl
  refine Met.ofW (cc := cs_pchk) (maxL := 3) (ret := (some .int)) (by decide) rfl ?_
  intro p e s m args below meth c s₁ B hml hv
  obtain ⟨rfl, hSt⟩ := hv
  have hx := B.exec
  have hb := B.bytes
  have hr := B.returns
  have hts : ∀ w ∈ xGw, w.before ([.int i, .int n, va_rf q] : List Value).toArray s = true := fun w hw => atoms_spec (ws := ws_pchk) B.pre w (List.mem_cons_of_mem _ hw)
  have hown : s.vm.findClass "jdk/internal/util/Preconditions" = some m.cls := findClass_of_methodNamed B.named
  have hlocks := B.notSynchronized
  have hS : va_S (fun _ : Nat => False) s.heap s.heap [] := va_S.rf
  have hl := lv_entry ([.int i, .int n, va_rf q]) (n := 3) (by rw [hq]; decide)
  rw [lg_entry_eq]
  generalize (lg_sl ([.int i, .int n, va_rf q]) ++ List.replicate (3 - (lg_sl ([.int i, .int n, va_rf q])).length) Slot.unset).toArray = ls at hl ⊢
  have hl : lv_has ls 3 [(0, .int i), (1, .int n), (2, va_rf q)] := hl
  refine lv_iload_n hx hb ds_pchk_0 rfl (lv_at hl 0 rfl) ?_
  refine lv_if_lt (tgt := 9) hx hb ds_pchk_1 (by decide) (fun z => absurd z h0) (fun _ => ?_)
  refine lv_iload_n hx hb ds_pchk_4 rfl (lv_at hl 0 rfl) ?_
  refine lv_iload_n hx hb ds_pchk_5 rfl (lv_at hl 1 rfl) ?_
  refine lv_icmp_lt (tgt := 16) hx hb ds_pchk_6 (by decide) (fun _ => ?_) (fun z => absurd h1 z)
  refine lv_iload_n hx hb ds_pchk_16 rfl (lv_at hl 0 rfl) ?_
  exact W.iret (v := i) hx hb hr (fun t ht hW => ⟨⟨i, (), rfl, rfl, trivial⟩, hS.F ht⟩) (fun _ h => absurd h List.not_mem_nil) ds_pchk_17
theorem ok_schk (l : Launch) (sk sv : Nat → Nat) {i n : Int32} (h0 : ¬ i < 0) (h1 : i < n) : Met l ys_schk ws_schk (xRm 1 0 0) (va_Pc [.int i, .int n] (fun U => xSs sk sv (fun _ => False) U U.heap)) (va_Qv (fun (_ : Unit) => True) (fun _ _ => True) (fun _ => False)) 0 0 (fun _ => False) := by
  refine Met.ofW (cc := cs_schk) (maxL := 2) (ret := none) (by decide) rfl ?_
  intro p e s m args below meth c s₁ B hml hv
  obtain ⟨rfl, hSt⟩ := hv
  have hx := B.exec
  have hb := B.bytes
  have hr := B.returns
  have hts : ∀ w ∈ xGw, w.before ([.int i, .int n] : List Value).toArray s = true := fun w hw => atoms_spec (ws := ws_schk) B.pre w (List.mem_cons_of_mem _ hw)
  have hown : s.vm.findClass "java/lang/String" = some m.cls := findClass_of_methodNamed B.named
  have hlocks := B.notSynchronized
  have hS : va_S (fun _ : Nat => False) s.heap s.heap [] := va_S.rf
  have hl := lv_entry ([.int i, .int n]) (n := 2) (Nat.le_of_ble_eq_true rfl)
  rw [lg_entry_eq]
  generalize (lg_sl ([.int i, .int n]) ++ List.replicate (2 - (lg_sl ([.int i, .int n])).length) Slot.unset).toArray = ls at hl ⊢
  have hl : lv_has ls 2 [(0, .int i), (1, .int n)] := hl
  obtain ⟨q, hq⟩ := hSt.2.2
  refine lv_iload_n hx hb ds_schk_0 rfl (lv_at hl 0 rfl) ?_
  refine lv_iload_n hx hb ds_schk_1 rfl (lv_at hl 1 rfl) ?_
  refine va_gets hx hb hq hS hown (hts _ wl_sio) (fun _ h => h) ds_schk_2 ?_
  refine va_calli (va_runS (n := 3) (As := [.int i, .int n, va_rf q]) (rest := []) ⟨hx, hb, hml, hown, hts⟩ (ok_pchk l h0 h1 q) ⟨xSCB hts ws_pchk_c wn_pc wm_pchk (by decide) (by decide +kernel) (Nat.le_of_ble_eq_true rfl) (Nat.le_of_ble_eq_true rfl), hts _ wt_pchk⟩ ⟨xSblind0, fun U hU hW => ⟨rfl, trivial⟩⟩ rfl rfl hl.1 rfl (lv_room (Nat.le_of_ble_eq_true rfl)) ds_schk_5 ⟨Nat.le_refl _, Nat.le_refl _⟩) hS (fun q _ h => h) (fun q h => h) (fun r u t H1 locs ht hvm hw hB hz1 hk1 hS => ?_)
  refine lv_pop hx hb ds_schk_8 rfl ?_
  exact W.vret hx hb hr (fun t ht hW => ⟨⟨(), rfl, trivial, trivial⟩, hS.F ht⟩) (fun q h => hS.2.2 q h) ds_schk_9
theorem xSlen_b : ∀ j, j < 27 → (xSlen.getD j 0 < 100 ∧ ∀ k, k < xSlen.getD j 0 → narrow .char (.int ((((xSbyt.getD j []).getD k 0 &&& 255).toUInt32 % 65536).toInt32)) = .int ((((xSbyt.getD j []).getD k 0 &&& 255).toUInt32 % 65536).toInt32) ∧ ((((xSbyt.getD j []).getD k 0 &&& 255).toUInt32 % 65536).toInt32) = Int32.ofInt ((xTx.getD j []).getD k 0) ∧ xIn32 ((xTx.getD j []).getD k 0) = true ∧ (xTx.getD j []).length = xSlen.getD j 0) := by decide +kernel
theorem ok_lchr (l : Launch) (sk sv : Nat → Nat) (j : Nat) (hj : j < 27) {k : Nat} (hk : k < xSlen.getD j 0) : Met l ys_lchr ws_lchr (xRm 2 0 0) (va_Pc [.ref (sv j), .int (Int32.ofNat k)] (fun U => xSs sk sv (fun _ => False) U U.heap)) (va_Qi (fun r (_ : Unit) => r = ((((xSbyt.getD j []).getD k 0 &&& 255).toUInt32 % 65536).toInt32)) (fun _ _ => True) (fun _ => False)) 0 0 (fun _ => False) := by
  refine Met.ofW (cc := cs_lchr) (maxL := 2) (ret := (some .char)) (by decide) rfl ?_
  intro p e s m args below meth c s₁ B hml hv
  obtain ⟨rfl, hSt⟩ := hv
  have hx := B.exec
  have hb := B.bytes
  have hr := B.returns
  have hts : ∀ w ∈ xGw, w.before ([.ref (sv j), .int (Int32.ofNat k)] : List Value).toArray s = true := fun w hw => atoms_spec (ws := ws_lchr) B.pre w (List.mem_cons_of_mem _ hw)
  have hown : s.vm.findClass "java/lang/StringLatin1" = some m.cls := findClass_of_methodNamed B.named
  have hlocks := B.notSynchronized
  have hS : va_S (fun _ : Nat => False) s.heap s.heap [] := va_S.rf
  have hl := lv_entry ([.ref (sv j), .int (Int32.ofNat k)]) (n := 2) (Nat.le_of_ble_eq_true rfl)
  rw [lg_entry_eq]
  generalize (lg_sl ([.ref (sv j), .int (Int32.ofNat k)]) ++ List.replicate (2 - (lg_sl ([.ref (sv j), .int (Int32.ofNat k)])).length) Slot.unset).toArray = ls at hl ⊢
  have hl : lv_has ls 2 [(0, .ref (sv j)), (1, .int (Int32.ofNat k))] := hl
  obtain ⟨hO, hCo, hVa, hBy⟩ := hSt.1 j hj
  have hb100 := (xSlen_b j hj).1
  have hkk := (xSlen_b j hj).2 k hk
  refine lv_iload_n hx hb ds_lchr_0 rfl (lv_at hl 1 rfl) ?_
  refine lv_aload_n hx hb ds_lchr_1 rfl (lv_at hl 0 rfl) ?_
  refine va_tlen hx hb hBy hS rfl ds_lchr_2 ?_
  refine va_callv (va_runS (n := 2) (As := [.int (Int32.ofNat k), .int (Int32.ofNat (xSlen.getD j 0))]) (rest := []) ⟨hx, hb, hml, hown, hts⟩ (ok_schk l sk sv (nI_pos (by omega)) (nI_lt hk (by omega))) ⟨xSCB hts ws_schk_c wn_st wm_schk (by decide) (by decide +kernel) (Nat.le_of_ble_eq_true rfl) (Nat.le_of_ble_eq_true rfl), hts _ wt_schk⟩ ⟨xSblind, fun U hU hW => ⟨rfl, by show xSs _ _ _ U U.heap; rw [hU]; exact xSs_moved hW.alike hSt⟩⟩ rfl rfl hl.1 rfl (lv_room (Nat.le_of_ble_eq_true rfl)) ds_lchr_3 ⟨Nat.le_refl _, Nat.le_refl _⟩) hS (fun q _ h => h) (fun q h => h) (fun u t H1 locs ht hvm hw hB hz1 hk1 hS => ?_)
  refine lv_aload_n hx hb ds_lchr_6 rfl (lv_at hl 0 rfl) ?_
  refine lv_iload_n hx hb ds_lchr_7 rfl (lv_at hl 1 rfl) ?_
  refine va_tb (v := .int ((xSbyt.getD j []).getD k 0)) hx hb hBy hS (vp_in_nI hk (by omega)) (by show Value.int ((xSbyt.getD j []).getD (nI k).toNatClampNeg 0) = _; rw [nI_clamp (by omega)]) ds_lchr_8 ?_
  refine lv_sipush (v := 255) hx hb ds_lchr_9 (by decide) ?_
  refine lv_iand hx hb ds_lchr_12 ?_
  refine lv_i2c hx hb ds_lchr_13 rfl ?_
  exact W.zret (ty := .char) hx hb hr hkk.1 (fun t ht hW => ⟨⟨_, (), rfl, rfl, trivial⟩, hS.F ht⟩) (fun q h => hS.2.2 q h) ds_lchr_14
theorem ok_chr (l : Launch) (sk sv : Nat → Nat) (j : Nat) (hj : j < 27) {k : Nat} (hk : k < xSlen.getD j 0) : Met l ys_chr ws_chr (xRm 3 0 0) (va_Pc [.ref (sk j), .int (Int32.ofNat k)] (fun U => xSs sk sv (fun _ => False) U U.heap)) (va_Qi (fun r (_ : Unit) => r = ((((xSbyt.getD j []).getD k 0 &&& 255).toUInt32 % 65536).toInt32)) (fun _ _ => True) (fun _ => False)) 0 0 (fun _ => False) := by
  refine Met.ofW (cc := cs_chr) (maxL := 2) (ret := (some .char)) (by decide) rfl ?_
  intro p e s m args below meth c s₁ B hml hv
  obtain ⟨rfl, hSt⟩ := hv
  have hx := B.exec
  have hb := B.bytes
  have hr := B.returns
  have hts : ∀ w ∈ xGw, w.before ([.ref (sk j), .int (Int32.ofNat k)] : List Value).toArray s = true := fun w hw => atoms_spec (ws := ws_chr) B.pre w (List.mem_cons_of_mem _ hw)
  have hown : s.vm.findClass "java/lang/String" = some m.cls := findClass_of_methodNamed B.named
  have hlocks := B.notSynchronized
  have hS : va_S (fun _ : Nat => False) s.heap s.heap [] := va_S.rf
  have hl := lv_entry ([.ref (sk j), .int (Int32.ofNat k)]) (n := 2) (Nat.le_of_ble_eq_true rfl)
  rw [lg_entry_eq]
  generalize (lg_sl ([.ref (sk j), .int (Int32.ofNat k)]) ++ List.replicate (2 - (lg_sl ([.ref (sk j), .int (Int32.ofNat k)])).length) Slot.unset).toArray = ls at hl ⊢
  have hl : lv_has ls 2 [(0, .ref (sk j)), (1, .int (Int32.ofNat k))] := hl
  obtain ⟨hO, hCo, hVa, hBy⟩ := hSt.1 j hj
  have hkk := (xSlen_b j hj).2 k hk
  refine lv_aload_n hx hb ds_chr_0 rfl (lv_at hl 0 rfl) ?_
  refine va_calli (va_runV (C := "java/lang/String") (n := 0) (As := []) (rest := []) ⟨hx, hb, hml, hown, hts⟩ (ok_isL l sk sv j hj) ⟨xSCB hts ws_isL_c wn_st wm_isL (by decide) (by decide +kernel) (Nat.le_of_ble_eq_true rfl) (Nat.le_of_ble_eq_true rfl), hts _ wi_isL, hts _ wx_isL⟩ ⟨xSblind, (by obtain ⟨cell, z1, z2, z3, -⟩ := hO; exact ⟨cell, z1, z2, z3⟩), fun U hU hW => ⟨rfl, by show xSs _ _ _ U U.heap; rw [hU]; exact xSs_moved hW.alike hSt⟩⟩ rfl rfl hl.1 rfl (lv_room (Nat.le_of_ble_eq_true rfl)) ds_chr_1 ⟨Nat.le_refl _, Nat.le_refl _⟩) hS (fun q _ h => h) (fun q h => h) (fun r u t H1 locs ht hvm hw hB hz1 hk1 hS => ?_)
  subst hw
  refine lv_if_eq (tgt := 16) hx hb ds_chr_4 (by decide) (fun q => absurd q (by decide)) (fun _ => ?_)
  refine lv_aload_n hx hb ds_chr_7 rfl (lv_at hl 0 rfl) ?_
  refine vk_getf hx hb hVa hS hown (hts _ wl_val) (fun _ h => h) ds_chr_8 ?_
  refine lv_iload_n hx hb ds_chr_11 rfl (lv_at hl 1 rfl) ?_
  refine va_calli (va_runS (n := 2) (As := [.ref (sv j), .int (Int32.ofNat k)]) (rest := []) ⟨hx, hb, hml, hown, hts⟩ (ok_lchr l sk sv j hj hk) ⟨xSCB hts ws_lchr_c wn_l1 wm_lchr (by decide) (by decide +kernel) (Nat.le_of_ble_eq_true rfl) (Nat.le_of_ble_eq_true rfl), hts _ wt_lchr⟩ ⟨xSblind, fun U hU hW => ⟨rfl, by show xSs _ _ _ U U.heap; rw [hU]; exact xSs_moved hW.alike (xSs_kept hSt (fun a ha _ => hk1 a ha (fun z => z)))⟩⟩ rfl rfl hl.1 rfl (lv_room (Nat.le_of_ble_eq_true rfl)) ds_chr_12 ⟨Nat.le_refl _, Nat.le_refl _⟩) hS (fun q _ h => h) (fun q h => h) (fun r u t H2 locs ht hvm hw hB hz2 hk2 hS => ?_)
  subst hw
  exact W.zret (ty := .char) hx hb hr hkk.1 (fun t ht hW => ⟨⟨_, (), rfl, rfl, trivial⟩, hS.F ht⟩) (fun q h => hS.2.2 q h) ds_chr_15
section XSTR
variable {p : Program} {l : Launch} {e : Env} {R : Room} {s : State} {m : MethodId} {args : Array Value} {below : List Frame} {meth : Method} {c : Code}
variable {J : xJT} {A : Nat → Prop} {Z : State → Prop} {nL c0 s0 own d pc : Nat} {cc : ByteArray} {ps : List Nat} {L r : List xV} {M : xH}
theorem xRel_kept {G : xG} {H H1 : Heap} {locs locs1 : List Loc} (hR : xRel J s A s.heap G M H locs) (hk : ∀ q : Nat, q < H.size → H1[q]? = H[q]?) (hS : va_S A s.heap H1 locs1) : xRel J s A s.heap G M H1 locs1 :=
  ⟨hR.1, hR.2.1.kept (fun k q hq => hk q.1 ((hR.2.1 k q hq).lt)), hR.2.2.1, hS, hR.2.2.2.2.1, hR.2.2.2.2.2⟩
theorem o_len (C : xCtx p R s m args c own cc nL d J A) {i : Nat} (hw : (own, i, 4) ∈ xBl) (hd : decode cc (ps.getD pc 0) = .ok (.invokevirtual i, 3)) (hn : ps.getD (pc + 1) 0 = ps.getD pc 0 + 3) {x : Int} (hd0 : 4 < d) (hr8 : xCat r ≤ 8) (hx1 : x ≤ -2) (hx2 : -29 < x) (hcl : M.2.2.2.1 ≤ c0 + R.cells) (hsl : M.2.2.2.2 ≤ s0 + R.slots) (h : xRd (p, l, e, R, s, m, args, below, meth, c) J A Z nL c0 s0 ps (pc + 1, L, (0, xLg x) :: r, M)) : xRd (p, l, e, R, s, m, args, below, meth, c) J A Z nL c0 s0 ps (pc, L, (2, x) :: r, M) := by
  intro G H locs ls hR hF h1 h2
  replace hR : xRel J s A s.heap G M H locs := hR
  replace h1 : c0 ≤ M.2.2.2.1 := h1
  replace h2 : s0 ≤ M.2.2.2.2 := h2
  have hF2 : xFr nL G M L r ls := xFr_tail hF
  obtain ⟨j, hj⟩ : ∃ j : Nat, x = -2 - (j : Int) := ⟨(-2 - x).toNat, by omega⟩
  have hj27 : j < 27 := by omega
  have hjx : (-2 - x).toNat = j := by omega
  have hT := C.2.2.2.2.2.1
  obtain ⟨-, -, -, hSt⟩ := C.2.2.2.2.2.2.1
  have hS := hR.2.2.2.1
  have hSt1 := xSs_kept hSt (fun a ha hna => hS.2.1 a ha hna)
  have hSt2 : xSs J.2.1 J.2.2.1 (fun _ => False) s H := xSs_narrow hSt1 (fun _ h => h.elim)
  obtain ⟨hO, -, -, -⟩ := hSt2.1 j hj27
  have hG : G.1 x = J.2.1 j := by rw [hj]; exact hR.2.2.2.2.2.2.1.1 j hj27
  have hdf := C.2.2.2.2.2.2.2.2.1
  have hdl := C.2.2.2.2.2.2.2.2.2
  have hsl := (xSlen_b j hj27).1
  show W p l e R s m args below meth c H locs (M.2.2.2.1 - c0) (M.2.2.2.2 - s0) Z (F0 m (ps.getD pc 0) ls (xc G.1 (2, x) :: r.map (xc G.1)))
  rw [xc_ref (show x ≠ 0 by omega), hG]
  have hsub : 0 ≤ R.cells - (M.2.2.2.1 - c0) := Nat.zero_le _
  refine va_calli (va_runV (C := "java/lang/String") (n := 0) (As := []) (rest := r.map (xc G.1)) ⟨C.1, C.2.1, C.2.2.1, C.2.2.2.1, C.2.2.2.2.1⟩ (ok_length l J.2.1 J.2.2.1 j hj27) ⟨xSCB C.2.2.2.2.1 ws_length_c wn_st (xGw_of (xBl_ok _ hw) rfl) (by decide) (by decide +kernel) (by omega) (by omega), C.2.2.2.2.1 _ wi_length, C.2.2.2.2.1 _ wx_length⟩ ⟨xSblind, (by obtain ⟨cell, z1, z2, z3, -⟩ := hO; exact ⟨cell, z1, z2, z3⟩), fun U hU hW => ⟨rfl, by show xSs _ _ _ U U.heap; rw [hU]; exact xSs_moved hW.alike hSt2⟩⟩ rfl rfl hF.1.1 rfl (xRoom8 hF2 hr8) hd ⟨by omega, by omega⟩) hS (fun q _ h => h.elim) (fun q h => h.elim) (fun r9 u t H1 locs1 ht hvm hw9 hB hz1 hk1 hS1 => ?_)
  subst hw9
  have k := h G H1 locs1 ls (xRel_kept hR (fun q hq => hk1 q hq (fun z => z)) hS1) ⟨hF.1, hF.2.1, hF.2.2.1, fun v hv => ?_⟩ h1 h2
  · have k : W p l e R s m args below meth c H1 locs1 (M.2.2.2.1 - c0) (M.2.2.2.2 - s0) Z (F0 m (ps.getD (pc + 1) 0) ls (.int (Int32.ofInt (xLg x)) :: r.map (xc G.1))) := k
    rw [hn] at k
    have ev : Int32.ofNat (xSlen.getD j 0) = Int32.ofInt (xLg x) := by unfold xLg xTxt; rw [hjx, xTx_len j hj27, xi_nat]
    rw [ev]
    exact k
  · have hv : v ∈ ((0, xLg x) :: r : List xV) := hv
    rcases List.mem_cons.mp hv with rfl | hv
    · refine ⟨Nat.le_of_ble_eq_true rfl, ?_⟩
      show xIn 0 (xLg x)
      unfold xLg xTxt
      rw [hjx, xTx_len j hj27]
      show (-2147483648 : Int) ≤ ((xSlen.getD j 0 : Nat) : Int) ∧ ((xSlen.getD j 0 : Nat) : Int) < 2147483648
      omega
    · exact hF2.2.2.2 v hv
theorem o_chr (C : xCtx p R s m args c own cc nL d J A) {i : Nat} (hw : (own, i, 5) ∈ xBl) (hd : decode cc (ps.getD pc 0) = .ok (.invokevirtual i, 3)) (hn : ps.getD (pc + 1) 0 = ps.getD pc 0 + 3) {x y : Int} (hd0 : 4 < d) (hr8 : xCat r ≤ 8) (hx1 : x ≤ -2) (hx2 : -29 < x) (hy0 : 0 ≤ y) (hy1 : y < xLg x) (hcl : M.2.2.2.1 ≤ c0 + R.cells) (hsl : M.2.2.2.2 ≤ s0 + R.slots) (h : xRd (p, l, e, R, s, m, args, below, meth, c) J A Z nL c0 s0 ps (pc + 1, L, (0, xCh x y) :: r, M)) : xRd (p, l, e, R, s, m, args, below, meth, c) J A Z nL c0 s0 ps (pc, L, (0, y) :: (2, x) :: r, M) := by
  intro G H locs ls hR hF h1 h2
  replace hR : xRel J s A s.heap G M H locs := hR
  replace h1 : c0 ≤ M.2.2.2.1 := h1
  replace h2 : s0 ≤ M.2.2.2.2 := h2
  have hF2 : xFr nL G M L r ls := xFr_tail (xFr_tail hF)
  obtain ⟨j, hj⟩ : ∃ j : Nat, x = -2 - (j : Int) := ⟨(-2 - x).toNat, by omega⟩
  have hj27 : j < 27 := by omega
  have hjx : (-2 - x).toNat = j := by omega
  have hT := C.2.2.2.2.2.1
  obtain ⟨-, -, -, hSt⟩ := C.2.2.2.2.2.2.1
  have hS := hR.2.2.2.1
  have hSt1 := xSs_kept hSt (fun a ha hna => hS.2.1 a ha hna)
  have hSt2 : xSs J.2.1 J.2.2.1 (fun _ => False) s H := xSs_narrow hSt1 (fun _ h => h.elim)
  obtain ⟨hO, -, -, -⟩ := hSt2.1 j hj27
  have hG : G.1 x = J.2.1 j := by rw [hj]; exact hR.2.2.2.2.2.2.1.1 j hj27
  have hdf := C.2.2.2.2.2.2.2.2.1
  have hdl := C.2.2.2.2.2.2.2.2.2
  have hsl := (xSlen_b j hj27).1
  have iy : xIn 0 y := (hF.2.2.2 (0, y) (by simp)).2
  have hyl : y.toNat < xSlen.getD j 0 := by
    unfold xLg xTxt at hy1
    rw [hjx] at hy1
    by_cases q : 0 < xSlen.getD j 0
    · rw [((xSlen_b j hj27).2 0 q).2.2.2] at hy1
      omega
    · exact absurd hy1 (by rw [xTx_len j hj27]; omega)
  have hkk := (xSlen_b j hj27).2 y.toNat hyl
  have hyn : Int32.ofInt y = Int32.ofNat y.toNat := by rw [← xi_nat, Int.toNat_of_nonneg hy0]
  show W p l e R s m args below meth c H locs (M.2.2.2.1 - c0) (M.2.2.2.2 - s0) Z (F0 m (ps.getD pc 0) ls (.int (Int32.ofInt y) :: xc G.1 (2, x) :: r.map (xc G.1)))
  rw [xc_ref (show x ≠ 0 by omega), hG, hyn]
  have hsub : 0 ≤ R.cells - (M.2.2.2.1 - c0) := Nat.zero_le _
  refine va_calli (va_runV (C := "java/lang/String") (n := 1) (As := [.int (Int32.ofNat y.toNat)]) (rest := r.map (xc G.1)) ⟨C.1, C.2.1, C.2.2.1, C.2.2.2.1, C.2.2.2.2.1⟩ (ok_chr l J.2.1 J.2.2.1 j hj27 hyl) ⟨xSCB C.2.2.2.2.1 ws_chr_c wn_st (xGw_of (xBl_ok _ hw) rfl) (by decide) (by decide +kernel) (by omega) (by omega), C.2.2.2.2.1 _ wi_chr, C.2.2.2.2.1 _ wx_chr⟩ ⟨xSblind, (by obtain ⟨cell, z1, z2, z3, -⟩ := hO; exact ⟨cell, z1, z2, z3⟩), fun U hU hW => ⟨rfl, by show xSs _ _ _ U U.heap; rw [hU]; exact xSs_moved hW.alike hSt2⟩⟩ rfl rfl hF.1.1 rfl (xRoom8 hF2 hr8) hd ⟨by omega, by omega⟩) hS (fun q _ h => h.elim) (fun q h => h.elim) (fun r9 u t H1 locs1 ht hvm hw9 hB hz1 hk1 hS1 => ?_)
  subst hw9
  have k := h G H1 locs1 ls (xRel_kept hR (fun q hq => hk1 q hq (fun z => z)) hS1) ⟨hF.1, hF.2.1, hF.2.2.1, fun v hv => ?_⟩ h1 h2
  · have k : W p l e R s m args below meth c H1 locs1 (M.2.2.2.1 - c0) (M.2.2.2.2 - s0) Z (F0 m (ps.getD (pc + 1) 0) ls (.int (Int32.ofInt (xCh x y)) :: r.map (xc G.1))) := k
    rw [hn] at k
    have ev : ((((xSbyt.getD j []).getD y.toNat 0 &&& 255).toUInt32 % 65536).toInt32) = Int32.ofInt (xCh x y) := by unfold xCh xTxt; rw [hjx]; exact hkk.2.1
    rw [ev]
    exact k
  · have hv : v ∈ ((0, xCh x y) :: r : List xV) := hv
    rcases List.mem_cons.mp hv with rfl | hv
    · refine ⟨Nat.le_of_ble_eq_true rfl, ?_⟩
      show xIn 0 (xCh x y)
      unfold xCh xTxt
      rw [hjx]
      exact xIn32_ok hkk.2.2.1
    · exact hF2.2.2.2 v hv
theorem o_mna (C : xCtx p R s m args c 11 cc nL d J A) (hd : decode cc (ps.getD pc 0) = .ok (.multianewarray 81 2, 4)) (hn : ps.getD (pc + 1) 0 = ps.getD pc 0 + 4) {x y : Int} (hx0 : 0 ≤ x) (hx1 : x ≤ 1000) (hy0 : 0 ≤ y) (hy1 : y ≤ 1000) (hcl : (xNm M x y).2.2.2.1 ≤ c0 + R.cells) (hsl : (xNm M x y).2.2.2.2 ≤ s0 + R.slots) (h : xRd (p, l, e, R, s, m, args, below, meth, c) J A Z nL c0 s0 ps (pc + 1, L, (2, (M.2.2.2.1 : Int)) :: r, xNm M x y)) : xRd (p, l, e, R, s, m, args, below, meth, c) J A Z nL c0 s0 ps (pc, L, (0, y) :: (0, x) :: r, M) := by
  sorry
end XSTR
end
section
theorem xB1_inv {call : xCallT} {k : xS → Prop} {Q : Int → xH → Prop} {s : xS} {st : List xV} {f : Int → List xV → xO} (h : xGo call k Q (xB1 s st f)) : ∃ x r, st = (0, x) :: r ∧ xGo call k Q (f x r) := by
  unfold xB1 at h; split at h
  · exact ⟨_, _, rfl, h⟩
  · exact absurd h.1 id
theorem xB2_inv {call : xCallT} {k : xS → Prop} {Q : Int → xH → Prop} {s : xS} {st : List xV} {f : Int → Int → List xV → xO} (h : xGo call k Q (xB2 s st f)) : ∃ x y r, st = (0, y) :: (0, x) :: r ∧ xGo call k Q (f x y r) := by
  unfold xB2 at h; split at h
  · exact ⟨_, _, _, rfl, h⟩
  · exact absurd h.1 id
theorem xJ1_inv {call : xCallT} {k : xS → Prop} {Q : Int → xH → Prop} {s : xS} {st : List xV} {f : Int → List xV → xO} (h : xGo call k Q (xJ1 s st f)) : ∃ x r, st = (1, x) :: r ∧ xGo call k Q (f x r) := by
  unfold xJ1 at h; split at h
  · exact ⟨_, _, rfl, h⟩
  · exact absurd h.1 id
theorem xJ2_inv {call : xCallT} {k : xS → Prop} {Q : Int → xH → Prop} {s : xS} {st : List xV} {f : Int → Int → List xV → xO} (h : xGo call k Q (xJ2 s st f)) : ∃ x y r, st = (1, y) :: (1, x) :: r ∧ xGo call k Q (f x y r) := by
  unfold xJ2 at h; split at h
  · exact ⟨_, _, _, rfl, h⟩
  · exact absurd h.1 id
theorem xJi_inv {call : xCallT} {k : xS → Prop} {Q : Int → xH → Prop} {s : xS} {st : List xV} {f : Int → Int → List xV → xO} (h : xGo call k Q (xJi s st f)) : ∃ x y r, st = (0, y) :: (1, x) :: r ∧ xGo call k Q (f x y r) := by
  unfold xJi at h; split at h
  · exact ⟨_, _, _, rfl, h⟩
  · exact absurd h.1 id
theorem xR1_inv {call : xCallT} {k : xS → Prop} {Q : Int → xH → Prop} {s : xS} {st : List xV} {f : Int → List xV → xO} (h : xGo call k Q (xR1 s st f)) : ∃ x r, st = (2, x) :: r ∧ xGo call k Q (f x r) := by
  unfold xR1 at h; split at h
  · exact ⟨_, _, rfl, h⟩
  · exact absurd h.1 id
theorem xA2_inv {call : xCallT} {k : xS → Prop} {Q : Int → xH → Prop} {s : xS} {st : List xV} {f : Int → Int → List xV → xO} (h : xGo call k Q (xA2 s st f)) : ∃ a i r, st = (0, i) :: (2, a) :: r ∧ xGo call k Q (f a i r) := by
  unfold xA2 at h; split at h
  · exact ⟨_, _, _, rfl, h⟩
  · exact absurd h.1 id
theorem xA3_inv {call : xCallT} {k : xS → Prop} {Q : Int → xH → Prop} {s : xS} {t : Nat} {st : List xV} {f : Int → Int → Int → List xV → xO} (h : xGo call k Q (xA3 s t st f)) : ∃ a i x r, st = (t, x) :: (0, i) :: (2, a) :: r ∧ xGo call k Q (f a i x r) := by
  unfold xA3 at h; split at h
  · split at h
    · rename_i e
      subst e
      exact ⟨_, _, _, _, rfl, h⟩
    · exact absurd h.1 id
  · exact absurd h.1 id
theorem xLo_inv {call : xCallT} {k : xS → Prop} {Q : Int → xH → Prop} {s : xS} {L : List xV} {i t : Nat} {f : xV → xO} (ht : t ≠ 9) (h : xGo call k Q (xLo L i t s f)) : ∃ x, L[i]? = some (t, x) ∧ xGo call k Q (f (t, x)) := by
  unfold xLo at h
  generalize e : L.getD i (9, 0) = v at h
  obtain ⟨u, x⟩ := v
  have h2 : xGo call k Q (if u = t then f (u, x) else xBad s) := h
  clear h
  by_cases e2 : u = t
  · rw [if_pos e2, e2] at h2
    rw [e2] at e
    exact ⟨x, xGetD e (fun q => ht (congrArg Prod.fst q)), h2⟩
  · rw [if_neg e2] at h2
    exact absurd h2.1 id
theorem xIf_inv {call : xCallT} {k : xS → Prop} {Q : Int → xH → Prop} {s : xS} {b : Bool} {x : xO} (h : xGo call k Q (xIf b x (xBad s))) : b = true ∧ xGo call k Q x := by
  cases b
  · exact absurd h.1 id
  · exact ⟨rfl, h⟩
theorem xJmp_ok {ps : List Nat} {pc : Nat} {off t : Int} (h : xJmp ps pc off t = true) : ((ps.getD t.toNat 0 : Nat) : Int) = (pc : Int) + off := by
  simp only [xJmp, Bool.and_eq_true, beq_iff_eq] at h
  exact h.2
theorem xLen_eq {i : Instr} {l : Nat} (h : xLenOk i l = true) (h1 : xLenOk i l = (l == xLen i)) : l = xLen i := by
  rw [h1] at h
  exact eq_of_beq h
theorem xBle {a b : Nat} (h : Nat.ble a b = true) : a ≤ b := Nat.le_of_ble_eq_true h
theorem xBlt {a b : Nat} (h : Nat.blt a b = true) : a < b := Nat.le_of_ble_eq_true h
theorem xIn64_ok {v : Int} (h : xIn64 v = true) : xIn 1 v := by
  simp only [xIn64, Bool.and_eq_true, decide_eq_true_eq] at h
  exact h
theorem xBq_aaload {i : Instr} (h : (i == .aaload) = true) : i = .aaload := by
  cases i <;> first | rfl | exact Bool.noConfusion h
theorem xBq_aastore {i : Instr} (h : (i == .aastore) = true) : i = .aastore := by
  cases i <;> first | rfl | exact Bool.noConfusion h
theorem xBq_arraylength {i : Instr} (h : (i == .arraylength) = true) : i = .arraylength := by
  cases i <;> first | rfl | exact Bool.noConfusion h
theorem xBq_dup {i : Instr} (h : (i == .dup) = true) : i = .dup := by
  cases i <;> first | rfl | exact Bool.noConfusion h
theorem xBq_dup2 {i : Instr} (h : (i == .dup2) = true) : i = .dup2 := by
  cases i <;> first | rfl | exact Bool.noConfusion h
theorem xBq_i2b {i : Instr} (h : (i == .i2b) = true) : i = .i2b := by
  cases i <;> first | rfl | exact Bool.noConfusion h
theorem xBq_i2l {i : Instr} (h : (i == .i2l) = true) : i = .i2l := by
  cases i <;> first | rfl | exact Bool.noConfusion h
theorem xBq_i2s {i : Instr} (h : (i == .i2s) = true) : i = .i2s := by
  cases i <;> first | rfl | exact Bool.noConfusion h
theorem xBq_iadd {i : Instr} (h : (i == .iadd) = true) : i = .iadd := by
  cases i <;> first | rfl | exact Bool.noConfusion h
theorem xBq_iaload {i : Instr} (h : (i == .iaload) = true) : i = .iaload := by
  cases i <;> first | rfl | exact Bool.noConfusion h
theorem xBq_iand {i : Instr} (h : (i == .iand) = true) : i = .iand := by
  cases i <;> first | rfl | exact Bool.noConfusion h
theorem xBq_iastore {i : Instr} (h : (i == .iastore) = true) : i = .iastore := by
  cases i <;> first | rfl | exact Bool.noConfusion h
theorem xBq_idiv {i : Instr} (h : (i == .idiv) = true) : i = .idiv := by
  cases i <;> first | rfl | exact Bool.noConfusion h
theorem xBq_imul {i : Instr} (h : (i == .imul) = true) : i = .imul := by
  cases i <;> first | rfl | exact Bool.noConfusion h
theorem xBq_ineg {i : Instr} (h : (i == .ineg) = true) : i = .ineg := by
  cases i <;> first | rfl | exact Bool.noConfusion h
theorem xBq_ior {i : Instr} (h : (i == .ior) = true) : i = .ior := by
  cases i <;> first | rfl | exact Bool.noConfusion h
theorem xBq_irem {i : Instr} (h : (i == .irem) = true) : i = .irem := by
  cases i <;> first | rfl | exact Bool.noConfusion h
theorem xBq_ishl {i : Instr} (h : (i == .ishl) = true) : i = .ishl := by
  cases i <;> first | rfl | exact Bool.noConfusion h
theorem xBq_ishr {i : Instr} (h : (i == .ishr) = true) : i = .ishr := by
  cases i <;> first | rfl | exact Bool.noConfusion h
theorem xBq_isub {i : Instr} (h : (i == .isub) = true) : i = .isub := by
  cases i <;> first | rfl | exact Bool.noConfusion h
theorem xBq_iushr {i : Instr} (h : (i == .iushr) = true) : i = .iushr := by
  cases i <;> first | rfl | exact Bool.noConfusion h
theorem xBq_ixor {i : Instr} (h : (i == .ixor) = true) : i = .ixor := by
  cases i <;> first | rfl | exact Bool.noConfusion h
theorem xBq_l2i {i : Instr} (h : (i == .l2i) = true) : i = .l2i := by
  cases i <;> first | rfl | exact Bool.noConfusion h
theorem xBq_ladd {i : Instr} (h : (i == .ladd) = true) : i = .ladd := by
  cases i <;> first | rfl | exact Bool.noConfusion h
theorem xBq_laload {i : Instr} (h : (i == .laload) = true) : i = .laload := by
  cases i <;> first | rfl | exact Bool.noConfusion h
theorem xBq_land {i : Instr} (h : (i == .land) = true) : i = .land := by
  cases i <;> first | rfl | exact Bool.noConfusion h
theorem xBq_lastore {i : Instr} (h : (i == .lastore) = true) : i = .lastore := by
  cases i <;> first | rfl | exact Bool.noConfusion h
theorem xBq_lcmp {i : Instr} (h : (i == .lcmp) = true) : i = .lcmp := by
  cases i <;> first | rfl | exact Bool.noConfusion h
theorem xBq_ldiv {i : Instr} (h : (i == .ldiv) = true) : i = .ldiv := by
  cases i <;> first | rfl | exact Bool.noConfusion h
theorem xBq_lmul {i : Instr} (h : (i == .lmul) = true) : i = .lmul := by
  cases i <;> first | rfl | exact Bool.noConfusion h
theorem xBq_lor {i : Instr} (h : (i == .lor) = true) : i = .lor := by
  cases i <;> first | rfl | exact Bool.noConfusion h
theorem xBq_lrem {i : Instr} (h : (i == .lrem) = true) : i = .lrem := by
  cases i <;> first | rfl | exact Bool.noConfusion h
theorem xBq_lshl {i : Instr} (h : (i == .lshl) = true) : i = .lshl := by
  cases i <;> first | rfl | exact Bool.noConfusion h
theorem xBq_lshr {i : Instr} (h : (i == .lshr) = true) : i = .lshr := by
  cases i <;> first | rfl | exact Bool.noConfusion h
theorem xBq_pop {i : Instr} (h : (i == .pop) = true) : i = .pop := by
  cases i <;> first | rfl | exact Bool.noConfusion h
theorem xBq_at {a b : ArrayType} (h : (a == b) = true) : a = b := by
  cases a <;> cases b <;> first | rfl | exact Bool.noConfusion h
theorem xBq_cd {a b : ClassFile.Cond} (h : (a == b) = true) : a = b := by
  cases a <;> cases b <;> first | rfl | exact Bool.noConfusion h
section XSTEP
variable {p : Program} {l : Launch} {e : Env} {R : Room} {s : State} {m : MethodId} {args : Array Value} {below : List Frame} {meth : Method} {c : Code}
variable {J : xJT} {A : Nat → Prop} {Z : State → Prop} {nL c0 s0 own d pc : Nat} {cc : ByteArray} {ps : List Nat} {L st : List xV} {M : xH} {k : xS → Prop} {Q : Int → xH → Prop} {call : xCallT} {ini : Bool} {ret : Option FieldType} {i : Instr} {len : Nat}
theorem st_iadd (C : xCtx p R s m args c own cc nL d J A)  (hp : decode cc (ps.getD pc 0) = .ok (i, len)) (hlen : xLenOk i len = true) (hck : xChk1 own ini ret ps (ps.getD pc 0) i (.iadd) = true) (hnx : ps.getD (pc + 1) 0 = ps.getD pc 0 + len ∨ xTerm (.iadd) = true) (hk : ∀ S, k S → xRd (p, l, e, R, s, m, args, below, meth, c) J A Z nL c0 s0 ps S ∧ S.2.2.2.2.2.2.1 ≤ c0 + R.cells ∧ S.2.2.2.2.2.2.2 ≤ s0 + R.slots) (h : xGo call k Q (xNext d (.iadd) pc L st M)) : xRd (p, l, e, R, s, m, args, below, meth, c) J A Z nL c0 s0 ps (pc, L, st, M) := by
  have hi : i = .iadd := xBq_iadd hck
  subst hi
  have hl := xLen_eq hlen rfl
  subst hl
  have hn := hnx.resolve_right (by simp [xTerm])
  obtain ⟨x, y, r, rfl, h⟩ := xB2_inv h
  exact o_iadd C hp hn (hk _ h).1
theorem st_isub (C : xCtx p R s m args c own cc nL d J A)  (hp : decode cc (ps.getD pc 0) = .ok (i, len)) (hlen : xLenOk i len = true) (hck : xChk1 own ini ret ps (ps.getD pc 0) i (.isub) = true) (hnx : ps.getD (pc + 1) 0 = ps.getD pc 0 + len ∨ xTerm (.isub) = true) (hk : ∀ S, k S → xRd (p, l, e, R, s, m, args, below, meth, c) J A Z nL c0 s0 ps S ∧ S.2.2.2.2.2.2.1 ≤ c0 + R.cells ∧ S.2.2.2.2.2.2.2 ≤ s0 + R.slots) (h : xGo call k Q (xNext d (.isub) pc L st M)) : xRd (p, l, e, R, s, m, args, below, meth, c) J A Z nL c0 s0 ps (pc, L, st, M) := by
  have hi : i = .isub := xBq_isub hck
  subst hi
  have hl := xLen_eq hlen rfl
  subst hl
  have hn := hnx.resolve_right (by simp [xTerm])
  obtain ⟨x, y, r, rfl, h⟩ := xB2_inv h
  exact o_isub C hp hn (hk _ h).1
theorem st_imul (C : xCtx p R s m args c own cc nL d J A)  (hp : decode cc (ps.getD pc 0) = .ok (i, len)) (hlen : xLenOk i len = true) (hck : xChk1 own ini ret ps (ps.getD pc 0) i (.imul) = true) (hnx : ps.getD (pc + 1) 0 = ps.getD pc 0 + len ∨ xTerm (.imul) = true) (hk : ∀ S, k S → xRd (p, l, e, R, s, m, args, below, meth, c) J A Z nL c0 s0 ps S ∧ S.2.2.2.2.2.2.1 ≤ c0 + R.cells ∧ S.2.2.2.2.2.2.2 ≤ s0 + R.slots) (h : xGo call k Q (xNext d (.imul) pc L st M)) : xRd (p, l, e, R, s, m, args, below, meth, c) J A Z nL c0 s0 ps (pc, L, st, M) := by
  have hi : i = .imul := xBq_imul hck
  subst hi
  have hl := xLen_eq hlen rfl
  subst hl
  have hn := hnx.resolve_right (by simp [xTerm])
  obtain ⟨x, y, r, rfl, h⟩ := xB2_inv h
  exact o_imul C hp hn (hk _ h).1
theorem st_ishl (C : xCtx p R s m args c own cc nL d J A)  (hp : decode cc (ps.getD pc 0) = .ok (i, len)) (hlen : xLenOk i len = true) (hck : xChk1 own ini ret ps (ps.getD pc 0) i (.ishl) = true) (hnx : ps.getD (pc + 1) 0 = ps.getD pc 0 + len ∨ xTerm (.ishl) = true) (hk : ∀ S, k S → xRd (p, l, e, R, s, m, args, below, meth, c) J A Z nL c0 s0 ps S ∧ S.2.2.2.2.2.2.1 ≤ c0 + R.cells ∧ S.2.2.2.2.2.2.2 ≤ s0 + R.slots) (h : xGo call k Q (xNext d (.ishl) pc L st M)) : xRd (p, l, e, R, s, m, args, below, meth, c) J A Z nL c0 s0 ps (pc, L, st, M) := by
  have hi : i = .ishl := xBq_ishl hck
  subst hi
  have hl := xLen_eq hlen rfl
  subst hl
  have hn := hnx.resolve_right (by simp [xTerm])
  obtain ⟨x, y, r, rfl, h⟩ := xB2_inv h
  exact o_ishl C hp hn (hk _ h).1
theorem st_ishr (C : xCtx p R s m args c own cc nL d J A)  (hp : decode cc (ps.getD pc 0) = .ok (i, len)) (hlen : xLenOk i len = true) (hck : xChk1 own ini ret ps (ps.getD pc 0) i (.ishr) = true) (hnx : ps.getD (pc + 1) 0 = ps.getD pc 0 + len ∨ xTerm (.ishr) = true) (hk : ∀ S, k S → xRd (p, l, e, R, s, m, args, below, meth, c) J A Z nL c0 s0 ps S ∧ S.2.2.2.2.2.2.1 ≤ c0 + R.cells ∧ S.2.2.2.2.2.2.2 ≤ s0 + R.slots) (h : xGo call k Q (xNext d (.ishr) pc L st M)) : xRd (p, l, e, R, s, m, args, below, meth, c) J A Z nL c0 s0 ps (pc, L, st, M) := by
  have hi : i = .ishr := xBq_ishr hck
  subst hi
  have hl := xLen_eq hlen rfl
  subst hl
  have hn := hnx.resolve_right (by simp [xTerm])
  obtain ⟨x, y, r, rfl, h⟩ := xB2_inv h
  exact o_ishr C hp hn (hk _ h).1
theorem st_iushr (C : xCtx p R s m args c own cc nL d J A)  (hp : decode cc (ps.getD pc 0) = .ok (i, len)) (hlen : xLenOk i len = true) (hck : xChk1 own ini ret ps (ps.getD pc 0) i (.iushr) = true) (hnx : ps.getD (pc + 1) 0 = ps.getD pc 0 + len ∨ xTerm (.iushr) = true) (hk : ∀ S, k S → xRd (p, l, e, R, s, m, args, below, meth, c) J A Z nL c0 s0 ps S ∧ S.2.2.2.2.2.2.1 ≤ c0 + R.cells ∧ S.2.2.2.2.2.2.2 ≤ s0 + R.slots) (h : xGo call k Q (xNext d (.iushr) pc L st M)) : xRd (p, l, e, R, s, m, args, below, meth, c) J A Z nL c0 s0 ps (pc, L, st, M) := by
  have hi : i = .iushr := xBq_iushr hck
  subst hi
  have hl := xLen_eq hlen rfl
  subst hl
  have hn := hnx.resolve_right (by simp [xTerm])
  obtain ⟨x, y, r, rfl, h⟩ := xB2_inv h
  exact o_iushr C hp hn (hk _ h).1
theorem st_iand (C : xCtx p R s m args c own cc nL d J A)  (hp : decode cc (ps.getD pc 0) = .ok (i, len)) (hlen : xLenOk i len = true) (hck : xChk1 own ini ret ps (ps.getD pc 0) i (.iand) = true) (hnx : ps.getD (pc + 1) 0 = ps.getD pc 0 + len ∨ xTerm (.iand) = true) (hk : ∀ S, k S → xRd (p, l, e, R, s, m, args, below, meth, c) J A Z nL c0 s0 ps S ∧ S.2.2.2.2.2.2.1 ≤ c0 + R.cells ∧ S.2.2.2.2.2.2.2 ≤ s0 + R.slots) (h : xGo call k Q (xNext d (.iand) pc L st M)) : xRd (p, l, e, R, s, m, args, below, meth, c) J A Z nL c0 s0 ps (pc, L, st, M) := by
  have hi : i = .iand := xBq_iand hck
  subst hi
  have hl := xLen_eq hlen rfl
  subst hl
  have hn := hnx.resolve_right (by simp [xTerm])
  obtain ⟨x, y, r, rfl, h⟩ := xB2_inv h
  exact o_iand C hp hn (hk _ h).1
theorem st_ior (C : xCtx p R s m args c own cc nL d J A)  (hp : decode cc (ps.getD pc 0) = .ok (i, len)) (hlen : xLenOk i len = true) (hck : xChk1 own ini ret ps (ps.getD pc 0) i (.ior) = true) (hnx : ps.getD (pc + 1) 0 = ps.getD pc 0 + len ∨ xTerm (.ior) = true) (hk : ∀ S, k S → xRd (p, l, e, R, s, m, args, below, meth, c) J A Z nL c0 s0 ps S ∧ S.2.2.2.2.2.2.1 ≤ c0 + R.cells ∧ S.2.2.2.2.2.2.2 ≤ s0 + R.slots) (h : xGo call k Q (xNext d (.ior) pc L st M)) : xRd (p, l, e, R, s, m, args, below, meth, c) J A Z nL c0 s0 ps (pc, L, st, M) := by
  have hi : i = .ior := xBq_ior hck
  subst hi
  have hl := xLen_eq hlen rfl
  subst hl
  have hn := hnx.resolve_right (by simp [xTerm])
  obtain ⟨x, y, r, rfl, h⟩ := xB2_inv h
  exact o_ior C hp hn (hk _ h).1
theorem st_ixor (C : xCtx p R s m args c own cc nL d J A)  (hp : decode cc (ps.getD pc 0) = .ok (i, len)) (hlen : xLenOk i len = true) (hck : xChk1 own ini ret ps (ps.getD pc 0) i (.ixor) = true) (hnx : ps.getD (pc + 1) 0 = ps.getD pc 0 + len ∨ xTerm (.ixor) = true) (hk : ∀ S, k S → xRd (p, l, e, R, s, m, args, below, meth, c) J A Z nL c0 s0 ps S ∧ S.2.2.2.2.2.2.1 ≤ c0 + R.cells ∧ S.2.2.2.2.2.2.2 ≤ s0 + R.slots) (h : xGo call k Q (xNext d (.ixor) pc L st M)) : xRd (p, l, e, R, s, m, args, below, meth, c) J A Z nL c0 s0 ps (pc, L, st, M) := by
  have hi : i = .ixor := xBq_ixor hck
  subst hi
  have hl := xLen_eq hlen rfl
  subst hl
  have hn := hnx.resolve_right (by simp [xTerm])
  obtain ⟨x, y, r, rfl, h⟩ := xB2_inv h
  exact o_ixor C hp hn (hk _ h).1
theorem st_idiv (C : xCtx p R s m args c own cc nL d J A)  (hp : decode cc (ps.getD pc 0) = .ok (i, len)) (hlen : xLenOk i len = true) (hck : xChk1 own ini ret ps (ps.getD pc 0) i (.idiv) = true) (hnx : ps.getD (pc + 1) 0 = ps.getD pc 0 + len ∨ xTerm (.idiv) = true) (hk : ∀ S, k S → xRd (p, l, e, R, s, m, args, below, meth, c) J A Z nL c0 s0 ps S ∧ S.2.2.2.2.2.2.1 ≤ c0 + R.cells ∧ S.2.2.2.2.2.2.2 ≤ s0 + R.slots) (h : xGo call k Q (xNext d (.idiv) pc L st M)) : xRd (p, l, e, R, s, m, args, below, meth, c) J A Z nL c0 s0 ps (pc, L, st, M) := by
  have hi : i = .idiv := xBq_idiv hck
  subst hi
  have hl := xLen_eq hlen rfl
  subst hl
  have hn := hnx.resolve_right (by simp [xTerm])
  obtain ⟨x, y, r, rfl, h⟩ := xB2_inv h
  exact o_idiv C hp hn h.1 (hk _ h.2).1
theorem st_irem (C : xCtx p R s m args c own cc nL d J A)  (hp : decode cc (ps.getD pc 0) = .ok (i, len)) (hlen : xLenOk i len = true) (hck : xChk1 own ini ret ps (ps.getD pc 0) i (.irem) = true) (hnx : ps.getD (pc + 1) 0 = ps.getD pc 0 + len ∨ xTerm (.irem) = true) (hk : ∀ S, k S → xRd (p, l, e, R, s, m, args, below, meth, c) J A Z nL c0 s0 ps S ∧ S.2.2.2.2.2.2.1 ≤ c0 + R.cells ∧ S.2.2.2.2.2.2.2 ≤ s0 + R.slots) (h : xGo call k Q (xNext d (.irem) pc L st M)) : xRd (p, l, e, R, s, m, args, below, meth, c) J A Z nL c0 s0 ps (pc, L, st, M) := by
  have hi : i = .irem := xBq_irem hck
  subst hi
  have hl := xLen_eq hlen rfl
  subst hl
  have hn := hnx.resolve_right (by simp [xTerm])
  obtain ⟨x, y, r, rfl, h⟩ := xB2_inv h
  exact o_irem C hp hn h.1 (hk _ h.2).1
theorem st_ineg (C : xCtx p R s m args c own cc nL d J A)  (hp : decode cc (ps.getD pc 0) = .ok (i, len)) (hlen : xLenOk i len = true) (hck : xChk1 own ini ret ps (ps.getD pc 0) i (.ineg) = true) (hnx : ps.getD (pc + 1) 0 = ps.getD pc 0 + len ∨ xTerm (.ineg) = true) (hk : ∀ S, k S → xRd (p, l, e, R, s, m, args, below, meth, c) J A Z nL c0 s0 ps S ∧ S.2.2.2.2.2.2.1 ≤ c0 + R.cells ∧ S.2.2.2.2.2.2.2 ≤ s0 + R.slots) (h : xGo call k Q (xNext d (.ineg) pc L st M)) : xRd (p, l, e, R, s, m, args, below, meth, c) J A Z nL c0 s0 ps (pc, L, st, M) := by
  have hi : i = .ineg := xBq_ineg hck
  subst hi
  have hl := xLen_eq hlen rfl
  subst hl
  have hn := hnx.resolve_right (by simp [xTerm])
  obtain ⟨x, r, rfl, h⟩ := xB1_inv h
  exact o_ineg C hp hn (hk _ h).1
theorem st_i2l (C : xCtx p R s m args c own cc nL d J A)  (hp : decode cc (ps.getD pc 0) = .ok (i, len)) (hlen : xLenOk i len = true) (hck : xChk1 own ini ret ps (ps.getD pc 0) i (.i2l) = true) (hnx : ps.getD (pc + 1) 0 = ps.getD pc 0 + len ∨ xTerm (.i2l) = true) (hk : ∀ S, k S → xRd (p, l, e, R, s, m, args, below, meth, c) J A Z nL c0 s0 ps S ∧ S.2.2.2.2.2.2.1 ≤ c0 + R.cells ∧ S.2.2.2.2.2.2.2 ≤ s0 + R.slots) (h : xGo call k Q (xNext d (.i2l) pc L st M)) : xRd (p, l, e, R, s, m, args, below, meth, c) J A Z nL c0 s0 ps (pc, L, st, M) := by
  have hi : i = .i2l := xBq_i2l hck
  subst hi
  have hl := xLen_eq hlen rfl
  subst hl
  have hn := hnx.resolve_right (by simp [xTerm])
  obtain ⟨x, r, rfl, h⟩ := xB1_inv h
  exact o_i2l C hp hn (hk _ h).1
theorem st_i2b (C : xCtx p R s m args c own cc nL d J A)  (hp : decode cc (ps.getD pc 0) = .ok (i, len)) (hlen : xLenOk i len = true) (hck : xChk1 own ini ret ps (ps.getD pc 0) i (.i2b) = true) (hnx : ps.getD (pc + 1) 0 = ps.getD pc 0 + len ∨ xTerm (.i2b) = true) (hk : ∀ S, k S → xRd (p, l, e, R, s, m, args, below, meth, c) J A Z nL c0 s0 ps S ∧ S.2.2.2.2.2.2.1 ≤ c0 + R.cells ∧ S.2.2.2.2.2.2.2 ≤ s0 + R.slots) (h : xGo call k Q (xNext d (.i2b) pc L st M)) : xRd (p, l, e, R, s, m, args, below, meth, c) J A Z nL c0 s0 ps (pc, L, st, M) := by
  have hi : i = .i2b := xBq_i2b hck
  subst hi
  have hl := xLen_eq hlen rfl
  subst hl
  have hn := hnx.resolve_right (by simp [xTerm])
  obtain ⟨x, r, rfl, h⟩ := xB1_inv h
  exact o_i2b C hp hn (hk _ h).1
theorem st_i2s (C : xCtx p R s m args c own cc nL d J A)  (hp : decode cc (ps.getD pc 0) = .ok (i, len)) (hlen : xLenOk i len = true) (hck : xChk1 own ini ret ps (ps.getD pc 0) i (.i2s) = true) (hnx : ps.getD (pc + 1) 0 = ps.getD pc 0 + len ∨ xTerm (.i2s) = true) (hk : ∀ S, k S → xRd (p, l, e, R, s, m, args, below, meth, c) J A Z nL c0 s0 ps S ∧ S.2.2.2.2.2.2.1 ≤ c0 + R.cells ∧ S.2.2.2.2.2.2.2 ≤ s0 + R.slots) (h : xGo call k Q (xNext d (.i2s) pc L st M)) : xRd (p, l, e, R, s, m, args, below, meth, c) J A Z nL c0 s0 ps (pc, L, st, M) := by
  have hi : i = .i2s := xBq_i2s hck
  subst hi
  have hl := xLen_eq hlen rfl
  subst hl
  have hn := hnx.resolve_right (by simp [xTerm])
  obtain ⟨x, r, rfl, h⟩ := xB1_inv h
  exact o_i2s C hp hn (hk _ h).1
theorem st_l2i (C : xCtx p R s m args c own cc nL d J A)  (hp : decode cc (ps.getD pc 0) = .ok (i, len)) (hlen : xLenOk i len = true) (hck : xChk1 own ini ret ps (ps.getD pc 0) i (.l2i) = true) (hnx : ps.getD (pc + 1) 0 = ps.getD pc 0 + len ∨ xTerm (.l2i) = true) (hk : ∀ S, k S → xRd (p, l, e, R, s, m, args, below, meth, c) J A Z nL c0 s0 ps S ∧ S.2.2.2.2.2.2.1 ≤ c0 + R.cells ∧ S.2.2.2.2.2.2.2 ≤ s0 + R.slots) (h : xGo call k Q (xNext d (.l2i) pc L st M)) : xRd (p, l, e, R, s, m, args, below, meth, c) J A Z nL c0 s0 ps (pc, L, st, M) := by
  have hi : i = .l2i := xBq_l2i hck
  subst hi
  have hl := xLen_eq hlen rfl
  subst hl
  have hn := hnx.resolve_right (by simp [xTerm])
  obtain ⟨x, r, rfl, h⟩ := xJ1_inv h
  exact o_l2i C hp hn (hk _ h).1
theorem st_ladd (C : xCtx p R s m args c own cc nL d J A)  (hp : decode cc (ps.getD pc 0) = .ok (i, len)) (hlen : xLenOk i len = true) (hck : xChk1 own ini ret ps (ps.getD pc 0) i (.ladd) = true) (hnx : ps.getD (pc + 1) 0 = ps.getD pc 0 + len ∨ xTerm (.ladd) = true) (hk : ∀ S, k S → xRd (p, l, e, R, s, m, args, below, meth, c) J A Z nL c0 s0 ps S ∧ S.2.2.2.2.2.2.1 ≤ c0 + R.cells ∧ S.2.2.2.2.2.2.2 ≤ s0 + R.slots) (h : xGo call k Q (xNext d (.ladd) pc L st M)) : xRd (p, l, e, R, s, m, args, below, meth, c) J A Z nL c0 s0 ps (pc, L, st, M) := by
  have hi : i = .ladd := xBq_ladd hck
  subst hi
  have hl := xLen_eq hlen rfl
  subst hl
  have hn := hnx.resolve_right (by simp [xTerm])
  obtain ⟨x, y, r, rfl, h⟩ := xJ2_inv h
  exact o_ladd C hp hn (hk _ h).1
theorem st_lmul (C : xCtx p R s m args c own cc nL d J A)  (hp : decode cc (ps.getD pc 0) = .ok (i, len)) (hlen : xLenOk i len = true) (hck : xChk1 own ini ret ps (ps.getD pc 0) i (.lmul) = true) (hnx : ps.getD (pc + 1) 0 = ps.getD pc 0 + len ∨ xTerm (.lmul) = true) (hk : ∀ S, k S → xRd (p, l, e, R, s, m, args, below, meth, c) J A Z nL c0 s0 ps S ∧ S.2.2.2.2.2.2.1 ≤ c0 + R.cells ∧ S.2.2.2.2.2.2.2 ≤ s0 + R.slots) (h : xGo call k Q (xNext d (.lmul) pc L st M)) : xRd (p, l, e, R, s, m, args, below, meth, c) J A Z nL c0 s0 ps (pc, L, st, M) := by
  have hi : i = .lmul := xBq_lmul hck
  subst hi
  have hl := xLen_eq hlen rfl
  subst hl
  have hn := hnx.resolve_right (by simp [xTerm])
  obtain ⟨x, y, r, rfl, h⟩ := xJ2_inv h
  exact o_lmul C hp hn (hk _ h).1
theorem st_land (C : xCtx p R s m args c own cc nL d J A)  (hp : decode cc (ps.getD pc 0) = .ok (i, len)) (hlen : xLenOk i len = true) (hck : xChk1 own ini ret ps (ps.getD pc 0) i (.land) = true) (hnx : ps.getD (pc + 1) 0 = ps.getD pc 0 + len ∨ xTerm (.land) = true) (hk : ∀ S, k S → xRd (p, l, e, R, s, m, args, below, meth, c) J A Z nL c0 s0 ps S ∧ S.2.2.2.2.2.2.1 ≤ c0 + R.cells ∧ S.2.2.2.2.2.2.2 ≤ s0 + R.slots) (h : xGo call k Q (xNext d (.land) pc L st M)) : xRd (p, l, e, R, s, m, args, below, meth, c) J A Z nL c0 s0 ps (pc, L, st, M) := by
  have hi : i = .land := xBq_land hck
  subst hi
  have hl := xLen_eq hlen rfl
  subst hl
  have hn := hnx.resolve_right (by simp [xTerm])
  obtain ⟨x, y, r, rfl, h⟩ := xJ2_inv h
  exact o_land C hp hn (hk _ h).1
theorem st_lor (C : xCtx p R s m args c own cc nL d J A)  (hp : decode cc (ps.getD pc 0) = .ok (i, len)) (hlen : xLenOk i len = true) (hck : xChk1 own ini ret ps (ps.getD pc 0) i (.lor) = true) (hnx : ps.getD (pc + 1) 0 = ps.getD pc 0 + len ∨ xTerm (.lor) = true) (hk : ∀ S, k S → xRd (p, l, e, R, s, m, args, below, meth, c) J A Z nL c0 s0 ps S ∧ S.2.2.2.2.2.2.1 ≤ c0 + R.cells ∧ S.2.2.2.2.2.2.2 ≤ s0 + R.slots) (h : xGo call k Q (xNext d (.lor) pc L st M)) : xRd (p, l, e, R, s, m, args, below, meth, c) J A Z nL c0 s0 ps (pc, L, st, M) := by
  have hi : i = .lor := xBq_lor hck
  subst hi
  have hl := xLen_eq hlen rfl
  subst hl
  have hn := hnx.resolve_right (by simp [xTerm])
  obtain ⟨x, y, r, rfl, h⟩ := xJ2_inv h
  exact o_lor C hp hn (hk _ h).1
theorem st_lcmp (C : xCtx p R s m args c own cc nL d J A)  (hp : decode cc (ps.getD pc 0) = .ok (i, len)) (hlen : xLenOk i len = true) (hck : xChk1 own ini ret ps (ps.getD pc 0) i (.lcmp) = true) (hnx : ps.getD (pc + 1) 0 = ps.getD pc 0 + len ∨ xTerm (.lcmp) = true) (hk : ∀ S, k S → xRd (p, l, e, R, s, m, args, below, meth, c) J A Z nL c0 s0 ps S ∧ S.2.2.2.2.2.2.1 ≤ c0 + R.cells ∧ S.2.2.2.2.2.2.2 ≤ s0 + R.slots) (h : xGo call k Q (xNext d (.lcmp) pc L st M)) : xRd (p, l, e, R, s, m, args, below, meth, c) J A Z nL c0 s0 ps (pc, L, st, M) := by
  have hi : i = .lcmp := xBq_lcmp hck
  subst hi
  have hl := xLen_eq hlen rfl
  subst hl
  have hn := hnx.resolve_right (by simp [xTerm])
  obtain ⟨x, y, r, rfl, h⟩ := xJ2_inv h
  exact o_lcmp C hp hn (hk _ h).1
theorem st_ldiv (C : xCtx p R s m args c own cc nL d J A)  (hp : decode cc (ps.getD pc 0) = .ok (i, len)) (hlen : xLenOk i len = true) (hck : xChk1 own ini ret ps (ps.getD pc 0) i (.ldiv) = true) (hnx : ps.getD (pc + 1) 0 = ps.getD pc 0 + len ∨ xTerm (.ldiv) = true) (hk : ∀ S, k S → xRd (p, l, e, R, s, m, args, below, meth, c) J A Z nL c0 s0 ps S ∧ S.2.2.2.2.2.2.1 ≤ c0 + R.cells ∧ S.2.2.2.2.2.2.2 ≤ s0 + R.slots) (h : xGo call k Q (xNext d (.ldiv) pc L st M)) : xRd (p, l, e, R, s, m, args, below, meth, c) J A Z nL c0 s0 ps (pc, L, st, M) := by
  have hi : i = .ldiv := xBq_ldiv hck
  subst hi
  have hl := xLen_eq hlen rfl
  subst hl
  have hn := hnx.resolve_right (by simp [xTerm])
  obtain ⟨x, y, r, rfl, h⟩ := xJ2_inv h
  exact o_ldiv C hp hn h.1 (hk _ h.2).1
theorem st_lrem (C : xCtx p R s m args c own cc nL d J A)  (hp : decode cc (ps.getD pc 0) = .ok (i, len)) (hlen : xLenOk i len = true) (hck : xChk1 own ini ret ps (ps.getD pc 0) i (.lrem) = true) (hnx : ps.getD (pc + 1) 0 = ps.getD pc 0 + len ∨ xTerm (.lrem) = true) (hk : ∀ S, k S → xRd (p, l, e, R, s, m, args, below, meth, c) J A Z nL c0 s0 ps S ∧ S.2.2.2.2.2.2.1 ≤ c0 + R.cells ∧ S.2.2.2.2.2.2.2 ≤ s0 + R.slots) (h : xGo call k Q (xNext d (.lrem) pc L st M)) : xRd (p, l, e, R, s, m, args, below, meth, c) J A Z nL c0 s0 ps (pc, L, st, M) := by
  have hi : i = .lrem := xBq_lrem hck
  subst hi
  have hl := xLen_eq hlen rfl
  subst hl
  have hn := hnx.resolve_right (by simp [xTerm])
  obtain ⟨x, y, r, rfl, h⟩ := xJ2_inv h
  exact o_lrem C hp hn h.1 (hk _ h.2).1
theorem st_lshl (C : xCtx p R s m args c own cc nL d J A)  (hp : decode cc (ps.getD pc 0) = .ok (i, len)) (hlen : xLenOk i len = true) (hck : xChk1 own ini ret ps (ps.getD pc 0) i (.lshl) = true) (hnx : ps.getD (pc + 1) 0 = ps.getD pc 0 + len ∨ xTerm (.lshl) = true) (hk : ∀ S, k S → xRd (p, l, e, R, s, m, args, below, meth, c) J A Z nL c0 s0 ps S ∧ S.2.2.2.2.2.2.1 ≤ c0 + R.cells ∧ S.2.2.2.2.2.2.2 ≤ s0 + R.slots) (h : xGo call k Q (xNext d (.lshl) pc L st M)) : xRd (p, l, e, R, s, m, args, below, meth, c) J A Z nL c0 s0 ps (pc, L, st, M) := by
  have hi : i = .lshl := xBq_lshl hck
  subst hi
  have hl := xLen_eq hlen rfl
  subst hl
  have hn := hnx.resolve_right (by simp [xTerm])
  obtain ⟨x, y, r, rfl, h⟩ := xJi_inv h
  exact o_lshl C hp hn (hk _ h).1
theorem st_lshr (C : xCtx p R s m args c own cc nL d J A)  (hp : decode cc (ps.getD pc 0) = .ok (i, len)) (hlen : xLenOk i len = true) (hck : xChk1 own ini ret ps (ps.getD pc 0) i (.lshr) = true) (hnx : ps.getD (pc + 1) 0 = ps.getD pc 0 + len ∨ xTerm (.lshr) = true) (hk : ∀ S, k S → xRd (p, l, e, R, s, m, args, below, meth, c) J A Z nL c0 s0 ps S ∧ S.2.2.2.2.2.2.1 ≤ c0 + R.cells ∧ S.2.2.2.2.2.2.2 ≤ s0 + R.slots) (h : xGo call k Q (xNext d (.lshr) pc L st M)) : xRd (p, l, e, R, s, m, args, below, meth, c) J A Z nL c0 s0 ps (pc, L, st, M) := by
  have hi : i = .lshr := xBq_lshr hck
  subst hi
  have hl := xLen_eq hlen rfl
  subst hl
  have hn := hnx.resolve_right (by simp [xTerm])
  obtain ⟨x, y, r, rfl, h⟩ := xJi_inv h
  exact o_lshr C hp hn (hk _ h).1
theorem st_dup (C : xCtx p R s m args c own cc nL d J A)  (hp : decode cc (ps.getD pc 0) = .ok (i, len)) (hlen : xLenOk i len = true) (hck : xChk1 own ini ret ps (ps.getD pc 0) i (.dup) = true) (hnx : ps.getD (pc + 1) 0 = ps.getD pc 0 + len ∨ xTerm (.dup) = true) (hk : ∀ S, k S → xRd (p, l, e, R, s, m, args, below, meth, c) J A Z nL c0 s0 ps S ∧ S.2.2.2.2.2.2.1 ≤ c0 + R.cells ∧ S.2.2.2.2.2.2.2 ≤ s0 + R.slots) (h : xGo call k Q (xNext d (.dup) pc L st M)) : xRd (p, l, e, R, s, m, args, below, meth, c) J A Z nL c0 s0 ps (pc, L, st, M) := by
  have hi : i = .dup := xBq_dup hck
  subst hi
  have hl := xLen_eq hlen rfl
  subst hl
  have hn := hnx.resolve_right (by simp [xTerm])
  simp only [xNext] at h
  split at h
  · exact o_dup_0 C hp hn (hk _ h).1
  · exact o_dup_2 C hp hn (hk _ h).1
  · exact absurd h.1 id
theorem st_pop (C : xCtx p R s m args c own cc nL d J A)  (hp : decode cc (ps.getD pc 0) = .ok (i, len)) (hlen : xLenOk i len = true) (hck : xChk1 own ini ret ps (ps.getD pc 0) i (.pop) = true) (hnx : ps.getD (pc + 1) 0 = ps.getD pc 0 + len ∨ xTerm (.pop) = true) (hk : ∀ S, k S → xRd (p, l, e, R, s, m, args, below, meth, c) J A Z nL c0 s0 ps S ∧ S.2.2.2.2.2.2.1 ≤ c0 + R.cells ∧ S.2.2.2.2.2.2.2 ≤ s0 + R.slots) (h : xGo call k Q (xNext d (.pop) pc L st M)) : xRd (p, l, e, R, s, m, args, below, meth, c) J A Z nL c0 s0 ps (pc, L, st, M) := by
  have hi : i = .pop := xBq_pop hck
  subst hi
  have hl := xLen_eq hlen rfl
  subst hl
  have hn := hnx.resolve_right (by simp [xTerm])
  simp only [xNext] at h
  split at h
  · exact o_pop_0 C hp hn (hk _ h).1
  · exact o_pop_2 C hp hn (hk _ h).1
  · exact absurd h.1 id
theorem st_dup2 (C : xCtx p R s m args c own cc nL d J A)  (hp : decode cc (ps.getD pc 0) = .ok (i, len)) (hlen : xLenOk i len = true) (hck : xChk1 own ini ret ps (ps.getD pc 0) i (.dup2) = true) (hnx : ps.getD (pc + 1) 0 = ps.getD pc 0 + len ∨ xTerm (.dup2) = true) (hk : ∀ S, k S → xRd (p, l, e, R, s, m, args, below, meth, c) J A Z nL c0 s0 ps S ∧ S.2.2.2.2.2.2.1 ≤ c0 + R.cells ∧ S.2.2.2.2.2.2.2 ≤ s0 + R.slots) (h : xGo call k Q (xNext d (.dup2) pc L st M)) : xRd (p, l, e, R, s, m, args, below, meth, c) J A Z nL c0 s0 ps (pc, L, st, M) := by
  have hi : i = .dup2 := xBq_dup2 hck
  subst hi
  have hl := xLen_eq hlen rfl
  subst hl
  have hn := hnx.resolve_right (by simp [xTerm])
  obtain ⟨a, i, r, rfl, h⟩ := xA2_inv h
  exact o_dup2 C hp hn (hk _ h).1
theorem st_iload (C : xCtx p R s m args c own cc nL d J A) {n : Nat}  (hp : decode cc (ps.getD pc 0) = .ok (i, len)) (hlen : xLenOk i len = true) (hck : xChk1 own ini ret ps (ps.getD pc 0) i (.iload n) = true) (hnx : ps.getD (pc + 1) 0 = ps.getD pc 0 + len ∨ xTerm (.iload n) = true) (hk : ∀ S, k S → xRd (p, l, e, R, s, m, args, below, meth, c) J A Z nL c0 s0 ps S ∧ S.2.2.2.2.2.2.1 ≤ c0 + R.cells ∧ S.2.2.2.2.2.2.2 ≤ s0 + R.slots) (h : xGo call k Q (xNext d (.iload n) pc L st M)) : xRd (p, l, e, R, s, m, args, below, meth, c) J A Z nL c0 s0 ps (pc, L, st, M) := by
  have hn := hnx.resolve_right (by simp [xTerm])
  simp only [xChk1] at hck
  simp only [xNext] at h
  obtain ⟨x, hx, g⟩ := xLo_inv (t := 0) (by decide) h
  clear h
  split at hck
  · have e := eq_of_beq hck
    subst e
    have hl := xLen_eq hlen rfl
    subst hl
    exact o_iload C hp hn hx (hk _ g).1
  · have e := eq_of_beq hck
    have hl := xLen_eq hlen rfl
    subst hl
    exact o_iload_n C e hp hn hx (hk _ g).1
  · cases hck
theorem st_lload (C : xCtx p R s m args c own cc nL d J A) {n : Nat}  (hp : decode cc (ps.getD pc 0) = .ok (i, len)) (hlen : xLenOk i len = true) (hck : xChk1 own ini ret ps (ps.getD pc 0) i (.lload n) = true) (hnx : ps.getD (pc + 1) 0 = ps.getD pc 0 + len ∨ xTerm (.lload n) = true) (hk : ∀ S, k S → xRd (p, l, e, R, s, m, args, below, meth, c) J A Z nL c0 s0 ps S ∧ S.2.2.2.2.2.2.1 ≤ c0 + R.cells ∧ S.2.2.2.2.2.2.2 ≤ s0 + R.slots) (h : xGo call k Q (xNext d (.lload n) pc L st M)) : xRd (p, l, e, R, s, m, args, below, meth, c) J A Z nL c0 s0 ps (pc, L, st, M) := by
  have hn := hnx.resolve_right (by simp [xTerm])
  simp only [xChk1] at hck
  simp only [xNext] at h
  obtain ⟨x, hx, g⟩ := xLo_inv (t := 1) (by decide) h
  clear h
  split at hck
  · have e := eq_of_beq hck
    subst e
    have hl := xLen_eq hlen rfl
    subst hl
    exact o_lload C hp hn hx (hk _ g).1
  · have e := eq_of_beq hck
    have hl := xLen_eq hlen rfl
    subst hl
    exact o_lload_n C e hp hn hx (hk _ g).1
  · cases hck
theorem st_aload (C : xCtx p R s m args c own cc nL d J A) {n : Nat}  (hp : decode cc (ps.getD pc 0) = .ok (i, len)) (hlen : xLenOk i len = true) (hck : xChk1 own ini ret ps (ps.getD pc 0) i (.aload n) = true) (hnx : ps.getD (pc + 1) 0 = ps.getD pc 0 + len ∨ xTerm (.aload n) = true) (hk : ∀ S, k S → xRd (p, l, e, R, s, m, args, below, meth, c) J A Z nL c0 s0 ps S ∧ S.2.2.2.2.2.2.1 ≤ c0 + R.cells ∧ S.2.2.2.2.2.2.2 ≤ s0 + R.slots) (h : xGo call k Q (xNext d (.aload n) pc L st M)) : xRd (p, l, e, R, s, m, args, below, meth, c) J A Z nL c0 s0 ps (pc, L, st, M) := by
  have hn := hnx.resolve_right (by simp [xTerm])
  simp only [xChk1] at hck
  simp only [xNext] at h
  obtain ⟨x, hx, g⟩ := xLo_inv (t := 2) (by decide) h
  clear h
  split at hck
  · have e := eq_of_beq hck
    subst e
    have hl := xLen_eq hlen rfl
    subst hl
    exact o_aload C hp hn hx (hk _ g).1
  · have e := eq_of_beq hck
    have hl := xLen_eq hlen rfl
    subst hl
    exact o_aload_n C e hp hn hx (hk _ g).1
  · cases hck
theorem st_istore (C : xCtx p R s m args c own cc nL d J A) {n : Nat}  (hp : decode cc (ps.getD pc 0) = .ok (i, len)) (hlen : xLenOk i len = true) (hck : xChk1 own ini ret ps (ps.getD pc 0) i (.istore n) = true) (hnx : ps.getD (pc + 1) 0 = ps.getD pc 0 + len ∨ xTerm (.istore n) = true) (hk : ∀ S, k S → xRd (p, l, e, R, s, m, args, below, meth, c) J A Z nL c0 s0 ps S ∧ S.2.2.2.2.2.2.1 ≤ c0 + R.cells ∧ S.2.2.2.2.2.2.2 ≤ s0 + R.slots) (h : xGo call k Q (xNext d (.istore n) pc L st M)) : xRd (p, l, e, R, s, m, args, below, meth, c) J A Z nL c0 s0 ps (pc, L, st, M) := by
  have hn := hnx.resolve_right (by simp [xTerm])
  simp only [xChk1] at hck
  obtain ⟨x, r, rfl, h⟩ := xB1_inv h
  obtain ⟨hb, h⟩ := xIf_inv h
  have hb := xBlt hb
  split at hck
  · have e := eq_of_beq hck
    subst e
    have hl := xLen_eq hlen rfl
    subst hl
    exact o_istore C hp hn hb (hk _ h).1
  · have e := eq_of_beq hck
    have hl := xLen_eq hlen rfl
    subst hl
    exact o_istore_n C e hp hn hb (hk _ h).1
  · cases hck
theorem st_lstore (C : xCtx p R s m args c own cc nL d J A) {n : Nat}  (hp : decode cc (ps.getD pc 0) = .ok (i, len)) (hlen : xLenOk i len = true) (hck : xChk1 own ini ret ps (ps.getD pc 0) i (.lstore n) = true) (hnx : ps.getD (pc + 1) 0 = ps.getD pc 0 + len ∨ xTerm (.lstore n) = true) (hk : ∀ S, k S → xRd (p, l, e, R, s, m, args, below, meth, c) J A Z nL c0 s0 ps S ∧ S.2.2.2.2.2.2.1 ≤ c0 + R.cells ∧ S.2.2.2.2.2.2.2 ≤ s0 + R.slots) (h : xGo call k Q (xNext d (.lstore n) pc L st M)) : xRd (p, l, e, R, s, m, args, below, meth, c) J A Z nL c0 s0 ps (pc, L, st, M) := by
  have hn := hnx.resolve_right (by simp [xTerm])
  simp only [xChk1] at hck
  obtain ⟨x, r, rfl, h⟩ := xJ1_inv h
  obtain ⟨hb, h⟩ := xIf_inv h
  have hb := xBlt hb
  split at hck
  · have e := eq_of_beq hck
    subst e
    have hl := xLen_eq hlen rfl
    subst hl
    exact o_lstore C hp hn hb (hk _ h).1
  · have e := eq_of_beq hck
    have hl := xLen_eq hlen rfl
    subst hl
    exact o_lstore_n C e hp hn hb (hk _ h).1
  · cases hck
theorem st_astore (C : xCtx p R s m args c own cc nL d J A) {n : Nat}  (hp : decode cc (ps.getD pc 0) = .ok (i, len)) (hlen : xLenOk i len = true) (hck : xChk1 own ini ret ps (ps.getD pc 0) i (.astore n) = true) (hnx : ps.getD (pc + 1) 0 = ps.getD pc 0 + len ∨ xTerm (.astore n) = true) (hk : ∀ S, k S → xRd (p, l, e, R, s, m, args, below, meth, c) J A Z nL c0 s0 ps S ∧ S.2.2.2.2.2.2.1 ≤ c0 + R.cells ∧ S.2.2.2.2.2.2.2 ≤ s0 + R.slots) (h : xGo call k Q (xNext d (.astore n) pc L st M)) : xRd (p, l, e, R, s, m, args, below, meth, c) J A Z nL c0 s0 ps (pc, L, st, M) := by
  have hn := hnx.resolve_right (by simp [xTerm])
  simp only [xChk1] at hck
  obtain ⟨x, r, rfl, h⟩ := xR1_inv h
  obtain ⟨hb, h⟩ := xIf_inv h
  have hb := xBlt hb
  split at hck
  · have e := eq_of_beq hck
    subst e
    have hl := xLen_eq hlen rfl
    subst hl
    exact o_astore C hp hn h.1 hb (hk _ h.2).1
  · have e := eq_of_beq hck
    have hl := xLen_eq hlen rfl
    subst hl
    exact o_astore_n C e hp hn h.1 hb (hk _ h.2).1
  · cases hck
theorem st_iinc (C : xCtx p R s m args c own cc nL d J A) {n : Nat} {q : Int}  (hp : decode cc (ps.getD pc 0) = .ok (i, len)) (hlen : xLenOk i len = true) (hck : xChk1 own ini ret ps (ps.getD pc 0) i (.iinc n q) = true) (hnx : ps.getD (pc + 1) 0 = ps.getD pc 0 + len ∨ xTerm (.iinc n q) = true) (hk : ∀ S, k S → xRd (p, l, e, R, s, m, args, below, meth, c) J A Z nL c0 s0 ps S ∧ S.2.2.2.2.2.2.1 ≤ c0 + R.cells ∧ S.2.2.2.2.2.2.2 ≤ s0 + R.slots) (h : xGo call k Q (xNext d (.iinc n q) pc L st M)) : xRd (p, l, e, R, s, m, args, below, meth, c) J A Z nL c0 s0 ps (pc, L, st, M) := by
  have hn := hnx.resolve_right (by simp [xTerm])
  simp only [xChk1, Bool.and_eq_true] at hck
  obtain ⟨hck, h32⟩ := hck
  simp only [xNext] at h
  obtain ⟨x, hx, h⟩ := xLo_inv (t := 0) (by decide) h
  obtain ⟨hb, h⟩ := xIf_inv h
  split at hck
  · simp only [Bool.and_eq_true, beq_iff_eq] at hck
    obtain ⟨e1, e2⟩ := hck
    subst e1
    subst e2
    simp only [xLenOk, Bool.or_eq_true, beq_iff_eq] at hlen
    rcases hlen with rfl | rfl
    · exact o_iinc C hp hn (xIn32_ok h32) hx (hk _ h).1
    · exact o_iincW C hp hn (xIn32_ok h32) hx (hk _ h).1
  · cases hck
theorem st_iconst (C : xCtx p R s m args c own cc nL d J A) {v : Int}  (hp : decode cc (ps.getD pc 0) = .ok (i, len)) (hlen : xLenOk i len = true) (hck : xChk1 own ini ret ps (ps.getD pc 0) i (.iconst v) = true) (hnx : ps.getD (pc + 1) 0 = ps.getD pc 0 + len ∨ xTerm (.iconst v) = true) (hk : ∀ S, k S → xRd (p, l, e, R, s, m, args, below, meth, c) J A Z nL c0 s0 ps S ∧ S.2.2.2.2.2.2.1 ≤ c0 + R.cells ∧ S.2.2.2.2.2.2.2 ≤ s0 + R.slots) (h : xGo call k Q (xNext d (.iconst v) pc L st M)) : xRd (p, l, e, R, s, m, args, below, meth, c) J A Z nL c0 s0 ps (pc, L, st, M) := by
  have hn := hnx.resolve_right (by simp [xTerm])
  simp only [xChk1, Bool.and_eq_true] at hck
  obtain ⟨h32, hck⟩ := hck
  have hi := xIn32_ok h32
  split at hck
  · have e := eq_of_beq hck
    subst e
    have hl := xLen_eq hlen rfl
    subst hl
    exact o_iconst C hi hp hn (hk _ h).1
  · simp only [Bool.and_eq_true, beq_iff_eq, decide_eq_true_eq] at hck
    obtain ⟨⟨e, e1⟩, e2⟩ := hck
    subst e
    have hl := xLen_eq hlen rfl
    subst hl
    exact o_bipush C ⟨e1, e2⟩ hp hn (hk _ h).1
  · simp only [Bool.and_eq_true, beq_iff_eq, decide_eq_true_eq] at hck
    obtain ⟨⟨e, e1⟩, e2⟩ := hck
    subst e
    have hl := xLen_eq hlen rfl
    subst hl
    exact o_sipush C ⟨e1, e2⟩ hp hn (hk _ h).1
  · have hl := xLen_eq hlen rfl
    subst hl
    exact o_ldc C hi (xGw_of (xKi_ok _ (List.contains_iff_mem.mp hck)) rfl) hp hn (hk _ h).1
  · have hl := xLen_eq hlen rfl
    subst hl
    exact o_ldcw C hi (xGw_of (xKi_ok _ (List.contains_iff_mem.mp hck)) rfl) hp hn (hk _ h).1
  · cases hck
theorem st_jsr (C : xCtx p R s m args c own cc nL d J A) {v : Int}  (hp : decode cc (ps.getD pc 0) = .ok (i, len)) (hlen : xLenOk i len = true) (hck : xChk1 own ini ret ps (ps.getD pc 0) i (.jsr v) = true) (hnx : ps.getD (pc + 1) 0 = ps.getD pc 0 + len ∨ xTerm (.jsr v) = true) (hk : ∀ S, k S → xRd (p, l, e, R, s, m, args, below, meth, c) J A Z nL c0 s0 ps S ∧ S.2.2.2.2.2.2.1 ≤ c0 + R.cells ∧ S.2.2.2.2.2.2.2 ≤ s0 + R.slots) (h : xGo call k Q (xNext d (.jsr v) pc L st M)) : xRd (p, l, e, R, s, m, args, below, meth, c) J A Z nL c0 s0 ps (pc, L, st, M) := by
  have hn := hnx.resolve_right (by simp [xTerm])
  simp only [xChk1, Bool.and_eq_true] at hck
  obtain ⟨h64, hck⟩ := hck
  have hi := xIn64_ok h64
  split at hck
  · have e := eq_of_beq hck
    subst e
    have hl := xLen_eq hlen rfl
    subst hl
    exact o_lconst C hp hn (hk _ h).1
  · have hl := xLen_eq hlen rfl
    subst hl
    exact o_ldc2 C hi (xGw_of (xKl_ok _ (List.contains_iff_mem.mp hck)) rfl) hp hn (hk _ h).1
  · cases hck
theorem st_ldc (C : xCtx p R s m args c own cc nL d J A) {j : Nat}  (hp : decode cc (ps.getD pc 0) = .ok (i, len)) (hlen : xLenOk i len = true) (hck : xChk1 own ini ret ps (ps.getD pc 0) i (.ldc j) = true) (hnx : ps.getD (pc + 1) 0 = ps.getD pc 0 + len ∨ xTerm (.ldc j) = true) (hk : ∀ S, k S → xRd (p, l, e, R, s, m, args, below, meth, c) J A Z nL c0 s0 ps S ∧ S.2.2.2.2.2.2.1 ≤ c0 + R.cells ∧ S.2.2.2.2.2.2.2 ≤ s0 + R.slots) (h : xGo call k Q (xNext d (.ldc j) pc L st M)) : xRd (p, l, e, R, s, m, args, below, meth, c) J A Z nL c0 s0 ps (pc, L, st, M) := by
  have hn := hnx.resolve_right (by simp [xTerm])
  simp only [xChk1] at hck
  split at hck
  · have hl := xLen_eq hlen rfl
    subst hl
    exact o_ldcS C (List.contains_iff_mem.mp hck) hp hn (hk _ h).1
  · have hl := xLen_eq hlen rfl
    subst hl
    exact o_ldcwS C (List.contains_iff_mem.mp hck) hp hn (hk _ h).1
  · cases hck
theorem st_ifCond (C : xCtx p R s m args c own cc nL d J A) {q : ClassFile.Cond} {t : Int}  (hp : decode cc (ps.getD pc 0) = .ok (i, len)) (hlen : xLenOk i len = true) (hck : xChk1 own ini ret ps (ps.getD pc 0) i (.ifCond q t) = true) (hnx : ps.getD (pc + 1) 0 = ps.getD pc 0 + len ∨ xTerm (.ifCond q t) = true) (hk : ∀ S, k S → xRd (p, l, e, R, s, m, args, below, meth, c) J A Z nL c0 s0 ps S ∧ S.2.2.2.2.2.2.1 ≤ c0 + R.cells ∧ S.2.2.2.2.2.2.2 ≤ s0 + R.slots) (h : xGo call k Q (xNext d (.ifCond q t) pc L st M)) : xRd (p, l, e, R, s, m, args, below, meth, c) J A Z nL c0 s0 ps (pc, L, st, M) := by
  have hn := hnx.resolve_right (by simp [xTerm])
  simp only [xChk1] at hck
  obtain ⟨x, r, rfl, h⟩ := xB1_inv h
  split at hck
  · simp only [Bool.and_eq_true] at hck
    obtain ⟨e1, e2⟩ := hck
    have e1 := xBq_cd e1
    subst e1
    have hl := xLen_eq hlen rfl
    subst hl
    exact o_ifCond C hp hn (xJmp_ok e2) (fun z => (hk _ (h.1 z)).1) (fun z => (hk _ (h.2 z)).1)
  · cases hck
theorem st_if_icmp (C : xCtx p R s m args c own cc nL d J A) {q : ClassFile.Cond} {t : Int}  (hp : decode cc (ps.getD pc 0) = .ok (i, len)) (hlen : xLenOk i len = true) (hck : xChk1 own ini ret ps (ps.getD pc 0) i (.if_icmp q t) = true) (hnx : ps.getD (pc + 1) 0 = ps.getD pc 0 + len ∨ xTerm (.if_icmp q t) = true) (hk : ∀ S, k S → xRd (p, l, e, R, s, m, args, below, meth, c) J A Z nL c0 s0 ps S ∧ S.2.2.2.2.2.2.1 ≤ c0 + R.cells ∧ S.2.2.2.2.2.2.2 ≤ s0 + R.slots) (h : xGo call k Q (xNext d (.if_icmp q t) pc L st M)) : xRd (p, l, e, R, s, m, args, below, meth, c) J A Z nL c0 s0 ps (pc, L, st, M) := by
  have hn := hnx.resolve_right (by simp [xTerm])
  simp only [xChk1] at hck
  obtain ⟨x, y, r, rfl, h⟩ := xB2_inv h
  split at hck
  · simp only [Bool.and_eq_true] at hck
    obtain ⟨e1, e2⟩ := hck
    have e1 := xBq_cd e1
    subst e1
    have hl := xLen_eq hlen rfl
    subst hl
    exact o_if_icmp C hp hn (xJmp_ok e2) (fun z => (hk _ (h.1 z)).1) (fun z => (hk _ (h.2 z)).1)
  · cases hck
theorem st_ifnull (C : xCtx p R s m args c own cc nL d J A) {t : Int}  (hp : decode cc (ps.getD pc 0) = .ok (i, len)) (hlen : xLenOk i len = true) (hck : xChk1 own ini ret ps (ps.getD pc 0) i (.ifnull t) = true) (hnx : ps.getD (pc + 1) 0 = ps.getD pc 0 + len ∨ xTerm (.ifnull t) = true) (hk : ∀ S, k S → xRd (p, l, e, R, s, m, args, below, meth, c) J A Z nL c0 s0 ps S ∧ S.2.2.2.2.2.2.1 ≤ c0 + R.cells ∧ S.2.2.2.2.2.2.2 ≤ s0 + R.slots) (h : xGo call k Q (xNext d (.ifnull t) pc L st M)) : xRd (p, l, e, R, s, m, args, below, meth, c) J A Z nL c0 s0 ps (pc, L, st, M) := by
  have hn := hnx.resolve_right (by simp [xTerm])
  simp only [xChk1] at hck
  obtain ⟨x, r, rfl, h⟩ := xR1_inv h
  split at hck
  · have hl := xLen_eq hlen rfl
    subst hl
    exact o_ifnull C hp hn (xJmp_ok hck) (fun z => (hk _ (h.1 z)).1) (fun z => (hk _ (h.2 z)).1)
  · cases hck
theorem st_ifnonnull (C : xCtx p R s m args c own cc nL d J A) {t : Int}  (hp : decode cc (ps.getD pc 0) = .ok (i, len)) (hlen : xLenOk i len = true) (hck : xChk1 own ini ret ps (ps.getD pc 0) i (.ifnonnull t) = true) (hnx : ps.getD (pc + 1) 0 = ps.getD pc 0 + len ∨ xTerm (.ifnonnull t) = true) (hk : ∀ S, k S → xRd (p, l, e, R, s, m, args, below, meth, c) J A Z nL c0 s0 ps S ∧ S.2.2.2.2.2.2.1 ≤ c0 + R.cells ∧ S.2.2.2.2.2.2.2 ≤ s0 + R.slots) (h : xGo call k Q (xNext d (.ifnonnull t) pc L st M)) : xRd (p, l, e, R, s, m, args, below, meth, c) J A Z nL c0 s0 ps (pc, L, st, M) := by
  have hn := hnx.resolve_right (by simp [xTerm])
  simp only [xChk1] at hck
  obtain ⟨x, r, rfl, h⟩ := xR1_inv h
  split at hck
  · have hl := xLen_eq hlen rfl
    subst hl
    exact o_ifnonnull C hp hn (xJmp_ok hck) (fun z => (hk _ (h.1 z)).1) (fun z => (hk _ (h.2 z)).1)
  · cases hck
theorem st_goto (C : xCtx p R s m args c own cc nL d J A) {t : Int}  (hp : decode cc (ps.getD pc 0) = .ok (i, len)) (hlen : xLenOk i len = true) (hck : xChk1 own ini ret ps (ps.getD pc 0) i (.goto t) = true) (hnx : ps.getD (pc + 1) 0 = ps.getD pc 0 + len ∨ xTerm (.goto t) = true) (hk : ∀ S, k S → xRd (p, l, e, R, s, m, args, below, meth, c) J A Z nL c0 s0 ps S ∧ S.2.2.2.2.2.2.1 ≤ c0 + R.cells ∧ S.2.2.2.2.2.2.2 ≤ s0 + R.slots) (h : xGo call k Q (xNext d (.goto t) pc L st M)) : xRd (p, l, e, R, s, m, args, below, meth, c) J A Z nL c0 s0 ps (pc, L, st, M) := by
  simp only [xChk1] at hck
  split at hck
  · have hl := xLen_eq hlen rfl
    subst hl
    exact o_goto C hp (xJmp_ok hck) (hk _ h).1
  · cases hck
theorem st_tableswitch (C : xCtx p R s m args c own cc nL d J A) {t lo hi : Int} {ts : Array Int}  (hp : decode cc (ps.getD pc 0) = .ok (i, len)) (hlen : xLenOk i len = true) (hck : xChk1 own ini ret ps (ps.getD pc 0) i (.tableswitch t lo hi ts) = true) (hnx : ps.getD (pc + 1) 0 = ps.getD pc 0 + len ∨ xTerm (.tableswitch t lo hi ts) = true) (hk : ∀ S, k S → xRd (p, l, e, R, s, m, args, below, meth, c) J A Z nL c0 s0 ps S ∧ S.2.2.2.2.2.2.1 ≤ c0 + R.cells ∧ S.2.2.2.2.2.2.2 ≤ s0 + R.slots) (h : xGo call k Q (xNext d (.tableswitch t lo hi ts) pc L st M)) : xRd (p, l, e, R, s, m, args, below, meth, c) J A Z nL c0 s0 ps (pc, L, st, M) := by
  simp only [xChk1] at hck
  obtain ⟨x, r, rfl, h⟩ := xB1_inv h
  split at hck
  · rename_i dd lo2 hi2 offs
    simp only [Bool.and_eq_true, beq_iff_eq] at hck
    obtain ⟨⟨⟨⟨⟨⟨⟨e1, e2⟩, e3⟩, e4⟩, e5⟩, e6⟩, e7⟩, e8⟩ := hck
    subst e1
    subst e2
    refine o_table (ts := []) C hp (xIn32_ok e4) (xIn32_ok e5) (by rw [e6, e7]) (xJmp_ok e3) (fun j hj hx => ?_) (fun z => (hk _ (h.2 (by rw [List.length_map, Array.length_toList]; omega))).1)
    have h1 : ts.toList[j]? = some (ts[j]'(by omega)) := by rw [Array.getElem?_toList]; exact Array.getElem?_eq_getElem (by omega)
    have h2 : offs.toList[j]? = some (offs[j]'hj) := by rw [Array.getElem?_toList]; exact Array.getElem?_eq_getElem hj
    have hz : (ts.toList.zip offs.toList)[j]? = some (ts[j]'(by omega), offs[j]'hj) := by
      rw [List.getElem?_zip_eq_some]
      exact ⟨h1, h2⟩
    have hq := List.all_eq_true.mp e8 _ (List.mem_of_getElem? hz)
    have hm : (ts.toList.map fun u => (u.toNat, L, r, M))[j]? = some ((ts[j]'(by omega)).toNat, L, r, M) := by
      rw [List.getElem?_map, h1]; rfl
    exact ⟨_, _, Array.getElem?_eq_getElem hj, xJmp_ok hq, (hk _ (xSw_get _ _ hm hx h.1)).1⟩
  · cases hck
theorem st_iaload (C : xCtx p R s m args c own cc nL d J A)  (hp : decode cc (ps.getD pc 0) = .ok (i, len)) (hlen : xLenOk i len = true) (hck : xChk1 own ini ret ps (ps.getD pc 0) i (.iaload) = true) (hnx : ps.getD (pc + 1) 0 = ps.getD pc 0 + len ∨ xTerm (.iaload) = true) (hk : ∀ S, k S → xRd (p, l, e, R, s, m, args, below, meth, c) J A Z nL c0 s0 ps S ∧ S.2.2.2.2.2.2.1 ≤ c0 + R.cells ∧ S.2.2.2.2.2.2.2 ≤ s0 + R.slots) (h : xGo call k Q (xNext d (.iaload) pc L st M)) : xRd (p, l, e, R, s, m, args, below, meth, c) J A Z nL c0 s0 ps (pc, L, st, M) := by
  have hi : i = .iaload := xBq_iaload hck
  subst hi
  have hl := xLen_eq hlen rfl
  subst hl
  have hn := hnx.resolve_right (by simp [xTerm])
  obtain ⟨a, i, r, rfl, h⟩ := xA2_inv h
  exact o_iaload C hp hn h.1.1 h.1.2.1 h.1.2.2 (hk _ h.2).1
theorem st_laload (C : xCtx p R s m args c own cc nL d J A)  (hp : decode cc (ps.getD pc 0) = .ok (i, len)) (hlen : xLenOk i len = true) (hck : xChk1 own ini ret ps (ps.getD pc 0) i (.laload) = true) (hnx : ps.getD (pc + 1) 0 = ps.getD pc 0 + len ∨ xTerm (.laload) = true) (hk : ∀ S, k S → xRd (p, l, e, R, s, m, args, below, meth, c) J A Z nL c0 s0 ps S ∧ S.2.2.2.2.2.2.1 ≤ c0 + R.cells ∧ S.2.2.2.2.2.2.2 ≤ s0 + R.slots) (h : xGo call k Q (xNext d (.laload) pc L st M)) : xRd (p, l, e, R, s, m, args, below, meth, c) J A Z nL c0 s0 ps (pc, L, st, M) := by
  have hi : i = .laload := xBq_laload hck
  subst hi
  have hl := xLen_eq hlen rfl
  subst hl
  have hn := hnx.resolve_right (by simp [xTerm])
  obtain ⟨a, i, r, rfl, h⟩ := xA2_inv h
  exact o_laload C hp hn h.1.1 h.1.2.1 h.1.2.2 (hk _ h.2).1
theorem st_aaload (C : xCtx p R s m args c own cc nL d J A)  (hp : decode cc (ps.getD pc 0) = .ok (i, len)) (hlen : xLenOk i len = true) (hck : xChk1 own ini ret ps (ps.getD pc 0) i (.aaload) = true) (hnx : ps.getD (pc + 1) 0 = ps.getD pc 0 + len ∨ xTerm (.aaload) = true) (hk : ∀ S, k S → xRd (p, l, e, R, s, m, args, below, meth, c) J A Z nL c0 s0 ps S ∧ S.2.2.2.2.2.2.1 ≤ c0 + R.cells ∧ S.2.2.2.2.2.2.2 ≤ s0 + R.slots) (h : xGo call k Q (xNext d (.aaload) pc L st M)) : xRd (p, l, e, R, s, m, args, below, meth, c) J A Z nL c0 s0 ps (pc, L, st, M) := by
  have hi : i = .aaload := xBq_aaload hck
  subst hi
  have hl := xLen_eq hlen rfl
  subst hl
  have hn := hnx.resolve_right (by simp [xTerm])
  obtain ⟨a, i, r, rfl, h⟩ := xA2_inv h
  exact o_aaload C hp hn h.1.1 h.1.2.1 h.1.2.2 (hk _ h.2).1
theorem st_baload (C : xCtx p R s m args c own cc nL d J A)  (hp : decode cc (ps.getD pc 0) = .ok (i, len)) (hlen : xLenOk i len = true) (hck : xChk1 own ini ret ps (ps.getD pc 0) i (.baload) = true) (hnx : ps.getD (pc + 1) 0 = ps.getD pc 0 + len ∨ xTerm (.baload) = true) (hk : ∀ S, k S → xRd (p, l, e, R, s, m, args, below, meth, c) J A Z nL c0 s0 ps S ∧ S.2.2.2.2.2.2.1 ≤ c0 + R.cells ∧ S.2.2.2.2.2.2.2 ≤ s0 + R.slots) (h : xGo call k Q (xNext d (.baload) pc L st M)) : xRd (p, l, e, R, s, m, args, below, meth, c) J A Z nL c0 s0 ps (pc, L, st, M) := by
  have hn := hnx.resolve_right (by simp [xTerm])
  simp only [xChk1] at hck
  split at hck
  · have hl := xLen_eq hlen rfl
    subst hl
    obtain ⟨a, i, r, rfl, h⟩ := xA2_inv h
    exact o_baload C hp hn h.1.1 h.1.2.1 h.1.2.2 (hk _ h.2).1
  · cases hck
theorem st_caload (C : xCtx p R s m args c own cc nL d J A)  (hp : decode cc (ps.getD pc 0) = .ok (i, len)) (hlen : xLenOk i len = true) (hck : xChk1 own ini ret ps (ps.getD pc 0) i (.caload) = true) (hnx : ps.getD (pc + 1) 0 = ps.getD pc 0 + len ∨ xTerm (.caload) = true) (hk : ∀ S, k S → xRd (p, l, e, R, s, m, args, below, meth, c) J A Z nL c0 s0 ps S ∧ S.2.2.2.2.2.2.1 ≤ c0 + R.cells ∧ S.2.2.2.2.2.2.2 ≤ s0 + R.slots) (h : xGo call k Q (xNext d (.caload) pc L st M)) : xRd (p, l, e, R, s, m, args, below, meth, c) J A Z nL c0 s0 ps (pc, L, st, M) := by
  have hn := hnx.resolve_right (by simp [xTerm])
  simp only [xChk1] at hck
  split at hck
  · have hl := xLen_eq hlen rfl
    subst hl
    obtain ⟨a, i, r, rfl, h⟩ := xA2_inv h
    exact o_caload C hp hn h.1.1 h.1.2.1 h.1.2.2 (hk _ h.2).1
  · cases hck
theorem st_iastore (C : xCtx p R s m args c own cc nL d J A)  (hp : decode cc (ps.getD pc 0) = .ok (i, len)) (hlen : xLenOk i len = true) (hck : xChk1 own ini ret ps (ps.getD pc 0) i (.iastore) = true) (hnx : ps.getD (pc + 1) 0 = ps.getD pc 0 + len ∨ xTerm (.iastore) = true) (hk : ∀ S, k S → xRd (p, l, e, R, s, m, args, below, meth, c) J A Z nL c0 s0 ps S ∧ S.2.2.2.2.2.2.1 ≤ c0 + R.cells ∧ S.2.2.2.2.2.2.2 ≤ s0 + R.slots) (h : xGo call k Q (xNext d (.iastore) pc L st M)) : xRd (p, l, e, R, s, m, args, below, meth, c) J A Z nL c0 s0 ps (pc, L, st, M) := by
  have hi : i = .iastore := xBq_iastore hck
  subst hi
  have hl := xLen_eq hlen rfl
  subst hl
  have hn := hnx.resolve_right (by simp [xTerm])
  obtain ⟨a, i, x, r, rfl, h⟩ := xA3_inv h
  exact o_iastore C hp hn h.1.1 h.1.2.1 h.1.2.2.1 h.1.2.2.2 (hk _ h.2).1
theorem st_lastore (C : xCtx p R s m args c own cc nL d J A)  (hp : decode cc (ps.getD pc 0) = .ok (i, len)) (hlen : xLenOk i len = true) (hck : xChk1 own ini ret ps (ps.getD pc 0) i (.lastore) = true) (hnx : ps.getD (pc + 1) 0 = ps.getD pc 0 + len ∨ xTerm (.lastore) = true) (hk : ∀ S, k S → xRd (p, l, e, R, s, m, args, below, meth, c) J A Z nL c0 s0 ps S ∧ S.2.2.2.2.2.2.1 ≤ c0 + R.cells ∧ S.2.2.2.2.2.2.2 ≤ s0 + R.slots) (h : xGo call k Q (xNext d (.lastore) pc L st M)) : xRd (p, l, e, R, s, m, args, below, meth, c) J A Z nL c0 s0 ps (pc, L, st, M) := by
  have hi : i = .lastore := xBq_lastore hck
  subst hi
  have hl := xLen_eq hlen rfl
  subst hl
  have hn := hnx.resolve_right (by simp [xTerm])
  obtain ⟨a, i, x, r, rfl, h⟩ := xA3_inv h
  exact o_lastore C hp hn h.1.1 h.1.2.1 h.1.2.2.1 h.1.2.2.2 (hk _ h.2).1
theorem st_bastore (C : xCtx p R s m args c own cc nL d J A)  (hp : decode cc (ps.getD pc 0) = .ok (i, len)) (hlen : xLenOk i len = true) (hck : xChk1 own ini ret ps (ps.getD pc 0) i (.bastore) = true) (hnx : ps.getD (pc + 1) 0 = ps.getD pc 0 + len ∨ xTerm (.bastore) = true) (hk : ∀ S, k S → xRd (p, l, e, R, s, m, args, below, meth, c) J A Z nL c0 s0 ps S ∧ S.2.2.2.2.2.2.1 ≤ c0 + R.cells ∧ S.2.2.2.2.2.2.2 ≤ s0 + R.slots) (h : xGo call k Q (xNext d (.bastore) pc L st M)) : xRd (p, l, e, R, s, m, args, below, meth, c) J A Z nL c0 s0 ps (pc, L, st, M) := by
  have hn := hnx.resolve_right (by simp [xTerm])
  simp only [xChk1] at hck
  split at hck
  · have hl := xLen_eq hlen rfl
    subst hl
    obtain ⟨a, i, x, r, rfl, h⟩ := xA3_inv h
    exact o_bastore C hp hn h.1.1 h.1.2.1 h.1.2.2.1 h.1.2.2.2 (hk _ h.2).1
  · cases hck
theorem st_castore (C : xCtx p R s m args c own cc nL d J A)  (hp : decode cc (ps.getD pc 0) = .ok (i, len)) (hlen : xLenOk i len = true) (hck : xChk1 own ini ret ps (ps.getD pc 0) i (.castore) = true) (hnx : ps.getD (pc + 1) 0 = ps.getD pc 0 + len ∨ xTerm (.castore) = true) (hk : ∀ S, k S → xRd (p, l, e, R, s, m, args, below, meth, c) J A Z nL c0 s0 ps S ∧ S.2.2.2.2.2.2.1 ≤ c0 + R.cells ∧ S.2.2.2.2.2.2.2 ≤ s0 + R.slots) (h : xGo call k Q (xNext d (.castore) pc L st M)) : xRd (p, l, e, R, s, m, args, below, meth, c) J A Z nL c0 s0 ps (pc, L, st, M) := by
  have hn := hnx.resolve_right (by simp [xTerm])
  simp only [xChk1] at hck
  split at hck
  · have hl := xLen_eq hlen rfl
    subst hl
    obtain ⟨a, i, x, r, rfl, h⟩ := xA3_inv h
    exact o_castore C hp hn h.1.1 h.1.2.1 h.1.2.2.1 h.1.2.2.2.1 h.1.2.2.2.2 (hk _ h.2).1
  · cases hck
theorem st_aastore (C : xCtx p R s m args c own cc nL d J A)  (hp : decode cc (ps.getD pc 0) = .ok (i, len)) (hlen : xLenOk i len = true) (hck : xChk1 own ini ret ps (ps.getD pc 0) i (.aastore) = true) (hnx : ps.getD (pc + 1) 0 = ps.getD pc 0 + len ∨ xTerm (.aastore) = true) (hk : ∀ S, k S → xRd (p, l, e, R, s, m, args, below, meth, c) J A Z nL c0 s0 ps S ∧ S.2.2.2.2.2.2.1 ≤ c0 + R.cells ∧ S.2.2.2.2.2.2.2 ≤ s0 + R.slots) (h : xGo call k Q (xNext d (.aastore) pc L st M)) : xRd (p, l, e, R, s, m, args, below, meth, c) J A Z nL c0 s0 ps (pc, L, st, M) := by
  have hi : i = .aastore := xBq_aastore hck
  subst hi
  have hl := xLen_eq hlen rfl
  subst hl
  have hn := hnx.resolve_right (by simp [xTerm])
  obtain ⟨a, i, x, r, rfl, h⟩ := xA3_inv h
  exact o_aastore C hp hn h.1.1 h.1.2.1 h.1.2.2.1 h.1.2.2.2.1 h.1.2.2.2.2 (hk _ h.2).1
theorem st_arraylength (C : xCtx p R s m args c own cc nL d J A)  (hp : decode cc (ps.getD pc 0) = .ok (i, len)) (hlen : xLenOk i len = true) (hck : xChk1 own ini ret ps (ps.getD pc 0) i (.arraylength) = true) (hnx : ps.getD (pc + 1) 0 = ps.getD pc 0 + len ∨ xTerm (.arraylength) = true) (hk : ∀ S, k S → xRd (p, l, e, R, s, m, args, below, meth, c) J A Z nL c0 s0 ps S ∧ S.2.2.2.2.2.2.1 ≤ c0 + R.cells ∧ S.2.2.2.2.2.2.2 ≤ s0 + R.slots) (h : xGo call k Q (xNext d (.arraylength) pc L st M)) : xRd (p, l, e, R, s, m, args, below, meth, c) J A Z nL c0 s0 ps (pc, L, st, M) := by
  have hi : i = .arraylength := xBq_arraylength hck
  subst hi
  have hl := xLen_eq hlen rfl
  subst hl
  have hn := hnx.resolve_right (by simp [xTerm])
  obtain ⟨a, r, rfl, h⟩ := xR1_inv h
  exact o_alen C hp hn h.1 (hk _ h.2).1
theorem st_newarray (C : xCtx p R s m args c own cc nL d J A) {t : ArrayType}  (hp : decode cc (ps.getD pc 0) = .ok (i, len)) (hlen : xLenOk i len = true) (hck : xChk1 own ini ret ps (ps.getD pc 0) i (.newarray t) = true) (hnx : ps.getD (pc + 1) 0 = ps.getD pc 0 + len ∨ xTerm (.newarray t) = true) (hk : ∀ S, k S → xRd (p, l, e, R, s, m, args, below, meth, c) J A Z nL c0 s0 ps S ∧ S.2.2.2.2.2.2.1 ≤ c0 + R.cells ∧ S.2.2.2.2.2.2.2 ≤ s0 + R.slots) (h : xGo call k Q (xNext d (.newarray t) pc L st M)) : xRd (p, l, e, R, s, m, args, below, meth, c) J A Z nL c0 s0 ps (pc, L, st, M) := by
  have hn := hnx.resolve_right (by simp [xTerm])
  simp only [xChk1] at hck
  split at hck
  · have hl := xLen_eq hlen rfl
    subst hl
    simp only [Bool.and_eq_true, decide_eq_true_eq] at hck
    obtain ⟨e1, e2⟩ := hck
    have e1 := xBq_at e1
    subst e1
    obtain ⟨x, r, rfl, h⟩ := xB1_inv h
    exact o_newarray C e2 h.1.1 h.1.2 hp hn (hk _ h.2).2.1 (hk _ h.2).2.2 (hk _ h.2).1
  · cases hck
theorem st_anewarray (C : xCtx p R s m args c own cc nL d J A) {κ : Nat}  (hp : decode cc (ps.getD pc 0) = .ok (i, len)) (hlen : xLenOk i len = true) (hck : xChk1 own ini ret ps (ps.getD pc 0) i (.anewarray κ) = true) (hnx : ps.getD (pc + 1) 0 = ps.getD pc 0 + len ∨ xTerm (.anewarray κ) = true) (hk : ∀ S, k S → xRd (p, l, e, R, s, m, args, below, meth, c) J A Z nL c0 s0 ps S ∧ S.2.2.2.2.2.2.1 ≤ c0 + R.cells ∧ S.2.2.2.2.2.2.2 ≤ s0 + R.slots) (h : xGo call k Q (xNext d (.anewarray κ) pc L st M)) : xRd (p, l, e, R, s, m, args, below, meth, c) J A Z nL c0 s0 ps (pc, L, st, M) := by
  have hn := hnx.resolve_right (by simp [xTerm])
  simp only [xChk1] at hck
  split at hck
  · have hl := xLen_eq hlen rfl
    subst hl
    simp only [Bool.and_eq_true] at hck
    obtain ⟨x, r, rfl, h⟩ := xB1_inv h
    exact o_anewarray C (xBle hck.1.1) (xBle hck.1.2) (List.contains_iff_mem.mp hck.2) h.1.1 h.1.2 hp hn (hk _ h.2).2.1 (hk _ h.2).2.2 (hk _ h.2).1
  · cases hck
theorem st_new (C : xCtx p R s m args c own cc nL d J A) {q : Nat}  (hp : decode cc (ps.getD pc 0) = .ok (i, len)) (hlen : xLenOk i len = true) (hck : xChk1 own ini ret ps (ps.getD pc 0) i (.new q) = true) (hnx : ps.getD (pc + 1) 0 = ps.getD pc 0 + len ∨ xTerm (.new q) = true) (hk : ∀ S, k S → xRd (p, l, e, R, s, m, args, below, meth, c) J A Z nL c0 s0 ps S ∧ S.2.2.2.2.2.2.1 ≤ c0 + R.cells ∧ S.2.2.2.2.2.2.2 ≤ s0 + R.slots) (h : xGo call k Q (xNext d (.new q) pc L st M)) : xRd (p, l, e, R, s, m, args, below, meth, c) J A Z nL c0 s0 ps (pc, L, st, M) := by
  have hn := hnx.resolve_right (by simp [xTerm])
  simp only [xChk1] at hck
  split at hck
  · have hl := xLen_eq hlen rfl
    subst hl
    simp only [Bool.and_eq_true] at hck
    have hc := xBlt hck.1
    have z := hk _ h
    rw [show xNs.getD q 0 = (xCl q).2.2 from xCl_ns q hc] at z
    exact o_new C hc (List.contains_iff_mem.mp hck.2) hp hn z.2.1 z.2.2 z.1
  · cases hck
theorem st_multianewarray (C : xCtx p R s m args c own cc nL d J A) {q1 q2 : Nat}  (hp : decode cc (ps.getD pc 0) = .ok (i, len)) (hlen : xLenOk i len = true) (hck : xChk1 own ini ret ps (ps.getD pc 0) i (.multianewarray q1 q2) = true) (hnx : ps.getD (pc + 1) 0 = ps.getD pc 0 + len ∨ xTerm (.multianewarray q1 q2) = true) (hk : ∀ S, k S → xRd (p, l, e, R, s, m, args, below, meth, c) J A Z nL c0 s0 ps S ∧ S.2.2.2.2.2.2.1 ≤ c0 + R.cells ∧ S.2.2.2.2.2.2.2 ≤ s0 + R.slots) (h : xGo call k Q (xNext d (.multianewarray q1 q2) pc L st M)) : xRd (p, l, e, R, s, m, args, below, meth, c) J A Z nL c0 s0 ps (pc, L, st, M) := by
  have hn := hnx.resolve_right (by simp [xTerm])
  simp only [xChk1] at hck
  split at hck
  · have hl := xLen_eq hlen rfl
    subst hl
    simp only [Bool.and_eq_true, beq_iff_eq] at hck
    obtain ⟨⟨e1, e2⟩, e3⟩ := hck
    subst e1
    subst e2
    subst e3
    obtain ⟨l1, m1, r, rfl, h⟩ := xB2_inv h
    exact o_mna C hp hn h.1.1 h.1.2.1 h.1.2.2.1 h.1.2.2.2 (hk _ h.2).2.1 (hk _ h.2).2.2 (hk _ h.2).1
  · cases hck
theorem xFldOk_ok {own k m : Nat} (h : xFldOk own k m = true) : (own, k, m / 1000, m / 10 % 100) ∈ xFl ∨ (own, k, m / 1000, m / 10 % 100) ∈ xFn := by
  simp only [xFldOk, Bool.or_eq_true] at h
  exact h.imp List.contains_iff_mem.mp List.contains_iff_mem.mp
theorem xTg_mod {t n : Nat} (h : n = (if t = 3 then 0 else t)) (ht : t = 0 ∨ t = 1 ∨ t = 2 ∨ t = 3) : n = xTg t := by
  rcases ht with rfl | rfl | rfl | rfl <;> exact h
theorem xFT_4 {c k : Nat} (hc : c < 13) (hk : k < (xCl c).2.2) : xFT c k = 0 ∨ xFT c k = 1 ∨ xFT c k = 2 ∨ xFT c k = 3 := by
  rcases xFt_code hc hk with ⟨-, e⟩ | ⟨-, e⟩ | ⟨-, e⟩ | ⟨-, e⟩ <;> rw [e] <;> decide
theorem st_getfield (C : xCtx p R s m args c own cc nL d J A) {q : Nat}  (hp : decode cc (ps.getD pc 0) = .ok (i, len)) (hlen : xLenOk i len = true) (hck : xChk1 own ini ret ps (ps.getD pc 0) i (.getfield q) = true) (hnx : ps.getD (pc + 1) 0 = ps.getD pc 0 + len ∨ xTerm (.getfield q) = true) (hk : ∀ S, k S → xRd (p, l, e, R, s, m, args, below, meth, c) J A Z nL c0 s0 ps S ∧ S.2.2.2.2.2.2.1 ≤ c0 + R.cells ∧ S.2.2.2.2.2.2.2 ≤ s0 + R.slots) (h : xGo call k Q (xNext d (.getfield q) pc L st M)) : xRd (p, l, e, R, s, m, args, below, meth, c) J A Z nL c0 s0 ps (pc, L, st, M) := by
  have hn := hnx.resolve_right (by simp [xTerm])
  simp only [xChk1] at hck
  split at hck
  · have hl := xLen_eq hlen rfl
    subst hl
    simp only [Bool.and_eq_true, beq_iff_eq] at hck
    have hf := xFldOk_ok hck.1
    obtain ⟨hc, hkk⟩ := xFd_rng hf
    obtain ⟨a, r, rfl, h⟩ := xR1_inv h
    have z := hk _ h.2
    rw [xTg_mod hck.2 (xFT_4 hc hkk)] at z
    exact o_getf C hf hp hn h.1 z.1
  · cases hck
theorem st_putfield (C : xCtx p R s m args c own cc nL d J A) {q : Nat} (hini : ini = true → meth.name = "<init>")  (hp : decode cc (ps.getD pc 0) = .ok (i, len)) (hlen : xLenOk i len = true) (hck : xChk1 own ini ret ps (ps.getD pc 0) i (.putfield q) = true) (hnx : ps.getD (pc + 1) 0 = ps.getD pc 0 + len ∨ xTerm (.putfield q) = true) (hk : ∀ S, k S → xRd (p, l, e, R, s, m, args, below, meth, c) J A Z nL c0 s0 ps S ∧ S.2.2.2.2.2.2.1 ≤ c0 + R.cells ∧ S.2.2.2.2.2.2.2 ≤ s0 + R.slots) (h : xGo call k Q (xNext d (.putfield q) pc L st M)) : xRd (p, l, e, R, s, m, args, below, meth, c) J A Z nL c0 s0 ps (pc, L, st, M) := by
  have hn := hnx.resolve_right (by simp [xTerm])
  simp only [xChk1] at hck
  split at hck
  · have hl := xLen_eq hlen rfl
    subst hl
    simp only [Bool.and_eq_true, Bool.or_eq_true, beq_iff_eq] at hck
    obtain ⟨⟨hf, hty⟩, hfin⟩ := hck
    have hf := xFldOk_ok hf
    simp only [xNext] at h
    split at h
    · rename_i t x a r
      have h1 := h.1
      rw [hty] at h1
      refine o_putf C hf ?_ hp hn h1 (hk _ h.2).1
      rcases hfin with q1 | ⟨⟨q1, q2⟩, q3⟩
      · exact Or.inl (by simpa using q1)
      · exact Or.inr ⟨List.contains_iff_mem.mp q3, q2, hini q1⟩
    · exact absurd h.1 id
  · cases hck
theorem st_dneg (C : xCtx p R s m args c own cc nL d J A)  (hp : decode cc (ps.getD pc 0) = .ok (i, len)) (hlen : xLenOk i len = true) (hck : xChk1 own ini ret ps (ps.getD pc 0) i (.dneg) = true) (hnx : ps.getD (pc + 1) 0 = ps.getD pc 0 + len ∨ xTerm (.dneg) = true) (hk : ∀ S, k S → xRd (p, l, e, R, s, m, args, below, meth, c) J A Z nL c0 s0 ps S ∧ S.2.2.2.2.2.2.1 ≤ c0 + R.cells ∧ S.2.2.2.2.2.2.2 ≤ s0 + R.slots) (h : xGo call k Q (xNext d (.dneg) pc L st M)) : xRd (p, l, e, R, s, m, args, below, meth, c) J A Z nL c0 s0 ps (pc, L, st, M) := by
  have hn := hnx.resolve_right (by simp [xTerm])
  simp only [xChk1] at hck
  split at hck
  · have hl := xLen_eq hlen rfl
    subst hl
    obtain ⟨a, r, rfl, h⟩ := xR1_inv h
    obtain ⟨hb, h⟩ := xIf_inv h
    exact o_init C (List.contains_iff_mem.mp hck) hp hn h.1.2 h.1.1 (xBle hb) (hk _ h.2).1
  · cases hck
theorem st_dadd (C : xCtx p R s m args c own cc nL d J A)  (hp : decode cc (ps.getD pc 0) = .ok (i, len)) (hlen : xLenOk i len = true) (hck : xChk1 own ini ret ps (ps.getD pc 0) i (.dadd) = true) (hnx : ps.getD (pc + 1) 0 = ps.getD pc 0 + len ∨ xTerm (.dadd) = true) (hk : ∀ S, k S → xRd (p, l, e, R, s, m, args, below, meth, c) J A Z nL c0 s0 ps S ∧ S.2.2.2.2.2.2.1 ≤ c0 + R.cells ∧ S.2.2.2.2.2.2.2 ≤ s0 + R.slots) (h : xGo call k Q (xNext d (.dadd) pc L st M)) : xRd (p, l, e, R, s, m, args, below, meth, c) J A Z nL c0 s0 ps (pc, L, st, M) := by
  have hn := hnx.resolve_right (by simp [xTerm])
  simp only [xChk1] at hck
  split at hck
  · have hl := xLen_eq hlen rfl
    subst hl
    obtain ⟨x, y, r, rfl, h⟩ := xB2_inv h
    obtain ⟨hb, h⟩ := xIf_inv h
    exact o_max C (List.contains_iff_mem.mp hck) hp hn h.1 (xBle hb) (hk _ h.2).2.1 (hk _ h.2).2.2 (hk _ h.2).1
  · cases hck
theorem st_dsub (C : xCtx p R s m args c own cc nL d J A)  (hp : decode cc (ps.getD pc 0) = .ok (i, len)) (hlen : xLenOk i len = true) (hck : xChk1 own ini ret ps (ps.getD pc 0) i (.dsub) = true) (hnx : ps.getD (pc + 1) 0 = ps.getD pc 0 + len ∨ xTerm (.dsub) = true) (hk : ∀ S, k S → xRd (p, l, e, R, s, m, args, below, meth, c) J A Z nL c0 s0 ps S ∧ S.2.2.2.2.2.2.1 ≤ c0 + R.cells ∧ S.2.2.2.2.2.2.2 ≤ s0 + R.slots) (h : xGo call k Q (xNext d (.dsub) pc L st M)) : xRd (p, l, e, R, s, m, args, below, meth, c) J A Z nL c0 s0 ps (pc, L, st, M) := by
  have hn := hnx.resolve_right (by simp [xTerm])
  simp only [xChk1] at hck
  split at hck
  · have hl := xLen_eq hlen rfl
    subst hl
    obtain ⟨x, y, r, rfl, h⟩ := xB2_inv h
    obtain ⟨hb, h⟩ := xIf_inv h
    exact o_min C (List.contains_iff_mem.mp hck) hp hn h.1 (xBle hb) (hk _ h.2).2.1 (hk _ h.2).2.2 (hk _ h.2).1
  · cases hck
theorem st_dmul (C : xCtx p R s m args c own cc nL d J A)  (hp : decode cc (ps.getD pc 0) = .ok (i, len)) (hlen : xLenOk i len = true) (hck : xChk1 own ini ret ps (ps.getD pc 0) i (.dmul) = true) (hnx : ps.getD (pc + 1) 0 = ps.getD pc 0 + len ∨ xTerm (.dmul) = true) (hk : ∀ S, k S → xRd (p, l, e, R, s, m, args, below, meth, c) J A Z nL c0 s0 ps S ∧ S.2.2.2.2.2.2.1 ≤ c0 + R.cells ∧ S.2.2.2.2.2.2.2 ≤ s0 + R.slots) (h : xGo call k Q (xNext d (.dmul) pc L st M)) : xRd (p, l, e, R, s, m, args, below, meth, c) J A Z nL c0 s0 ps (pc, L, st, M) := by
  have hn := hnx.resolve_right (by simp [xTerm])
  simp only [xChk1] at hck
  split at hck
  · have hl := xLen_eq hlen rfl
    subst hl
    simp only [xNext] at h
    split at h
    · obtain ⟨hb, h⟩ := xIf_inv h
      obtain ⟨⟨q1, q2, q3, q4, q5, q6, q7, q8, q9, q10⟩, h⟩ := h
      exact o_copyi C (List.contains_iff_mem.mp hck) hp hn q1 (xBle hb) q2 q3 q4 q5 q6 q7 q8 q9 q10 (hk _ h).1
    · exact absurd h.1 id
  · cases hck
theorem st_ddiv (C : xCtx p R s m args c own cc nL d J A)  (hp : decode cc (ps.getD pc 0) = .ok (i, len)) (hlen : xLenOk i len = true) (hck : xChk1 own ini ret ps (ps.getD pc 0) i (.ddiv) = true) (hnx : ps.getD (pc + 1) 0 = ps.getD pc 0 + len ∨ xTerm (.ddiv) = true) (hk : ∀ S, k S → xRd (p, l, e, R, s, m, args, below, meth, c) J A Z nL c0 s0 ps S ∧ S.2.2.2.2.2.2.1 ≤ c0 + R.cells ∧ S.2.2.2.2.2.2.2 ≤ s0 + R.slots) (h : xGo call k Q (xNext d (.ddiv) pc L st M)) : xRd (p, l, e, R, s, m, args, below, meth, c) J A Z nL c0 s0 ps (pc, L, st, M) := by
  have hn := hnx.resolve_right (by simp [xTerm])
  simp only [xChk1] at hck
  split at hck
  · have hl := xLen_eq hlen rfl
    subst hl
    simp only [xNext] at h
    split at h
    · obtain ⟨hb, h⟩ := xIf_inv h
      obtain ⟨⟨q1, q2, q3, q4, q5, q6, q7, q8, q9, q10⟩, h⟩ := h
      exact o_copyl C (List.contains_iff_mem.mp hck) hp hn q1 (xBle hb) q2 q3 q4 q5 q6 q7 q8 q9 q10 (hk _ h).1
    · exact absurd h.1 id
  · cases hck
theorem st_d2i (C : xCtx p R s m args c own cc nL d J A)  (hp : decode cc (ps.getD pc 0) = .ok (i, len)) (hlen : xLenOk i len = true) (hck : xChk1 own ini ret ps (ps.getD pc 0) i (.d2i) = true) (hnx : ps.getD (pc + 1) 0 = ps.getD pc 0 + len ∨ xTerm (.d2i) = true) (hk : ∀ S, k S → xRd (p, l, e, R, s, m, args, below, meth, c) J A Z nL c0 s0 ps S ∧ S.2.2.2.2.2.2.1 ≤ c0 + R.cells ∧ S.2.2.2.2.2.2.2 ≤ s0 + R.slots) (h : xGo call k Q (xNext d (.d2i) pc L st M)) : xRd (p, l, e, R, s, m, args, below, meth, c) J A Z nL c0 s0 ps (pc, L, st, M) := by
  have hn := hnx.resolve_right (by simp [xTerm])
  simp only [xChk1] at hck
  split at hck
  · have hl := xLen_eq hlen rfl
    subst hl
    obtain ⟨x, r, rfl, h⟩ := xR1_inv h
    obtain ⟨hb, h⟩ := xIf_inv h
    exact o_len C (List.contains_iff_mem.mp hck) hp hn h.1.1 (xBle hb) h.1.2.1 h.1.2.2 (hk _ h.2).2.1 (hk _ h.2).2.2 (hk _ h.2).1
  · cases hck
theorem st_d2l (C : xCtx p R s m args c own cc nL d J A)  (hp : decode cc (ps.getD pc 0) = .ok (i, len)) (hlen : xLenOk i len = true) (hck : xChk1 own ini ret ps (ps.getD pc 0) i (.d2l) = true) (hnx : ps.getD (pc + 1) 0 = ps.getD pc 0 + len ∨ xTerm (.d2l) = true) (hk : ∀ S, k S → xRd (p, l, e, R, s, m, args, below, meth, c) J A Z nL c0 s0 ps S ∧ S.2.2.2.2.2.2.1 ≤ c0 + R.cells ∧ S.2.2.2.2.2.2.2 ≤ s0 + R.slots) (h : xGo call k Q (xNext d (.d2l) pc L st M)) : xRd (p, l, e, R, s, m, args, below, meth, c) J A Z nL c0 s0 ps (pc, L, st, M) := by
  have hn := hnx.resolve_right (by simp [xTerm])
  simp only [xChk1] at hck
  split at hck
  · have hl := xLen_eq hlen rfl
    subst hl
    simp only [xNext] at h
    split at h
    · obtain ⟨hb, h⟩ := xIf_inv h
      obtain ⟨⟨q1, q2, q3, q4, q5⟩, h⟩ := h
      exact o_chr C (List.contains_iff_mem.mp hck) hp hn q1 (xBle hb) q2 q3 q4 q5 (hk _ h).2.1 (hk _ h).2.2 (hk _ h).1
    · exact absurd h.1 id
  · cases hck
end XSTEP
end
section
/-! calls: what a method's contract over the machine is, out of a run of the plain machine -/
def xWj (j : Nat) : List Cond := Cond.code (xM j).1 (xM j).2.1 (xM j).2.2.1 (xM j).2.2.2.1 :: xGw
def xPre (J : xJT) (G : xG) (M : xH) (sz : Nat) (U : State) : Prop := U.heap.size = sz ∧ va_P J.1 vwCl (xWs G M) U.heap ∧ va_D (fun _ => True) (xWs G M) ∧ xKn G M U ∧ xTab J U ∧ xOld J (va_A (xWs G M) sz) U U.heap
def xPost (J : xJT) (G : xG) (M : xH) (sz : Nat) (rt : Nat) (r : Int) (M0 : xH) : Array Value → State → Outcome → State → Prop := fun _ st oc t => ∃ G' : xG, oc = .returned (if rt = 3 then none else some (xc G'.1 (rt, r))) ∧ (rt ≠ 3 → xVk M0.2.2.2.1 (rt, r)) ∧ xOk M0 ∧ va_P J.1 vwCl (xWs G' M0) t.heap ∧ va_D (va_A (xWs G M) sz) (xWs G' M0) ∧ xKn G' M0 t ∧ xGd J G' M0 ∧ (∀ b : Int, b < (M.2.2.2.1 : Int) → G'.1 b = G.1 b) ∧ va_F (va_A (xWs G M) sz) st t
def xSnd (l : Launch) (d : Nat) : Prop := ∀ (j : Nat) (as : List xV) (M M0 : xH) (r0 : Int), j < 323 → xCall d j as M (fun r H => r = r0 ∧ H = M0) → ∀ (J : xJT) (G : xG) (sz : Nat), xOk M → xGd J G M → (∀ v ∈ as, xVk M.2.2.2.1 v ∧ (v.1 = 2 → v.2 ≠ 0)) →
  Met l (xM j).1 (xWj j) (xRm (d - 1) (M0.2.2.2.1 - M.2.2.2.1) (M0.2.2.2.2 - M.2.2.2.2)) (va_Pc (as.map (xc G.1)) (xPre J G M sz)) (xPost J G M sz (xRc (xM j).2.2.2.1) r0 M0) (M0.2.2.2.1 - M.2.2.2.1) (M0.2.2.2.2 - M.2.2.2.2) (va_A (xWs G M) sz)
theorem xAOL_moved {u U : State} (hvm : u.vm.Alike U.vm) (h : xAOL u) : xAOL U := by
  sorry
theorem xTab_same {J : xJT} {u U : State} (h : U.vm = u.vm) (hT : xTab J u) : xTab J U := by
  have ha : u.vm.Alike U.vm := by rw [h]; exact Vm.Alike.refl _
  exact ⟨va_K.moved ha hT.1, fun e he => va_Nw.same rfl h.symm (hT.2.1 e he), fun e he => va_Nw.same rfl h.symm (hT.2.2.1 e he), fun e he => vk_R.same h (hT.2.2.2.1 e he), fun c hc => va_AO.moved ha (hT.2.2.2.2.1 c hc), xAOL_moved ha hT.2.2.2.2.2⟩
theorem xTab_warm {J : xJT} {s U : State} (hW : s.WarmedH U.vm) (hT : xTab J s) : xTab J U :=
  ⟨va_K.moved hW.alike hT.1, fun e he => va_Nw.warmF hW (hT.2.1 e he), fun e he => va_Nw.warmM hW (hT.2.2.1 e he), fun e he => vk_R.warm hW (hT.2.2.2.1 e he), fun c hc => va_AO.moved hW.alike (hT.2.2.2.2.1 c hc), xAOL_moved hW.alike hT.2.2.2.2.2⟩
theorem xKn_moved {G : xG} {M : xH} {u U : State} (hvm : u.vm.Alike U.vm) (h : xKn G M u) : xKn G M U := fun a a0 a1 ha => ⟨arrOfT_moved hvm (h a a0 a1 ha).1, (h a a0 a1 ha).2.moved hvm⟩
theorem xOld_same {J : xJT} {A : Nat → Prop} {u U : State} {H : Heap} (hvm : u.vm.Alike U.vm) (h : xOld J A u H) : xOld J A U H := ⟨va_X.moved hvm h.1, h.2.1, h.2.2.1, xSs_moved hvm h.2.2.2⟩
theorem xPre_blind {J : xJT} {G : xG} {M : xH} {sz : Nat} {as : List Value} : FrameBlind (va_Pc as (xPre J G M sz)) := fun a U g mk q => by
  obtain ⟨q0, q1, qP, qD, qK, qT, qO⟩ := q
  exact ⟨q0, q1, qP, qD, xKn_moved (u := U) (U := U.calling g mk a) (Vm.Alike.refl U.vm) qK, xTab_same (u := U) (U := U.calling g mk a) rfl qT, xOld_same (u := U) (U := U.calling g mk a) (Vm.Alike.refl U.vm) qO⟩
theorem xA_in {J : xJT} {s : State} {A : Nat → Prop} {G : xG} {M : xH} {H : Heap} {locs : List Loc} (hR : xRel J s A s.heap G M H locs) (hA : ∀ q : Nat, s.heap.size ≤ q → A q) : ∀ q : Nat, va_A (xWs G M) H.size q → A q := by
  intro q hq
  rcases hq with ⟨k, e, hk⟩ | hq
  · exact hR.2.2.1.2 k (q, e) hk
  · exact hA q (Nat.le_trans hR.2.2.2.1.1 hq)
/-- the callee's start, out of the caller's world -/
theorem xPre_of {J : xJT} {s : State} {A : Nat → Prop} {G : xG} {M : xH} {H : Heap} {locs : List Loc} (hT : xTab J s) (hO : xOld J A s s.heap) (hA : ∀ q : Nat, s.heap.size ≤ q → A q) (hR : xRel J s A s.heap G M H locs) {U : State} (hU : U.heap = H) (hW : s.WarmedH U.vm) : xPre J G M H.size U := by
  have hin := xA_in hR hA
  refine ⟨by rw [hU], by rw [hU]; exact hR.2.1, ⟨hR.2.2.1.1, fun _ _ _ => trivial⟩, xKn_moved hW.alike hR.2.2.2.2.1, xTab_warm hW hT, ?_⟩
  obtain ⟨h1, h2, h3, h4⟩ := hO
  have hS := hR.2.2.2.1
  rw [hU]
  refine ⟨va_X.moved hW.alike (h1.kept (hS.2.1 _ h2 h3)), Nat.lt_of_lt_of_le h2 hS.1, fun z => h3 (hin _ z), ?_⟩
  exact xSs_narrow (xSs_moved hW.alike (xSs_kept h4 (fun a ha hna => hS.2.1 a ha hna))) hin
section XCALL
variable {p : Program} {l : Launch} {e : Env} {R : Room} {s : State} {m : MethodId} {args : Array Value} {below : List Frame} {meth : Method} {c : Code}
variable {J : xJT} {A : Nat → Prop} {Z : State → Prop} {nL c0 s0 own d pc : Nat} {cc : ByteArray} {ps : List Nat} {L r : List xV} {M : xH}
theorem x_after (C : xCtx p R s m args c own cc nL d J A) {rt : Nat} {r1 : Int} {M1 : xH} {G : xG} {H : Heap} {locs : List Loc} {ls : Array Slot} {st0 : List Value} {aa : Array Value} {pcv : Nat} (hrt : rt = 0 ∨ rt = 1 ∨ rt = 2 ∨ rt = 3) (hR : xRel J s A s.heap G M H locs) (hF : xFr nL G M L r ls) (h1 : c0 ≤ M.2.2.2.1) (h2 : s0 ≤ M.2.2.2.2) (hle : xLe M M1)
    (hr : va_Run p l e R s m args below meth c H locs (M.2.2.2.1 - c0) (M.2.2.2.2 - s0) (M1.2.2.2.1 - M.2.2.2.1) (M1.2.2.2.2 - M.2.2.2.2) (F0 m pcv ls st0) (r.map (xc G.1)) (xPost J G M H.size rt r1 M1 aa) (va_A (xWs G M) H.size))
    (hn : ps.getD (pc + 1) 0 = pcv + 3)
    (k : xRd (p, l, e, R, s, m, args, below, meth, c) J A Z nL c0 s0 ps (pc + 1, L, xPush rt r1 r, M1)) : W p l e R s m args below meth c H locs (M.2.2.2.1 - c0) (M.2.2.2.2 - s0) Z (F0 m pcv ls st0) := by
  intro T hT X
  obtain ⟨v, st₀, t, T', L', h0, X', hL, e1, e2, ⟨G', hoc, hv, hok, hP, hD, hKn, hGd, hG, hFr⟩, st⟩ := hr T hT X
  have hA := C.2.2.2.2.2.2.2.1
  have hin := xA_in hR hA
  have hal : s.vm.Alike T'.vm := X'.warmed.alike
  have hF9 : H.size ≤ t.heap.size ∧ ∀ q : Nat, q < H.size → ¬ va_A (xWs G M) H.size q → t.heap[q]? = H[q]? := by
    have z : st₀.heap.size ≤ t.heap.size ∧ ∀ q : Nat, q < st₀.heap.size → ¬ va_A (xWs G M) H.size q → t.heap[q]? = st₀.heap[q]? := hFr
    rw [h0] at z
    exact z
  have hR2 : xRel J s A s.heap G' M1 T'.heap (locs ++ L') := by
    refine ⟨hok, by rw [e1]; exact hP, ⟨hD.1, fun k q hq => hin _ (hD.2 k q hq)⟩, ?_, xKn_moved (by rw [← e2]; exact hal.symm) hKn, hGd⟩
    refine ⟨Nat.le_trans hR.2.2.2.1.1 (by rw [e1]; exact hF9.1), fun q hq hnq => ?_, fun q hq => ?_⟩
    · rw [e1, hF9.2 q (Nat.lt_of_lt_of_le hq hR.2.2.2.1.1) (fun z => hnq (hin q z))]
      exact hR.2.2.2.1.2.1 q hq hnq
    · rcases List.mem_append.mp hq with z | z
      · exact hR.2.2.2.1.2.2 q z
      · exact hin _ (hL q z)
  have hF2 : xFr nL G' M1 L (xPush rt r1 r) ls := by
    have g := xFr_grow (M' := M1) hF hle.1 hG
    refine ⟨g.1, g.2.1, g.2.2.1, fun w hw => ?_⟩
    by_cases q : rt = 3
    · subst q
      exact g.2.2.2 w hw
    · have hw : w ∈ ((rt, r1) :: r : List xV) := by
        rcases hrt with rfl | rfl | rfl | rfl
        · exact hw
        · exact hw
        · exact hw
        · exact absurd rfl q
      rcases List.mem_cons.mp hw with rfl | hw
      · exact hv q
      · exact g.2.2.2 w hw
  have kk := k G' T'.heap (locs ++ L') ls hR2 hF2 (Nat.le_trans h1 hle.1) (Nat.le_trans h2 hle.2)
  have kk : W p l e R s m args below meth c T'.heap (locs ++ L') (M1.2.2.2.1 - c0) (M1.2.2.2.2 - s0) Z (F0 m (ps.getD (pc + 1) 0) ls ((xPush rt r1 r).map (xc G'.1))) := kk
  have q1 : M.2.2.2.1 - c0 + (M1.2.2.2.1 - M.2.2.2.1) = M1.2.2.2.1 - c0 := by have := hle.1; omega
  have q2 : M.2.2.2.2 - s0 + (M1.2.2.2.2 - M.2.2.2.2) = M1.2.2.2.2 - s0 := by have := hle.2; omega
  rw [q1, q2] at X'
  obtain ⟨t2, a1, b1⟩ := kk T' rfl X'
  refine ⟨t2, st t2 ?_, b1⟩
  have hmap : r.map (xc G'.1) = r.map (xc G.1) := xMap_ext hG hF.2.2.2
  have hst : v.toList ++ r.map (xc G.1) = (xPush rt r1 r).map (xc G'.1) := by
    have hv2 : v = if rt = 3 then none else some (xc G'.1 (rt, r1)) := by cases hoc; rfl
    rw [hv2, ← hmap]
    rcases hrt with rfl | rfl | rfl | rfl <;> rfl
  rw [hn] at a1
  show Steps p.tables e below (T'.setTop (F0 m (pcv + 3) ls (v.toList ++ r.map (xc G.1)))) t2
  rw [hst]
  exact a1
theorem xMnc {j : Nat} (hj : j < 323) : xM j ∈ xMt := by
  have h : j < xMt.length := by rw [xMt_len]; exact hj
  unfold xM
  rw [List.getD_eq_getElem?_getD, List.getElem?_eq_getElem h]
  exact List.getElem_mem h
theorem xMp {j : Nat} (hj : j < 323) : plainName (xM j).1.cls = true ∧ ((xM j).1.cls ≠ "java/lang/invoke/MethodHandle" ∧ (xM j).1.cls ≠ "java/lang/invoke/VarHandle") ∧ (parseMethodDescriptor (xM j).1.desc).map (fun d => d.parameters.length) = some (if (xM j).2.2.2.2.1 then (xM j).2.2.2.2.2 else (xM j).2.2.2.2.2 - 1) ∧ (xM j).2.2.1 ≤ 22 := by
  have h := List.all_eq_true.mp xM_plain _ (xMnc hj)
  simp only [xMplain, Bool.and_eq_true, bne_iff_ne, ne_eq, beq_iff_eq] at h
  exact ⟨h.1.1.1.1, ⟨h.1.1.1.2, h.1.1.2⟩, h.1.2, Nat.le_of_ble_eq_true h.2⟩
theorem xWj_gw {j : Nat} (hj : j < 323) : GoodIn xGw (xWj j) := by
  intro w hw
  have hx : w ∈ xGw := by
    rcases List.mem_cons.mp hw with rfl | h
    · exact xGw_of (xM_code _ (xMnc hj)) rfl
    · exact h
  exact ⟨hx, good_of_word (List.mem_filter.mp hx).2⟩
theorem xParm {j : Nat} (hj : j < 323) {n : Nat} (hn : (if (xM j).2.2.2.2.1 then (xM j).2.2.2.2.2 else (xM j).2.2.2.2.2 - 1) = n) : ∀ sig, parseMethodDescriptor (xM j).1.desc = some sig → n = sig.parameters.length := by
  intro sig h
  have q := (xMp hj).2.2.1
  rw [h, hn] at q
  exact (Option.some.inj q).symm
theorem xRc_4 (r : Option FieldType) : xRc r = 0 ∨ xRc r = 1 ∨ xRc r = 2 ∨ xRc r = 3 := by
  unfold xRc
  split <;> simp
/-- what every call's row wants of the room and the words -/
theorem xCallB {rm1 rm2 : Nat} (C : xCtx p R s m args c own cc nL (d + 1) J A) {j : Nat} (hj : j < 323) : (xRm d rm1 rm2).cells = rm1 ∧ (xRm d rm1 rm2).slots = rm2 ∧ (xRm d rm1 rm2).frames + 1 ≤ R.frames ∧ 8 + ((xM j).2.2.1 + 11) + (xRm d rm1 rm2).locals ≤ R.locals ∧ (∀ w ∈ xWj j, ∀ (a' : Array Value) (U : State), s.WarmedH U.vm → w.before a' U = true) ∧ Cond.code (xM j).1 (xM j).2.1 (xM j).2.2.1 (xM j).2.2.2.1 ∈ xWj j := by
  have h1 := C.2.2.2.2.2.2.2.2.1
  have h2 := C.2.2.2.2.2.2.2.2.2
  have h3 := (xMp hj).2.2.2
  refine ⟨rfl, rfl, h1, ?_, pay_in C.2.2.2.2.1 (xWj_gw hj), List.mem_cons_self⟩
  show 8 + ((xM j).2.2.1 + 11) + 41 * d ≤ R.locals
  omega
end XCALL
end
section
section XCALS
variable {p : Program} {l : Launch} {e : Env} {R : Room} {s : State} {m : MethodId} {args : Array Value} {below : List Frame} {meth : Method} {c : Code}
variable {J : xJT} {A : Nat → Prop} {Z : State → Prop} {nL c0 s0 own d pc : Nat} {cc : ByteArray} {ps : List Nat} {L r : List xV} {M : xH}
theorem xW_init {j : Nat} (hj : j < 323) : Cond.initialized (xM j).1.cls ∈ xGw := xGw_of (xM_init _ (List.mem_filter.mpr ⟨xMnc hj, rfl⟩)) rfl
theorem xW_stat {j : Nat} (hj : j < 323) (h : (xM j).2.2.2.2.1 = true) : Cond.static (xM j).1 ∈ xGw := xGw_of (xM_stat _ (List.mem_filter.mpr ⟨xMnc hj, h⟩)) rfl
theorem xW_inst {j : Nat} (hj : j < 323) (h : (xM j).2.2.2.2.1 = false) : Cond.instanceMethod (xM j).1 ∈ xGw := xGw_of (xM_inst _ (List.mem_filter.mpr ⟨xMnc hj, by rw [h]; rfl⟩)) rfl
theorem xW_code {j : Nat} (hj : j < 323) : Cond.code (xM j).1 (xM j).2.1 (xM j).2.2.1 (xM j).2.2.2.1 ∈ xGw := xGw_of (xM_code _ (xMnc hj)) rfl
theorem xW_sel {j : Nat} (h : j ∈ xVpub ∨ j ∈ xVpri) : Cond.selects (xM j).1.cls (xM j).1 (xM j).1 ∈ xGw := List.mem_filter.mpr ⟨h.elim (xV_pub j) (xV_pri j), rfl⟩
theorem xFr_drop {G : xG} {ls : Array Slot} {as : List xV} {st : List xV} (h : xFr nL G M L (as ++ st) ls) : xFr nL G M L st ls := ⟨h.1, h.2.1, h.2.2.1, fun w hw => h.2.2.2 w (List.mem_append_right _ hw)⟩
theorem o_cS (C : xCtx p R s m args c own cc nL (d + 1) J A) (hS : xSnd l (d + 1)) {i j : Nat} (hd : decode cc (ps.getD pc 0) = .ok (.invokestatic i, 3)) (hn : ps.getD (pc + 1) 0 = ps.getD pc 0 + 3) (hj : j < 323) (hl : (own, i, j) ∈ xMl) {as : List xV} {a r1 : Int} {M1 : xH} (hst : (xM j).2.2.2.2.1 = true) (has : as.length = (xM j).2.2.2.2.2) (hnz : ∀ v ∈ as, v.1 = 2 → v.2 ≠ 0) (hr8 : xCat r ≤ 8) (hcall : xCall (d + 1) j as M (fun r H => r = r1 ∧ H = M1)) (hle : xLe M M1) (hcl : M1.2.2.2.1 ≤ c0 + R.cells) (hsl : M1.2.2.2.2 ≤ s0 + R.slots) (k : xRd (p, l, e, R, s, m, args, below, meth, c) J A Z nL c0 s0 ps (pc + 1, L, xPush (xRc (xM j).2.2.2.1) r1 r, M1)) : xRd (p, l, e, R, s, m, args, below, meth, c) J A Z nL c0 s0 ps (pc, L, as.reverse ++ r, M) := by
  intro G H locs ls hR hF h1 h2
  replace hR : xRel J s A s.heap G M H locs := hR
  replace h1 : c0 ≤ M.2.2.2.1 := h1
  replace h2 : s0 ≤ M.2.2.2.2 := h2
  have hFa : xFr nL G M L (as.reverse ++ r) ls := hF
  have hF2 : xFr nL G M L r ls := xFr_drop hFa
  have hT := C.2.2.2.2.2.1
  have hA := C.2.2.2.2.2.2.2.1
  have hva : ∀ v ∈ as, xVk M.2.2.2.1 v ∧ (v.1 = 2 → v.2 ≠ 0) := fun v hv => ⟨hFa.2.2.2 v (List.mem_append_left _ (List.mem_reverse.mpr hv)), hnz v hv⟩
  have hM := hS j as M M1 r1 hj hcall J G H.size hR.1 hR.2.2.2.2.2 hva
  have hCB := xCallB (rm1 := M1.2.2.2.1 - M.2.2.2.1) (rm2 := M1.2.2.2.2 - M.2.2.2.2) C hj
  have hco := C.2.2.2.2.1 _ (xW_code hj)
  have hini := C.2.2.2.2.1 _ (xW_init hj)
  have hcs : (M.2.2.2.1 - c0) + (M1.2.2.2.1 - M.2.2.2.1) ≤ R.cells ∧ (M.2.2.2.2 - s0) + (M1.2.2.2.2 - M.2.2.2.2) ≤ R.slots := by have := hle.1; have := hle.2; omega
  have hstk : (as.reverse ++ r).map (xc G.1) = (as.map (xc G.1)).reverse ++ r.map (xc G.1) := by
    rw [List.map_append, List.map_reverse]
  show W p l e R s m args below meth c H locs (M.2.2.2.1 - c0) (M.2.2.2.2 - s0) Z (F0 m (ps.getD pc 0) ls ((as.reverse ++ r).map (xc G.1)))
  rw [hstk]
  exact x_after C (xRc_4 _) hR hF2 h1 h2 hle (va_runS (n := as.length) (As := as.map (xc G.1)) (rest := r.map (xc G.1)) ⟨C.1, C.2.1, C.2.2.1, C.2.2.2.1, C.2.2.2.2.1⟩ hM ⟨⟨hCB.1, hCB.2.1, hCB.2.2.1, hCB.2.2.2.1, hCB.2.2.2.2.1, hCB.2.2.2.2.2, hco, hini, (xMp hj).2.1, (xParm hj (by rw [if_pos hst]; exact has.symm)), C.2.2.2.2.1 _ (xGw_of (xMl_ok _ hl) rfl)⟩, C.2.2.2.2.1 _ (xW_stat hj hst)⟩ ⟨xPre_blind, fun U hU hW => ⟨rfl, xPre_of hT C.2.2.2.2.2.2.1 hA hR hU hW⟩⟩ rfl (List.length_map _) hF.1.1 rfl (xRoom8 hF2 hr8) hd hcs) hn k
theorem o_cSn (C : xCtx p R s m args c own cc nL (d + 1) J A) (hS : xSnd l (d + 1)) {i j : Nat} (hd : decode cc (ps.getD pc 0) = .ok (.invokestatic i, 3)) (hn : ps.getD (pc + 1) 0 = ps.getD pc 0 + 3) (hj : j < 323) (hl : (own, i, j) ∈ xMn) {as : List xV} {a r1 : Int} {M1 : xH} (hst : (xM j).2.2.2.2.1 = true) (has : as.length = (xM j).2.2.2.2.2) (hnz : ∀ v ∈ as, v.1 = 2 → v.2 ≠ 0) (hr8 : xCat r ≤ 8) (hcall : xCall (d + 1) j as M (fun r H => r = r1 ∧ H = M1)) (hle : xLe M M1) (hcl : M1.2.2.2.1 ≤ c0 + R.cells) (hsl : M1.2.2.2.2 ≤ s0 + R.slots) (k : xRd (p, l, e, R, s, m, args, below, meth, c) J A Z nL c0 s0 ps (pc + 1, L, xPush (xRc (xM j).2.2.2.1) r1 r, M1)) : xRd (p, l, e, R, s, m, args, below, meth, c) J A Z nL c0 s0 ps (pc, L, as.reverse ++ r, M) := by
  intro G H locs ls hR hF h1 h2
  replace hR : xRel J s A s.heap G M H locs := hR
  replace h1 : c0 ≤ M.2.2.2.1 := h1
  replace h2 : s0 ≤ M.2.2.2.2 := h2
  have hFa : xFr nL G M L (as.reverse ++ r) ls := hF
  have hF2 : xFr nL G M L r ls := xFr_drop hFa
  have hT := C.2.2.2.2.2.1
  have hA := C.2.2.2.2.2.2.2.1
  have hva : ∀ v ∈ as, xVk M.2.2.2.1 v ∧ (v.1 = 2 → v.2 ≠ 0) := fun v hv => ⟨hFa.2.2.2 v (List.mem_append_left _ (List.mem_reverse.mpr hv)), hnz v hv⟩
  have hM := hS j as M M1 r1 hj hcall J G H.size hR.1 hR.2.2.2.2.2 hva
  have hCB := xCallB (rm1 := M1.2.2.2.1 - M.2.2.2.1) (rm2 := M1.2.2.2.2 - M.2.2.2.2) C hj
  have hco := C.2.2.2.2.1 _ (xW_code hj)
  have hini := C.2.2.2.2.1 _ (xW_init hj)
  have hcs : (M.2.2.2.1 - c0) + (M1.2.2.2.1 - M.2.2.2.1) ≤ R.cells ∧ (M.2.2.2.2 - s0) + (M1.2.2.2.2 - M.2.2.2.2) ≤ R.slots := by have := hle.1; have := hle.2; omega
  have hstk : (as.reverse ++ r).map (xc G.1) = (as.map (xc G.1)).reverse ++ r.map (xc G.1) := by
    rw [List.map_append, List.map_reverse]
  show W p l e R s m args below meth c H locs (M.2.2.2.1 - c0) (M.2.2.2.2 - s0) Z (F0 m (ps.getD pc 0) ls ((as.reverse ++ r).map (xc G.1)))
  rw [hstk]
  exact x_after C (xRc_4 _) hR hF2 h1 h2 hle (va_runSN (n := as.length) (As := as.map (xc G.1)) (rest := r.map (xc G.1)) ⟨C.1, C.2.1, C.2.2.1, C.2.2.2.1, C.2.2.2.2.1⟩ hM ⟨⟨hCB, hco, hini, (xMp hj).2.1, (xParm hj (by rw [if_pos hst]; exact has.symm)), va_Nw.use rfl (hT.2.2.1 _ hl)⟩, C.2.2.2.2.1 _ (xW_stat hj hst), trivial⟩ ⟨xPre_blind, fun U hU hW => ⟨rfl, xPre_of hT C.2.2.2.2.2.2.1 hA hR hU hW⟩⟩ rfl (List.length_map _) hF.1.1 rfl (xRoom8 hF2 hr8) hd hcs) hn k
theorem o_cV (C : xCtx p R s m args c own cc nL (d + 1) J A) (hS : xSnd l (d + 1)) {i j : Nat} (hd : decode cc (ps.getD pc 0) = .ok (.invokevirtual i, 3)) (hn : ps.getD (pc + 1) 0 = ps.getD pc 0 + 3) (hj : j < 323) (hl : (own, i, j) ∈ xMl) {as : List xV} {a r1 : Int} {M1 : xH} (hst : (xM j).2.2.2.2.1 = false) (has : as.length + 1 = (xM j).2.2.2.2.2) (ha0 : 0 < a) (hnz : ∀ v ∈ as, v.1 = 2 → v.2 ≠ 0) {ci : Nat} (hci : ci < 13) (hcc : (xCl ci).1 = (xM j).1.cls) (hka : M.2.1 a = (ci : Int)) (hv : j ∈ xVpub ∨ j ∈ xVpri) (hr8 : xCat r ≤ 8) (hcall : xCall (d + 1) j ((2, a) :: as) M (fun r H => r = r1 ∧ H = M1)) (hle : xLe M M1) (hcl : M1.2.2.2.1 ≤ c0 + R.cells) (hsl : M1.2.2.2.2 ≤ s0 + R.slots) (k : xRd (p, l, e, R, s, m, args, below, meth, c) J A Z nL c0 s0 ps (pc + 1, L, xPush (xRc (xM j).2.2.2.1) r1 r, M1)) : xRd (p, l, e, R, s, m, args, below, meth, c) J A Z nL c0 s0 ps (pc, L, as.reverse ++ (2, a) :: r, M) := by
  intro G H locs ls hR hF h1 h2
  replace hR : xRel J s A s.heap G M H locs := hR
  replace h1 : c0 ≤ M.2.2.2.1 := h1
  replace h2 : s0 ≤ M.2.2.2.2 := h2
  have hFa : xFr nL G M L (as.reverse ++ (2, a) :: r) ls := hF
  have hF2 : xFr nL G M L r ls := xFr_tail (xFr_drop hFa)
  have hT := C.2.2.2.2.2.1
  have hA := C.2.2.2.2.2.2.2.1
  have hva : ∀ v ∈ ((2, a) :: as : List xV), xVk M.2.2.2.1 v ∧ (v.1 = 2 → v.2 ≠ 0) := fun v hv => by
    rcases List.mem_cons.mp hv with rfl | hv
    · exact ⟨hFa.2.2.2 _ (List.mem_append_right _ List.mem_cons_self), fun _ => by show a ≠ 0; omega⟩
    · exact ⟨hFa.2.2.2 v (List.mem_append_left _ (List.mem_reverse.mpr hv)), hnz v hv⟩
  have hM := hS j ((2, a) :: as) M M1 r1 hj hcall J G H.size hR.1 hR.2.2.2.2.2 hva
  have hCB := xCallB (rm1 := M1.2.2.2.1 - M.2.2.2.1) (rm2 := M1.2.2.2.2 - M.2.2.2.2) C hj
  have hco := C.2.2.2.2.1 _ (xW_code hj)
  have hini := C.2.2.2.2.1 _ (xW_init hj)
  have hcs : (M.2.2.2.1 - c0) + (M1.2.2.2.1 - M.2.2.2.1) ≤ R.cells ∧ (M.2.2.2.2 - s0) + (M1.2.2.2.2 - M.2.2.2.2) ≤ R.slots := by have := hle.1; have := hle.2; omega
  have hE : (xWs G M)[(a - 1).toNat]? = some (G.1 a, .inr (ci, xFs G.1 ci (M.1 a))) := by
    rw [xWs_get (xOk_obj hR.1 hka hci).1 (xOk_obj hR.1 hka hci).2, xE_obj hka hci]
  have hargs : ((2, a) :: as : List xV).map (xc G.1) = Value.ref (G.1 a) :: as.map (xc G.1) := by
    rw [List.map_cons, xc_ref (show a ≠ 0 by omega)]
  rw [hargs] at hM
  have hstk : (as.reverse ++ (2, a) :: r).map (xc G.1) = (as.map (xc G.1)).reverse ++ Value.ref (G.1 a) :: r.map (xc G.1) := by
    rw [List.map_append, List.map_cons, List.map_reverse, xc_ref (show a ≠ 0 by omega)]
  show W p l e R s m args below meth c H locs (M.2.2.2.1 - c0) (M.2.2.2.2 - s0) Z (F0 m (ps.getD pc 0) ls ((as.reverse ++ (2, a) :: r).map (xc G.1)))
  rw [hstk]
  exact x_after C (xRc_4 _) hR hF2 h1 h2 hle (va_runV (C := (xCl ci).1) (n := as.length) (As := as.map (xc G.1)) (rest := r.map (xc G.1)) ⟨C.1, C.2.1, C.2.2.1, C.2.2.2.1, C.2.2.2.2.1⟩ hM ⟨⟨hCB.1, hCB.2.1, hCB.2.2.1, hCB.2.2.2.1, hCB.2.2.2.2.1, hCB.2.2.2.2.2, hco, hini, (xMp hj).2.1, (xParm hj (by rw [if_neg (by rw [hst]; decide)]; omega)), C.2.2.2.2.1 _ (xGw_of (xMl_ok _ hl) rfl)⟩, C.2.2.2.2.1 _ (xW_inst hj hst), by rw [hcc]; exact C.2.2.2.2.1 _ (xW_sel hv)⟩ ⟨xPre_blind, va_recv hT.1 hR.2.1 (xCl_get ci hci) hE, fun U hU hW => ⟨rfl, xPre_of hT C.2.2.2.2.2.2.1 hA hR hU hW⟩⟩ rfl (List.length_map _) hF.1.1 rfl (xRoom8 hF2 hr8) hd hcs) hn k
theorem o_cVn (C : xCtx p R s m args c own cc nL (d + 1) J A) (hS : xSnd l (d + 1)) {i j : Nat} (hd : decode cc (ps.getD pc 0) = .ok (.invokevirtual i, 3)) (hn : ps.getD (pc + 1) 0 = ps.getD pc 0 + 3) (hj : j < 323) (hl : (own, i, j) ∈ xMn) {as : List xV} {a r1 : Int} {M1 : xH} (hst : (xM j).2.2.2.2.1 = false) (has : as.length + 1 = (xM j).2.2.2.2.2) (ha0 : 0 < a) (hnz : ∀ v ∈ as, v.1 = 2 → v.2 ≠ 0) {ci : Nat} (hci : ci < 13) (hcc : (xCl ci).1 = (xM j).1.cls) (hka : M.2.1 a = (ci : Int)) (hv : j ∈ xVpub ∨ j ∈ xVpri) (hr8 : xCat r ≤ 8) (hcall : xCall (d + 1) j ((2, a) :: as) M (fun r H => r = r1 ∧ H = M1)) (hle : xLe M M1) (hcl : M1.2.2.2.1 ≤ c0 + R.cells) (hsl : M1.2.2.2.2 ≤ s0 + R.slots) (k : xRd (p, l, e, R, s, m, args, below, meth, c) J A Z nL c0 s0 ps (pc + 1, L, xPush (xRc (xM j).2.2.2.1) r1 r, M1)) : xRd (p, l, e, R, s, m, args, below, meth, c) J A Z nL c0 s0 ps (pc, L, as.reverse ++ (2, a) :: r, M) := by
  intro G H locs ls hR hF h1 h2
  replace hR : xRel J s A s.heap G M H locs := hR
  replace h1 : c0 ≤ M.2.2.2.1 := h1
  replace h2 : s0 ≤ M.2.2.2.2 := h2
  have hFa : xFr nL G M L (as.reverse ++ (2, a) :: r) ls := hF
  have hF2 : xFr nL G M L r ls := xFr_tail (xFr_drop hFa)
  have hT := C.2.2.2.2.2.1
  have hA := C.2.2.2.2.2.2.2.1
  have hva : ∀ v ∈ ((2, a) :: as : List xV), xVk M.2.2.2.1 v ∧ (v.1 = 2 → v.2 ≠ 0) := fun v hv => by
    rcases List.mem_cons.mp hv with rfl | hv
    · exact ⟨hFa.2.2.2 _ (List.mem_append_right _ List.mem_cons_self), fun _ => by show a ≠ 0; omega⟩
    · exact ⟨hFa.2.2.2 v (List.mem_append_left _ (List.mem_reverse.mpr hv)), hnz v hv⟩
  have hM := hS j ((2, a) :: as) M M1 r1 hj hcall J G H.size hR.1 hR.2.2.2.2.2 hva
  have hCB := xCallB (rm1 := M1.2.2.2.1 - M.2.2.2.1) (rm2 := M1.2.2.2.2 - M.2.2.2.2) C hj
  have hco := C.2.2.2.2.1 _ (xW_code hj)
  have hini := C.2.2.2.2.1 _ (xW_init hj)
  have hcs : (M.2.2.2.1 - c0) + (M1.2.2.2.1 - M.2.2.2.1) ≤ R.cells ∧ (M.2.2.2.2 - s0) + (M1.2.2.2.2 - M.2.2.2.2) ≤ R.slots := by have := hle.1; have := hle.2; omega
  have hE : (xWs G M)[(a - 1).toNat]? = some (G.1 a, .inr (ci, xFs G.1 ci (M.1 a))) := by
    rw [xWs_get (xOk_obj hR.1 hka hci).1 (xOk_obj hR.1 hka hci).2, xE_obj hka hci]
  have hargs : ((2, a) :: as : List xV).map (xc G.1) = Value.ref (G.1 a) :: as.map (xc G.1) := by
    rw [List.map_cons, xc_ref (show a ≠ 0 by omega)]
  rw [hargs] at hM
  have hstk : (as.reverse ++ (2, a) :: r).map (xc G.1) = (as.map (xc G.1)).reverse ++ Value.ref (G.1 a) :: r.map (xc G.1) := by
    rw [List.map_append, List.map_cons, List.map_reverse, xc_ref (show a ≠ 0 by omega)]
  show W p l e R s m args below meth c H locs (M.2.2.2.1 - c0) (M.2.2.2.2 - s0) Z (F0 m (ps.getD pc 0) ls ((as.reverse ++ (2, a) :: r).map (xc G.1)))
  rw [hstk]
  exact x_after C (xRc_4 _) hR hF2 h1 h2 hle (va_runVN (C := (xCl ci).1) (n := as.length) (As := as.map (xc G.1)) (rest := r.map (xc G.1)) ⟨C.1, C.2.1, C.2.2.1, C.2.2.2.1, C.2.2.2.2.1⟩ hM ⟨⟨hCB, hco, hini, (xMp hj).2.1, (xParm hj (by rw [if_neg (by rw [hst]; decide)]; omega)), va_Nw.use rfl (hT.2.2.1 _ hl)⟩, C.2.2.2.2.1 _ (xW_inst hj hst), by rw [hcc]; exact C.2.2.2.2.1 _ (xW_sel hv)⟩ ⟨xPre_blind, va_recv hT.1 hR.2.1 (xCl_get ci hci) hE, fun U hU hW => ⟨rfl, xPre_of hT C.2.2.2.2.2.2.1 hA hR hU hW⟩⟩ rfl (List.length_map _) hF.1.1 rfl (xRoom8 hF2 hr8) hd hcs) hn k
theorem o_cI (C : xCtx p R s m args c own cc nL (d + 1) J A) (hS : xSnd l (d + 1)) {i j : Nat} (hd : decode cc (ps.getD pc 0) = .ok (.invokespecial i, 3)) (hn : ps.getD (pc + 1) 0 = ps.getD pc 0 + 3) (hj : j < 323) (hl : (own, i, j) ∈ xMl) {as : List xV} {a r1 : Int} {M1 : xH} (hst : (xM j).2.2.2.2.1 = false) (has : as.length + 1 = (xM j).2.2.2.2.2) (ha0 : 0 < a) (hnz : ∀ v ∈ as, v.1 = 2 → v.2 ≠ 0) (hni : (xM j).1.name = "<init>") (hret : (xM j).2.2.2.1 = none) (hr8 : xCat r ≤ 8) (hcall : xCall (d + 1) j ((2, a) :: as) M (fun r H => r = r1 ∧ H = M1)) (hle : xLe M M1) (hcl : M1.2.2.2.1 ≤ c0 + R.cells) (hsl : M1.2.2.2.2 ≤ s0 + R.slots) (k : xRd (p, l, e, R, s, m, args, below, meth, c) J A Z nL c0 s0 ps (pc + 1, L, xPush (xRc (xM j).2.2.2.1) r1 r, M1)) : xRd (p, l, e, R, s, m, args, below, meth, c) J A Z nL c0 s0 ps (pc, L, as.reverse ++ (2, a) :: r, M) := by
  intro G H locs ls hR hF h1 h2
  replace hR : xRel J s A s.heap G M H locs := hR
  replace h1 : c0 ≤ M.2.2.2.1 := h1
  replace h2 : s0 ≤ M.2.2.2.2 := h2
  have hFa : xFr nL G M L (as.reverse ++ (2, a) :: r) ls := hF
  have hF2 : xFr nL G M L r ls := xFr_tail (xFr_drop hFa)
  have hT := C.2.2.2.2.2.1
  have hA := C.2.2.2.2.2.2.2.1
  have hva : ∀ v ∈ ((2, a) :: as : List xV), xVk M.2.2.2.1 v ∧ (v.1 = 2 → v.2 ≠ 0) := fun v hv => by
    rcases List.mem_cons.mp hv with rfl | hv
    · exact ⟨hFa.2.2.2 _ (List.mem_append_right _ List.mem_cons_self), fun _ => by show a ≠ 0; omega⟩
    · exact ⟨hFa.2.2.2 v (List.mem_append_left _ (List.mem_reverse.mpr hv)), hnz v hv⟩
  have hM := hS j ((2, a) :: as) M M1 r1 hj hcall J G H.size hR.1 hR.2.2.2.2.2 hva
  have hCB := xCallB (rm1 := M1.2.2.2.1 - M.2.2.2.1) (rm2 := M1.2.2.2.2 - M.2.2.2.2) C hj
  have hco := C.2.2.2.2.1 _ (xW_code hj)
  rw [hret] at hCB hco
  have hini := C.2.2.2.2.1 _ (xW_init hj)
  have hcs : (M.2.2.2.1 - c0) + (M1.2.2.2.1 - M.2.2.2.1) ≤ R.cells ∧ (M.2.2.2.2 - s0) + (M1.2.2.2.2 - M.2.2.2.2) ≤ R.slots := by have := hle.1; have := hle.2; omega
  have hargs : ((2, a) :: as : List xV).map (xc G.1) = Value.ref (G.1 a) :: as.map (xc G.1) := by
    rw [List.map_cons, xc_ref (show a ≠ 0 by omega)]
  rw [hargs] at hM
  have hstk : (as.reverse ++ (2, a) :: r).map (xc G.1) = (as.map (xc G.1)).reverse ++ Value.ref (G.1 a) :: r.map (xc G.1) := by
    rw [List.map_append, List.map_cons, List.map_reverse, xc_ref (show a ≠ 0 by omega)]
  show W p l e R s m args below meth c H locs (M.2.2.2.1 - c0) (M.2.2.2.2 - s0) Z (F0 m (ps.getD pc 0) ls ((as.reverse ++ (2, a) :: r).map (xc G.1)))
  rw [hstk]
  exact x_after C (xRc_4 _) hR hF2 h1 h2 hle (va_runI (n := as.length) (As := as.map (xc G.1)) (rest := r.map (xc G.1)) ⟨C.1, C.2.1, C.2.2.1, C.2.2.2.1, C.2.2.2.2.1⟩ hM ⟨⟨hCB.1, hCB.2.1, hCB.2.2.1, hCB.2.2.2.1, hCB.2.2.2.2.1, hCB.2.2.2.2.2, hco, hini, (xMp hj).2.1, (xParm hj (by rw [if_neg (by rw [hst]; decide)]; omega)), C.2.2.2.2.1 _ (xGw_of (xMl_ok _ hl) rfl)⟩, hni, C.2.2.2.2.1 _ (xW_inst hj hst)⟩ ⟨xPre_blind, fun U hU hW => ⟨rfl, xPre_of hT C.2.2.2.2.2.2.1 hA hR hU hW⟩⟩ rfl (List.length_map _) hF.1.1 rfl (xRoom8 hF2 hr8) hd hcs) hn k
theorem o_cIn (C : xCtx p R s m args c own cc nL (d + 1) J A) (hS : xSnd l (d + 1)) {i j : Nat} (hd : decode cc (ps.getD pc 0) = .ok (.invokespecial i, 3)) (hn : ps.getD (pc + 1) 0 = ps.getD pc 0 + 3) (hj : j < 323) (hl : (own, i, j) ∈ xMn) {as : List xV} {a r1 : Int} {M1 : xH} (hst : (xM j).2.2.2.2.1 = false) (has : as.length + 1 = (xM j).2.2.2.2.2) (ha0 : 0 < a) (hnz : ∀ v ∈ as, v.1 = 2 → v.2 ≠ 0) (hni : (xM j).1.name = "<init>") (hret : (xM j).2.2.2.1 = none) (hr8 : xCat r ≤ 8) (hcall : xCall (d + 1) j ((2, a) :: as) M (fun r H => r = r1 ∧ H = M1)) (hle : xLe M M1) (hcl : M1.2.2.2.1 ≤ c0 + R.cells) (hsl : M1.2.2.2.2 ≤ s0 + R.slots) (k : xRd (p, l, e, R, s, m, args, below, meth, c) J A Z nL c0 s0 ps (pc + 1, L, xPush (xRc (xM j).2.2.2.1) r1 r, M1)) : xRd (p, l, e, R, s, m, args, below, meth, c) J A Z nL c0 s0 ps (pc, L, as.reverse ++ (2, a) :: r, M) := by
  intro G H locs ls hR hF h1 h2
  replace hR : xRel J s A s.heap G M H locs := hR
  replace h1 : c0 ≤ M.2.2.2.1 := h1
  replace h2 : s0 ≤ M.2.2.2.2 := h2
  have hFa : xFr nL G M L (as.reverse ++ (2, a) :: r) ls := hF
  have hF2 : xFr nL G M L r ls := xFr_tail (xFr_drop hFa)
  have hT := C.2.2.2.2.2.1
  have hA := C.2.2.2.2.2.2.2.1
  have hva : ∀ v ∈ ((2, a) :: as : List xV), xVk M.2.2.2.1 v ∧ (v.1 = 2 → v.2 ≠ 0) := fun v hv => by
    rcases List.mem_cons.mp hv with rfl | hv
    · exact ⟨hFa.2.2.2 _ (List.mem_append_right _ List.mem_cons_self), fun _ => by show a ≠ 0; omega⟩
    · exact ⟨hFa.2.2.2 v (List.mem_append_left _ (List.mem_reverse.mpr hv)), hnz v hv⟩
  have hM := hS j ((2, a) :: as) M M1 r1 hj hcall J G H.size hR.1 hR.2.2.2.2.2 hva
  have hCB := xCallB (rm1 := M1.2.2.2.1 - M.2.2.2.1) (rm2 := M1.2.2.2.2 - M.2.2.2.2) C hj
  have hco := C.2.2.2.2.1 _ (xW_code hj)
  rw [hret] at hCB hco
  have hini := C.2.2.2.2.1 _ (xW_init hj)
  have hcs : (M.2.2.2.1 - c0) + (M1.2.2.2.1 - M.2.2.2.1) ≤ R.cells ∧ (M.2.2.2.2 - s0) + (M1.2.2.2.2 - M.2.2.2.2) ≤ R.slots := by have := hle.1; have := hle.2; omega
  have hargs : ((2, a) :: as : List xV).map (xc G.1) = Value.ref (G.1 a) :: as.map (xc G.1) := by
    rw [List.map_cons, xc_ref (show a ≠ 0 by omega)]
  rw [hargs] at hM
  have hstk : (as.reverse ++ (2, a) :: r).map (xc G.1) = (as.map (xc G.1)).reverse ++ Value.ref (G.1 a) :: r.map (xc G.1) := by
    rw [List.map_append, List.map_cons, List.map_reverse, xc_ref (show a ≠ 0 by omega)]
  show W p l e R s m args below meth c H locs (M.2.2.2.1 - c0) (M.2.2.2.2 - s0) Z (F0 m (ps.getD pc 0) ls ((as.reverse ++ (2, a) :: r).map (xc G.1)))
  rw [hstk]
  exact x_after C (xRc_4 _) hR hF2 h1 h2 hle (va_runIN (n := as.length) (As := as.map (xc G.1)) (rest := r.map (xc G.1)) ⟨C.1, C.2.1, C.2.2.1, C.2.2.2.1, C.2.2.2.2.1⟩ hM ⟨⟨hCB, hco, hini, (xMp hj).2.1, (xParm hj (by rw [if_neg (by rw [hst]; decide)]; omega)), va_Nw.use rfl (hT.2.2.1 _ hl)⟩, hni, C.2.2.2.2.1 _ (xW_inst hj hst)⟩ ⟨xPre_blind, fun U hU hW => ⟨rfl, xPre_of hT C.2.2.2.2.2.2.1 hA hR hU hW⟩⟩ rfl (List.length_map _) hF.1.1 rfl (xRoom8 hF2 hr8) hd hcs) hn k
end XCALS
end
section
/-! the main induction: a run of the plain machine is a run of the machine -/
def xJw (J : xJT) (G : xG) (M : xH) : xJT := (J.1, J.2.1, J.2.2.1, J.2.2.2.1, J.2.2.2.2.1, J.2.2.2.2.2.1, G.1, (M.2.2.2.1 : Int))
def xPts (own : Nat) (ini : Bool) (ret : Option FieldType) (bytes : ByteArray) (cd : List Instr) (ps : List Nat) : Prop := ∀ (pc : Nat) (a : Instr), cd[pc]? = some a → ∃ (i : Instr) (len : Nat), decode bytes (ps.getD pc 0) = .ok (i, len) ∧ xLenOk i len = true ∧ xChk1 own ini ret ps (ps.getD pc 0) i a = true ∧ (ps.getD (pc + 1) 0 = ps.getD pc 0 + len ∨ xTerm a = true)
theorem xChkP_at {own : Nat} {ini : Bool} {ret : Option FieldType} {bytes : ByteArray} {ps : List Nat} : ∀ {l : List (Instr × Nat)} {nx : List Nat}, xChkP own ini ret bytes ps l nx = true → ∀ (k : Nat) (a : Instr) (pc : Nat), l[k]? = some (a, pc) → ∃ (i : Instr) (len : Nat), decode bytes pc = .ok (i, len) ∧ xLenOk i len = true ∧ xChk1 own ini ret ps pc i a = true ∧ ((∃ q, nx[k]? = some q ∧ q = pc + len) ∨ (nx[k]? = none ∧ xTerm a = true))
  | [], _, _, k, a, pc, hk => by simp at hk
  | (b, q) :: r, nx, h, k, a, pc, hk => by
    unfold xChkP at h
    rw [Bool.and_eq_true] at h
    obtain ⟨h1, h2⟩ := h
    match k, hk with
    | 0, hk =>
      have e : (b, q) = (a, pc) := by simpa using hk
      cases e
      split at h1
      · rename_i i len hd
        simp only [Bool.and_eq_true] at h1
        obtain ⟨q1, q2, q3⟩ := h1
        refine ⟨i, len, hd, q1, q2, ?_⟩
        match nx, q3 with
        | [], q3 => exact Or.inr ⟨rfl, q3⟩
        | z :: zs, q3 => exact Or.inl ⟨z, rfl, eq_of_beq q3⟩
      · cases h1
    | k + 1, hk =>
      obtain ⟨i, len, q1, q2, q3, q4⟩ := xChkP_at h2 k a pc (by simpa using hk)
      refine ⟨i, len, q1, q2, q3, ?_⟩
      have e : nx.tail[k]? = nx[k + 1]? := by cases nx <;> simp
      rw [e] at q4
      exact q4
theorem xPts_of {own : Nat} {ini : Bool} {ret : Option FieldType} {bytes : ByteArray} {cd : List Instr} {ps : List Nat} (h : xChkM own ini ret bytes cd ps = true) : xPts own ini ret bytes cd ps ∧ ps.getD 0 0 = 0 := by
  simp only [xChkM, Bool.and_eq_true, beq_iff_eq] at h
  obtain ⟨⟨h1, h2⟩, h3⟩ := h
  refine ⟨fun pc a ha => ?_, ?_⟩
  · have hl : pc < cd.length := (List.getElem?_eq_some_iff.mp ha).1
    have hp : ps[pc]? = some (ps.getD pc 0) := by
      rw [List.getD_eq_getElem?_getD, List.getElem?_eq_getElem (by omega)]
      rfl
    have hz : (cd.zip ps)[pc]? = some (a, ps.getD pc 0) := by
      rw [List.getElem?_zip_eq_some]
      exact ⟨ha, hp⟩
    obtain ⟨i, len, q1, q2, q3, q4⟩ := xChkP_at h3 pc a _ hz
    refine ⟨i, len, q1, q2, q3, ?_⟩
    rcases q4 with ⟨q, e1, e2⟩ | ⟨-, e⟩
    · left
      have e : ps.tail[pc]? = ps[pc + 1]? := by cases ps <;> simp
      rw [e] at e1
      rw [List.getD_eq_getElem?_getD, e1]
      exact e2
    · exact Or.inr e
  · cases ps with
    | nil => simp at h2
    | cons z zs =>
      have : z = 0 := by simpa using h2
      subst this
      rfl
def xRetEv (cc : ByteArray) (pcv : Nat) (ret : Option FieldType) (rt : Nat) (x : Int) : Prop :=
  (rt = 0 ∧ decode cc pcv = .ok (.ireturn, 1) ∧ (ret = some .int ∨ (ret = some .boolean ∧ (x = 0 ∨ x = 1)))) ∨ (rt = 1 ∧ decode cc pcv = .ok (.lreturn, 1) ∧ ret = some .long) ∨ (rt = 2 ∧ decode cc pcv = .ok (.areturn, 1) ∧ ((∃ n, ret = some (.object n)) ∨ ∃ t, ret = some (.array t))) ∨ (rt = 3 ∧ decode cc pcv = .ok (.return_, 1) ∧ ret = none ∧ x = 0)
section XMAIN
variable {p : Program} {l : Launch} {e : Env} {R : Room} {s : State} {m : MethodId} {args : Array Value} {below : List Frame} {meth : Method} {c : Code}
variable {J : xJT} {A : Nat → Prop} {Z : State → Prop} {nL c0 s0 own d pc : Nat} {cc : ByteArray} {ps : List Nat} {L st : List xV} {M M0 : xH} {r0 : Int} {k : xS → Prop} {Q : Int → xH → Prop} {ini : Bool} {ret : Option FieldType} {i : Instr} {len : Nat}
theorem st_ret (hRet : ∀ (pc : Nat) (L : List xV) (M' : xH) (rt : Nat) (x : Int), xRetEv cc (ps.getD pc 0) ret rt x → Q x M' → xRd (p, l, e, R, s, m, args, below, meth, c) J A Z nL c0 s0 ps (pc, L, xPush rt x [], M')) {a : Instr} (ha : a = .ireturn ∨ a = .freturn ∨ a = .lreturn ∨ a = .areturn ∨ a = .return_) (hp : decode cc (ps.getD pc 0) = .ok (i, len)) (hlen : xLenOk i len = true) (hck : xChk1 own ini ret ps (ps.getD pc 0) i a = true) {call : xCallT} (h : xGo call k Q (xNext d a pc L st M)) : xRd (p, l, e, R, s, m, args, below, meth, c) J A Z nL c0 s0 ps (pc, L, st, M) := by
  rcases ha with rfl | rfl | rfl | rfl | rfl
  · simp only [xChk1, Bool.and_eq_true, beq_iff_eq] at hck
    obtain ⟨h1, h2⟩ := hck
    split at h1
    · have hl := xLen_eq hlen rfl
      subst hl
      simp only [xNext] at h
      split at h
      · exact hRet pc L M 0 _ (Or.inl ⟨rfl, hp, Or.inl h2⟩) h.2
      · exact absurd h.1 id
    · cases h1
  · simp only [xChk1, Bool.and_eq_true, beq_iff_eq] at hck
    obtain ⟨h1, h2⟩ := hck
    split at h1
    · have hl := xLen_eq hlen rfl
      subst hl
      simp only [xNext] at h
      split at h
      · exact hRet pc L M 0 _ (Or.inl ⟨rfl, hp, Or.inr ⟨h2, h.1⟩⟩) h.2
      · exact absurd h.1 id
    · cases h1
  · simp only [xChk1, Bool.and_eq_true, beq_iff_eq] at hck
    obtain ⟨h1, h2⟩ := hck
    split at h1
    · have hl := xLen_eq hlen rfl
      subst hl
      simp only [xNext] at h
      split at h
      · exact hRet pc L M 1 _ (Or.inr (Or.inl ⟨rfl, hp, h2⟩)) h.2
      · exact absurd h.1 id
    · cases h1
  · simp only [xChk1, Bool.and_eq_true] at hck
    obtain ⟨h1, h2⟩ := hck
    split at h1
    · have hl := xLen_eq hlen rfl
      subst hl
      simp only [xNext] at h
      have h3 : (∃ n, ret = some (.object n)) ∨ ∃ t, ret = some (.array t) := by
        split at h2
        · exact Or.inl ⟨_, rfl⟩
        · exact Or.inr ⟨_, rfl⟩
        · cases h2
      split at h
      · exact hRet pc L M 2 _ (Or.inr (Or.inr (Or.inl ⟨rfl, hp, h3⟩))) h.2
      · exact absurd h.1 id
    · cases h1
  · simp only [xChk1, Bool.and_eq_true, beq_iff_eq] at hck
    obtain ⟨h1, h2⟩ := hck
    split at h1
    · have hl := xLen_eq hlen rfl
      subst hl
      simp only [xNext] at h
      split at h
      · exact hRet pc L M 3 0 (Or.inr (Or.inr (Or.inr ⟨rfl, hp, h2, rfl⟩))) h.2
      · exact absurd h.1 id
    · cases h1
theorem xNz_ok {q : Prop} : ∀ {as : List xV}, xNz q as → q ∧ ∀ v ∈ as, v.1 = 2 → v.2 ≠ 0
  | [], h => ⟨h, fun _ h => absurd h List.not_mem_nil⟩
  | (0, x) :: r, h => by
    have z := xNz_ok (as := r) h
    exact ⟨z.1, fun v hv => by
      rcases List.mem_cons.mp hv with rfl | hv
      · exact fun e => absurd e (show ¬ (0 : Nat) = 2 by decide)
      · exact z.2 v hv⟩
  | (1, x) :: r, h => by
    have z := xNz_ok (as := r) h
    exact ⟨z.1, fun v hv => by
      rcases List.mem_cons.mp hv with rfl | hv
      · exact fun e => absurd e (show ¬ (1 : Nat) = 2 by decide)
      · exact z.2 v hv⟩
  | (2, x) :: r, h => by
    have z := xNz_ok (as := r) h.2
    exact ⟨z.1, fun v hv => by
      rcases List.mem_cons.mp hv with rfl | hv
      · exact fun _ => h.1
      · exact z.2 v hv⟩
  | (t + 3, x) :: r, h => by
    have z := xNz_ok (as := r) h
    exact ⟨z.1, fun v hv => by
      rcases List.mem_cons.mp hv with rfl | hv
      · exact fun e => absurd e (show ¬ t + 3 = 2 by omega)
      · exact z.2 v hv⟩
theorem xTake_rev {n : Nat} {as : List xV} (h : (st.take n).reverse = as) (hl : n ≤ st.length) : st = as.reverse ++ st.drop n ∧ as.length = n := by
  subst h
  rw [List.reverse_reverse, List.take_append_drop]
  refine ⟨rfl, ?_⟩
  rw [List.length_reverse, List.length_take]
  omega
theorem st_callS (C : xCtx p R s m args c own cc nL d J A) (hS : xSnd l d) {q : Nat} (hp : decode cc (ps.getD pc 0) = .ok (i, len)) (hlen : xLenOk i len = true) (hck : xChk1 own ini ret ps (ps.getD pc 0) i (.invokestatic q) = true) (hnx : ps.getD (pc + 1) 0 = ps.getD pc 0 + len ∨ xTerm (.invokestatic q) = true) (hk : ∀ S, k S → xRd (p, l, e, R, s, m, args, below, meth, c) J A Z nL c0 s0 ps S ∧ S.2.2.2.2.2.2.1 ≤ c0 + R.cells ∧ S.2.2.2.2.2.2.2 ≤ s0 + R.slots) (h : xGo (xCall d) k Q (xNext d (.invokestatic q) pc L st M)) : xRd (p, l, e, R, s, m, args, below, meth, c) J A Z nL c0 s0 ps (pc, L, st, M) := by
  have hn := hnx.resolve_right (by simp [xTerm])
  simp only [xChk1] at hck
  split at hck
  · have hl := xLen_eq hlen rfl
    subst hl
    simp only [xCalOk, Bool.and_eq_true, Bool.or_eq_true, beq_iff_eq] at hck
    obtain ⟨⟨⟨⟨q1, q2⟩, q3⟩, q4⟩, q5⟩ := hck
    have hj : q / 8000 < 323 := by rw [← xMt_len]; exact xBlt q2
    simp only [xNext] at h
    split at h
    · rename_i hb
      rw [Bool.and_eq_true] at hb
      obtain ⟨hb1, hb2⟩ := hb
      generalize hast : (st.take (q / 4 % 20)).reverse = as at h
      obtain ⟨e1, e2⟩ := xTake_rev hast (xBle hb2)
      obtain ⟨h1, h2⟩ := h
      cases d with
      | zero => exact absurd h2 id
      | succ d =>
        obtain ⟨r1, M1, g1, g2, g3⟩ := (xCall_md (d + 1)).2 _ _ _ _ h2
        have z := hk _ g1
        rw [← q4] at z
        rw [e1]
        rcases q1 with q1 | q1
        · exact o_cS C hS hp hn hj (List.contains_iff_mem.mp q1) (a := 0) q5 (by rw [e2, q3]) (xNz_ok h1).2 (xBle hb1) g3 g2 z.2.1 z.2.2 z.1
        · exact o_cSn C hS hp hn hj (List.contains_iff_mem.mp q1) (a := 0) q5 (by rw [e2, q3]) (xNz_ok h1).2 (xBle hb1) g3 g2 z.2.1 z.2.2 z.1
    · exact absurd h.1 id
  · cases hck
theorem st_callV (C : xCtx p R s m args c own cc nL d J A) (hS : xSnd l d) {q : Nat} (hp : decode cc (ps.getD pc 0) = .ok (i, len)) (hlen : xLenOk i len = true) (hck : xChk1 own ini ret ps (ps.getD pc 0) i (.invokevirtual q) = true) (hnx : ps.getD (pc + 1) 0 = ps.getD pc 0 + len ∨ xTerm (.invokevirtual q) = true) (hok : ∀ a : Int, 0 ≤ M.2.1 a → M.2.1 a < 13 → 0 < a) (hk : ∀ S, k S → xRd (p, l, e, R, s, m, args, below, meth, c) J A Z nL c0 s0 ps S ∧ S.2.2.2.2.2.2.1 ≤ c0 + R.cells ∧ S.2.2.2.2.2.2.2 ≤ s0 + R.slots) (h : xGo (xCall d) k Q (xNext d (.invokevirtual q) pc L st M)) : xRd (p, l, e, R, s, m, args, below, meth, c) J A Z nL c0 s0 ps (pc, L, st, M) := by
  have hn := hnx.resolve_right (by simp [xTerm])
  simp only [xChk1] at hck
  split at hck
  · have hl := xLen_eq hlen rfl
    subst hl
    simp only [xCalOk, Bool.and_eq_true, Bool.or_eq_true, beq_iff_eq, Bool.not_eq_true'] at hck
    obtain ⟨⟨⟨⟨⟨⟨⟨q1, q2⟩, q3⟩, q4⟩, q5⟩, q6⟩, q7⟩, q8⟩ := hck
    have hj : q / 8000 < 323 := by rw [← xMt_len]; exact xBlt q2
    simp only [xNext] at h
    split at h
    · rename_i a as hast hb
      rw [Bool.and_eq_true] at hb
      obtain ⟨hb1, hb2⟩ := hb
      obtain ⟨e1, e2⟩ := xTake_rev hast (xBle hb2)
      rw [List.reverse_cons, List.append_assoc] at e1
      have e2 : as.length + 1 = q / 4 % 20 := e2
      obtain ⟨h1, h2⟩ := h
      obtain ⟨h3, h4⟩ := xNz_ok h1
      have hci := xBlt q7
      cases d with
      | zero => exact absurd h2 id
      | succ d =>
        obtain ⟨r1, M1, g1, g2, g3⟩ := (xCall_md (d + 1)).2 _ _ _ _ h2
        have z := hk _ g1
        rw [← q4] at z
        rw [e1]
        have ha0 : 0 < a := hok a (by omega) (by omega)
        have hvv := q8.imp List.contains_iff_mem.mp List.contains_iff_mem.mp
        rcases q1 with q1 | q1
        · exact o_cV C hS hp hn hj (List.contains_iff_mem.mp q1) q5 (by rw [e2, q3]) ha0 h4 hci q6 h3 hvv (xBle hb1) g3 g2 z.2.1 z.2.2 z.1
        · exact o_cVn C hS hp hn hj (List.contains_iff_mem.mp q1) q5 (by rw [e2, q3]) ha0 h4 hci q6 h3 hvv (xBle hb1) g3 g2 z.2.1 z.2.2 z.1
    · exact absurd h.1 id
  · cases hck
theorem st_callI (C : xCtx p R s m args c own cc nL d J A) (hS : xSnd l d) {q : Nat} (hp : decode cc (ps.getD pc 0) = .ok (i, len)) (hlen : xLenOk i len = true) (hck : xChk1 own ini ret ps (ps.getD pc 0) i (.invokespecial q) = true) (hnx : ps.getD (pc + 1) 0 = ps.getD pc 0 + len ∨ xTerm (.invokespecial q) = true) (hok : ∀ a : Int, 0 ≤ M.2.1 a → M.2.1 a < 13 → 0 < a) (hci : q / 80 % 100 < 13) (hk : ∀ S, k S → xRd (p, l, e, R, s, m, args, below, meth, c) J A Z nL c0 s0 ps S ∧ S.2.2.2.2.2.2.1 ≤ c0 + R.cells ∧ S.2.2.2.2.2.2.2 ≤ s0 + R.slots) (h : xGo (xCall d) k Q (xNext d (.invokespecial q) pc L st M)) : xRd (p, l, e, R, s, m, args, below, meth, c) J A Z nL c0 s0 ps (pc, L, st, M) := by
  have hn := hnx.resolve_right (by simp [xTerm])
  simp only [xChk1] at hck
  split at hck
  · have hl := xLen_eq hlen rfl
    subst hl
    simp only [xCalOk, Bool.and_eq_true, Bool.or_eq_true, beq_iff_eq, Bool.not_eq_true'] at hck
    obtain ⟨⟨⟨⟨⟨⟨q1, q2⟩, q3⟩, q4⟩, q5⟩, q6⟩, q7⟩ := hck
    have hj : q / 8000 < 323 := by rw [← xMt_len]; exact xBlt q2
    simp only [xNext] at h
    split at h
    · rename_i a as hast hb
      rw [Bool.and_eq_true] at hb
      obtain ⟨hb1, hb2⟩ := hb
      obtain ⟨e1, e2⟩ := xTake_rev hast (xBle hb2)
      rw [List.reverse_cons, List.append_assoc] at e1
      have e2 : as.length + 1 = q / 4 % 20 := e2
      obtain ⟨h1, h2⟩ := h
      obtain ⟨h3, h4⟩ := xNz_ok h1
      cases d with
      | zero => exact absurd h2 id
      | succ d =>
        obtain ⟨r1, M1, g1, g2, g3⟩ := (xCall_md (d + 1)).2 _ _ _ _ h2
        have z := hk _ g1
        rw [← q4] at z
        rw [e1]
        have ha0 : 0 < a := hok a (by omega) (by omega)
        rcases q1 with q1 | q1
        · exact o_cI C hS hp hn hj (List.contains_iff_mem.mp q1) q5 (by rw [e2, q3]) ha0 h4 q6 q7 (xBle hb1) g3 g2 z.2.1 z.2.2 z.1
        · exact o_cIn C hS hp hn hj (List.contains_iff_mem.mp q1) q5 (by rw [e2, q3]) ha0 h4 q6 q7 (xBle hb1) g3 g2 z.2.1 z.2.2 z.1
    · exact absurd h.1 id
  · cases hck
end XMAIN
end
section
section XRUN
variable {p : Program} {l : Launch} {e : Env} {R : Room} {s : State} {m : MethodId} {args : Array Value} {below : List Frame} {meth : Method} {c : Code}
variable {J : xJT} {A : Nat → Prop} {Z : State → Prop} {nL c0 s0 own d : Nat} {cc : ByteArray} {ps : List Nat} {cd : List Instr} {M0 : xH} {r0 : Int} {ini : Bool} {ret : Option FieldType}
theorem xRd_ok {S : xS} (h : xOk S.2.2.2 → xRd (p, l, e, R, s, m, args, below, meth, c) J A Z nL c0 s0 ps S) : xRd (p, l, e, R, s, m, args, below, meth, c) J A Z nL c0 s0 ps S := fun G H locs ls hR hF h1 h2 => h hR.1 G H locs ls hR hF h1 h2
set_option maxHeartbeats 4000000 in
theorem xRun (C : xCtx p R s m args c own cc nL d J A) (hS : xSnd l d) (hP : xPts own ini ret cc cd ps) (hini : ini = true → meth.name = "<init>") (hsp : ∀ q, Instr.invokespecial q ∈ cd → q / 80 % 100 < 13) (hl1 : M0.2.2.2.1 ≤ c0 + R.cells) (hl2 : M0.2.2.2.2 ≤ s0 + R.slots)
    (hRet : ∀ (pc : Nat) (L : List xV) (M' : xH) (rt : Nat) (x : Int), xRetEv cc (ps.getD pc 0) ret rt x → (x = r0 ∧ M' = M0) → xRd (p, l, e, R, s, m, args, below, meth, c) J A Z nL c0 s0 ps (pc, L, xPush rt x [], M')) :
    ∀ (n pc : Nat) (L st : List xV) (M : xH), xWp d (xCall d) cd (fun r H => r = r0 ∧ H = M0) n pc L st M → xRd (p, l, e, R, s, m, args, below, meth, c) J A Z nL c0 s0 ps (pc, L, st, M) := by
  intro n
  induction n with
  | zero => intro pc L st M h; exact absurd h id
  | succ n ih =>
    intro pc L st M h
    apply xRd_ok
    intro hok
    replace hok : xOk M := hok
    have hok2 : ∀ a : Int, 0 ≤ M.2.1 a → M.2.1 a < 13 → 0 < a := fun a h1 h2 => (xOk_obj hok (c := (M.2.1 a).toNat) (by omega) (by omega)).1
    have hk : ∀ S : xS, xWp d (xCall d) cd (fun r H => r = r0 ∧ H = M0) n S.1 S.2.1 S.2.2.1 S.2.2.2 → xRd (p, l, e, R, s, m, args, below, meth, c) J A Z nL c0 s0 ps S ∧ S.2.2.2.2.2.2.1 ≤ c0 + R.cells ∧ S.2.2.2.2.2.2.2 ≤ s0 + R.slots := fun S hw => by
      obtain ⟨r, H', ⟨-, e2⟩, q2, -⟩ := xWp_det (xCall_md d).1 (xCall_md d).2 n _ _ _ _ hw
      subst e2
      exact ⟨ih _ _ _ _ hw, Nat.le_trans q2.1 hl1, Nat.le_trans q2.2 hl2⟩
    have h : xGo (xCall d) (fun S => xWp d (xCall d) cd (fun r H => r = r0 ∧ H = M0) n S.1 S.2.1 S.2.2.1 S.2.2.2) (fun r H => r = r0 ∧ H = M0) (xNext d (cd.getD pc .nop) pc L st M) := h
    cases ha : cd[pc]? with
    | none =>
      rw [List.getD_eq_getElem?_getD, ha] at h
      exact absurd h.1 id
    | some a =>
      obtain ⟨i, len, hp, hlen, hck, hnx⟩ := hP pc a ha
      rw [List.getD_eq_getElem?_getD, ha] at h
      have h : xGo (xCall d) (fun S => xWp d (xCall d) cd (fun r H => r = r0 ∧ H = M0) n S.1 S.2.1 S.2.2.1 S.2.2.2) (fun r H => r = r0 ∧ H = M0) (xNext d a pc L st M) := h
      match a, ha, hck, hnx, h with
      | .iadd, ha, hck, hnx, h => exact st_iadd C hp hlen hck hnx hk h
      | .isub, ha, hck, hnx, h => exact st_isub C hp hlen hck hnx hk h
      | .imul, ha, hck, hnx, h => exact st_imul C hp hlen hck hnx hk h
      | .idiv, ha, hck, hnx, h => exact st_idiv C hp hlen hck hnx hk h
      | .irem, ha, hck, hnx, h => exact st_irem C hp hlen hck hnx hk h
      | .ineg, ha, hck, hnx, h => exact st_ineg C hp hlen hck hnx hk h
      | .ishl, ha, hck, hnx, h => exact st_ishl C hp hlen hck hnx hk h
      | .ishr, ha, hck, hnx, h => exact st_ishr C hp hlen hck hnx hk h
      | .iushr, ha, hck, hnx, h => exact st_iushr C hp hlen hck hnx hk h
      | .iand, ha, hck, hnx, h => exact st_iand C hp hlen hck hnx hk h
      | .ior, ha, hck, hnx, h => exact st_ior C hp hlen hck hnx hk h
      | .ixor, ha, hck, hnx, h => exact st_ixor C hp hlen hck hnx hk h
      | .i2l, ha, hck, hnx, h => exact st_i2l C hp hlen hck hnx hk h
      | .l2i, ha, hck, hnx, h => exact st_l2i C hp hlen hck hnx hk h
      | .i2b, ha, hck, hnx, h => exact st_i2b C hp hlen hck hnx hk h
      | .i2s, ha, hck, hnx, h => exact st_i2s C hp hlen hck hnx hk h
      | .ladd, ha, hck, hnx, h => exact st_ladd C hp hlen hck hnx hk h
      | .lmul, ha, hck, hnx, h => exact st_lmul C hp hlen hck hnx hk h
      | .ldiv, ha, hck, hnx, h => exact st_ldiv C hp hlen hck hnx hk h
      | .lrem, ha, hck, hnx, h => exact st_lrem C hp hlen hck hnx hk h
      | .land, ha, hck, hnx, h => exact st_land C hp hlen hck hnx hk h
      | .lor, ha, hck, hnx, h => exact st_lor C hp hlen hck hnx hk h
      | .lshl, ha, hck, hnx, h => exact st_lshl C hp hlen hck hnx hk h
      | .lshr, ha, hck, hnx, h => exact st_lshr C hp hlen hck hnx hk h
      | .lcmp, ha, hck, hnx, h => exact st_lcmp C hp hlen hck hnx hk h
      | .dup, ha, hck, hnx, h => exact st_dup C hp hlen hck hnx hk h
      | .dup2, ha, hck, hnx, h => exact st_dup2 C hp hlen hck hnx hk h
      | .pop, ha, hck, hnx, h => exact st_pop C hp hlen hck hnx hk h
      | .iaload, ha, hck, hnx, h => exact st_iaload C hp hlen hck hnx hk h
      | .laload, ha, hck, hnx, h => exact st_laload C hp hlen hck hnx hk h
      | .aaload, ha, hck, hnx, h => exact st_aaload C hp hlen hck hnx hk h
      | .baload, ha, hck, hnx, h => exact st_baload C hp hlen hck hnx hk h
      | .caload, ha, hck, hnx, h => exact st_caload C hp hlen hck hnx hk h
      | .iastore, ha, hck, hnx, h => exact st_iastore C hp hlen hck hnx hk h
      | .lastore, ha, hck, hnx, h => exact st_lastore C hp hlen hck hnx hk h
      | .bastore, ha, hck, hnx, h => exact st_bastore C hp hlen hck hnx hk h
      | .castore, ha, hck, hnx, h => exact st_castore C hp hlen hck hnx hk h
      | .aastore, ha, hck, hnx, h => exact st_aastore C hp hlen hck hnx hk h
      | .arraylength, ha, hck, hnx, h => exact st_arraylength C hp hlen hck hnx hk h
      | .dneg, ha, hck, hnx, h => exact st_dneg C hp hlen hck hnx hk h
      | .dadd, ha, hck, hnx, h => exact st_dadd C hp hlen hck hnx hk h
      | .dsub, ha, hck, hnx, h => exact st_dsub C hp hlen hck hnx hk h
      | .dmul, ha, hck, hnx, h => exact st_dmul C hp hlen hck hnx hk h
      | .ddiv, ha, hck, hnx, h => exact st_ddiv C hp hlen hck hnx hk h
      | .d2i, ha, hck, hnx, h => exact st_d2i C hp hlen hck hnx hk h
      | .d2l, ha, hck, hnx, h => exact st_d2l C hp hlen hck hnx hk h
      | .iload _, ha, hck, hnx, h => exact st_iload C hp hlen hck hnx hk h
      | .lload _, ha, hck, hnx, h => exact st_lload C hp hlen hck hnx hk h
      | .aload _, ha, hck, hnx, h => exact st_aload C hp hlen hck hnx hk h
      | .istore _, ha, hck, hnx, h => exact st_istore C hp hlen hck hnx hk h
      | .lstore _, ha, hck, hnx, h => exact st_lstore C hp hlen hck hnx hk h
      | .astore _, ha, hck, hnx, h => exact st_astore C hp hlen hck hnx hk h
      | .iconst _, ha, hck, hnx, h => exact st_iconst C hp hlen hck hnx hk h
      | .jsr _, ha, hck, hnx, h => exact st_jsr C hp hlen hck hnx hk h
      | .ldc _, ha, hck, hnx, h => exact st_ldc C hp hlen hck hnx hk h
      | .ifnull _, ha, hck, hnx, h => exact st_ifnull C hp hlen hck hnx hk h
      | .ifnonnull _, ha, hck, hnx, h => exact st_ifnonnull C hp hlen hck hnx hk h
      | .goto _, ha, hck, hnx, h => exact st_goto C hp hlen hck hnx hk h
      | .newarray _, ha, hck, hnx, h => exact st_newarray C hp hlen hck hnx hk h
      | .anewarray _, ha, hck, hnx, h => exact st_anewarray C hp hlen hck hnx hk h
      | .new _, ha, hck, hnx, h => exact st_new C hp hlen hck hnx hk h
      | .getfield _, ha, hck, hnx, h => exact st_getfield C hp hlen hck hnx hk h
      | .iinc _ _, ha, hck, hnx, h => exact st_iinc C hp hlen hck hnx hk h
      | .ifCond _ _, ha, hck, hnx, h => exact st_ifCond C hp hlen hck hnx hk h
      | .if_icmp _ _, ha, hck, hnx, h => exact st_if_icmp C hp hlen hck hnx hk h
      | .multianewarray _ _, ha, hck, hnx, h => exact st_multianewarray C hp hlen hck hnx hk h
      | .tableswitch _ _ _ _, ha, hck, hnx, h => exact st_tableswitch C hp hlen hck hnx hk h
      | .putfield _, ha, hck, hnx, h => exact st_putfield C hini hp hlen hck hnx hk h
      | .invokestatic _, ha, hck, hnx, h => exact st_callS C hS hp hlen hck hnx hk h
      | .invokevirtual _, ha, hck, hnx, h => exact st_callV C hS hp hlen hck hnx hok2 hk h
      | .invokespecial q, ha, hck, hnx, h => exact st_callI C hS hp hlen hck hnx hok2 (hsp q (List.mem_of_getElem? ha)) hk h
      | .ireturn, ha, hck, hnx, h => exact st_ret hRet (Or.inl rfl) hp hlen hck h
      | .freturn, ha, hck, hnx, h => exact st_ret hRet (Or.inr (Or.inl rfl)) hp hlen hck h
      | .lreturn, ha, hck, hnx, h => exact st_ret hRet (Or.inr (Or.inr (Or.inl rfl))) hp hlen hck h
      | .areturn, ha, hck, hnx, h => exact st_ret hRet (Or.inr (Or.inr (Or.inr (Or.inl rfl)))) hp hlen hck h
      | .return_, ha, hck, hnx, h => exact st_ret hRet (Or.inr (Or.inr (Or.inr (Or.inr (rfl))))) hp hlen hck h
      | .aconst_null, ha, hck, hnx, h => exact absurd h.1 id
      | .aload_n _, ha, hck, hnx, h => exact absurd h.1 id
      | .astore_n _, ha, hck, hnx, h => exact absurd h.1 id
      | .athrow, ha, hck, hnx, h => exact absurd h.1 id
      | .bipush _, ha, hck, hnx, h => exact absurd h.1 id
      | .checkcast _, ha, hck, hnx, h => exact absurd h.1 id
      | .d2f, ha, hck, hnx, h => exact absurd h.1 id
      | .daload, ha, hck, hnx, h => exact absurd h.1 id
      | .dastore, ha, hck, hnx, h => exact absurd h.1 id
      | .dcmp _, ha, hck, hnx, h => exact absurd h.1 id
      | .dconst _, ha, hck, hnx, h => exact absurd h.1 id
      | .dload _, ha, hck, hnx, h => exact absurd h.1 id
      | .dload_n _, ha, hck, hnx, h => exact absurd h.1 id
      | .drem, ha, hck, hnx, h => exact absurd h.1 id
      | .dreturn, ha, hck, hnx, h => exact absurd h.1 id
      | .dstore _, ha, hck, hnx, h => exact absurd h.1 id
      | .dstore_n _, ha, hck, hnx, h => exact absurd h.1 id
      | .dup_x1, ha, hck, hnx, h => exact absurd h.1 id
      | .dup_x2, ha, hck, hnx, h => exact absurd h.1 id
      | .dup2_x1, ha, hck, hnx, h => exact absurd h.1 id
      | .dup2_x2, ha, hck, hnx, h => exact absurd h.1 id
      | .f2d, ha, hck, hnx, h => exact absurd h.1 id
      | .f2i, ha, hck, hnx, h => exact absurd h.1 id
      | .f2l, ha, hck, hnx, h => exact absurd h.1 id
      | .fadd, ha, hck, hnx, h => exact absurd h.1 id
      | .faload, ha, hck, hnx, h => exact absurd h.1 id
      | .fastore, ha, hck, hnx, h => exact absurd h.1 id
      | .fcmp _, ha, hck, hnx, h => exact absurd h.1 id
      | .fconst _, ha, hck, hnx, h => exact absurd h.1 id
      | .fdiv, ha, hck, hnx, h => exact absurd h.1 id
      | .fload _, ha, hck, hnx, h => exact absurd h.1 id
      | .fload_n _, ha, hck, hnx, h => exact absurd h.1 id
      | .fmul, ha, hck, hnx, h => exact absurd h.1 id
      | .fneg, ha, hck, hnx, h => exact absurd h.1 id
      | .frem, ha, hck, hnx, h => exact absurd h.1 id
      | .fstore _, ha, hck, hnx, h => exact absurd h.1 id
      | .fstore_n _, ha, hck, hnx, h => exact absurd h.1 id
      | .fsub, ha, hck, hnx, h => exact absurd h.1 id
      | .getstatic _, ha, hck, hnx, h => exact absurd h.1 id
      | .goto_w _, ha, hck, hnx, h => exact absurd h.1 id
      | .i2c, ha, hck, hnx, h => exact absurd h.1 id
      | .i2d, ha, hck, hnx, h => exact absurd h.1 id
      | .i2f, ha, hck, hnx, h => exact absurd h.1 id
      | .if_acmp _ _, ha, hck, hnx, h => exact absurd h.1 id
      | .iload_n _, ha, hck, hnx, h => exact absurd h.1 id
      | .instanceof _, ha, hck, hnx, h => exact absurd h.1 id
      | .invokedynamic _, ha, hck, hnx, h => exact absurd h.1 id
      | .invokeinterface _ _, ha, hck, hnx, h => exact absurd h.1 id
      | .istore_n _, ha, hck, hnx, h => exact absurd h.1 id
      | .jsr_w _, ha, hck, hnx, h => exact absurd h.1 id
      | .l2d, ha, hck, hnx, h => exact absurd h.1 id
      | .l2f, ha, hck, hnx, h => exact absurd h.1 id
      | .lconst _, ha, hck, hnx, h => exact absurd h.1 id
      | .ldc_w _, ha, hck, hnx, h => exact absurd h.1 id
      | .ldc2_w _, ha, hck, hnx, h => exact absurd h.1 id
      | .lload_n _, ha, hck, hnx, h => exact absurd h.1 id
      | .lneg, ha, hck, hnx, h => exact absurd h.1 id
      | .lookupswitch _ _, ha, hck, hnx, h => exact absurd h.1 id
      | .lstore_n _, ha, hck, hnx, h => exact absurd h.1 id
      | .lsub, ha, hck, hnx, h => exact absurd h.1 id
      | .lushr, ha, hck, hnx, h => exact absurd h.1 id
      | .lxor, ha, hck, hnx, h => exact absurd h.1 id
      | .monitorenter, ha, hck, hnx, h => exact absurd h.1 id
      | .monitorexit, ha, hck, hnx, h => exact absurd h.1 id
      | .nop, ha, hck, hnx, h => exact absurd h.1 id
      | .pop2, ha, hck, hnx, h => exact absurd h.1 id
      | .putstatic _, ha, hck, hnx, h => exact absurd h.1 id
      | .ret _, ha, hck, hnx, h => exact absurd h.1 id
      | .saload, ha, hck, hnx, h => exact absurd h.1 id
      | .sastore, ha, hck, hnx, h => exact absurd h.1 id
      | .sipush _, ha, hck, hnx, h => exact absurd h.1 id
      | .swap, ha, hck, hnx, h => exact absurd h.1 id
end XRUN
end
section
theorem xFlat_len {ad : Int → Nat} : ∀ {as : List xV}, (∀ v ∈ as, v.1 ≤ 2) → (lg_sl (as.map (xc ad))).length = (xFlat as).length
  | [], _ => rfl
  | (t, x) :: r, h => by
    have ih := xFlat_len (ad := ad) (as := r) (fun v hv => h v (List.mem_cons_of_mem _ hv))
    have ht : t ≤ 2 := h (t, x) List.mem_cons_self
    have hc := xc_cat ad (t, x) ht
    unfold lg_sl at ih ⊢
    rw [List.map_cons, List.flatMap_cons, List.length_append, ih, hc]
    match t, ht with
    | 0, _ => show 1 + _ = (xFlat r).length + 1; omega
    | 1, _ => show 2 + _ = (xFlat r).length + 1 + 1; omega
    | 2, _ => show 1 + _ = (xFlat r).length + 1; omega
theorem xFlat_at {ad : Int → Nat} : ∀ {as : List xV} (k : Nat), (∀ v ∈ as, v.1 ≤ 2) → ∀ (i : Nat) (v : xV), (xFlat as)[i]? = some v → v.1 ≠ 9 → (k + i, xc ad v) ∈ lv_args k (as.map (xc ad)) ∧ v ∈ as
  | [], k, _, i, v, hv, _ => by simp [xFlat] at hv
  | (t, x) :: r, k, h, i, v, hv, h9 => by
    have ht : t ≤ 2 := h (t, x) List.mem_cons_self
    have hc := xc_cat ad (t, x) ht
    have hr : ∀ v ∈ r, v.1 ≤ 2 := fun v hv => h v (List.mem_cons_of_mem _ hv)
    rw [List.map_cons]
    unfold lv_args
    rw [hc]
    match t, ht, hv with
    | 0, _, hv =>
      match i, hv with
      | 0, hv =>
        have e : ((0, x) : xV) = v := by simpa [xFlat] using hv
        subst e
        exact ⟨List.mem_cons_self, List.mem_cons_self⟩
      | i + 1, hv =>
        have z := xFlat_at (ad := ad) (k + 1) hr i v (by simpa [xFlat] using hv) h9
        have e : k + (i + 1) = k + 1 + i := by omega
        rw [e]
        exact ⟨List.mem_cons_of_mem _ z.1, List.mem_cons_of_mem _ z.2⟩
    | 1, _, hv =>
      match i, hv with
      | 0, hv =>
        have e : ((1, x) : xV) = v := by simpa [xFlat] using hv
        subst e
        exact ⟨List.mem_cons_self, List.mem_cons_self⟩
      | 1, hv =>
        have e : ((9, 0) : xV) = v := by simpa [xFlat] using hv
        subst e
        exact absurd rfl h9
      | i + 2, hv =>
        have z := xFlat_at (ad := ad) (k + 2) hr i v (by simpa [xFlat] using hv) h9
        have e : k + (i + 2) = k + 2 + i := by omega
        rw [e]
        exact ⟨List.mem_cons_of_mem _ z.1, List.mem_cons_of_mem _ z.2⟩
    | 2, _, hv =>
      match i, hv with
      | 0, hv =>
        have e : ((2, x) : xV) = v := by simpa [xFlat] using hv
        subst e
        exact ⟨List.mem_cons_self, List.mem_cons_self⟩
      | i + 1, hv =>
        have z := xFlat_at (ad := ad) (k + 1) hr i v (by simpa [xFlat] using hv) h9
        have e : k + (i + 1) = k + 1 + i := by omega
        rw [e]
        exact ⟨List.mem_cons_of_mem _ z.1, List.mem_cons_of_mem _ z.2⟩
theorem xEntry_at {n : Nat} {as : List xV} {i : Nat} {v : xV} (h : (xEntry n as)[i]? = some v) (h9 : v.1 ≠ 9) : (xFlat as)[i]? = some v := by
  unfold xEntry at h
  rw [List.getElem?_append] at h
  split at h
  · exact h
  · rw [List.getElem?_replicate] at h
    split at h
    · cases h; exact absurd rfl h9
    · cases h
theorem xEntry_fr {nL : Nat} {G : xG} {M : xH} {as : List xV} (hva : ∀ v ∈ as, xVk M.2.2.2.1 v ∧ (v.1 = 2 → v.2 ≠ 0)) (hb : (xFlat as).length ≤ nL) : xFr nL G M (xEntry nL as) [] ((lg_sl (as.map (xc G.1)) ++ List.replicate (nL - (lg_sl (as.map (xc G.1))).length) Slot.unset).toArray) := by
  have ht : ∀ v ∈ as, v.1 ≤ 2 := fun v hv => (hva v hv).1.1
  have hl := lv_entry (as.map (xc G.1)) (n := nL) (by rw [xFlat_len ht]; exact hb)
  refine ⟨xL_sub hl (fun q hq => ?_), ?_, fun v hv => ?_, fun v hv => absurd hv List.not_mem_nil⟩
  · obtain ⟨v, hv, h9, he⟩ := xLv_of hq
    have z := (xFlat_at (ad := G.1) 0 ht q.1 v (xEntry_at hv h9) h9).1
    rw [Nat.zero_add, ← he] at z
    exact z
  · unfold xEntry
    rw [List.length_append, List.length_replicate]
    omega
  · obtain ⟨i, hi⟩ := List.getElem?_of_mem hv
    by_cases h9 : v.1 = 9
    · exact Or.inl h9
    · exact Or.inr (hva v (xFlat_at (ad := G.1) 0 ht i v (xEntry_at hi h9) h9).2)
theorem xMo_at {j : Nat} (hj : j < 323) : xo (xMo.getD j 99) = (xM j).1.cls ∧ xMi.getD j false = ((xM j).1.name == "<init>") := by
  have h := List.all_eq_true.mp xMo_ok j (List.mem_range.mpr hj)
  simp only [Bool.and_eq_true, beq_iff_eq] at h
  exact h.1
theorem xSpec_ok : xCds.all (fun q => q.1.all (fun i => match i with | .invokespecial m => Nat.blt (m / 80 % 100) 13 | _ => true)) = true := by decide +kernel
theorem xSpec_at {j q : Nat} (h : Instr.invokespecial q ∈ xCode j) : q / 80 % 100 < 13 := by
  unfold xCode at h
  rw [List.getD_eq_getElem?_getD] at h
  cases e : xCds[j]? with
  | none => rw [e] at h; exact absurd h List.not_mem_nil
  | some z =>
    rw [e] at h
    have h1 := List.all_eq_true.mp xSpec_ok z (List.mem_of_getElem? e)
    exact xBlt (List.all_eq_true.mp h1 _ h)
set_option maxHeartbeats 4000000 in
theorem xSnd_succ {l : Launch} {d : Nat} (hS : xSnd l d) : xSnd l (d + 1) := by
  intro j as M M0 r0 hj hcall J G sz hok hGd hva
  obtain ⟨hb, n, hw⟩ := hcall
  obtain ⟨ho1, ho2⟩ := xMo_at hj
  obtain ⟨hpt, hp0⟩ := xPts_of (xCk_all j hj)
  refine Met.ofW (cc := (xM j).2.1) (maxL := (xM j).2.2.1) (ret := (xM j).2.2.2.1) (xMp hj).1 rfl ?_
  intro p e s m args below meth c s₁ B hml hv
  obtain ⟨rfl, hsz, hP, hD, hKn, hT, hO⟩ := hv
  subst hsz
  have hlocks := B.notSynchronized
  have hown : s.vm.findClass (xM j).1.cls = some m.cls := findClass_of_methodNamed B.named
  have C : xCtx p (xRm d (M0.2.2.2.1 - M.2.2.2.1) (M0.2.2.2.2 - M.2.2.2.2)) s m (as.map (xc G.1)).toArray c (xMo.getD j 99) (xM j).2.1 (xM j).2.2.1 d (xJw J G M) (va_A (xWs G M) s.heap.size) :=
    ⟨B.exec, B.bytes, hml, by rw [ho1]; exact hown, fun w hw => atoms_spec (ws := xWj j) B.pre w (List.mem_cons_of_mem _ hw), hT, hO, fun q h => Or.inr h, Nat.le_refl _, Nat.le_refl _⟩
  have hdet := xWp_det (xCall_md d).1 (xCall_md d).2 n _ _ _ _ hw
  have hle : xLe M M0 := by
    obtain ⟨r, H', ⟨-, e2⟩, q2, -⟩ := hdet
    rw [e2] at q2
    exact q2
  have hG2 : xGd (xJw J G M) G M := ⟨hGd.1, ⟨hGd.2.1.1, fun b _ => rfl⟩, Int.le_refl _, hGd.2.2.2⟩
  have hrun := xRun (e := e) (below := below) (meth := meth) (Z := MQ below (xPost J G M s.heap.size (xRc (xM j).2.2.2.1) r0 M0) (as.map (xc G.1)).toArray s (M0.2.2.2.1 - M.2.2.2.1) (M0.2.2.2.2 - M.2.2.2.2) (va_A (xWs G M) s.heap.size)) (c0 := M.2.2.2.1) (s0 := M.2.2.2.2) C hS hpt
    (fun h => by rw [(name_of_methodNamed B.named B.method).1]; rw [ho2] at h; exact eq_of_beq h) (fun q hq => xSpec_at hq) (by show M0.2.2.2.1 ≤ M.2.2.2.1 + (M0.2.2.2.1 - M.2.2.2.1); omega) (by show M0.2.2.2.2 ≤ M.2.2.2.2 + (M0.2.2.2.2 - M.2.2.2.2); omega)
    (fun pc L M' rt x hev hx => ?_) n 0 _ [] M hw
  · have hF := xEntry_fr (nL := (xM j).2.2.1) (G := G) (M := M) (as := as) hva (Nat.le_of_ble_eq_true hb)
    have hR : xRel (xJw J G M) s (va_A (xWs G M) s.heap.size) s.heap G M s.heap [] := ⟨hok, hP, ⟨hD.1, fun k q hq => Or.inl ⟨k, q.2, hq⟩⟩, va_S.rf, hKn, hG2⟩
    have k := hrun G s.heap [] _ hR hF (Nat.le_refl _) (Nat.le_refl _)
    have k : W p l e (xRm d (M0.2.2.2.1 - M.2.2.2.1) (M0.2.2.2.2 - M.2.2.2.2)) s m (as.map (xc G.1)).toArray below meth c s.heap [] (M.2.2.2.1 - M.2.2.2.1) (M.2.2.2.2 - M.2.2.2.2) (MQ below (xPost J G M s.heap.size (xRc (xM j).2.2.2.1) r0 M0) (as.map (xc G.1)).toArray s (M0.2.2.2.1 - M.2.2.2.1) (M0.2.2.2.2 - M.2.2.2.2) (va_A (xWs G M) s.heap.size)) (F0 m ((xPs j).getD 0 0) ((lg_sl (as.map (xc G.1)) ++ List.replicate ((xM j).2.2.1 - (lg_sl (as.map (xc G.1))).length) Slot.unset).toArray) []) := k
    rw [hp0, Nat.sub_self, Nat.sub_self] at k
    rw [lg_entry_eq]
    exact k
  · obtain ⟨rfl, rfl⟩ := hx
    intro G' H locs ls hR hF h1 h2
    replace hR : xRel (xJw J G M) s (va_A (xWs G M) s.heap.size) s.heap G' M' H locs := hR
    have hq : ∀ (t : State), t.heap = H → s.WarmedH t.vm → ∀ oc, (oc = .returned (if xRc (xM j).2.2.2.1 = 3 then none else some (xc G'.1 (xRc (xM j).2.2.2.1, x)))) → (xRc (xM j).2.2.2.1 ≠ 3 → xVk M'.2.2.2.1 (xRc (xM j).2.2.2.1, x)) → xPost J G M s.heap.size (xRc (xM j).2.2.2.1) x M' (as.map (xc G.1)).toArray s oc t := by
      intro t ht hW oc hoc hvk
      have hE : ∀ b : Int, b < (M.2.2.2.1 : Int) → G'.1 b = G.1 b := hR.2.2.2.2.2.2.1.2
      have hmid := hGd.2.2.1
      refine ⟨G', hoc, hvk, hR.1, by rw [ht]; exact hR.2.1, hR.2.2.1, xKn_moved hW.alike hR.2.2.2.2.1, ?_, hE, hR.2.2.2.1.F ht⟩
      exact ⟨hR.2.2.2.2.2.1, ⟨hR.2.2.2.2.2.2.1.1, fun b hb => by rw [hE b (by omega)]; exact hGd.2.1.2 b hb⟩, by have := hle.1; omega, hR.2.2.2.2.2.2.2.2⟩
    have hf : ∀ q ∈ locs, va_A (xWs G M) s.heap.size q.base := hR.2.2.2.1.2.2
    rcases hev with ⟨rfl, hd, hr⟩ | ⟨rfl, hd, hr⟩ | ⟨rfl, hd, hr⟩ | ⟨rfl, hd, hr, hx0⟩
    · have hvk : xVk M'.2.2.2.1 (0, x) := hF.2.2.2 (0, x) List.mem_cons_self
      rcases hr with hr | ⟨hr, hb1⟩
      · have hrc : xRc (xM j).2.2.2.1 = 0 := by rw [hr]; rfl
        refine W.iret (v := Int32.ofInt x) B.exec B.bytes (by rw [B.returns, hr]) (fun t ht hW => hq t ht hW _ (by rw [hrc]; rfl) (fun _ => by rw [hrc]; exact hvk)) hf hd
      · have hrc : xRc (xM j).2.2.2.1 = 0 := by rw [hr]; rfl
        refine W.zret (v := Int32.ofInt x) (ty := .boolean) B.exec B.bytes (by rw [B.returns, hr]) (by rcases hb1 with rfl | rfl <;> rfl) (fun t ht hW => hq t ht hW _ (by rw [hrc]; rfl) (fun _ => by rw [hrc]; exact hvk)) hf hd
    · have hvk : xVk M'.2.2.2.1 (1, x) := hF.2.2.2 (1, x) List.mem_cons_self
      have hrc : xRc (xM j).2.2.2.1 = 1 := by rw [hr]; rfl
      refine W.lret (v := Int64.ofInt x) B.exec B.bytes (by rw [B.returns, hr]) (fun t ht hW => hq t ht hW _ (by rw [hrc]; rfl) (fun _ => by rw [hrc]; exact hvk)) hf hd
    · have hvk : xVk M'.2.2.2.1 (2, x) := hF.2.2.2 (2, x) List.mem_cons_self
      have hrc : xRc (xM j).2.2.2.1 = 2 := by rcases hr with ⟨n, hr⟩ | ⟨n, hr⟩ <;> rw [hr] <;> rfl
      have hxx : xc G'.1 (2, x) = .null ∨ ∃ a, xc G'.1 (2, x) = .ref a := by
        by_cases h : x = 0
        · subst h; exact Or.inl rfl
        · exact Or.inr ⟨_, xc_ref h⟩
      rcases hr with ⟨n, hr⟩ | ⟨n, hr⟩
      · exact W.aret (v := xc G'.1 (2, x)) (rt := .object n) B.exec B.bytes (by rw [B.returns, hr]) (Or.inl ⟨_, rfl⟩) hxx (fun t ht hW => hq t ht hW _ (by rw [hrc]; rfl) (fun _ => by rw [hrc]; exact hvk)) hf hd
      · exact W.aret (v := xc G'.1 (2, x)) (rt := .array n) B.exec B.bytes (by rw [B.returns, hr]) (Or.inr ⟨_, rfl⟩) hxx (fun t ht hW => hq t ht hW _ (by rw [hrc]; rfl) (fun _ => by rw [hrc]; exact hvk)) hf hd
    · have hrc : xRc (xM j).2.2.2.1 = 3 := by rw [hr]; rfl
      exact W.vret B.exec B.bytes (by rw [B.returns, hr]) (fun t ht hW => hq t ht hW _ (by rw [hrc]; rfl) (fun h => absurd hrc h)) hf hd
theorem xSnd_all (l : Launch) : ∀ d : Nat, xSnd l d
  | 0 => fun _ _ _ _ _ _ h => absurd h id
  | d + 1 => xSnd_succ (xSnd_all l d)
end
section
/-! runs without a count: xW; a stretch between cuts at once -/
def xW (d : Nat) (cd : List Instr) (Q : Int → xH → Prop) (S : xS) : Prop := ∃ n, xWp d (xCall d) cd Q n S.1 S.2.1 S.2.2.1 S.2.2.2
theorem xW_up {d : Nat} {cd : List Instr} {Q : Int → xH → Prop} {S : xS} {n n' : Nat} (hn : n ≤ n') (h : xWp d (xCall d) cd Q n S.1 S.2.1 S.2.2.1 S.2.2.2) : xWp d (xCall d) cd Q n' S.1 S.2.1 S.2.2.1 S.2.2.2 := xWp_le (xCall_md d).1 hn h
theorem xGo_ex {d : Nat} {cd : List Instr} {Q : Int → xH → Prop} : ∀ o : xO, xGo (xCall d) (xW d cd Q) Q o → ∃ n, xGo (xCall d) (fun S => xWp d (xCall d) cd Q n S.1 S.2.1 S.2.2.1 S.2.2.2) Q o
  | .inl s, h => h
  | .inr (.inl (p, s)), h => by
    obtain ⟨n, hn⟩ := h.2
    exact ⟨n, h.1, hn⟩
  | .inr (.inr (.inl (c, x, y, s, t))), h => by
    rcases xT_or c x y with q | q
    · obtain ⟨n, hn⟩ := h.1 q
      exact ⟨n, fun _ => hn, fun z => absurd ⟨q, z⟩ (xT_not c x y)⟩
    · obtain ⟨n, hn⟩ := h.2 q
      exact ⟨n, fun z => absurd ⟨z, q⟩ (xT_not c x y), fun _ => hn⟩
  | .inr (.inr (.inr (.inl (p, j, as, H, f)))), h => by
    obtain ⟨h1, h2⟩ := h
    obtain ⟨r, H', ⟨n, hn⟩, -, q⟩ := (xCall_md d).2 _ _ _ _ h2
    refine ⟨n, h1, (xCall_md d).1 _ _ _ _ _ (fun r2 H2 e => ?_) q⟩
    rw [e.1, e.2]
    exact hn
  | .inr (.inr (.inr (.inr (.inl (p, x, H))))), h => ⟨0, h⟩
  | .inr (.inr (.inr (.inr (.inr (x, lo, ts, t))))), h => by
    by_cases q : x < lo ∨ lo + (ts.length : Int) ≤ x
    · obtain ⟨n, hn⟩ := h.2 q
      exact ⟨n, xSw_no q, fun _ => hn⟩
    · have hl : (x - lo).toNat < ts.length := by omega
      have hu : ts[(x - lo).toNat]? = some (ts[(x - lo).toNat]) := List.getElem?_eq_getElem hl
      obtain ⟨n, hn⟩ := xSw_get _ _ hu (by omega) h.1
      exact ⟨n, xSw_one _ _ hu (by omega) hn, fun z => absurd z q⟩
theorem xW_step {d : Nat} {cd : List Instr} {Q : Int → xH → Prop} {pc : Nat} {L st : List xV} {M : xH} (h : xGo (xCall d) (xW d cd Q) Q (xNext d (cd.getD pc .nop) pc L st M)) : xW d cd Q (pc, L, st, M) := by
  obtain ⟨n, hn⟩ := xGo_ex _ h
  exact ⟨n + 1, hn⟩
/-- k instructions at most, up to a cut -/
def xWc (d : Nat) (cd : List Instr) (Q : Int → xH → Prop) (cuts : List Nat) : Nat → Nat → List xV → List xV → xH → Prop
  | 0, pc, L, st, M => xW d cd Q (pc, L, st, M)
  | k + 1, pc, L, st, M => xGo (xCall d) (fun S => match cuts.contains S.1 with | true => xW d cd Q S | false => xWc d cd Q cuts k S.1 S.2.1 S.2.2.1 S.2.2.2) Q (xNext d (cd.getD pc .nop) pc L st M)
theorem xWc_ok {d : Nat} {cd : List Instr} {Q : Int → xH → Prop} (cuts : List Nat) : ∀ (k : Nat) {pc : Nat} {L st : List xV} {M : xH}, xWc d cd Q cuts k pc L st M → xW d cd Q (pc, L, st, M)
  | 0, _, _, _, _, h => h
  | k + 1, pc, L, st, M, h => xW_step (xGo_mono (xCall_md d).1 (fun S hS => by
      have hS : (match cuts.contains S.1 with | true => xW d cd Q S | false => xWc d cd Q cuts k S.1 S.2.1 S.2.2.1 S.2.2.2) := hS
      split at hS
      · exact hS
      · exact xWc_ok cuts k hS) (fun _ _ q => q) _ h)
theorem xC_of {d j : Nat} {as : List xV} {M : xH} {Q : Int → xH → Prop} {L : List xV} {cd : List Instr} (hb : Nat.ble (xFlat as).length (xM j).2.2.1 = true) (hc : xCode j = cd) (hL : xEntry (xM j).2.2.1 as = L) (h : xW d cd Q (0, L, [], M)) : xCall (d + 1) j as M Q := by
  subst hc
  subst hL
  exact ⟨hb, h⟩
theorem xC_mono {d j : Nat} {as : List xV} {M : xH} {Q Q' : Int → xH → Prop} (h : xCall d j as M Q) (hQ : ∀ r H, Q r H → Q' r H) : xCall d j as M Q' := (xCall_md d).1 _ _ _ _ _ hQ h
end
section
/-! words for contracts: numbers, memory, the reference's object -/
theorem w32_id {x : Int} (h : -2147483648 ≤ x ∧ x < 2147483648) : w32 x = x := w32_eq h
theorem w64_id {x : Int} (h : -9223372036854775808 ≤ x ∧ x < 9223372036854775808) : w64 x = x := w64_eq h
theorem w32_td {x k : Int} (h : -2147483648 < x ∧ x < 2147483648 ∧ 0 < k) : w32 (x.tdiv k) = x.tdiv k := by
  refine w32_eq ?_
  show (-2147483648 : Int) ≤ x.tdiv k ∧ x.tdiv k < 2147483648
  rcases Int.le_total 0 x with hx | hx
  · have h1 := Int.tdiv_nonneg hx (Int.le_of_lt h.2.2)
    have h2 : x.tdiv k ≤ x := by rw [Int.tdiv_eq_ediv_of_nonneg hx]; exact Int.ediv_le_self k hx
    omega
  · have h1 := Int.tdiv_nonneg (a := -x) (by omega) (Int.le_of_lt h.2.2)
    have h2 : (-x).tdiv k ≤ -x := by rw [Int.tdiv_eq_ediv_of_nonneg (by omega)]; exact Int.ediv_le_self k (by omega)
    have e : (-x).tdiv k = -(x.tdiv k) := Int.neg_tdiv x k
    omega
theorem w32_td1 {x k : Int} (h : -2147483648 < x ∧ x < 2147483647 ∧ 0 < k) : w32 (x.tdiv k + 1) = x.tdiv k + 1 := by
  refine w32_eq ?_
  show (-2147483648 : Int) ≤ x.tdiv k + 1 ∧ x.tdiv k + 1 < 2147483648
  rcases Int.le_total 0 x with hx | hx
  · have h1 := Int.tdiv_nonneg hx (Int.le_of_lt h.2.2)
    have h2 : x.tdiv k ≤ x := by rw [Int.tdiv_eq_ediv_of_nonneg hx]; exact Int.ediv_le_self k hx
    omega
  · have h1 := Int.tdiv_nonneg (a := -x) (by omega) (Int.le_of_lt h.2.2)
    have h2 : (-x).tdiv k ≤ -x := by rw [Int.tdiv_eq_ediv_of_nonneg (by omega)]; exact Int.ediv_le_self k (by omega)
    have e : (-x).tdiv k = -(x.tdiv k) := Int.neg_tdiv x k
    omega
theorem xLcmp_lt {x y : Int} : (xLcmp x y < 0) = (x < y) := by
  unfold xLcmp; by_cases h : x < y
  · simp [h]
  · by_cases h2 : x = y
    · simp [h, h2]
    · simp only [h, h2, if_false]; simp
theorem xLcmp_ge {x y : Int} : (0 ≤ xLcmp x y) = (y ≤ x) := by
  have := @xLcmp_lt x y; simp only [eq_iff_iff] at this ⊢; omega
theorem xLcmp_gt {x y : Int} : (0 < xLcmp x y) = (y < x) := by
  unfold xLcmp; simp only [eq_iff_iff]
  by_cases h : x < y
  · simp only [h, if_true]; omega
  · by_cases h2 : x = y
    · simp only [h2, if_true]; split <;> omega
    · simp only [h, h2, if_false]; omega
theorem xLcmp_le {x y : Int} : (xLcmp x y ≤ 0) = (x ≤ y) := by
  have := @xLcmp_gt x y; simp only [eq_iff_iff] at this ⊢; omega
theorem xLcmp_eq {x y : Int} : (xLcmp x y = 0) = (x = y) := by
  have h1 := @xLcmp_gt x y; have h2 := @xLcmp_lt x y; simp only [eq_iff_iff] at h1 h2 ⊢; omega
theorem xLcmp_ne {x y : Int} : (xLcmp x y ≠ 0) = (x ≠ y) := by
  have h := @xLcmp_eq x y; simp only [ne_eq, h]
theorem yU_a {D : xD} {a i v b : Int} (h : b ≠ a) : xUp D a i v b = D b := by
  funext j; unfold xUp; rw [if_neg]; intro e; exact h e.1
theorem yU_i {D : xD} {a i v j : Int} (h : j ≠ i) : xUp D a i v a j = D a j := by
  unfold xUp; rw [if_neg]; intro e; exact h e.2
theorem yU_s {D : xD} {a i v : Int} : xUp D a i v a i = v := by
  unfold xUp; rw [if_pos ⟨rfl, rfl⟩]
def xB (p : Prop) [Decidable p] : Int := if p then 1 else 0
theorem xB_1 {p : Prop} [Decidable p] (h : p) : xB p = 1 := if_pos h
theorem xB_0 {p : Prop} [Decidable p] (h : ¬ p) : xB p = 0 := if_neg h
theorem xB_ne {p : Prop} [Decidable p] : (xB p ≠ 0) = p := by
  unfold xB; by_cases h : p <;> simp [h]
theorem xB_eq {p : Prop} [Decidable p] : (xB p = 0) = ¬ p := by
  unfold xB; by_cases h : p <;> simp [h]
theorem xB_in {p : Prop} [Decidable p] : xB p = 0 ∨ xB p = 1 := by
  unfold xB; by_cases h : p <;> simp [h]
theorem xE1 {d : Nat} {k : Nat} (h : k + 1 ≤ d) : ∃ e, d = e + 1 ∧ k ≤ e := ⟨d - 1, by omega, by omega⟩
/-- p, as 0 or 1, is what is answered -/
theorem xB_q {p : Prop} [Decidable p] {Q : Int → Prop} (h : Q (xB p)) : (p → Q 1) ∧ (¬ p → Q 0) := ⟨fun e => xB_1 e ▸ h, fun e => xB_0 e ▸ h⟩
abbrev xT2 : Type := (Int → Int) × (Int → Int) × Nat × Nat

def xTm (T : xT2) : Prop := T.1 183 = 12 ∧ T.1 184 = 20 ∧ T.2.1 184 = 196 ∧ T.1 185 = 20 ∧ T.2.1 185 = 588 ∧ T.1 186 = 22 ∧ T.2.1 186 = 3 ∧ T.1 187 = 21 ∧ T.2.1 187 = 1600 ∧ T.1 188 = 20 ∧ T.2.1 188 = 5 ∧ T.1 189 = 20 ∧ T.2.1 189 = 196 ∧ T.1 190 = 20 ∧ T.2.1 190 = 16 ∧ T.1 191 = 20 ∧ T.2.1 191 = 4800 ∧ T.1 192 = 20 ∧ T.2.1 192 = 8 ∧ T.1 193 = 20 ∧ T.2.1 193 = 976 ∧ T.1 194 = 22 ∧ T.2.1 194 = 2048 ∧ T.1 195 = 20 ∧ T.2.1 195 = 93696 ∧ T.1 196 = 20 ∧ T.2.1 196 = 93696 ∧ T.1 197 = 20 ∧ T.2.1 197 = 93696 ∧ T.1 198 = 20 ∧ T.2.1 198 = 8 ∧ T.1 199 = 20 ∧ T.2.1 199 = 93696 ∧ T.1 200 = 20 ∧ T.2.1 200 = 505 ∧ T.1 201 = 20 ∧ T.2.1 201 = 505 ∧ T.1 202 = 20 ∧ T.2.1 202 = 5 ∧ T.1 203 = 20 ∧ T.2.1 203 = 5 ∧ T.1 204 = 20 ∧ T.2.1 204 = 3904 ∧ T.1 205 = 20 ∧ T.2.1 205 = 8 ∧ T.1 206 = 20 ∧ T.2.1 206 = 4 ∧ T.1 207 = 20 ∧ T.2.1 207 = 4 ∧ T.1 208 = 23 ∧ T.2.1 208 = 240 ∧ T.1 209 = 23 ∧ T.2.1 209 = 60
theorem k_self {T : xT2} (h : xTm T) : T.1 183 = 12 := h.1
theorem k_world {T : xT2} (h : xTm T) : T.1 184 = 20 := h.2.1
theorem n_world {T : xT2} (h : xTm T) : T.2.1 184 = 196 := h.2.2.1
theorem k_images {T : xT2} (h : xTm T) : T.1 185 = 20 := h.2.2.2.1
theorem n_images {T : xT2} (h : xTm T) : T.2.1 185 = 588 := h.2.2.2.2.1
theorem k_hasImage {T : xT2} (h : xTm T) : T.1 186 = 22 := h.2.2.2.2.2.1
theorem n_hasImage {T : xT2} (h : xTm T) : T.2.1 186 = 3 := h.2.2.2.2.2.2.1
theorem k_tape {T : xT2} (h : xTm T) : T.1 187 = 21 := h.2.2.2.2.2.2.2.1
theorem n_tape {T : xT2} (h : xTm T) : T.2.1 187 = 1600 := h.2.2.2.2.2.2.2.2.1
theorem k_five {T : xT2} (h : xTm T) : T.1 188 = 20 := h.2.2.2.2.2.2.2.2.2.1
theorem n_five {T : xT2} (h : xTm T) : T.2.1 188 = 5 := h.2.2.2.2.2.2.2.2.2.2.1
theorem k_fresh {T : xT2} (h : xTm T) : T.1 189 = 20 := h.2.2.2.2.2.2.2.2.2.2.2.1
theorem n_fresh {T : xT2} (h : xTm T) : T.2.1 189 = 196 := h.2.2.2.2.2.2.2.2.2.2.2.2.1
theorem k_wayMany {T : xT2} (h : xTm T) : T.1 190 = 20 := h.2.2.2.2.2.2.2.2.2.2.2.2.2.1
theorem n_wayMany {T : xT2} (h : xTm T) : T.2.1 190 = 16 := h.2.2.2.2.2.2.2.2.2.2.2.2.2.2.1
theorem k_ways {T : xT2} (h : xTm T) : T.1 191 = 20 := h.2.2.2.2.2.2.2.2.2.2.2.2.2.2.2.1
theorem n_ways {T : xT2} (h : xTm T) : T.2.1 191 = 4800 := h.2.2.2.2.2.2.2.2.2.2.2.2.2.2.2.2.1
theorem k_highest {T : xT2} (h : xTm T) : T.1 192 = 20 := h.2.2.2.2.2.2.2.2.2.2.2.2.2.2.2.2.2.1
theorem n_highest {T : xT2} (h : xTm T) : T.2.1 192 = 8 := h.2.2.2.2.2.2.2.2.2.2.2.2.2.2.2.2.2.2.1
theorem k_landable {T : xT2} (h : xTm T) : T.1 193 = 20 := h.2.2.2.2.2.2.2.2.2.2.2.2.2.2.2.2.2.2.2.1
theorem n_landable {T : xT2} (h : xTm T) : T.2.1 193 = 976 := h.2.2.2.2.2.2.2.2.2.2.2.2.2.2.2.2.2.2.2.2.1
theorem k_streets {T : xT2} (h : xTm T) : T.1 194 = 22 := h.2.2.2.2.2.2.2.2.2.2.2.2.2.2.2.2.2.2.2.2.2.1
theorem n_streets {T : xT2} (h : xTm T) : T.2.1 194 = 2048 := h.2.2.2.2.2.2.2.2.2.2.2.2.2.2.2.2.2.2.2.2.2.2.1
theorem k_worths {T : xT2} (h : xTm T) : T.1 195 = 20 := h.2.2.2.2.2.2.2.2.2.2.2.2.2.2.2.2.2.2.2.2.2.2.2.1
theorem n_worths {T : xT2} (h : xTm T) : T.2.1 195 = 93696 := h.2.2.2.2.2.2.2.2.2.2.2.2.2.2.2.2.2.2.2.2.2.2.2.2.1
theorem k_deeds {T : xT2} (h : xTm T) : T.1 196 = 20 := h.2.2.2.2.2.2.2.2.2.2.2.2.2.2.2.2.2.2.2.2.2.2.2.2.2.1
theorem n_deeds {T : xT2} (h : xTm T) : T.2.1 196 = 93696 := h.2.2.2.2.2.2.2.2.2.2.2.2.2.2.2.2.2.2.2.2.2.2.2.2.2.2.1
theorem k_homes {T : xT2} (h : xTm T) : T.1 197 = 20 := h.2.2.2.2.2.2.2.2.2.2.2.2.2.2.2.2.2.2.2.2.2.2.2.2.2.2.2.1
theorem n_homes {T : xT2} (h : xTm T) : T.2.1 197 = 93696 := h.2.2.2.2.2.2.2.2.2.2.2.2.2.2.2.2.2.2.2.2.2.2.2.2.2.2.2.2.1
theorem k_fastTo {T : xT2} (h : xTm T) : T.1 198 = 20 := h.2.2.2.2.2.2.2.2.2.2.2.2.2.2.2.2.2.2.2.2.2.2.2.2.2.2.2.2.2.1
theorem n_fastTo {T : xT2} (h : xTm T) : T.2.1 198 = 8 := h.2.2.2.2.2.2.2.2.2.2.2.2.2.2.2.2.2.2.2.2.2.2.2.2.2.2.2.2.2.2.1
theorem k_ends {T : xT2} (h : xTm T) : T.1 199 = 20 := h.2.2.2.2.2.2.2.2.2.2.2.2.2.2.2.2.2.2.2.2.2.2.2.2.2.2.2.2.2.2.2.1
theorem n_ends {T : xT2} (h : xTm T) : T.2.1 199 = 93696 := h.2.2.2.2.2.2.2.2.2.2.2.2.2.2.2.2.2.2.2.2.2.2.2.2.2.2.2.2.2.2.2.2.1
theorem k_flights {T : xT2} (h : xTm T) : T.1 200 = 20 := h.2.2.2.2.2.2.2.2.2.2.2.2.2.2.2.2.2.2.2.2.2.2.2.2.2.2.2.2.2.2.2.2.2.1
theorem n_flights {T : xT2} (h : xTm T) : T.2.1 200 = 505 := h.2.2.2.2.2.2.2.2.2.2.2.2.2.2.2.2.2.2.2.2.2.2.2.2.2.2.2.2.2.2.2.2.2.2.1
theorem k_toldFlight {T : xT2} (h : xTm T) : T.1 201 = 20 := h.2.2.2.2.2.2.2.2.2.2.2.2.2.2.2.2.2.2.2.2.2.2.2.2.2.2.2.2.2.2.2.2.2.2.2.1
theorem n_toldFlight {T : xT2} (h : xTm T) : T.2.1 201 = 505 := h.2.2.2.2.2.2.2.2.2.2.2.2.2.2.2.2.2.2.2.2.2.2.2.2.2.2.2.2.2.2.2.2.2.2.2.2.1
theorem k_toldEnd {T : xT2} (h : xTm T) : T.1 202 = 20 := h.2.2.2.2.2.2.2.2.2.2.2.2.2.2.2.2.2.2.2.2.2.2.2.2.2.2.2.2.2.2.2.2.2.2.2.2.2.1
theorem n_toldEnd {T : xT2} (h : xTm T) : T.2.1 202 = 5 := h.2.2.2.2.2.2.2.2.2.2.2.2.2.2.2.2.2.2.2.2.2.2.2.2.2.2.2.2.2.2.2.2.2.2.2.2.2.2.1
theorem k_spreads {T : xT2} (h : xTm T) : T.1 203 = 20 := h.2.2.2.2.2.2.2.2.2.2.2.2.2.2.2.2.2.2.2.2.2.2.2.2.2.2.2.2.2.2.2.2.2.2.2.2.2.2.2.1
theorem n_spreads {T : xT2} (h : xTm T) : T.2.1 203 = 5 := h.2.2.2.2.2.2.2.2.2.2.2.2.2.2.2.2.2.2.2.2.2.2.2.2.2.2.2.2.2.2.2.2.2.2.2.2.2.2.2.2.1
theorem k_left {T : xT2} (h : xTm T) : T.1 204 = 20 := h.2.2.2.2.2.2.2.2.2.2.2.2.2.2.2.2.2.2.2.2.2.2.2.2.2.2.2.2.2.2.2.2.2.2.2.2.2.2.2.2.2.1
theorem n_left {T : xT2} (h : xTm T) : T.2.1 204 = 3904 := h.2.2.2.2.2.2.2.2.2.2.2.2.2.2.2.2.2.2.2.2.2.2.2.2.2.2.2.2.2.2.2.2.2.2.2.2.2.2.2.2.2.2.1
theorem k_pointBit {T : xT2} (h : xTm T) : T.1 205 = 20 := h.2.2.2.2.2.2.2.2.2.2.2.2.2.2.2.2.2.2.2.2.2.2.2.2.2.2.2.2.2.2.2.2.2.2.2.2.2.2.2.2.2.2.2.1
theorem n_pointBit {T : xT2} (h : xTm T) : T.2.1 205 = 8 := h.2.2.2.2.2.2.2.2.2.2.2.2.2.2.2.2.2.2.2.2.2.2.2.2.2.2.2.2.2.2.2.2.2.2.2.2.2.2.2.2.2.2.2.2.1
theorem k_many {T : xT2} (h : xTm T) : T.1 206 = 20 := h.2.2.2.2.2.2.2.2.2.2.2.2.2.2.2.2.2.2.2.2.2.2.2.2.2.2.2.2.2.2.2.2.2.2.2.2.2.2.2.2.2.2.2.2.2.1
theorem n_many {T : xT2} (h : xTm T) : T.2.1 206 = 4 := h.2.2.2.2.2.2.2.2.2.2.2.2.2.2.2.2.2.2.2.2.2.2.2.2.2.2.2.2.2.2.2.2.2.2.2.2.2.2.2.2.2.2.2.2.2.2.1
theorem k_width {T : xT2} (h : xTm T) : T.1 207 = 20 := h.2.2.2.2.2.2.2.2.2.2.2.2.2.2.2.2.2.2.2.2.2.2.2.2.2.2.2.2.2.2.2.2.2.2.2.2.2.2.2.2.2.2.2.2.2.2.2.1
theorem n_width {T : xT2} (h : xTm T) : T.2.1 207 = 4 := h.2.2.2.2.2.2.2.2.2.2.2.2.2.2.2.2.2.2.2.2.2.2.2.2.2.2.2.2.2.2.2.2.2.2.2.2.2.2.2.2.2.2.2.2.2.2.2.2.1
theorem k_numbers {T : xT2} (h : xTm T) : T.1 208 = 23 := h.2.2.2.2.2.2.2.2.2.2.2.2.2.2.2.2.2.2.2.2.2.2.2.2.2.2.2.2.2.2.2.2.2.2.2.2.2.2.2.2.2.2.2.2.2.2.2.2.2.1
theorem n_numbers {T : xT2} (h : xTm T) : T.2.1 208 = 240 := h.2.2.2.2.2.2.2.2.2.2.2.2.2.2.2.2.2.2.2.2.2.2.2.2.2.2.2.2.2.2.2.2.2.2.2.2.2.2.2.2.2.2.2.2.2.2.2.2.2.2.1
theorem k_moving {T : xT2} (h : xTm T) : T.1 209 = 23 := h.2.2.2.2.2.2.2.2.2.2.2.2.2.2.2.2.2.2.2.2.2.2.2.2.2.2.2.2.2.2.2.2.2.2.2.2.2.2.2.2.2.2.2.2.2.2.2.2.2.2.2.1
theorem n_moving {T : xT2} (h : xTm T) : T.2.1 209 = 60 := h.2.2.2.2.2.2.2.2.2.2.2.2.2.2.2.2.2.2.2.2.2.2.2.2.2.2.2.2.2.2.2.2.2.2.2.2.2.2.2.2.2.2.2.2.2.2.2.2.2.2.2.2
def xPm (D : xD) : Prop := D 183 1 = 184 ∧ D 183 2 = 185 ∧ D 183 3 = 186 ∧ D 183 4 = 187 ∧ D 183 6 = 188 ∧ D 183 14 = 189 ∧ D 183 20 = 190 ∧ D 183 21 = 191 ∧ D 183 23 = 192 ∧ D 183 24 = 193 ∧ D 183 25 = 194 ∧ D 183 26 = 195 ∧ D 183 27 = 196 ∧ D 183 28 = 197 ∧ D 183 30 = 198 ∧ D 183 31 = 199 ∧ D 183 39 = 200 ∧ D 183 41 = 201 ∧ D 183 42 = 202 ∧ D 183 45 = 203 ∧ D 183 46 = 204 ∧ D 183 47 = 205 ∧ D 183 49 = 206 ∧ D 183 50 = 207 ∧ D 183 51 = 208 ∧ D 183 52 = 209
theorem p_world {D : xD} (h : xPm D) : D 183 1 = 184 := h.1
theorem p_images {D : xD} (h : xPm D) : D 183 2 = 185 := h.2.1
theorem p_hasImage {D : xD} (h : xPm D) : D 183 3 = 186 := h.2.2.1
theorem p_tape {D : xD} (h : xPm D) : D 183 4 = 187 := h.2.2.2.1
theorem p_five {D : xD} (h : xPm D) : D 183 6 = 188 := h.2.2.2.2.1
theorem p_fresh {D : xD} (h : xPm D) : D 183 14 = 189 := h.2.2.2.2.2.1
theorem p_wayMany {D : xD} (h : xPm D) : D 183 20 = 190 := h.2.2.2.2.2.2.1
theorem p_ways {D : xD} (h : xPm D) : D 183 21 = 191 := h.2.2.2.2.2.2.2.1
theorem p_highest {D : xD} (h : xPm D) : D 183 23 = 192 := h.2.2.2.2.2.2.2.2.1
theorem p_landable {D : xD} (h : xPm D) : D 183 24 = 193 := h.2.2.2.2.2.2.2.2.2.1
theorem p_streets {D : xD} (h : xPm D) : D 183 25 = 194 := h.2.2.2.2.2.2.2.2.2.2.1
theorem p_worths {D : xD} (h : xPm D) : D 183 26 = 195 := h.2.2.2.2.2.2.2.2.2.2.2.1
theorem p_deeds {D : xD} (h : xPm D) : D 183 27 = 196 := h.2.2.2.2.2.2.2.2.2.2.2.2.1
theorem p_homes {D : xD} (h : xPm D) : D 183 28 = 197 := h.2.2.2.2.2.2.2.2.2.2.2.2.2.1
theorem p_fastTo {D : xD} (h : xPm D) : D 183 30 = 198 := h.2.2.2.2.2.2.2.2.2.2.2.2.2.2.1
theorem p_ends {D : xD} (h : xPm D) : D 183 31 = 199 := h.2.2.2.2.2.2.2.2.2.2.2.2.2.2.2.1
theorem p_flights {D : xD} (h : xPm D) : D 183 39 = 200 := h.2.2.2.2.2.2.2.2.2.2.2.2.2.2.2.2.1
theorem p_toldFlight {D : xD} (h : xPm D) : D 183 41 = 201 := h.2.2.2.2.2.2.2.2.2.2.2.2.2.2.2.2.2.1
theorem p_toldEnd {D : xD} (h : xPm D) : D 183 42 = 202 := h.2.2.2.2.2.2.2.2.2.2.2.2.2.2.2.2.2.2.1
theorem p_spreads {D : xD} (h : xPm D) : D 183 45 = 203 := h.2.2.2.2.2.2.2.2.2.2.2.2.2.2.2.2.2.2.2.1
theorem p_left {D : xD} (h : xPm D) : D 183 46 = 204 := h.2.2.2.2.2.2.2.2.2.2.2.2.2.2.2.2.2.2.2.2.1
theorem p_pointBit {D : xD} (h : xPm D) : D 183 47 = 205 := h.2.2.2.2.2.2.2.2.2.2.2.2.2.2.2.2.2.2.2.2.2.1
theorem p_many {D : xD} (h : xPm D) : D 183 49 = 206 := h.2.2.2.2.2.2.2.2.2.2.2.2.2.2.2.2.2.2.2.2.2.2.1
theorem p_width {D : xD} (h : xPm D) : D 183 50 = 207 := h.2.2.2.2.2.2.2.2.2.2.2.2.2.2.2.2.2.2.2.2.2.2.2.1
theorem p_numbers {D : xD} (h : xPm D) : D 183 51 = 208 := h.2.2.2.2.2.2.2.2.2.2.2.2.2.2.2.2.2.2.2.2.2.2.2.2.1
theorem p_moving {D : xD} (h : xPm D) : D 183 52 = 209 := h.2.2.2.2.2.2.2.2.2.2.2.2.2.2.2.2.2.2.2.2.2.2.2.2.2
end
section
/-! the reference: small things that only look -/
-- m.in
theorem sg_188_0 {d : Nat} {Q : Int → xH → Prop} {v0 v2 v4 : Int} {M : xH} (h :
    (xLcmp v0 v2 < 0 →
      ((0 : Int) = 0 ∨ (0 : Int) = 1) ∧ Q 0 M) ∧
    (0 ≤ xLcmp v0 v2 →
      (0 < xLcmp v0 v4 →
        ((0 : Int) = 0 ∨ (0 : Int) = 1) ∧ Q 0 M) ∧
      (xLcmp v0 v4 ≤ 0 →
        ((1 : Int) = 0 ∨ (1 : Int) = 1) ∧ Q 1 M))) :
    xW d cd_188 Q (0, [(1, v0), (9, 0), (1, v2), (9, 0), (1, v4), (9, 0)], [], M) := xWc_ok [] 11 h
-- m.holds
theorem sg_189_0 {d : Nat} {Q : Int → xH → Prop} {v0 v1 : Int} {M : xH} (h :
    (xAnd (xShr v0 v1) 1 ≠ 1 →
      ((0 : Int) = 0 ∨ (0 : Int) = 1) ∧ Q 0 M) ∧
    (xAnd (xShr v0 v1) 1 = 1 →
      ((1 : Int) = 0 ∨ (1 : Int) = 1) ∧ Q 1 M)) :
    xW d cd_189 Q (0, [(0, v0), (0, v1)], [], M) := xWc_ok [] 10 h
-- m.ofPlace
theorem sg_195_0 {d : Nat} {Q : Int → xH → Prop} {v0 v1 v2 : Int} {M : xH} (h :
    M.2.1 v0 = 12 ∧ (M.2.1 (M.1 v0 1) = 20 ∧ (0 : Int) ≤ w32 ((w32 (20 + (w32 (8 * v1)))) + v2) ∧ w32 ((w32 (20 + (w32 (8 * v1)))) + v2) < M.2.2.1 (M.1 v0 1)) ∧ True ∧ Q (M.1 (M.1 v0 1) (w32 ((w32 (20 + (w32 (8 * v1)))) + v2))) M) :
    xW d cd_195 Q (0, [(2, v0), (0, v1), (0, v2)], [], M) := xWc_ok [] 11 h
-- m.ofLeg
theorem sg_196_0 {d : Nat} {Q : Int → xH → Prop} {v0 v1 v2 : Int} {M : xH} (h :
    M.2.1 v0 = 12 ∧ (M.2.1 (M.1 v0 1) = 20 ∧ (0 : Int) ≤ w32 ((w32 (84 + (w32 (6 * v1)))) + v2) ∧ w32 ((w32 (84 + (w32 (6 * v1)))) + v2) < M.2.2.1 (M.1 v0 1)) ∧ True ∧ Q (M.1 (M.1 v0 1) (w32 ((w32 (84 + (w32 (6 * v1)))) + v2))) M) :
    xW d cd_196 Q (0, [(2, v0), (0, v1), (0, v2)], [], M) := xWc_ok [] 11 h
-- m.isPlace
theorem sg_194_0 {d : Nat} {Q : Int → xH → Prop} {v0 v1 : Int} {M : xH} (h :
    M.2.1 v0 = 12 ∧ (M.2.1 (M.1 v0 1) = 20 ∧ (0 : Int) ≤ 1 ∧ 1 < M.2.2.1 (M.1 v0 1)) ∧ True ∧ xCall d 188 [(1, v1), (1, 0), (1, w32 ((M.1 (M.1 v0 1) 1) - 1))] M (fun r1 H1 =>
      (r1 = 0 ∨ r1 = 1) ∧ Q r1 H1)) :
    xW d cd_194 Q (0, [(2, v0), (0, v1)], [], M) := xWc_ok [] 12 h
-- m.isLeg
theorem sg_221_0 {d : Nat} {Q : Int → xH → Prop} {v0 v1 : Int} {M : xH} (h :
    M.2.1 v0 = 12 ∧ (M.2.1 (M.1 v0 1) = 20 ∧ (0 : Int) ≤ 2 ∧ 2 < M.2.2.1 (M.1 v0 1)) ∧ True ∧ xCall d 188 [(1, v1), (1, 0), (1, w32 ((M.1 (M.1 v0 1) 2) - 1))] M (fun r1 H1 =>
      (r1 = 0 ∨ r1 = 1) ∧ Q r1 H1)) :
    xW d cd_221 Q (0, [(2, v0), (0, v1)], [], M) := xWc_ok [] 12 h
-- m.isSpeed
theorem sg_222_0 {d : Nat} {Q : Int → xH → Prop} {v0 v1 : Int} {M : xH} (h :
    M.2.1 v0 = 12 ∧ (M.2.1 (M.1 v0 1) = 20 ∧ (0 : Int) ≤ 3 ∧ 3 < M.2.2.1 (M.1 v0 1)) ∧ True ∧ xCall d 188 [(1, v1), (1, 0), (1, w32 ((M.1 (M.1 v0 1) 3) - 1))] M (fun r1 H1 =>
      (r1 = 0 ∨ r1 = 1) ∧ Q r1 H1)) :
    xW d cd_222 Q (0, [(2, v0), (0, v1)], [], M) := xWc_ok [] 12 h
-- m.isRule
theorem sg_262_0 {d : Nat} {Q : Int → xH → Prop} {v0 : Int} {M : xH} (h :
    True ∧ xCall d 188 [(1, v0), (1, 0), (1, 3)] M (fun r1 H1 =>
      (r1 = 0 ∨ r1 = 1) ∧ Q r1 H1)) :
    xW d cd_262 Q (0, [(0, v0)], [], M) := xWc_ok [] 6 h
-- m.isClimb
theorem sg_249_0 {d : Nat} {Q : Int → xH → Prop} {v0 : Int} {M : xH} (h :
    True ∧ xCall d 188 [(1, v0), (1, 1), (1, 2000)] M (fun r1 H1 =>
      (r1 = 0 ∨ r1 = 1) ∧ Q r1 H1)) :
    xW d cd_249 Q (0, [(0, v0)], [], M) := xWc_ok [] 6 h
-- m.isSlot
theorem sg_314_0 {d : Nat} {Q : Int → xH → Prop} {v0 : Int} {M : xH} (h :
    True ∧ xCall d 188 [(1, v0), (1, 0), (1, 3)] M (fun r1 H1 =>
      (r1 = 0 ∨ r1 = 1) ∧ Q r1 H1)) :
    xW d cd_314 Q (0, [(0, v0)], [], M) := xWc_ok [] 6 h
-- m.bit
theorem sg_264_0 {d : Nat} {Q : Int → xH → Prop} {v0 : Int} {M : xH} (h :
    (v0 = 0 →
      True ∧ Q 0 M) ∧
    (v0 ≠ 0 →
      True ∧ Q 1 M)) :
    xW d cd_264 Q (0, [(0, v0)], [], M) := xWc_ok [] 5 h
-- m.hasStart
theorem sg_268_0 {d : Nat} {Q : Int → xH → Prop} {v0 : Int} {M : xH} (h :
    M.2.1 v0 = 12 ∧ (M.2.1 (M.1 v0 1) = 20 ∧ (0 : Int) ≤ 12 ∧ 12 < M.2.2.1 (M.1 v0 1)) ∧ (M.1 (M.1 v0 1) 12 = (-1) →
      ((0 : Int) = 0 ∨ (0 : Int) = 1) ∧ Q 0 M) ∧
    (M.1 (M.1 v0 1) 12 ≠ (-1) →
      ((1 : Int) = 0 ∨ (1 : Int) = 1) ∧ Q 1 M)) :
    xW d cd_268 Q (0, [(2, v0)], [], M) := xWc_ok [] 9 h
-- m.startWet
theorem sg_269_0 {d : Nat} {Q : Int → xH → Prop} {v0 : Int} {M : xH} (h :
    M.2.1 v0 = 12 ∧ (M.2.1 (M.1 v0 1) = 20 ∧ (0 : Int) ≤ 14 ∧ 14 < M.2.2.1 (M.1 v0 1)) ∧ (M.1 (M.1 v0 1) 14 ≠ 1 →
      True ∧ Q 0 M) ∧
    (M.1 (M.1 v0 1) 14 = 1 →
      M.2.1 v0 = 12 ∧ (M.2.1 (M.1 v0 1) = 20 ∧ (0 : Int) ≤ 6 ∧ 6 < M.2.2.1 (M.1 v0 1)) ∧ (M.1 (M.1 v0 1) 6 ≤ 0 →
        True ∧ Q 0 M) ∧
      (0 < M.1 (M.1 v0 1) 6 →
        True ∧ Q 1 M))) :
    xW d cd_269 Q (0, [(2, v0)], [], M) := xWc_ok [] 14 h
-- m.spot
theorem sg_302_0 {d : Nat} {Q : Int → xH → Prop} {v0 v1 v2 : Int} {M : xH} (h :
    True ∧ Q (w32 ((w32 ((w32 ((w32 (8 * v0)) + v1)) * 61)) + v2)) M) :
    xW d cd_302 Q (0, [(0, v0), (0, v1), (0, v2)], [], M) := xWc_ok [] 10 h
-- m.state
theorem sg_254_0 {d : Nat} {Q : Int → xH → Prop} {v0 v1 v2 v3 v4 : Int} {M : xH} (h :
    True ∧ Q (w32 ((w32 ((w32 ((w32 ((w32 ((w32 ((w32 (61 * v0)) + v1)) * 48)) + v2)) * 4)) + (w32 (2 * v3)))) + v4)) M) :
    xW d cd_254 Q (0, [(0, v0), (0, v1), (0, v2), (0, v3), (0, v4)], [], M) := xWc_ok [] 18 h
-- m.good
theorem sg_201_0 {d : Nat} {Q : Int → xH → Prop} {v0 : Int} {M : xH} (h :
    M.2.1 v0 = 12 ∧ (M.1 v0 12 ≠ 0 →
      ((0 : Int) = 0 ∨ (0 : Int) = 1) ∧ Q 0 M) ∧
    (M.1 v0 12 = 0 →
      ((1 : Int) = 0 ∨ (1 : Int) = 1) ∧ Q 1 M)) :
    xW d cd_201 Q (0, [(2, v0)], [], M) := xWc_ok [] 6 h
-- m.see
theorem sg_199_0 {d : Nat} {Q : Int → xH → Prop} {v0 v1 : Int} {M : xH} (h :
    M.2.1 v0 = 12 ∧ (M.1 v0 7 ≤ v1 →
      True ∧ Q (-1) M) ∧
    (v1 < M.1 v0 7 →
      M.2.1 v0 = 12 ∧ (M.2.1 (M.1 v0 4) = 21 ∧ (0 : Int) ≤ v1 ∧ v1 < M.2.2.1 (M.1 v0 4)) ∧ True ∧ Q (xAnd (M.1 (M.1 v0 4) v1) 255) M)) :
    xW d cd_199 Q (0, [(2, v0), (0, v1)], [], M) := xWc_ok [] 12 h
-- m.upOf
theorem sg_227_0 {d : Nat} {Q : Int → xH → Prop} {v0 v1 : Int} {M : xH} (h :
    M.2.1 v0 = 12 ∧ (v1 ≠ M.1 v0 18 →
      M.2.1 v0 = 12 ∧ xCall d 195 [(2, v0), (0, v1), (0, 5)] M (fun r1 H1 =>
        True ∧ Q r1 H1)) ∧
    (v1 = M.1 v0 18 →
      M.2.1 v0 = 12 ∧ True ∧ Q (M.1 v0 19) M)) :
    xW d cd_227 Q (0, [(2, v0), (0, v1)], [], M) := xWc_ok [] 9 h
-- m.isHeight
theorem sg_241_0 {d : Nat} {Q : Int → xH → Prop} {v0 v1 v2 : Int} {M : xH} (h :
    M.2.1 v0 = 12 ∧ xCall d 194 [(2, v0), (0, v1)] M (fun r1 H1 =>
      (r1 = 0 →
        ((0 : Int) = 0 ∨ (0 : Int) = 1) ∧ Q 0 H1) ∧
      (r1 ≠ 0 →
        H1.2.1 v0 = 12 ∧ xCall d 195 [(2, v0), (0, v1), (0, 0)] H1 (fun r2 H2 =>
          H2.2.1 v0 = 12 ∧ (H2.2.1 (H2.1 v0 1) = 20 ∧ (0 : Int) ≤ 7 ∧ 7 < H2.2.2.1 (H2.1 v0 1)) ∧ True ∧ xCall d 188 [(1, v2), (1, r2), (1, H2.1 (H2.1 v0 1) 7)] H2 (fun r3 H3 =>
            (r3 = 0 →
              ((0 : Int) = 0 ∨ (0 : Int) = 1) ∧ Q 0 H3) ∧
            (r3 ≠ 0 →
              ((1 : Int) = 0 ∨ (1 : Int) = 1) ∧ Q 1 H3)))))) :
    xW d cd_241 Q (0, [(2, v0), (0, v1), (0, v2)], [], M) := xWc_ok [] 21 h
-- m.landingOf
theorem sg_255_0 {d : Nat} {Q : Int → xH → Prop} {v0 v1 v2 : Int} {M : xH} (h :
    M.2.1 v0 = 12 ∧ xCall d 195 [(2, v0), (0, v1), (0, 1)] M (fun r1 H1 =>
      (r1 ≠ 2 →
        H1.2.1 v0 = 12 ∧ xCall d 195 [(2, v0), (0, v1), (0, 2)] H1 (fun r2 H2 =>
          (r1 ≠ 0 →
            H2.2.1 v0 = 12 ∧ (H2.2.1 (H2.1 v0 1) = 20 ∧ (0 : Int) ≤ 10 ∧ 10 < H2.2.2.1 (H2.1 v0 1)) ∧ True ∧ Q (w32 (r2 - (w32 ((H2.1 (H2.1 v0 1) 10) * v2)))) H2) ∧
          (r1 = 0 →
            H2.2.1 v0 = 12 ∧ (H2.2.1 (H2.1 v0 1) = 20 ∧ (0 : Int) ≤ 11 ∧ 11 < H2.2.2.1 (H2.1 v0 1)) ∧ True ∧ Q (w32 (-(H2.1 (H2.1 v0 1) 11))) H2))) ∧
      (r1 = 2 →
        H1.2.1 v0 = 12 ∧ (H1.2.1 (H1.1 v0 1) = 20 ∧ (0 : Int) ≤ 9 ∧ 9 < H1.2.2.1 (H1.1 v0 1)) ∧ (r1 ≠ 0 →
          H1.2.1 v0 = 12 ∧ (H1.2.1 (H1.1 v0 1) = 20 ∧ (0 : Int) ≤ 10 ∧ 10 < H1.2.2.1 (H1.1 v0 1)) ∧ True ∧ Q (w32 ((H1.1 (H1.1 v0 1) 9) - (w32 ((H1.1 (H1.1 v0 1) 10) * v2)))) H1) ∧
        (r1 = 0 →
          H1.2.1 v0 = 12 ∧ (H1.2.1 (H1.1 v0 1) = 20 ∧ (0 : Int) ≤ 11 ∧ 11 < H1.2.2.1 (H1.1 v0 1)) ∧ True ∧ Q (w32 (-(H1.1 (H1.1 v0 1) 11))) H1)))) :
    xW d cd_255 Q (0, [(2, v0), (0, v1), (0, v2), (9, 0), (9, 0)], [], M) := xWc_ok [] 25 h

theorem c_in {e : Nat} {v lo hi : Int} {M : xH} {Q : Int → xH → Prop} (h : Q (xB (lo ≤ v ∧ v ≤ hi)) M) : xCall (e + 1) 188 [(1, v), (1, lo), (1, hi)] M Q := by
  refine xC_of rfl rfl rfl (sg_188_0 ?_)
  simp only [xLcmp_lt, xLcmp_ge, xLcmp_gt, xLcmp_le, true_or, or_true, true_and]
  refine ⟨fun a => ?_, fun a => ⟨fun b => ?_, fun b => ?_⟩⟩
  · rw [xB_0 (by omega)] at h; exact h
  · rw [xB_0 (by omega)] at h; exact h
  · rw [xB_1 (by omega)] at h; exact h
def gBit (b k : Int) : Prop := xAnd (xShr b k) 1 = 1
theorem c_holds {e : Nat} {b k : Int} {M : xH} {Q : Int → xH → Prop} (h : Q (xB (xAnd (xShr b k) 1 = 1)) M) : xCall (e + 1) 189 [(0, b), (0, k)] M Q := by
  refine xC_of rfl rfl rfl (sg_189_0 ?_)
  simp only [true_or, or_true, true_and]
  exact ⟨fun a => xB_0 a ▸ h, fun a => xB_1 a ▸ h⟩
theorem xQe {Q : Int → xH → Prop} {x y : Int} {M : xH} (h : Q x M) (e : x = y) : Q y M := e ▸ h

theorem c_ofPlace {e : Nat} {p k : Int} {D : xD} {T : xT2} {Q : Int → xH → Prop} (hT : xTm T) (hD : xPm D) (hp : 0 ≤ p ∧ p ≤ 7) (hk : 0 ≤ k ∧ k ≤ 7) (h : Q (D 184 (20 + 8 * p + k)) (D, T)) : xCall (e + 1) 195 [(2, 183), (0, p), (0, k)] (D, T) Q := by
  refine xC_of rfl rfl rfl (sg_195_0 ?_)
  repeat' first
    | exact h
    | exact trivial
    | exact xB_in
    | exact Or.inl rfl
    | exact Or.inr rfl
    | with_reducible refine And.intro ?_ ?_
    | simp (disch := omega) only [w32_id, w64_id, w32_td, w32_td1, Int.add_zero, Int.zero_add, Int.sub_zero, xLcmp_lt, xLcmp_ge, xLcmp_gt, xLcmp_le, xLcmp_eq, xLcmp_ne, xB_ne, xB_eq, yU_s, yU_i, yU_a, ne_eq, not_true, not_false_iff, true_and, and_true, true_or, or_true, false_or, or_false, true_implies, implies_true, k_self hT, p_world hD, k_world hT, n_world hT]
    | intro _
    | omega
theorem c_ofLeg {e : Nat} {p k : Int} {D : xD} {T : xT2} {Q : Int → xH → Prop} (hT : xTm T) (hD : xPm D) (hp : 0 ≤ p ∧ p ≤ 9) (hk : 0 ≤ k ∧ k ≤ 5) (h : Q (D 184 (84 + 6 * p + k)) (D, T)) : xCall (e + 1) 196 [(2, 183), (0, p), (0, k)] (D, T) Q := by
  refine xC_of rfl rfl rfl (sg_196_0 ?_)
  repeat' first
    | exact h
    | exact trivial
    | exact xB_in
    | exact Or.inl rfl
    | exact Or.inr rfl
    | with_reducible refine And.intro ?_ ?_
    | simp (disch := omega) only [w32_id, w64_id, w32_td, w32_td1, Int.add_zero, Int.zero_add, Int.sub_zero, xLcmp_lt, xLcmp_ge, xLcmp_gt, xLcmp_le, xLcmp_eq, xLcmp_ne, xB_ne, xB_eq, yU_s, yU_i, yU_a, ne_eq, not_true, not_false_iff, true_and, and_true, true_or, or_true, false_or, or_false, true_implies, implies_true, k_self hT, p_world hD, k_world hT, n_world hT]
    | intro _
    | omega
theorem c_isPlace {e : Nat} {p : Int} {D : xD} {T : xT2} {Q : Int → xH → Prop} (hT : xTm T) (hD : xPm D) (hw : 0 ≤ D 184 1 ∧ D 184 1 ≤ 8) (h : Q (xB (0 ≤ p ∧ p < D 184 1)) (D, T)) : xCall (e + 2) 194 [(2, 183), (0, p)] (D, T) Q := by
  refine xC_of rfl rfl rfl (sg_194_0 ?_)
  repeat' first
    | exact h
    | exact trivial
    | exact xB_in
    | exact Or.inl rfl
    | exact Or.inr rfl
    | exact xQe h (by unfold xB; congr 1; simp only [eq_iff_iff]; omega)
    | with_reducible refine And.intro ?_ ?_
    | simp (disch := omega) only [w32_id, w64_id, w32_td, w32_td1, Int.add_zero, Int.zero_add, Int.sub_zero, xLcmp_lt, xLcmp_ge, xLcmp_gt, xLcmp_le, xLcmp_eq, xLcmp_ne, xB_ne, xB_eq, yU_s, yU_i, yU_a, ne_eq, not_true, not_false_iff, true_and, and_true, true_or, or_true, false_or, or_false, true_implies, implies_true, k_self hT, p_world hD, k_world hT, n_world hT]
    | intro _
    | refine c_in ?_
    | omega
theorem c_isLeg {e : Nat} {p : Int} {D : xD} {T : xT2} {Q : Int → xH → Prop} (hT : xTm T) (hD : xPm D) (hw : 0 ≤ D 184 2 ∧ D 184 2 ≤ 10) (h : Q (xB (0 ≤ p ∧ p < D 184 2)) (D, T)) : xCall (e + 2) 221 [(2, 183), (0, p)] (D, T) Q := by
  refine xC_of rfl rfl rfl (sg_221_0 ?_)
  repeat' first
    | exact h
    | exact trivial
    | exact xB_in
    | exact Or.inl rfl
    | exact Or.inr rfl
    | exact xQe h (by unfold xB; congr 1; simp only [eq_iff_iff]; omega)
    | with_reducible refine And.intro ?_ ?_
    | simp (disch := omega) only [w32_id, w64_id, w32_td, w32_td1, Int.add_zero, Int.zero_add, Int.sub_zero, xLcmp_lt, xLcmp_ge, xLcmp_gt, xLcmp_le, xLcmp_eq, xLcmp_ne, xB_ne, xB_eq, yU_s, yU_i, yU_a, ne_eq, not_true, not_false_iff, true_and, and_true, true_or, or_true, false_or, or_false, true_implies, implies_true, k_self hT, p_world hD, k_world hT, n_world hT]
    | intro _
    | refine c_in ?_
    | omega
theorem c_isSpeed {e : Nat} {p : Int} {D : xD} {T : xT2} {Q : Int → xH → Prop} (hT : xTm T) (hD : xPm D) (hw : 0 ≤ D 184 3 ∧ D 184 3 ≤ 6) (h : Q (xB (0 ≤ p ∧ p < D 184 3)) (D, T)) : xCall (e + 2) 222 [(2, 183), (0, p)] (D, T) Q := by
  refine xC_of rfl rfl rfl (sg_222_0 ?_)
  repeat' first
    | exact h
    | exact trivial
    | exact xB_in
    | exact Or.inl rfl
    | exact Or.inr rfl
    | exact xQe h (by unfold xB; congr 1; simp only [eq_iff_iff]; omega)
    | with_reducible refine And.intro ?_ ?_
    | simp (disch := omega) only [w32_id, w64_id, w32_td, w32_td1, Int.add_zero, Int.zero_add, Int.sub_zero, xLcmp_lt, xLcmp_ge, xLcmp_gt, xLcmp_le, xLcmp_eq, xLcmp_ne, xB_ne, xB_eq, yU_s, yU_i, yU_a, ne_eq, not_true, not_false_iff, true_and, and_true, true_or, or_true, false_or, or_false, true_implies, implies_true, k_self hT, p_world hD, k_world hT, n_world hT]
    | intro _
    | refine c_in ?_
    | omega
theorem c_isRule {e : Nat} {p : Int} {D : xD} {T : xT2} {Q : Int → xH → Prop} (hT : xTm T) (hD : xPm D)  (h : Q (xB (0 ≤ p ∧ p < 4)) (D, T)) : xCall (e + 2) 262 [(0, p)] (D, T) Q := by
  refine xC_of rfl rfl rfl (sg_262_0 ?_)
  repeat' first
    | exact h
    | exact trivial
    | exact xB_in
    | exact Or.inl rfl
    | exact Or.inr rfl
    | exact xQe h (by unfold xB; congr 1; simp only [eq_iff_iff]; omega)
    | with_reducible refine And.intro ?_ ?_
    | simp (disch := omega) only [w32_id, w64_id, w32_td, w32_td1, Int.add_zero, Int.zero_add, Int.sub_zero, xLcmp_lt, xLcmp_ge, xLcmp_gt, xLcmp_le, xLcmp_eq, xLcmp_ne, xB_ne, xB_eq, yU_s, yU_i, yU_a, ne_eq, not_true, not_false_iff, true_and, and_true, true_or, or_true, false_or, or_false, true_implies, implies_true, k_self hT, p_world hD, k_world hT, n_world hT]
    | intro _
    | refine c_in ?_
    | omega
theorem c_isClimb {e : Nat} {p : Int} {D : xD} {T : xT2} {Q : Int → xH → Prop} (hT : xTm T) (hD : xPm D)  (h : Q (xB (1 ≤ p ∧ p < 2001)) (D, T)) : xCall (e + 2) 249 [(0, p)] (D, T) Q := by
  refine xC_of rfl rfl rfl (sg_249_0 ?_)
  repeat' first
    | exact h
    | exact trivial
    | exact xB_in
    | exact Or.inl rfl
    | exact Or.inr rfl
    | exact xQe h (by unfold xB; congr 1; simp only [eq_iff_iff]; omega)
    | with_reducible refine And.intro ?_ ?_
    | simp (disch := omega) only [w32_id, w64_id, w32_td, w32_td1, Int.add_zero, Int.zero_add, Int.sub_zero, xLcmp_lt, xLcmp_ge, xLcmp_gt, xLcmp_le, xLcmp_eq, xLcmp_ne, xB_ne, xB_eq, yU_s, yU_i, yU_a, ne_eq, not_true, not_false_iff, true_and, and_true, true_or, or_true, false_or, or_false, true_implies, implies_true, k_self hT, p_world hD, k_world hT, n_world hT]
    | intro _
    | refine c_in ?_
    | omega
theorem c_isSlot {e : Nat} {p : Int} {D : xD} {T : xT2} {Q : Int → xH → Prop} (hT : xTm T) (hD : xPm D)  (h : Q (xB (0 ≤ p ∧ p < 4)) (D, T)) : xCall (e + 2) 314 [(0, p)] (D, T) Q := by
  refine xC_of rfl rfl rfl (sg_314_0 ?_)
  repeat' first
    | exact h
    | exact trivial
    | exact xB_in
    | exact Or.inl rfl
    | exact Or.inr rfl
    | exact xQe h (by unfold xB; congr 1; simp only [eq_iff_iff]; omega)
    | with_reducible refine And.intro ?_ ?_
    | simp (disch := omega) only [w32_id, w64_id, w32_td, w32_td1, Int.add_zero, Int.zero_add, Int.sub_zero, xLcmp_lt, xLcmp_ge, xLcmp_gt, xLcmp_le, xLcmp_eq, xLcmp_ne, xB_ne, xB_eq, yU_s, yU_i, yU_a, ne_eq, not_true, not_false_iff, true_and, and_true, true_or, or_true, false_or, or_false, true_implies, implies_true, k_self hT, p_world hD, k_world hT, n_world hT]
    | intro _
    | refine c_in ?_
    | omega
theorem c_bit {e : Nat} {p : Int} {D : xD} {T : xT2} {Q : Int → xH → Prop} (hT : xTm T) (hD : xPm D)  (h : Q (xB (p ≠ 0)) (D, T)) : xCall (e + 1) 264 [(0, p)] (D, T) Q := by
  refine xC_of rfl rfl rfl (sg_264_0 ?_)
  repeat' first
    | exact h
    | exact trivial
    | exact xB_in
    | exact Or.inl rfl
    | exact Or.inr rfl
    | exact xQe h (xB_1 (by omega))
    | exact xQe h (xB_0 (by omega))
    | with_reducible refine And.intro ?_ ?_
    | simp (disch := omega) only [w32_id, w64_id, w32_td, w32_td1, Int.add_zero, Int.zero_add, Int.sub_zero, xLcmp_lt, xLcmp_ge, xLcmp_gt, xLcmp_le, xLcmp_eq, xLcmp_ne, xB_ne, xB_eq, yU_s, yU_i, yU_a, ne_eq, not_true, not_false_iff, true_and, and_true, true_or, or_true, false_or, or_false, true_implies, implies_true, k_self hT, p_world hD, k_world hT, n_world hT]
    | intro _
    | omega
theorem c_hasStart {e : Nat}  {D : xD} {T : xT2} {Q : Int → xH → Prop} (hT : xTm T) (hD : xPm D)  (h : Q (xB (D 184 12 ≠ -1)) (D, T)) : xCall (e + 1) 268 [(2, 183)] (D, T) Q := by
  refine xC_of rfl rfl rfl (sg_268_0 ?_)
  repeat' first
    | exact h
    | exact trivial
    | exact xB_in
    | exact Or.inl rfl
    | exact Or.inr rfl
    | exact xQe h (xB_1 (by omega))
    | exact xQe h (xB_0 (by omega))
    | with_reducible refine And.intro ?_ ?_
    | simp (disch := omega) only [w32_id, w64_id, w32_td, w32_td1, Int.add_zero, Int.zero_add, Int.sub_zero, xLcmp_lt, xLcmp_ge, xLcmp_gt, xLcmp_le, xLcmp_eq, xLcmp_ne, xB_ne, xB_eq, yU_s, yU_i, yU_a, ne_eq, not_true, not_false_iff, true_and, and_true, true_or, or_true, false_or, or_false, true_implies, implies_true, k_self hT, p_world hD, k_world hT, n_world hT]
    | intro _
    | omega
theorem c_startWet {e : Nat}  {D : xD} {T : xT2} {Q : Int → xH → Prop} (hT : xTm T) (hD : xPm D)  (h : Q (xB (D 184 14 = 1 ∧ 0 < D 184 6)) (D, T)) : xCall (e + 1) 269 [(2, 183)] (D, T) Q := by
  refine xC_of rfl rfl rfl (sg_269_0 ?_)
  repeat' first
    | exact h
    | exact trivial
    | exact xB_in
    | exact Or.inl rfl
    | exact Or.inr rfl
    | exact xQe h (xB_1 (by omega))
    | exact xQe h (xB_0 (by omega))
    | with_reducible refine And.intro ?_ ?_
    | simp (disch := omega) only [w32_id, w64_id, w32_td, w32_td1, Int.add_zero, Int.zero_add, Int.sub_zero, xLcmp_lt, xLcmp_ge, xLcmp_gt, xLcmp_le, xLcmp_eq, xLcmp_ne, xB_ne, xB_eq, yU_s, yU_i, yU_a, ne_eq, not_true, not_false_iff, true_and, and_true, true_or, or_true, false_or, or_false, true_implies, implies_true, k_self hT, p_world hD, k_world hT, n_world hT]
    | intro _
    | omega
theorem c_spot {e : Nat} {s p y : Int} {D : xD} {T : xT2} {Q : Int → xH → Prop} (hT : xTm T) (hD : xPm D) (hs : 0 ≤ s ∧ s ≤ 7) (hp : 0 ≤ p ∧ p ≤ 7) (hy : 0 ≤ y ∧ y ≤ 60) (h : Q ((8 * s + p) * 61 + y) (D, T)) : xCall (e + 1) 302 [(0, s), (0, p), (0, y)] (D, T) Q := by
  refine xC_of rfl rfl rfl (sg_302_0 ?_)
  repeat' first
    | exact h
    | exact trivial
    | exact xB_in
    | exact Or.inl rfl
    | exact Or.inr rfl
    | with_reducible refine And.intro ?_ ?_
    | simp (disch := omega) only [w32_id, w64_id, w32_td, w32_td1, Int.add_zero, Int.zero_add, Int.sub_zero, xLcmp_lt, xLcmp_ge, xLcmp_gt, xLcmp_le, xLcmp_eq, xLcmp_ne, xB_ne, xB_eq, yU_s, yU_i, yU_a, ne_eq, not_true, not_false_iff, true_and, and_true, true_or, or_true, false_or, or_false, true_implies, implies_true, k_self hT, p_world hD, k_world hT, n_world hT]
    | intro _
    | omega
theorem c_state {e : Nat} {p y t l w : Int} {D : xD} {T : xT2} {Q : Int → xH → Prop} (hT : xTm T) (hD : xPm D) (hp : 0 ≤ p ∧ p ≤ 7) (hy : 0 ≤ y ∧ y ≤ 60) (ht : 0 ≤ t ∧ t ≤ 48) (hl : 0 ≤ l ∧ l ≤ 1) (hw : 0 ≤ w ∧ w ≤ 1) (h : Q (((61 * p + y) * 48 + t) * 4 + 2 * l + w) (D, T)) : xCall (e + 1) 254 [(0, p), (0, y), (0, t), (0, l), (0, w)] (D, T) Q := by
  refine xC_of rfl rfl rfl (sg_254_0 ?_)
  repeat' first
    | exact h
    | exact trivial
    | exact xB_in
    | exact Or.inl rfl
    | exact Or.inr rfl
    | with_reducible refine And.intro ?_ ?_
    | simp (disch := omega) only [w32_id, w64_id, w32_td, w32_td1, Int.add_zero, Int.zero_add, Int.sub_zero, xLcmp_lt, xLcmp_ge, xLcmp_gt, xLcmp_le, xLcmp_eq, xLcmp_ne, xB_ne, xB_eq, yU_s, yU_i, yU_a, ne_eq, not_true, not_false_iff, true_and, and_true, true_or, or_true, false_or, or_false, true_implies, implies_true, k_self hT, p_world hD, k_world hT, n_world hT]
    | intro _
    | omega
theorem c_good {e : Nat}  {D : xD} {T : xT2} {Q : Int → xH → Prop} (hT : xTm T) (hD : xPm D)  (h : Q (xB (D 183 12 = 0)) (D, T)) : xCall (e + 1) 201 [(2, 183)] (D, T) Q := by
  refine xC_of rfl rfl rfl (sg_201_0 ?_)
  repeat' first
    | exact h
    | exact trivial
    | exact xB_in
    | exact Or.inl rfl
    | exact Or.inr rfl
    | exact xQe h (xB_1 (by omega))
    | exact xQe h (xB_0 (by omega))
    | with_reducible refine And.intro ?_ ?_
    | simp (disch := omega) only [w32_id, w64_id, w32_td, w32_td1, Int.add_zero, Int.zero_add, Int.sub_zero, xLcmp_lt, xLcmp_ge, xLcmp_gt, xLcmp_le, xLcmp_eq, xLcmp_ne, xB_ne, xB_eq, yU_s, yU_i, yU_a, ne_eq, not_true, not_false_iff, true_and, and_true, true_or, or_true, false_or, or_false, true_implies, implies_true, k_self hT, p_world hD, k_world hT, n_world hT]
    | intro _
    | omega
theorem c_see {e : Nat} {k : Int} {D : xD} {T : xT2} {Q : Int → xH → Prop} (hT : xTm T) (hD : xPm D) (hk : 0 ≤ k) (hs : D 183 7 ≤ 1600) (h : Q (if k < D 183 7 then xAnd (D 187 k) 255 else -1) (D, T)) : xCall (e + 1) 199 [(2, 183), (0, k)] (D, T) Q := by
  refine xC_of rfl rfl rfl (sg_199_0 ?_)
  repeat' first
    | exact h
    | exact trivial
    | exact xB_in
    | exact Or.inl rfl
    | exact Or.inr rfl
    | exact xQe h (if_pos (by omega))
    | exact xQe h (if_neg (by omega))
    | with_reducible refine And.intro ?_ ?_
    | simp (disch := omega) only [w32_id, w64_id, w32_td, w32_td1, Int.add_zero, Int.zero_add, Int.sub_zero, xLcmp_lt, xLcmp_ge, xLcmp_gt, xLcmp_le, xLcmp_eq, xLcmp_ne, xB_ne, xB_eq, yU_s, yU_i, yU_a, ne_eq, not_true, not_false_iff, true_and, and_true, true_or, or_true, false_or, or_false, true_implies, implies_true, k_self hT, p_tape hD, k_tape hT, n_tape hT]
    | intro _
    | omega
theorem c_isHeight {e : Nat} {p y : Int} {D : xD} {T : xT2} {Q : Int → xH → Prop} (hT : xTm T) (hD : xPm D) (hw : 0 ≤ D 184 1 ∧ D 184 1 ≤ 8) (h : Q (xB ((0 ≤ p ∧ p < D 184 1) ∧ D 184 (20 + 8 * p) ≤ y ∧ y ≤ D 184 7)) (D, T)) : xCall (e + 3) 241 [(2, 183), (0, p), (0, y)] (D, T) Q := by
  refine xC_of rfl rfl rfl (sg_241_0 ?_)
  repeat' first
    | exact h
    | exact trivial
    | exact xB_in
    | exact Or.inl rfl
    | exact Or.inr rfl
    | exact xQe h (xB_0 (by omega))
    | exact xQe h (xB_1 (by omega))
    | exact xQe h (by unfold xB; congr 1; simp only [eq_iff_iff]; omega)
    | with_reducible refine And.intro ?_ ?_
    | simp (disch := omega) only [w32_id, w64_id, w32_td, w32_td1, Int.add_zero, Int.zero_add, Int.sub_zero, xLcmp_lt, xLcmp_ge, xLcmp_gt, xLcmp_le, xLcmp_eq, xLcmp_ne, xB_ne, xB_eq, yU_s, yU_i, yU_a, ne_eq, not_true, not_false_iff, true_and, and_true, true_or, or_true, false_or, or_false, true_implies, implies_true, k_self hT, p_world hD, k_world hT, n_world hT, Int.add_zero]
    | intro _
    | refine c_isPlace hT hD hw ?_
    | refine c_ofPlace hT hD (by omega) (by omega) ?_
    | refine c_in ?_
    | omega
end
section
/-! a sky as the reference holds it: W = its world; what its looks answer -/
def xWI (W : Int → Int) : Prop := (0 ≤ W 0 ∧ W 0 ≤ 60) ∧ (0 ≤ W 1 ∧ W 1 ≤ 8) ∧ (0 ≤ W 2 ∧ W 2 ≤ 10) ∧ (0 ≤ W 3 ∧ W 3 ≤ 6) ∧ (0 ≤ W 4 ∧ W 4 ≤ 20) ∧ (0 ≤ W 5 ∧ W 5 ≤ 999) ∧ (0 ≤ W 6 ∧ W 6 ≤ 50) ∧ (31 ≤ W 7 ∧ W 7 ≤ 60) ∧ (1 ≤ W 8 ∧ W 8 ≤ 47) ∧ (0 ≤ W 9 ∧ W 9 ≤ 9999) ∧ (0 ≤ W 10 ∧ W 10 ≤ 99) ∧ (0 ≤ W 11 ∧ W 11 ≤ 9999) ∧ (-1 ≤ W 12 ∧ W 12 < W 1) ∧ (0 ≤ W 13 ∧ W 13 ≤ 60) ∧ (0 ≤ W 14 ∧ W 14 ≤ 1) ∧ (0 ≤ W 15 ∧ W 15 < 256) ∧ (∀ p : Int, 0 ≤ p → p ≤ 7 → 0 ≤ W (20 + 8 * p) ∧ W (20 + 8 * p) ≤ 30 ∧ 0 ≤ W (20 + 8 * p + 1) ∧ W (20 + 8 * p + 1) ≤ 2 ∧ 0 ≤ W (20 + 8 * p + 2) ∧ W (20 + 8 * p + 2) ≤ 999 ∧ 0 ≤ W (20 + 8 * p + 3) ∧ W (20 + 8 * p + 3) ≤ 1 ∧ 0 ≤ W (20 + 8 * p + 4) ∧ W (20 + 8 * p + 4) ≤ 100 ∧ 0 ≤ W (20 + 8 * p + 5) ∧ W (20 + 8 * p + 5) ≤ 2000 ∧ 0 ≤ W (20 + 8 * p + 6) ∧ W (20 + 8 * p + 6) ≤ 100 ∧ 0 ≤ W (20 + 8 * p + 7) ∧ W (20 + 8 * p + 7) ≤ 100) ∧ (∀ l : Int, 0 ≤ l → l < W 2 → 0 ≤ W (84 + 6 * l) ∧ W (84 + 6 * l) < W 1 ∧ 0 ≤ W (84 + 6 * l + 1) ∧ W (84 + 6 * l + 1) < W 1 ∧ W (84 + 6 * l) ≠ W (84 + 6 * l + 1) ∧ 1 ≤ W (84 + 6 * l + 2) ∧ W (84 + 6 * l + 2) ≤ 60 ∧ -999 ≤ W (84 + 6 * l + 3) ∧ W (84 + 6 * l + 3) ≤ 999 ∧ -60 ≤ W (84 + 6 * l + 4) ∧ W (84 + 6 * l + 4) ≤ 60 ∧ 0 ≤ W (84 + 6 * l + 5) ∧ W (84 + 6 * l + 5) ≤ 40) ∧ (∀ s : Int, 0 ≤ s → s < W 3 → 20 ≤ W (144 + 2 * s) ∧ W (144 + 2 * s) ≤ 150 ∧ 1 ≤ W (144 + 2 * s + 1) ∧ W (144 + 2 * s + 1) ≤ 999) ∧ (∀ i : Int, 0 ≤ i → i < W 4 → 0 ≤ W (156 + 2 * i) ∧ W (156 + 2 * i) < W 1 ∧ 0 ≤ W (156 + 2 * i + 1) ∧ W (156 + 2 * i + 1) ≤ 3) ∧ (0 ≤ W 12 → W (20 + 8 * W 12) ≤ W 13 ∧ W 13 ≤ W 7)
theorem wi_lines {W : Int → Int} (h : xWI W) : (0 ≤ W 0 ∧ W 0 ≤ 60) := h.1
theorem wi_np {W : Int → Int} (h : xWI W) : (0 ≤ W 1 ∧ W 1 ≤ 8) := h.2.1
theorem wi_nl {W : Int → Int} (h : xWI W) : (0 ≤ W 2 ∧ W 2 ≤ 10) := h.2.2.1
theorem wi_ns {W : Int → Int} (h : xWI W) : (0 ≤ W 3 ∧ W 3 ≤ 6) := h.2.2.2.1
theorem wi_ni {W : Int → Int} (h : xWI W) : (0 ≤ W 4 ∧ W 4 ≤ 20) := h.2.2.2.2.1
theorem wi_turn {W : Int → Int} (h : xWI W) : (0 ≤ W 5 ∧ W 5 ≤ 999) := h.2.2.2.2.2.1
theorem wi_water {W : Int → Int} (h : xWI W) : (0 ≤ W 6 ∧ W 6 ≤ 50) := h.2.2.2.2.2.2.1
theorem wi_ceil {W : Int → Int} (h : xWI W) : (31 ≤ W 7 ∧ W 7 ≤ 60) := h.2.2.2.2.2.2.2.1
theorem wi_last {W : Int → Int} (h : xWI W) : (1 ≤ W 8 ∧ W 8 ≤ 47) := h.2.2.2.2.2.2.2.2.1
theorem wi_wh {W : Int → Int} (h : xWI W) : (0 ≤ W 9 ∧ W 9 ≤ 9999) := h.2.2.2.2.2.2.2.2.2.1
theorem wi_wp {W : Int → Int} (h : xWI W) : (0 ≤ W 10 ∧ W 10 ≤ 99) := h.2.2.2.2.2.2.2.2.2.2.1
theorem wi_wo {W : Int → Int} (h : xWI W) : (0 ≤ W 11 ∧ W 11 ≤ 9999) := h.2.2.2.2.2.2.2.2.2.2.2.1
theorem wi_start {W : Int → Int} (h : xWI W) : (-1 ≤ W 12 ∧ W 12 < W 1) := h.2.2.2.2.2.2.2.2.2.2.2.2.1
theorem wi_at {W : Int → Int} (h : xWI W) : (0 ≤ W 13 ∧ W 13 ≤ 60) := h.2.2.2.2.2.2.2.2.2.2.2.2.2.1
theorem wi_wet {W : Int → Int} (h : xWI W) : (0 ≤ W 14 ∧ W 14 ≤ 1) := h.2.2.2.2.2.2.2.2.2.2.2.2.2.2.1
theorem wi_round {W : Int → Int} (h : xWI W) : (0 ≤ W 15 ∧ W 15 < 256) := h.2.2.2.2.2.2.2.2.2.2.2.2.2.2.2.1
theorem wi_p {W : Int → Int} (h : xWI W) : (∀ p : Int, 0 ≤ p → p ≤ 7 → 0 ≤ W (20 + 8 * p) ∧ W (20 + 8 * p) ≤ 30 ∧ 0 ≤ W (20 + 8 * p + 1) ∧ W (20 + 8 * p + 1) ≤ 2 ∧ 0 ≤ W (20 + 8 * p + 2) ∧ W (20 + 8 * p + 2) ≤ 999 ∧ 0 ≤ W (20 + 8 * p + 3) ∧ W (20 + 8 * p + 3) ≤ 1 ∧ 0 ≤ W (20 + 8 * p + 4) ∧ W (20 + 8 * p + 4) ≤ 100 ∧ 0 ≤ W (20 + 8 * p + 5) ∧ W (20 + 8 * p + 5) ≤ 2000 ∧ 0 ≤ W (20 + 8 * p + 6) ∧ W (20 + 8 * p + 6) ≤ 100 ∧ 0 ≤ W (20 + 8 * p + 7) ∧ W (20 + 8 * p + 7) ≤ 100) := h.2.2.2.2.2.2.2.2.2.2.2.2.2.2.2.2.1
theorem wi_l {W : Int → Int} (h : xWI W) : (∀ l : Int, 0 ≤ l → l < W 2 → 0 ≤ W (84 + 6 * l) ∧ W (84 + 6 * l) < W 1 ∧ 0 ≤ W (84 + 6 * l + 1) ∧ W (84 + 6 * l + 1) < W 1 ∧ W (84 + 6 * l) ≠ W (84 + 6 * l + 1) ∧ 1 ≤ W (84 + 6 * l + 2) ∧ W (84 + 6 * l + 2) ≤ 60 ∧ -999 ≤ W (84 + 6 * l + 3) ∧ W (84 + 6 * l + 3) ≤ 999 ∧ -60 ≤ W (84 + 6 * l + 4) ∧ W (84 + 6 * l + 4) ≤ 60 ∧ 0 ≤ W (84 + 6 * l + 5) ∧ W (84 + 6 * l + 5) ≤ 40) := h.2.2.2.2.2.2.2.2.2.2.2.2.2.2.2.2.2.1
theorem wi_s {W : Int → Int} (h : xWI W) : (∀ s : Int, 0 ≤ s → s < W 3 → 20 ≤ W (144 + 2 * s) ∧ W (144 + 2 * s) ≤ 150 ∧ 1 ≤ W (144 + 2 * s + 1) ∧ W (144 + 2 * s + 1) ≤ 999) := h.2.2.2.2.2.2.2.2.2.2.2.2.2.2.2.2.2.2.1
theorem wi_i {W : Int → Int} (h : xWI W) : (∀ i : Int, 0 ≤ i → i < W 4 → 0 ≤ W (156 + 2 * i) ∧ W (156 + 2 * i) < W 1 ∧ 0 ≤ W (156 + 2 * i + 1) ∧ W (156 + 2 * i + 1) ≤ 3) := h.2.2.2.2.2.2.2.2.2.2.2.2.2.2.2.2.2.2.2.1
theorem wi_st {W : Int → Int} (h : xWI W) : (0 ≤ W 12 → W (20 + 8 * W 12) ≤ W 13 ∧ W 13 ≤ W 7) := h.2.2.2.2.2.2.2.2.2.2.2.2.2.2.2.2.2.2.2.2

theorem mulB {a b A B : Int} (h : 0 ≤ a ∧ a ≤ A ∧ 0 ≤ b ∧ b ≤ B) : 0 ≤ a * b ∧ a * b ≤ A * B := ⟨Int.mul_nonneg h.1 h.2.2.1, Int.mul_le_mul h.2.1 h.2.2.2 h.2.2.1 (Int.le_trans h.1 h.2.1)⟩
theorem mulS {a b A B : Int} (h : 0 ≤ a ∧ a ≤ A ∧ -B ≤ b ∧ b ≤ B) : -(A * B) ≤ a * b ∧ a * b ≤ A * B := by
  rcases Int.le_total 0 b with hb | hb
  · have := mulB (a := a) (b := b) (A := A) (B := B) ⟨h.1, h.2.1, hb, h.2.2.2⟩
    have h2 : 0 ≤ A * B := Int.mul_nonneg (Int.le_trans h.1 h.2.1) (Int.le_trans hb h.2.2.2)
    omega
  · have := mulB (a := a) (b := -b) (A := A) (B := B) ⟨h.1, h.2.1, by omega, by omega⟩
    have e : a * -b = -(a * b) := Int.mul_neg a b
    have h2 : 0 ≤ A * B := Int.mul_nonneg (Int.le_trans h.1 h.2.1) (by omega)
    omega
theorem tdB {x : Int} (k : Int) (hk : 0 < k) (h : 0 ≤ x) : 0 ≤ x.tdiv k ∧ x.tdiv k ≤ x := ⟨Int.tdiv_nonneg h (Int.le_of_lt hk), by
  rw [Int.tdiv_eq_ediv_of_nonneg h]; exact Int.ediv_le_self k h⟩
theorem tdS {x A : Int} (k : Int) (hk : 0 < k) (h : -A ≤ x ∧ x ≤ A) : -A ≤ x.tdiv k ∧ x.tdiv k ≤ A := by
  rcases Int.le_total 0 x with hx | hx
  · have := tdB k hk hx; omega
  · have h1 := tdB k hk (x := -x) (by omega)
    have e : (-x).tdiv k = -(x.tdiv k) := Int.neg_tdiv x k
    omega
def sOver (W : Int → Int) (l b s w : Int) : Int := W (144 + 2 * s) + (if w = 0 then 0 else (W (144 + 2 * s) * W 6).tdiv 100) + (if b = 0 then W (84 + 6 * l + 4) else -W (84 + 6 * l + 4))
def sPer (W : Int → Int) (l b s w : Int) : Int := if sOver W l b s w < 1 then -1 else (12 * W (84 + 6 * l + 2)).tdiv (sOver W l b s w) + 1
def sLos (W : Int → Int) (l s t : Int) : Int := (5 * t * (W (144 + 2 * s + 1) - W (84 + 6 * l + 3))).tdiv 100
/-- what is won: the up that is tried at a place instead of its own -/
def sUp (W : Int → Int) (up : Int × Int) (p : Int) : Int := if p = up.1 then up.2 else W (20 + 8 * p + 5)
def sWin (W : Int → Int) (up : Int × Int) (p w : Int) : Int := if W (20 + 8 * p + 3) = 0 then 0 else max 0 ((5 * (sUp W up p - (if w = 0 then 0 else (sUp W up p * W 6).tdiv 100) - W 5)).tdiv 100)
def sHi (W : Int → Int) (up : Int × Int) (p h w : Int) : Int := min (W 7) (h + sWin W up p w)
def sSgA (W : Int → Int) (p b : Int) : Int := if b = 0 then 100 - W (20 + 8 * p + 6) else W (20 + 8 * p + 6)
def sSgB (W : Int → Int) (p b : Int) : Int := if b = 0 then 100 - W (20 + 8 * p + 7) else W (20 + 8 * p + 7)
def sAll (W : Int → Int) (p c b : Int) : Int := c * sSgA W p b + (100 - c) * sSgB W p b
def sSign (W : Int → Int) (p c b n : Int) : Int := if sAll W p c b = 0 then -1 else (n * c * sSgA W p b).tdiv (sAll W p c b)
def sSee (W : Int → Int) (p c k : Int) : Int := if k < 2 then 100 - 100 * k else if sSign W p c (if k = 2 then 1 else 0) 100 = -1 then c else sSign W p c (if k = 2 then 1 else 0) 100
def sChN (W : Int → Int) (p : Int) : Nat → Int
  | 0 => W (20 + 8 * p + 4)
  | i + 1 => if W (156 + 2 * (i : Int)) = p then sSee W p (sChN W p i) (W (156 + 2 * (i : Int) + 1)) else sChN W p i
def sCh (W : Int → Int) (p : Int) : Int := sChN W p (W 4).toNat
def sLand (W : Int → Int) (p t : Int) : Int := if W (20 + 8 * p + 1) = 0 then -W 11 else (if W (20 + 8 * p + 1) = 2 then W 9 else W (20 + 8 * p + 2)) - W 10 * t
theorem sOver_b {W : Int → Int} {l b s w : Int} (hW : xWI W) (hl : 0 ≤ l ∧ l < W 2) (hs : 0 ≤ s ∧ s < W 3) : 0 ≤ W (144 + 2 * s) * W 6 ∧ W (144 + 2 * s) * W 6 ≤ 7500 ∧ 0 ≤ (W (144 + 2 * s) * W 6).tdiv 100 ∧ (W (144 + 2 * s) * W 6).tdiv 100 ≤ 7500 ∧ -7800 ≤ sOver W l b s w ∧ sOver W l b s w ≤ 7800 := by
  have h1 := wi_s hW s hs.1 hs.2
  have h2 := wi_l hW l hl.1 hl.2
  have h6 := wi_water hW
  have h3 := mulB (a := W (144 + 2 * s)) (b := W 6) (A := 150) (B := 50) (by omega)
  have h4 := tdB 100 (by omega) h3.1
  unfold sOver
  refine ⟨h3.1, by omega, h4.1, by omega, ?_⟩
  split <;> split <;> omega
theorem sPer_b {W : Int → Int} {l b s w : Int} (hW : xWI W) (hl : 0 ≤ l ∧ l < W 2) (hs : 0 ≤ s ∧ s < W 3) : sPer W l b s w = -1 ∨ 1 ≤ sPer W l b s w ∧ sPer W l b s w ≤ 721 := by
  have h2 := wi_l hW l hl.1 hl.2
  unfold sPer
  by_cases h : sOver W l b s w < 1
  · rw [if_pos h]; exact Or.inl rfl
  · rw [if_neg h]
    have := tdB (x := 12 * W (84 + 6 * l + 2)) (sOver W l b s w) (by omega) (by omega)
    omega
theorem sLos_b {W : Int → Int} {l s t : Int} (hW : xWI W) (hl : 0 ≤ l ∧ l < W 2) (hs : 0 ≤ s ∧ s < W 3) (ht : 0 ≤ t ∧ t ≤ 721) : -7202790 ≤ 5 * t * (W (144 + 2 * s + 1) - W (84 + 6 * l + 3)) ∧ 5 * t * (W (144 + 2 * s + 1) - W (84 + 6 * l + 3)) ≤ 7202790 ∧ -7202790 ≤ sLos W l s t ∧ sLos W l s t ≤ 7202790 := by
  have h1 := wi_s hW s hs.1 hs.2
  have h2 := wi_l hW l hl.1 hl.2
  have h3 := mulS (a := 5 * t) (b := W (144 + 2 * s + 1) - W (84 + 6 * l + 3)) (A := 3605) (B := 1998) (by omega)
  have h4 := tdS (x := 5 * t * (W (144 + 2 * s + 1) - W (84 + 6 * l + 3))) (A := 7202790) 100 (by omega) (by omega)
  unfold sLos
  omega

-- m.periodsOf
theorem sg_223_0 {d : Nat} {Q : Int → xH → Prop} {v0 v1 v2 v3 v4 : Int} {M : xH} (h :
    M.2.1 v0 = 12 ∧ (M.2.1 (M.1 v0 1) = 20 ∧ (0 : Int) ≤ w32 (144 + (w32 (2 * v3))) ∧ w32 (144 + (w32 (2 * v3))) < M.2.2.1 (M.1 v0 1)) ∧ (v4 = 0 →
      (v2 = 0 →
        M.2.1 v0 = 12 ∧ xCall d 196 [(2, v0), (0, v1), (0, 4)] M (fun r1 H1 =>
          (1 ≤ w32 ((w32 ((M.1 (M.1 v0 1) (w32 (144 + (w32 (2 * v3))))) + 0)) + r1) →
            H1.2.1 v0 = 12 ∧ xCall d 196 [(2, v0), (0, v1), (0, 2)] H1 (fun r2 H2 =>
              (w32 ((w32 ((M.1 (M.1 v0 1) (w32 (144 + (w32 (2 * v3))))) + 0)) + r1)) ≠ 0 ∧ True ∧ Q (w32 ((w32 ((w32 (12 * r2)).tdiv (w32 ((w32 ((M.1 (M.1 v0 1) (w32 (144 + (w32 (2 * v3))))) + 0)) + r1)))) + 1)) H2)) ∧
          (w32 ((w32 ((M.1 (M.1 v0 1) (w32 (144 + (w32 (2 * v3))))) + 0)) + r1) < 1 →
            True ∧ Q (-1) H1))) ∧
      (v2 ≠ 0 →
        M.2.1 v0 = 12 ∧ xCall d 196 [(2, v0), (0, v1), (0, 4)] M (fun r3 H3 =>
          (1 ≤ w32 ((w32 ((M.1 (M.1 v0 1) (w32 (144 + (w32 (2 * v3))))) + 0)) + (w32 (-r3))) →
            H3.2.1 v0 = 12 ∧ xCall d 196 [(2, v0), (0, v1), (0, 2)] H3 (fun r4 H4 =>
              (w32 ((w32 ((M.1 (M.1 v0 1) (w32 (144 + (w32 (2 * v3))))) + 0)) + (w32 (-r3)))) ≠ 0 ∧ True ∧ Q (w32 ((w32 ((w32 (12 * r4)).tdiv (w32 ((w32 ((M.1 (M.1 v0 1) (w32 (144 + (w32 (2 * v3))))) + 0)) + (w32 (-r3)))))) + 1)) H4)) ∧
          (w32 ((w32 ((M.1 (M.1 v0 1) (w32 (144 + (w32 (2 * v3))))) + 0)) + (w32 (-r3))) < 1 →
            True ∧ Q (-1) H3)))) ∧
    (v4 ≠ 0 →
      M.2.1 v0 = 12 ∧ (M.2.1 (M.1 v0 1) = 20 ∧ (0 : Int) ≤ 6 ∧ 6 < M.2.2.1 (M.1 v0 1)) ∧ (100 : Int) ≠ 0 ∧ (v2 = 0 →
        M.2.1 v0 = 12 ∧ xCall d 196 [(2, v0), (0, v1), (0, 4)] M (fun r5 H5 =>
          (1 ≤ w32 ((w32 ((M.1 (M.1 v0 1) (w32 (144 + (w32 (2 * v3))))) + (w32 ((w32 ((M.1 (M.1 v0 1) (w32 (144 + (w32 (2 * v3))))) * (M.1 (M.1 v0 1) 6))).tdiv 100)))) + r5) →
            H5.2.1 v0 = 12 ∧ xCall d 196 [(2, v0), (0, v1), (0, 2)] H5 (fun r6 H6 =>
              (w32 ((w32 ((M.1 (M.1 v0 1) (w32 (144 + (w32 (2 * v3))))) + (w32 ((w32 ((M.1 (M.1 v0 1) (w32 (144 + (w32 (2 * v3))))) * (M.1 (M.1 v0 1) 6))).tdiv 100)))) + r5)) ≠ 0 ∧ True ∧ Q (w32 ((w32 ((w32 (12 * r6)).tdiv (w32 ((w32 ((M.1 (M.1 v0 1) (w32 (144 + (w32 (2 * v3))))) + (w32 ((w32 ((M.1 (M.1 v0 1) (w32 (144 + (w32 (2 * v3))))) * (M.1 (M.1 v0 1) 6))).tdiv 100)))) + r5)))) + 1)) H6)) ∧
          (w32 ((w32 ((M.1 (M.1 v0 1) (w32 (144 + (w32 (2 * v3))))) + (w32 ((w32 ((M.1 (M.1 v0 1) (w32 (144 + (w32 (2 * v3))))) * (M.1 (M.1 v0 1) 6))).tdiv 100)))) + r5) < 1 →
            True ∧ Q (-1) H5))) ∧
      (v2 ≠ 0 →
        M.2.1 v0 = 12 ∧ xCall d 196 [(2, v0), (0, v1), (0, 4)] M (fun r7 H7 =>
          (1 ≤ w32 ((w32 ((M.1 (M.1 v0 1) (w32 (144 + (w32 (2 * v3))))) + (w32 ((w32 ((M.1 (M.1 v0 1) (w32 (144 + (w32 (2 * v3))))) * (M.1 (M.1 v0 1) 6))).tdiv 100)))) + (w32 (-r7))) →
            H7.2.1 v0 = 12 ∧ xCall d 196 [(2, v0), (0, v1), (0, 2)] H7 (fun r8 H8 =>
              (w32 ((w32 ((M.1 (M.1 v0 1) (w32 (144 + (w32 (2 * v3))))) + (w32 ((w32 ((M.1 (M.1 v0 1) (w32 (144 + (w32 (2 * v3))))) * (M.1 (M.1 v0 1) 6))).tdiv 100)))) + (w32 (-r7)))) ≠ 0 ∧ True ∧ Q (w32 ((w32 ((w32 (12 * r8)).tdiv (w32 ((w32 ((M.1 (M.1 v0 1) (w32 (144 + (w32 (2 * v3))))) + (w32 ((w32 ((M.1 (M.1 v0 1) (w32 (144 + (w32 (2 * v3))))) * (M.1 (M.1 v0 1) 6))).tdiv 100)))) + (w32 (-r7)))))) + 1)) H8)) ∧
          (w32 ((w32 ((M.1 (M.1 v0 1) (w32 (144 + (w32 (2 * v3))))) + (w32 ((w32 ((M.1 (M.1 v0 1) (w32 (144 + (w32 (2 * v3))))) * (M.1 (M.1 v0 1) 6))).tdiv 100)))) + (w32 (-r7))) < 1 →
            True ∧ Q (-1) H7))))) :
    xW d cd_223 Q (0, [(2, v0), (0, v1), (0, v2), (0, v3), (0, v4), (9, 0), (9, 0)], [], M) := xWc_ok [] 46 h
-- m.lossOf
theorem sg_224_0 {d : Nat} {Q : Int → xH → Prop} {v0 v1 v2 v3 : Int} {M : xH} (h :
    M.2.1 v0 = 12 ∧ (M.2.1 (M.1 v0 1) = 20 ∧ (0 : Int) ≤ w32 ((w32 (144 + (w32 (2 * v2)))) + 1) ∧ w32 ((w32 (144 + (w32 (2 * v2)))) + 1) < M.2.2.1 (M.1 v0 1)) ∧ M.2.1 v0 = 12 ∧ xCall d 196 [(2, v0), (0, v1), (0, 3)] M (fun r1 H1 =>
      (100 : Int) ≠ 0 ∧ True ∧ Q (w32 ((w32 ((w32 (5 * v3)) * (w32 ((M.1 (M.1 v0 1) (w32 ((w32 (144 + (w32 (2 * v2)))) + 1))) - r1)))).tdiv 100)) H1)) :
    xW d cd_224 Q (0, [(2, v0), (0, v1), (0, v2), (0, v3)], [], M) := xWc_ok [] 22 h
-- m.climbOf
theorem sg_228_0 {d : Nat} {Q : Int → xH → Prop} {v0 v1 v2 : Int} {M : xH} (h :
    M.2.1 v0 = 12 ∧ xCall d 195 [(2, v0), (0, v1), (0, 3)] M (fun r1 H1 =>
      (r1 ≠ 0 →
        H1.2.1 v0 = 12 ∧ xCall d 227 [(2, v0), (0, v1)] H1 (fun r2 H2 =>
          (v2 = 0 →
            H2.2.1 v0 = 12 ∧ (H2.2.1 (H2.1 v0 1) = 20 ∧ (0 : Int) ≤ 5 ∧ 5 < H2.2.2.1 (H2.1 v0 1)) ∧ (100 : Int) ≠ 0 ∧ 0 < d ∧ True ∧ Q (max 0 (w32 ((w32 (5 * (w32 ((w32 (r2 - 0)) - (H2.1 (H2.1 v0 1) 5))))).tdiv 100))) H2) ∧
          (v2 ≠ 0 →
            H2.2.1 v0 = 12 ∧ (H2.2.1 (H2.1 v0 1) = 20 ∧ (0 : Int) ≤ 6 ∧ 6 < H2.2.2.1 (H2.1 v0 1)) ∧ (100 : Int) ≠ 0 ∧ H2.2.1 v0 = 12 ∧ (H2.2.1 (H2.1 v0 1) = 20 ∧ (0 : Int) ≤ 5 ∧ 5 < H2.2.2.1 (H2.1 v0 1)) ∧ (100 : Int) ≠ 0 ∧ 0 < d ∧ True ∧ Q (max 0 (w32 ((w32 (5 * (w32 ((w32 (r2 - (w32 ((w32 (r2 * (H2.1 (H2.1 v0 1) 6))).tdiv 100)))) - (H2.1 (H2.1 v0 1) 5))))).tdiv 100))) H2))) ∧
      (r1 = 0 →
        True ∧ Q 0 H1))) :
    xW d cd_228 Q (0, [(2, v0), (0, v1), (0, v2), (9, 0)], [], M) := xWc_ok [] 34 h
-- m.bySign
theorem sg_230_0 {d : Nat} {Q : Int → xH → Prop} {v0 v1 v2 v3 v4 : Int} {M : xH} (h :
    (v3 = 0 →
      M.2.1 v0 = 12 ∧ xCall d 195 [(2, v0), (0, v1), (0, 6)] M (fun r1 H1 =>
        (v3 = 0 →
          H1.2.1 v0 = 12 ∧ xCall d 195 [(2, v0), (0, v1), (0, 7)] H1 (fun r2 H2 =>
            (w32 ((w32 (v2 * (w32 (100 - r1)))) + (w32 ((w32 (100 - v2)) * (w32 (100 - r2))))) ≠ 0 →
              (w32 ((w32 (v2 * (w32 (100 - r1)))) + (w32 ((w32 (100 - v2)) * (w32 (100 - r2)))))) ≠ 0 ∧ True ∧ Q (w32 ((w32 ((w32 (v4 * v2)) * (w32 (100 - r1)))).tdiv (w32 ((w32 (v2 * (w32 (100 - r1)))) + (w32 ((w32 (100 - v2)) * (w32 (100 - r2)))))))) H2) ∧
            (w32 ((w32 (v2 * (w32 (100 - r1)))) + (w32 ((w32 (100 - v2)) * (w32 (100 - r2))))) = 0 →
              True ∧ Q (-1) H2))) ∧
        (v3 ≠ 0 →
          H1.2.1 v0 = 12 ∧ xCall d 195 [(2, v0), (0, v1), (0, 7)] H1 (fun r3 H3 =>
            (w32 ((w32 (v2 * (w32 (100 - r1)))) + (w32 ((w32 (100 - v2)) * r3))) ≠ 0 →
              (w32 ((w32 (v2 * (w32 (100 - r1)))) + (w32 ((w32 (100 - v2)) * r3)))) ≠ 0 ∧ True ∧ Q (w32 ((w32 ((w32 (v4 * v2)) * (w32 (100 - r1)))).tdiv (w32 ((w32 (v2 * (w32 (100 - r1)))) + (w32 ((w32 (100 - v2)) * r3)))))) H3) ∧
            (w32 ((w32 (v2 * (w32 (100 - r1)))) + (w32 ((w32 (100 - v2)) * r3))) = 0 →
              True ∧ Q (-1) H3))))) ∧
    (v3 ≠ 0 →
      M.2.1 v0 = 12 ∧ xCall d 195 [(2, v0), (0, v1), (0, 6)] M (fun r4 H4 =>
        (v3 = 0 →
          H4.2.1 v0 = 12 ∧ xCall d 195 [(2, v0), (0, v1), (0, 7)] H4 (fun r5 H5 =>
            (w32 ((w32 (v2 * r4)) + (w32 ((w32 (100 - v2)) * (w32 (100 - r5))))) ≠ 0 →
              (w32 ((w32 (v2 * r4)) + (w32 ((w32 (100 - v2)) * (w32 (100 - r5)))))) ≠ 0 ∧ True ∧ Q (w32 ((w32 ((w32 (v4 * v2)) * r4)).tdiv (w32 ((w32 (v2 * r4)) + (w32 ((w32 (100 - v2)) * (w32 (100 - r5)))))))) H5) ∧
            (w32 ((w32 (v2 * r4)) + (w32 ((w32 (100 - v2)) * (w32 (100 - r5))))) = 0 →
              True ∧ Q (-1) H5))) ∧
        (v3 ≠ 0 →
          H4.2.1 v0 = 12 ∧ xCall d 195 [(2, v0), (0, v1), (0, 7)] H4 (fun r6 H6 =>
            (w32 ((w32 (v2 * r4)) + (w32 ((w32 (100 - v2)) * r6))) ≠ 0 →
              (w32 ((w32 (v2 * r4)) + (w32 ((w32 (100 - v2)) * r6)))) ≠ 0 ∧ True ∧ Q (w32 ((w32 ((w32 (v4 * v2)) * r4)).tdiv (w32 ((w32 (v2 * r4)) + (w32 ((w32 (100 - v2)) * r6)))))) H6) ∧
            (w32 ((w32 (v2 * r4)) + (w32 ((w32 (100 - v2)) * r6))) = 0 →
              True ∧ Q (-1) H6)))))) :
    xW d cd_230 Q (0, [(2, v0), (0, v1), (0, v2), (0, v3), (0, v4), (9, 0), (9, 0), (9, 0)], [], M) := xWc_ok [] 38 h
-- m.chanceNow
theorem sg_231_0 {d : Nat} {Q : Int → xH → Prop} {v0 v1 : Int} {M : xH} (h :
    M.2.1 v0 = 12 ∧ xCall d 195 [(2, v0), (0, v1), (0, 4)] M (fun r1 H1 =>
      xW d cd_231 Q (7, [(2, v0), (0, v1), (0, r1), (0, 0), (9, 0), (9, 0)], [], H1))) :
    xW d cd_231 Q (0, [(2, v0), (0, v1), (9, 0), (9, 0), (9, 0), (9, 0)], [], M) := xWc_ok [7] 8 h
theorem sg_231_7 {d : Nat} {Q : Int → xH → Prop} {v0 v1 v2 v3 : Int} {u4 u5 : xV} {M : xH} (h :
    M.2.1 v0 = 12 ∧ (M.2.1 (M.1 v0 1) = 20 ∧ (0 : Int) ≤ 4 ∧ 4 < M.2.2.1 (M.1 v0 1)) ∧ (M.1 (M.1 v0 1) 4 ≤ v3 →
      True ∧ Q v2 M) ∧
    (v3 < M.1 (M.1 v0 1) 4 →
      M.2.1 v0 = 12 ∧ (M.2.1 (M.1 v0 1) = 20 ∧ (0 : Int) ≤ w32 (156 + (w32 (2 * v3))) ∧ w32 (156 + (w32 (2 * v3))) < M.2.2.1 (M.1 v0 1)) ∧ (M.1 (M.1 v0 1) (w32 (156 + (w32 (2 * v3)))) = v1 →
        M.2.1 v0 = 12 ∧ (M.2.1 (M.1 v0 1) = 20 ∧ (0 : Int) ≤ w32 ((w32 (156 + (w32 (2 * v3)))) + 1) ∧ w32 ((w32 (156 + (w32 (2 * v3)))) + 1) < M.2.2.1 (M.1 v0 1)) ∧ (2 ≤ M.1 (M.1 v0 1) (w32 ((w32 (156 + (w32 (2 * v3)))) + 1)) →
          (M.1 (M.1 v0 1) (w32 ((w32 (156 + (w32 (2 * v3)))) + 1)) ≠ 2 →
            M.2.1 v0 = 12 ∧ xCall d 230 [(2, v0), (0, v1), (0, v2), (0, 0), (0, 100)] M (fun r1 H1 =>
              (r1 ≠ (-1) →
                xW d cd_231 Q (7, [(2, v0), (0, v1), (0, r1), (0, w32 (v3 + 1)), (0, M.1 (M.1 v0 1) (w32 ((w32 (156 + (w32 (2 * v3)))) + 1))), (0, r1)], [], H1)) ∧
              (r1 = (-1) →
                xW d cd_231 Q (7, [(2, v0), (0, v1), (0, v2), (0, w32 (v3 + 1)), (0, M.1 (M.1 v0 1) (w32 ((w32 (156 + (w32 (2 * v3)))) + 1))), (0, r1)], [], H1)))) ∧
          (M.1 (M.1 v0 1) (w32 ((w32 (156 + (w32 (2 * v3)))) + 1)) = 2 →
            M.2.1 v0 = 12 ∧ xCall d 230 [(2, v0), (0, v1), (0, v2), (0, 1), (0, 100)] M (fun r2 H2 =>
              (r2 ≠ (-1) →
                xW d cd_231 Q (7, [(2, v0), (0, v1), (0, r2), (0, w32 (v3 + 1)), (0, M.1 (M.1 v0 1) (w32 ((w32 (156 + (w32 (2 * v3)))) + 1))), (0, r2)], [], H2)) ∧
              (r2 = (-1) →
                xW d cd_231 Q (7, [(2, v0), (0, v1), (0, v2), (0, w32 (v3 + 1)), (0, M.1 (M.1 v0 1) (w32 ((w32 (156 + (w32 (2 * v3)))) + 1))), (0, r2)], [], H2))))) ∧
        (M.1 (M.1 v0 1) (w32 ((w32 (156 + (w32 (2 * v3)))) + 1)) < 2 →
          (w32 (100 - (w32 (100 * (M.1 (M.1 v0 1) (w32 ((w32 (156 + (w32 (2 * v3)))) + 1)))))) ≠ (-1) →
            xW d cd_231 Q (7, [(2, v0), (0, v1), (0, w32 (100 - (w32 (100 * (M.1 (M.1 v0 1) (w32 ((w32 (156 + (w32 (2 * v3)))) + 1))))))), (0, w32 (v3 + 1)), (0, M.1 (M.1 v0 1) (w32 ((w32 (156 + (w32 (2 * v3)))) + 1))), (0, w32 (100 - (w32 (100 * (M.1 (M.1 v0 1) (w32 ((w32 (156 + (w32 (2 * v3)))) + 1)))))))], [], M)) ∧
          (w32 (100 - (w32 (100 * (M.1 (M.1 v0 1) (w32 ((w32 (156 + (w32 (2 * v3)))) + 1)))))) = (-1) →
            xW d cd_231 Q (7, [(2, v0), (0, v1), (0, v2), (0, w32 (v3 + 1)), (0, M.1 (M.1 v0 1) (w32 ((w32 (156 + (w32 (2 * v3)))) + 1))), (0, w32 (100 - (w32 (100 * (M.1 (M.1 v0 1) (w32 ((w32 (156 + (w32 (2 * v3)))) + 1)))))))], [], M)))) ∧
      (M.1 (M.1 v0 1) (w32 (156 + (w32 (2 * v3)))) ≠ v1 →
        xW d cd_231 Q (7, [(2, v0), (0, v1), (0, v2), (0, w32 (v3 + 1)), u4, u5], [], M)))) :
    xW d cd_231 Q (7, [(2, v0), (0, v1), (0, v2), (0, v3), u4, u5], [], M) := xWc_ok [7] 50 h
-- m.chanceOf
theorem sg_232_0 {d : Nat} {Q : Int → xH → Prop} {v0 v1 : Int} {M : xH} (h :
    M.2.1 v0 = 12 ∧ (v1 ≠ M.1 v0 16 →
      M.2.1 v0 = 12 ∧ xCall d 231 [(2, v0), (0, v1)] M (fun r1 H1 =>
        True ∧ Q r1 H1)) ∧
    (v1 = M.1 v0 16 →
      M.2.1 v0 = 12 ∧ True ∧ Q (M.1 v0 17) M)) :
    xW d cd_232 Q (0, [(2, v0), (0, v1)], [], M) := xWc_ok [] 8 h
-- m.higher
theorem sg_256_0 {d : Nat} {Q : Int → xH → Prop} {v0 v1 v2 v3 : Int} {M : xH} (h :
    M.2.1 v0 = 12 ∧ (M.2.1 (M.1 v0 1) = 20 ∧ (0 : Int) ≤ 7 ∧ 7 < M.2.2.1 (M.1 v0 1)) ∧ (v3 ≠ 1 →
      M.2.1 v0 = 12 ∧ xCall d 228 [(2, v0), (0, v1), (0, 0)] M (fun r1 H1 =>
        0 < d ∧ True ∧ Q (min (M.1 (M.1 v0 1) 7) (w32 (v2 + r1))) H1)) ∧
    (v3 = 1 →
      M.2.1 v0 = 12 ∧ xCall d 228 [(2, v0), (0, v1), (0, 1)] M (fun r2 H2 =>
        0 < d ∧ True ∧ Q (min (M.1 (M.1 v0 1) 7) (w32 (v2 + r2))) H2))) :
    xW d cd_256 Q (0, [(2, v0), (0, v1), (0, v2), (0, v3)], [], M) := xWc_ok [] 16 h
-- m.fastOf
theorem sg_248_0 {d : Nat} {Q : Int → xH → Prop} {v0 v1 : Int} {M : xH} (h :
    xW d cd_248 Q (4, [(2, v0), (0, v1), (0, (-1)), (0, 0), (9, 0), (9, 0)], [], M)) :
    xW d cd_248 Q (0, [(2, v0), (0, v1), (9, 0), (9, 0), (9, 0), (9, 0)], [], M) := xWc_ok [4] 5 h
theorem sg_248_4 {d : Nat} {Q : Int → xH → Prop} {v0 v1 v2 v3 : Int} {u4 u5 : xV} {M : xH} (h :
    M.2.1 v0 = 12 ∧ (M.2.1 (M.1 v0 1) = 20 ∧ (0 : Int) ≤ 3 ∧ 3 < M.2.2.1 (M.1 v0 1)) ∧ (M.1 (M.1 v0 1) 3 ≤ v3 →
      True ∧ Q v2 M) ∧
    (v3 < M.1 (M.1 v0 1) 3 →
      (v2 = (-1) →
        xW d cd_248 Q (4, [(2, v0), (0, v1), (0, v3), (0, w32 (v3 + 1)), (0, w32 (144 + (w32 (2 * v3)))), (0, w32 (144 + (w32 (2 * v2))))], [], M)) ∧
      (v2 ≠ (-1) →
        M.2.1 v0 = 12 ∧ (M.2.1 (M.1 v0 1) = 20 ∧ (0 : Int) ≤ w32 (144 + (w32 (2 * v3))) ∧ w32 (144 + (w32 (2 * v3))) < M.2.2.1 (M.1 v0 1)) ∧ M.2.1 v0 = 12 ∧ (M.2.1 (M.1 v0 1) = 20 ∧ (0 : Int) ≤ w32 ((w32 (144 + (w32 (2 * v2)))) + 1) ∧ w32 ((w32 (144 + (w32 (2 * v2)))) + 1) < M.2.2.1 (M.1 v0 1)) ∧ M.2.1 v0 = 12 ∧ (M.2.1 (M.1 v0 1) = 20 ∧ (0 : Int) ≤ w32 (144 + (w32 (2 * v2))) ∧ w32 (144 + (w32 (2 * v2))) < M.2.2.1 (M.1 v0 1)) ∧ M.2.1 v0 = 12 ∧ (M.2.1 (M.1 v0 1) = 20 ∧ (0 : Int) ≤ w32 ((w32 (144 + (w32 (2 * v3)))) + 1) ∧ w32 ((w32 (144 + (w32 (2 * v3)))) + 1) < M.2.2.1 (M.1 v0 1)) ∧ (w32 ((M.1 (M.1 v0 1) (w32 (144 + (w32 (2 * v2))))) * (w32 (v1 + (M.1 (M.1 v0 1) (w32 ((w32 (144 + (w32 (2 * v3)))) + 1)))))) < w32 ((M.1 (M.1 v0 1) (w32 (144 + (w32 (2 * v3))))) * (w32 (v1 + (M.1 (M.1 v0 1) (w32 ((w32 (144 + (w32 (2 * v2)))) + 1)))))) →
          xW d cd_248 Q (4, [(2, v0), (0, v1), (0, v3), (0, w32 (v3 + 1)), (0, w32 (144 + (w32 (2 * v3)))), (0, w32 (144 + (w32 (2 * v2))))], [], M)) ∧
        (w32 ((M.1 (M.1 v0 1) (w32 (144 + (w32 (2 * v3))))) * (w32 (v1 + (M.1 (M.1 v0 1) (w32 ((w32 (144 + (w32 (2 * v2)))) + 1)))))) ≤ w32 ((M.1 (M.1 v0 1) (w32 (144 + (w32 (2 * v2))))) * (w32 (v1 + (M.1 (M.1 v0 1) (w32 ((w32 (144 + (w32 (2 * v3)))) + 1)))))) →
          xW d cd_248 Q (4, [(2, v0), (0, v1), (0, v2), (0, w32 (v3 + 1)), (0, w32 (144 + (w32 (2 * v3)))), (0, w32 (144 + (w32 (2 * v2))))], [], M))))) :
    xW d cd_248 Q (4, [(2, v0), (0, v1), (0, v2), (0, v3), u4, u5], [], M) := xWc_ok [4] 53 h
-- m.farthest
theorem sg_252_0 {d : Nat} {Q : Int → xH → Prop} {v0 : Int} {M : xH} (h :
    xW d cd_252 Q (4, [(2, v0), (0, (-1)), (0, 0), (9, 0), (9, 0)], [], M)) :
    xW d cd_252 Q (0, [(2, v0), (9, 0), (9, 0), (9, 0), (9, 0)], [], M) := xWc_ok [4] 5 h
theorem sg_252_4 {d : Nat} {Q : Int → xH → Prop} {v0 v1 v2 : Int} {u3 u4 : xV} {M : xH} (h :
    M.2.1 v0 = 12 ∧ (M.2.1 (M.1 v0 1) = 20 ∧ (0 : Int) ≤ 3 ∧ 3 < M.2.2.1 (M.1 v0 1)) ∧ (M.1 (M.1 v0 1) 3 ≤ v2 →
      True ∧ Q v1 M) ∧
    (v2 < M.1 (M.1 v0 1) 3 →
      (v1 = (-1) →
        xW d cd_252 Q (4, [(2, v0), (0, v2), (0, w32 (v2 + 1)), (0, w32 (144 + (w32 (2 * v2)))), (0, w32 (144 + (w32 (2 * v1))))], [], M)) ∧
      (v1 ≠ (-1) →
        M.2.1 v0 = 12 ∧ (M.2.1 (M.1 v0 1) = 20 ∧ (0 : Int) ≤ w32 (144 + (w32 (2 * v2))) ∧ w32 (144 + (w32 (2 * v2))) < M.2.2.1 (M.1 v0 1)) ∧ M.2.1 v0 = 12 ∧ (M.2.1 (M.1 v0 1) = 20 ∧ (0 : Int) ≤ w32 ((w32 (144 + (w32 (2 * v1)))) + 1) ∧ w32 ((w32 (144 + (w32 (2 * v1)))) + 1) < M.2.2.1 (M.1 v0 1)) ∧ M.2.1 v0 = 12 ∧ (M.2.1 (M.1 v0 1) = 20 ∧ (0 : Int) ≤ w32 (144 + (w32 (2 * v1))) ∧ w32 (144 + (w32 (2 * v1))) < M.2.2.1 (M.1 v0 1)) ∧ M.2.1 v0 = 12 ∧ (M.2.1 (M.1 v0 1) = 20 ∧ (0 : Int) ≤ w32 ((w32 (144 + (w32 (2 * v2)))) + 1) ∧ w32 ((w32 (144 + (w32 (2 * v2)))) + 1) < M.2.2.1 (M.1 v0 1)) ∧ (w32 ((M.1 (M.1 v0 1) (w32 (144 + (w32 (2 * v1))))) * (M.1 (M.1 v0 1) (w32 ((w32 (144 + (w32 (2 * v2)))) + 1)))) < w32 ((M.1 (M.1 v0 1) (w32 (144 + (w32 (2 * v2))))) * (M.1 (M.1 v0 1) (w32 ((w32 (144 + (w32 (2 * v1)))) + 1)))) →
          xW d cd_252 Q (4, [(2, v0), (0, v2), (0, w32 (v2 + 1)), (0, w32 (144 + (w32 (2 * v2)))), (0, w32 (144 + (w32 (2 * v1))))], [], M)) ∧
        (w32 ((M.1 (M.1 v0 1) (w32 (144 + (w32 (2 * v2))))) * (M.1 (M.1 v0 1) (w32 ((w32 (144 + (w32 (2 * v1)))) + 1)))) ≤ w32 ((M.1 (M.1 v0 1) (w32 (144 + (w32 (2 * v1))))) * (M.1 (M.1 v0 1) (w32 ((w32 (144 + (w32 (2 * v2)))) + 1)))) →
          xW d cd_252 Q (4, [(2, v0), (0, v1), (0, w32 (v2 + 1)), (0, w32 (144 + (w32 (2 * v2)))), (0, w32 (144 + (w32 (2 * v1))))], [], M))))) :
    xW d cd_252 Q (4, [(2, v0), (0, v1), (0, v2), u3, u4], [], M) := xWc_ok [4] 49 h
-- m.mixed
theorem sg_257_0 {d : Nat} {Q : Int → xH → Prop} {v0 v1 v2 v3 v4 v5 : Int} {M : xH} (h :
    M.2.1 v0 = 12 ∧ xCall d 232 [(2, v0), (0, v2)] M (fun r1 H1 =>
      True ∧ xCall d 254 [(0, v2), (0, v3), (0, v4), (0, 1), (0, v5)] H1 (fun r2 H2 =>
        (H2.2.1 v1 = 20 ∧ (0 : Int) ≤ r2 ∧ r2 < H2.2.2.1 v1) ∧ True ∧ xCall d 254 [(0, v2), (0, v3), (0, v4), (0, 0), (0, v5)] H2 (fun r3 H3 =>
          (H3.2.1 v1 = 20 ∧ (0 : Int) ≤ r3 ∧ r3 < H3.2.2.1 v1) ∧ (100 : Int) ≠ 0 ∧ True ∧ Q (w32 ((w32 ((w32 (r1 * (H2.1 v1 r2))) + (w32 ((w32 (100 - r1)) * (H3.1 v1 r3))))).tdiv 100)) H3)))) :
    xW d cd_257 Q (0, [(2, v0), (2, v1), (0, v2), (0, v3), (0, v4), (0, v5), (9, 0)], [], M) := xWc_ok [] 30 h
theorem c_periodsOf {e : Nat} {l b s w : Int} {D : xD} {T : xT2} {Q : Int → xH → Prop} (hT : xTm T) (hD : xPm D) (hW : xWI (D 184))(hl : 0 ≤ l ∧ l < D 184 2)(hs : 0 ≤ s ∧ s < D 184 3) (h : Q (sPer (D 184) l b s w) (D, T)) : xCall (e + 2) 223 [(2, 183), (0, l), (0, b), (0, s), (0, w)] (D, T) Q := by
  refine xC_of rfl rfl rfl (sg_223_0 ?_)
  have h1 := wi_s hW s hs.1 hs.2
  have h2 := wi_l hW l hl.1 hl.2
  have h3 := sOver_b (l := l) (b := b) (s := s) (w := w) hW hl hs
  have h4 := wi_ns hW
  have h5 := wi_nl hW
  unfold sOver at h3
  repeat' first
    | exact h
    | exact trivial
    | exact xB_in
    | exact Or.inl rfl
    | exact Or.inr rfl
    | (refine xQe h ?_; simp (disch := omega) only [sPer, sOver, if_pos, if_neg, w32_td, w32_td1, Int.add_zero, Int.zero_add, Int.sub_zero]; done)
    | with_reducible refine And.intro ?_ ?_
    | simp (disch := omega) only [w32_id, w64_id, w32_td, w32_td1, Int.add_zero, Int.zero_add, Int.sub_zero, xLcmp_lt, xLcmp_ge, xLcmp_gt, xLcmp_le, xLcmp_eq, xLcmp_ne, xB_ne, xB_eq, yU_s, yU_i, yU_a, ne_eq, not_true, not_false_iff, true_and, and_true, true_or, or_true, false_or, or_false, true_implies, implies_true, k_self hT, p_world hD, k_world hT, n_world hT]
    | intro _
    | refine c_ofLeg hT hD (by omega) (by omega) ?_
    | omega
theorem c_lossOf {e : Nat} {l s t : Int} {D : xD} {T : xT2} {Q : Int → xH → Prop} (hT : xTm T) (hD : xPm D) (hW : xWI (D 184))(hl : 0 ≤ l ∧ l < D 184 2)(hs : 0 ≤ s ∧ s < D 184 3) (ht : 0 ≤ t ∧ t ≤ 721) (h : Q (sLos (D 184) l s t) (D, T)) : xCall (e + 2) 224 [(2, 183), (0, l), (0, s), (0, t)] (D, T) Q := by
  refine xC_of rfl rfl rfl (sg_224_0 ?_)
  have h1 := wi_s hW s hs.1 hs.2
  have h2 := wi_l hW l hl.1 hl.2
  have h3 := sLos_b (l := l) (s := s) (t := t) hW hl hs ht
  have h4 := wi_ns hW
  have h5 := wi_nl hW
  repeat' first
    | exact h
    | exact trivial
    | exact xB_in
    | exact Or.inl rfl
    | exact Or.inr rfl
    | (refine xQe h ?_; simp (disch := omega) only [sLos, if_pos, if_neg, w32_td, w32_td1, Int.add_zero, Int.zero_add, Int.sub_zero]; done)
    | with_reducible refine And.intro ?_ ?_
    | simp (disch := omega) only [w32_id, w64_id, w32_td, w32_td1, Int.add_zero, Int.zero_add, Int.sub_zero, xLcmp_lt, xLcmp_ge, xLcmp_gt, xLcmp_le, xLcmp_eq, xLcmp_ne, xB_ne, xB_eq, yU_s, yU_i, yU_a, ne_eq, not_true, not_false_iff, true_and, and_true, true_or, or_true, false_or, or_false, true_implies, implies_true, k_self hT, p_world hD, k_world hT, n_world hT]
    | intro _
    | refine c_ofLeg hT hD (by omega) (by omega) ?_
    | omega

theorem sUp_b {W : Int → Int} {up : Int × Int} {p : Int} (hW : xWI W) (hp : 0 ≤ p ∧ p ≤ 7) (hu : 0 ≤ up.2 ∧ up.2 ≤ 2000) : 0 ≤ sUp W up p ∧ sUp W up p ≤ 2000 ∧ 0 ≤ sUp W up p * W 6 ∧ sUp W up p * W 6 ≤ 100000 ∧ 0 ≤ (sUp W up p * W 6).tdiv 100 ∧ (sUp W up p * W 6).tdiv 100 ≤ sUp W up p := by
  have h1 := wi_p hW p hp.1 hp.2
  have h6 := wi_water hW
  have h0 : 0 ≤ sUp W up p ∧ sUp W up p ≤ 2000 := by unfold sUp; split <;> omega
  have h3 := mulB (a := sUp W up p) (b := W 6) (A := 2000) (B := 50) (by omega)
  have h5 := mulB (a := sUp W up p) (b := 100 - W 6) (A := 2000) (B := 100) (by omega)
  have e5 : sUp W up p * (100 - W 6) = sUp W up p * 100 - sUp W up p * W 6 := Int.mul_sub _ _ _
  refine ⟨h0.1, h0.2, h3.1, by omega, Int.tdiv_nonneg h3.1 (by omega), ?_⟩
  rw [Int.tdiv_eq_ediv_of_nonneg h3.1]
  omega
theorem sWin_b {W : Int → Int} {up : Int × Int} {p w : Int} (hW : xWI W) (hp : 0 ≤ p ∧ p ≤ 7) (hu : 0 ≤ up.2 ∧ up.2 ≤ 2000) : 0 ≤ sWin W up p w ∧ sWin W up p w ≤ 10000 := by
  have h1 := sUp_b (p := p) hW hp hu
  have h5 := wi_turn hW
  unfold sWin
  split
  · omega
  · have h6 := tdS (x := 5 * (sUp W up p - (if w = 0 then 0 else (sUp W up p * W 6).tdiv 100) - W 5)) (A := 10000) 100 (by omega) (by split <;> omega)
    omega

theorem c_upOf {e : Nat} {p : Int} {D : xD} {T : xT2} {Q : Int → xH → Prop} (hT : xTm T) (hD : xPm D) (hp : 0 ≤ p ∧ p ≤ 7) (h : Q (sUp (D 184) (D 183 18, D 183 19) p) (D, T)) : xCall (e + 2) 227 [(2, 183), (0, p)] (D, T) Q := by
  refine xC_of rfl rfl rfl (sg_227_0 ?_)
  repeat' first
    | exact h
    | exact trivial
    | exact xB_in
    | exact Or.inl rfl
    | exact Or.inr rfl
    | (refine xQe h ?_; simp (disch := omega) only [sUp, if_pos, if_neg, w32_td, w32_td1, Int.add_zero, Int.zero_add, Int.sub_zero]; done)
    | with_reducible refine And.intro ?_ ?_
    | simp (disch := omega) only [w32_id, w64_id, w32_td, w32_td1, Int.add_zero, Int.zero_add, Int.sub_zero, xLcmp_lt, xLcmp_ge, xLcmp_gt, xLcmp_le, xLcmp_eq, xLcmp_ne, xB_ne, xB_eq, yU_s, yU_i, yU_a, ne_eq, not_true, not_false_iff, true_and, and_true, true_or, or_true, false_or, or_false, true_implies, implies_true, k_self hT, p_world hD, k_world hT, n_world hT]
    | intro _
    | refine c_ofPlace hT hD (by omega) (by omega) ?_
    | omega
theorem c_climbOf {e : Nat} {p w : Int} {D : xD} {T : xT2} {Q : Int → xH → Prop} (hT : xTm T) (hD : xPm D) (hW : xWI (D 184))(hu : 0 ≤ D 183 19 ∧ D 183 19 ≤ 2000)(hp : 0 ≤ p ∧ p ≤ 7) (h : Q (sWin (D 184) (D 183 18, D 183 19) p w) (D, T)) : xCall (e + 3) 228 [(2, 183), (0, p), (0, w)] (D, T) Q := by
  refine xC_of rfl rfl rfl (sg_228_0 ?_)
  have h1 := sUp_b (up := (D 183 18, D 183 19)) (p := p) hW hp hu
  have h5 := wi_turn hW
  have h6 := wi_water hW
  repeat' first
    | exact h
    | exact trivial
    | exact xB_in
    | exact Or.inl rfl
    | exact Or.inr rfl
    | (refine xQe h ?_; simp (disch := omega) only [sWin, if_pos, if_neg, w32_td, w32_td1, Int.add_zero, Int.zero_add, Int.sub_zero]; done)
    | with_reducible refine And.intro ?_ ?_
    | simp (disch := omega) only [w32_id, w64_id, w32_td, w32_td1, Int.add_zero, Int.zero_add, Int.sub_zero, xLcmp_lt, xLcmp_ge, xLcmp_gt, xLcmp_le, xLcmp_eq, xLcmp_ne, xB_ne, xB_eq, yU_s, yU_i, yU_a, ne_eq, not_true, not_false_iff, true_and, and_true, true_or, or_true, false_or, or_false, true_implies, implies_true, k_self hT, p_world hD, k_world hT, n_world hT]
    | intro _
    | refine c_ofPlace hT hD (by omega) (by omega) ?_
    | refine c_upOf hT hD (by omega) ?_
    | omega
theorem c_higher {e : Nat} {p y w : Int} {D : xD} {T : xT2} {Q : Int → xH → Prop} (hT : xTm T) (hD : xPm D) (hW : xWI (D 184))(hu : 0 ≤ D 183 19 ∧ D 183 19 ≤ 2000)(hp : 0 ≤ p ∧ p ≤ 7) (hy : 0 ≤ y ∧ y ≤ 60) (hw : 0 ≤ w ∧ w ≤ 1) (h : Q (sHi (D 184) (D 183 18, D 183 19) p y w) (D, T)) : xCall (e + 4) 256 [(2, 183), (0, p), (0, y), (0, w)] (D, T) Q := by
  refine xC_of rfl rfl rfl (sg_256_0 ?_)
  have h1 := sWin_b (up := (D 183 18, D 183 19)) (p := p) (w := 0) hW hp hu
  have h2 := sWin_b (up := (D 183 18, D 183 19)) (p := p) (w := 1) hW hp hu
  have h5 := wi_ceil hW
  rcases (by omega : w = 0 ∨ w = 1) with rfl | rfl
  all_goals simp only [Int.reduceEq, false_implies, true_implies, true_and, and_true, ne_eq, not_true, not_false_iff]
  repeat' first
    | exact h
    | exact trivial
    | exact xB_in
    | exact Or.inl rfl
    | exact Or.inr rfl
    | (refine xQe h ?_; simp (disch := omega) only [sHi, sWin, if_pos, if_neg, w32_td, w32_td1, Int.add_zero, Int.zero_add, Int.sub_zero]; done)
    | with_reducible refine And.intro ?_ ?_
    | simp (disch := omega) only [w32_id, w64_id, w32_td, w32_td1, Int.add_zero, Int.zero_add, Int.sub_zero, xLcmp_lt, xLcmp_ge, xLcmp_gt, xLcmp_le, xLcmp_eq, xLcmp_ne, xB_ne, xB_eq, yU_s, yU_i, yU_a, ne_eq, not_true, not_false_iff, true_and, and_true, true_or, or_true, false_or, or_false, true_implies, implies_true, k_self hT, p_world hD, k_world hT, n_world hT]
    | intro _
    | refine c_climbOf hT hD hW hu hp ?_
    | omega

theorem sAll_b {W : Int → Int} {p c b n : Int} (hW : xWI W) (hp : 0 ≤ p ∧ p ≤ 7) (hc : 0 ≤ c ∧ c ≤ 100) (hn : 0 ≤ n ∧ n ≤ 10000) : (0 ≤ sSgA W p b ∧ sSgA W p b ≤ 100) ∧ (0 ≤ sSgB W p b ∧ sSgB W p b ≤ 100) ∧ (0 ≤ c * sSgA W p b ∧ c * sSgA W p b ≤ 10000) ∧ (0 ≤ (100 - c) * sSgB W p b ∧ (100 - c) * sSgB W p b ≤ 10000) ∧ (0 ≤ n * c ∧ n * c ≤ 1000000) ∧ 0 ≤ n * c * sSgA W p b ∧ n * c * sSgA W p b ≤ 100000000 := by
  have h1 := wi_p hW p hp.1 hp.2
  have hA : 0 ≤ sSgA W p b ∧ sSgA W p b ≤ 100 := by unfold sSgA; split <;> omega
  have hB : 0 ≤ sSgB W p b ∧ sSgB W p b ≤ 100 := by unfold sSgB; split <;> omega
  have h2 := mulB (a := c) (b := sSgA W p b) (A := 100) (B := 100) (by omega)
  have h3 := mulB (a := 100 - c) (b := sSgB W p b) (A := 100) (B := 100) (by omega)
  have h4 := mulB (a := n) (b := c) (A := 10000) (B := 100) (by omega)
  have h5 := mulB (a := n * c) (b := sSgA W p b) (A := 1000000) (B := 100) (by omega)
  exact ⟨hA, hB, by omega, by omega, by omega, by omega⟩
theorem sSign_b {W : Int → Int} {p c b n : Int} (hW : xWI W) (hp : 0 ≤ p ∧ p ≤ 7) (hc : 0 ≤ c ∧ c ≤ 100) (hn : 0 ≤ n ∧ n ≤ 10000) : sSign W p c b n = -1 ∨ 0 ≤ sSign W p c b n ∧ sSign W p c b n ≤ n := by
  have h := sAll_b (b := b) hW hp hc hn
  unfold sSign
  by_cases h0 : sAll W p c b = 0
  · rw [if_pos h0]; exact Or.inl rfl
  · rw [if_neg h0]
    have hpos : 0 < sAll W p c b := by unfold sAll at h0 ⊢; omega
    refine Or.inr ⟨Int.tdiv_nonneg h.2.2.2.2.2.1 (Int.le_of_lt hpos), ?_⟩
    rw [Int.tdiv_eq_ediv_of_nonneg h.2.2.2.2.2.1]
    refine Int.ediv_le_of_le_mul hpos ?_
    have e : n * c * sSgA W p b = n * (c * sSgA W p b) := Int.mul_assoc _ _ _
    rw [e]
    exact Int.mul_le_mul_of_nonneg_left (by unfold sAll; omega) hn.1

theorem c_bySign {e : Nat} {p c b n : Int} {D : xD} {T : xT2} {Q : Int → xH → Prop} (hT : xTm T) (hD : xPm D) (hW : xWI (D 184))(hp : 0 ≤ p ∧ p ≤ 7) (hc : 0 ≤ c ∧ c ≤ 100) (hn : 0 ≤ n ∧ n ≤ 10000) (h : Q (sSign (D 184) p c b n) (D, T)) : xCall (e + 2) 230 [(2, 183), (0, p), (0, c), (0, b), (0, n)] (D, T) Q := by
  refine xC_of rfl rfl rfl (sg_230_0 ?_)
  have h1 := wi_p hW p hp.1 hp.2
  have h2 := sAll_b (b := b) hW hp hc hn
  unfold sSgA sSgB at h2
  by_cases hb : b = 0
  all_goals simp only [hb, if_true, if_false] at h2
  repeat' first
    | exact h
    | exact trivial
    | exact xB_in
    | exact Or.inl rfl
    | exact Or.inr rfl
    | (refine xQe h ?_; simp (disch := omega) only [sSign, sAll, sSgA, sSgB, if_pos, if_neg, w32_td, w32_td1, Int.add_zero, Int.zero_add, Int.sub_zero]; done)
    | with_reducible refine And.intro ?_ ?_
    | simp (disch := omega) only [w32_id, w64_id, w32_td, w32_td1, Int.add_zero, Int.zero_add, Int.sub_zero, xLcmp_lt, xLcmp_ge, xLcmp_gt, xLcmp_le, xLcmp_eq, xLcmp_ne, xB_ne, xB_eq, yU_s, yU_i, yU_a, ne_eq, not_true, not_false_iff, true_and, and_true, true_or, or_true, false_or, or_false, true_implies, implies_true, k_self hT, p_world hD, k_world hT, n_world hT]
    | intro _
    | refine c_ofPlace hT hD (by omega) (by omega) ?_
    | omega

theorem sSee_b {W : Int → Int} {p c k : Int} (hW : xWI W) (hp : 0 ≤ p ∧ p ≤ 7) (hc : 0 ≤ c ∧ c ≤ 100) (hk : 0 ≤ k ∧ k ≤ 3) : 0 ≤ sSee W p c k ∧ sSee W p c k ≤ 100 := by
  unfold sSee
  generalize (if k = 2 then (1 : Int) else 0) = b
  have h := sSign_b (b := b) (n := 100) hW hp hc (by omega)
  split
  · omega
  · split <;> omega
theorem sChN_b {W : Int → Int} {p : Int} (hW : xWI W) (hp : 0 ≤ p ∧ p ≤ 7) : ∀ k : Nat, (k : Int) ≤ W 4 → 0 ≤ sChN W p k ∧ sChN W p k ≤ 100
  | 0, _ => by have := wi_p hW p hp.1 hp.2; unfold sChN; omega
  | k + 1, h => by
    have ih := sChN_b hW hp k (by omega)
    have h1 := wi_i hW (k : Int) (by omega) (by omega)
    unfold sChN
    split
    · exact sSee_b hW hp ih (by omega)
    · exact ih
theorem sCh_b {W : Int → Int} {p : Int} (hW : xWI W) (hp : 0 ≤ p ∧ p ≤ 7) : 0 ≤ sCh W p ∧ sCh W p ≤ 100 := sChN_b hW hp _ (by have := wi_ni hW; omega)
theorem l_chanceNow {e : Nat} {p : Int} {D : xD} {T : xT2} {Q : Int → xH → Prop} (hT : xTm T) (hD : xPm D) (hW : xWI (D 184)) (hp : 0 ≤ p ∧ p ≤ 7) (h : Q (sCh (D 184) p) (D, T)) : ∀ (n k : Nat) (c : Int), (k : Int) + n = D 184 4 → c = sChN (D 184) p k → ∀ u4 u5, xW (e + 2) cd_231 Q (7, [(2, 183), (0, p), (0, c), (0, (k : Int)), u4, u5], [], (D, T)) := by
  have hn := wi_ni hW
  intro n
  induction n with
  | zero =>
    intro k c hk hc u4 u5
    have e0 : (D 184 4).toNat = k := by omega
    rw [sCh, e0, ← hc] at h
    refine sg_231_7 ?_

    repeat' first
      | exact h
      | exact trivial
      | exact xB_in
      | exact Or.inl rfl
      | exact Or.inr rfl
      | with_reducible refine And.intro ?_ ?_
      | simp (disch := omega) only [w32_id, w64_id, w32_td, w32_td1, Int.add_zero, Int.zero_add, Int.sub_zero, xLcmp_lt, xLcmp_ge, xLcmp_gt, xLcmp_le, xLcmp_eq, xLcmp_ne, xB_ne, xB_eq, yU_s, yU_i, yU_a, ne_eq, not_true, not_false_iff, true_and, and_true, true_or, or_true, false_or, or_false, true_implies, implies_true, k_self hT, p_world hD, k_world hT, n_world hT]
      | intro _
      | omega
  | succ n ih =>
    intro k c hk hc u4 u5
    have h1 := wi_i hW (k : Int) (by omega) (by omega)
    have h2 := sChN_b hW hp k (by omega)
    rw [← hc] at h2
    refine sg_231_7 ?_

    repeat' first
      | exact h
      | exact trivial
      | exact xB_in
      | exact Or.inl rfl
      | exact Or.inr rfl
      | (refine ih (k + 1) _ (by omega) ?_ _ _; rw [sChN, ← hc]; simp (disch := omega) only [sSee, if_pos, if_neg]; done)
      | with_reducible refine And.intro ?_ ?_
      | simp (disch := omega) only [w32_id, w64_id, w32_td, w32_td1, Int.add_zero, Int.zero_add, Int.sub_zero, xLcmp_lt, xLcmp_ge, xLcmp_gt, xLcmp_le, xLcmp_eq, xLcmp_ne, xB_ne, xB_eq, yU_s, yU_i, yU_a, ne_eq, not_true, not_false_iff, true_and, and_true, true_or, or_true, false_or, or_false, true_implies, implies_true, k_self hT, p_world hD, k_world hT, n_world hT]
      | intro _
      | refine c_bySign hT hD hW hp (by omega) (by omega) ?_
      | omega
theorem c_chanceNow {e : Nat} {p : Int} {D : xD} {T : xT2} {Q : Int → xH → Prop} (hT : xTm T) (hD : xPm D) (hW : xWI (D 184))(hp : 0 ≤ p ∧ p ≤ 7) (h : Q (sCh (D 184) p) (D, T)) : xCall (e + 3) 231 [(2, 183), (0, p)] (D, T) Q := by
  refine xC_of rfl rfl rfl (sg_231_0 ?_)
  have hn := wi_ni hW
  repeat' first
    | exact h
    | exact trivial
    | exact xB_in
    | exact Or.inl rfl
    | exact Or.inr rfl
    | exact l_chanceNow hT hD hW hp h (D 184 4).toNat 0 _ (by omega) rfl _ _
    | with_reducible refine And.intro ?_ ?_
    | simp (disch := omega) only [w32_id, w64_id, w32_td, w32_td1, Int.add_zero, Int.zero_add, Int.sub_zero, xLcmp_lt, xLcmp_ge, xLcmp_gt, xLcmp_le, xLcmp_eq, xLcmp_ne, xB_ne, xB_eq, yU_s, yU_i, yU_a, ne_eq, not_true, not_false_iff, true_and, and_true, true_or, or_true, false_or, or_false, true_implies, implies_true, k_self hT, p_world hD, k_world hT, n_world hT]
    | intro _
    | refine c_ofPlace hT hD (by omega) (by omega) ?_
    | omega
end
