section
-- ===== PART A: goes FIRST, ahead of the names: the tables' words, and 'selects' of the private methods out of them =====
/-- a private method of a class that the tables say can be made, by its rows of tables_1 -/
def lw_okq (q : MethodName × Nat) : Prop := (q.1.cls ≠ "java/lang/invoke/MethodHandle" ∧ q.1.cls ≠ "java/lang/invoke/VarHandle") ∧ Cond.instantiable q.1.cls q.2 ∈ tables_1 ∧ Cond.privateMethod q.1 ∈ tables_1 ∧ Cond.instanceMethod q.1 ∈ tables_1
theorem lw_p0 : lw_okq (⟨"BreweryCellar", "refuse", "(I)I"⟩, 11) := ⟨⟨by decide +kernel, by decide +kernel⟩, List.mem_of_getElem? (i := 17) (by decide +kernel), List.mem_of_getElem? (i := 409) (by decide +kernel), List.mem_of_getElem? (i := 410) (by decide +kernel)⟩
theorem lw_p1 : lw_okq (⟨"BreweryCellar", "putBy", "()V"⟩, 11) := ⟨⟨by decide +kernel, by decide +kernel⟩, List.mem_of_getElem? (i := 17) (by decide +kernel), List.mem_of_getElem? (i := 413) (by decide +kernel), List.mem_of_getElem? (i := 414) (by decide +kernel)⟩
theorem lw_p2 : lw_okq (⟨"BreweryCellar", "changed", "(I)I"⟩, 11) := ⟨⟨by decide +kernel, by decide +kernel⟩, List.mem_of_getElem? (i := 17) (by decide +kernel), List.mem_of_getElem? (i := 447) (by decide +kernel), List.mem_of_getElem? (i := 448) (by decide +kernel)⟩
theorem lw_p3 : lw_okq (⟨"BreweryCellar", "pour", "(III)I"⟩, 11) := ⟨⟨by decide +kernel, by decide +kernel⟩, List.mem_of_getElem? (i := 17) (by decide +kernel), List.mem_of_getElem? (i := 476) (by decide +kernel), List.mem_of_getElem? (i := 477) (by decide +kernel)⟩
theorem lw_p4 : lw_okq (⟨"BreweryCellar$Portion", "takeOneMore", "()V"⟩, 2) := ⟨⟨by decide +kernel, by decide +kernel⟩, List.mem_of_getElem? (i := 301) (by decide +kernel), List.mem_of_getElem? (i := 485) (by decide +kernel), List.mem_of_getElem? (i := 486) (by decide +kernel)⟩
theorem lw_p5 : lw_okq (⟨"BreweryCellar", "settle", "(I)I"⟩, 11) := ⟨⟨by decide +kernel, by decide +kernel⟩, List.mem_of_getElem? (i := 17) (by decide +kernel), List.mem_of_getElem? (i := 512) (by decide +kernel), List.mem_of_getElem? (i := 513) (by decide +kernel)⟩
theorem lw_p6 : lw_okq (⟨"BreweryCellar", "spill", "(III)I"⟩, 11) := ⟨⟨by decide +kernel, by decide +kernel⟩, List.mem_of_getElem? (i := 17) (by decide +kernel), List.mem_of_getElem? (i := 520) (by decide +kernel), List.mem_of_getElem? (i := 521) (by decide +kernel)⟩
theorem lw_p7 : lw_okq (⟨"BreweryCellar", "deliver", "(II)I"⟩, 11) := ⟨⟨by decide +kernel, by decide +kernel⟩, List.mem_of_getElem? (i := 17) (by decide +kernel), List.mem_of_getElem? (i := 552) (by decide +kernel), List.mem_of_getElem? (i := 553) (by decide +kernel)⟩
theorem lw_p8 : lw_okq (⟨"BreweryCellar$Plan", "queueOpenOrders", "(LBreweryCellar$State;)V"⟩, 7) := ⟨⟨by decide +kernel, by decide +kernel⟩, List.mem_of_getElem? (i := 293) (by decide +kernel), List.mem_of_getElem? (i := 589) (by decide +kernel), List.mem_of_getElem? (i := 590) (by decide +kernel)⟩
theorem lw_p9 : lw_okq (⟨"BreweryCellar$Plan", "bestTank", "(LBreweryCellar$Order;[I)I"⟩, 7) := ⟨⟨by decide +kernel, by decide +kernel⟩, List.mem_of_getElem? (i := 293) (by decide +kernel), List.mem_of_getElem? (i := 598) (by decide +kernel), List.mem_of_getElem? (i := 599) (by decide +kernel)⟩
theorem lw_p10 : lw_okq (⟨"BreweryCellar", "scrub", "(I)I"⟩, 11) := ⟨⟨by decide +kernel, by decide +kernel⟩, List.mem_of_getElem? (i := 17) (by decide +kernel), List.mem_of_getElem? (i := 611) (by decide +kernel), List.mem_of_getElem? (i := 612) (by decide +kernel)⟩
theorem lw_p11 : lw_okq (⟨"BreweryCellar", "letPass", "(I)I"⟩, 11) := ⟨⟨by decide +kernel, by decide +kernel⟩, List.mem_of_getElem? (i := 17) (by decide +kernel), List.mem_of_getElem? (i := 619) (by decide +kernel), List.mem_of_getElem? (i := 620) (by decide +kernel)⟩
theorem lw_p12 : lw_okq (⟨"BreweryCellar$Tape", "readCommand", "(LBreweryCellar$Command;)V"⟩, 6) := ⟨⟨by decide +kernel, by decide +kernel⟩, List.mem_of_getElem? (i := 236) (by decide +kernel), List.mem_of_getElem? (i := 642) (by decide +kernel), List.mem_of_getElem? (i := 643) (by decide +kernel)⟩
theorem lw_p13 : lw_okq (⟨"BreweryCellar$Tape", "next", "()I"⟩, 6) := ⟨⟨by decide +kernel, by decide +kernel⟩, List.mem_of_getElem? (i := 236) (by decide +kernel), List.mem_of_getElem? (i := 646) (by decide +kernel), List.mem_of_getElem? (i := 647) (by decide +kernel)⟩
theorem lw_p14 : lw_okq (⟨"BreweryCellar$Tape", "readDigit", "()I"⟩, 6) := ⟨⟨by decide +kernel, by decide +kernel⟩, List.mem_of_getElem? (i := 236) (by decide +kernel), List.mem_of_getElem? (i := 650) (by decide +kernel), List.mem_of_getElem? (i := 651) (by decide +kernel)⟩
theorem lw_p15 : lw_okq (⟨"BreweryCellar$Tape", "digitNext", "()Z"⟩, 6) := ⟨⟨by decide +kernel, by decide +kernel⟩, List.mem_of_getElem? (i := 236) (by decide +kernel), List.mem_of_getElem? (i := 654) (by decide +kernel), List.mem_of_getElem? (i := 655) (by decide +kernel)⟩
def lw_privs_1 : List (MethodName × Nat) := [(⟨"BreweryCellar", "refuse", "(I)I"⟩, 11), (⟨"BreweryCellar", "putBy", "()V"⟩, 11), (⟨"BreweryCellar", "changed", "(I)I"⟩, 11), (⟨"BreweryCellar", "pour", "(III)I"⟩, 11), (⟨"BreweryCellar$Portion", "takeOneMore", "()V"⟩, 2), (⟨"BreweryCellar", "settle", "(I)I"⟩, 11), (⟨"BreweryCellar", "spill", "(III)I"⟩, 11), (⟨"BreweryCellar", "deliver", "(II)I"⟩, 11), (⟨"BreweryCellar$Plan", "queueOpenOrders", "(LBreweryCellar$State;)V"⟩, 7), (⟨"BreweryCellar$Plan", "bestTank", "(LBreweryCellar$Order;[I)I"⟩, 7), (⟨"BreweryCellar", "scrub", "(I)I"⟩, 11), (⟨"BreweryCellar", "letPass", "(I)I"⟩, 11), (⟨"BreweryCellar$Tape", "readCommand", "(LBreweryCellar$Command;)V"⟩, 6), (⟨"BreweryCellar$Tape", "next", "()I"⟩, 6), (⟨"BreweryCellar$Tape", "readDigit", "()I"⟩, 6), (⟨"BreweryCellar$Tape", "digitNext", "()Z"⟩, 6)]
theorem lw_r1 : ∀ q ∈ lw_privs_1, lw_okq q := List.forall_mem_cons.mpr ⟨lw_p0, List.forall_mem_cons.mpr ⟨lw_p1, List.forall_mem_cons.mpr ⟨lw_p2, List.forall_mem_cons.mpr ⟨lw_p3, List.forall_mem_cons.mpr ⟨lw_p4, List.forall_mem_cons.mpr ⟨lw_p5, List.forall_mem_cons.mpr ⟨lw_p6, List.forall_mem_cons.mpr ⟨lw_p7, List.forall_mem_cons.mpr ⟨lw_p8, List.forall_mem_cons.mpr ⟨lw_p9, List.forall_mem_cons.mpr ⟨lw_p10, List.forall_mem_cons.mpr ⟨lw_p11, List.forall_mem_cons.mpr ⟨lw_p12, List.forall_mem_cons.mpr ⟨lw_p13, List.forall_mem_cons.mpr ⟨lw_p14, List.forall_mem_cons.mpr ⟨lw_p15, fun _ h => absurd h List.not_mem_nil⟩⟩⟩⟩⟩⟩⟩⟩⟩⟩⟩⟩⟩⟩⟩⟩
theorem lw_p16 : lw_okq (⟨"BreweryCellar$Tape", "readSign", "(C)V"⟩, 6) := ⟨⟨by decide +kernel, by decide +kernel⟩, List.mem_of_getElem? (i := 236) (by decide +kernel), List.mem_of_getElem? (i := 658) (by decide +kernel), List.mem_of_getElem? (i := 659) (by decide +kernel)⟩
theorem lw_p17 : lw_okq (⟨"BreweryCellar$Tape", "readNumber", "()I"⟩, 6) := ⟨⟨by decide +kernel, by decide +kernel⟩, List.mem_of_getElem? (i := 236) (by decide +kernel), List.mem_of_getElem? (i := 662) (by decide +kernel), List.mem_of_getElem? (i := 663) (by decide +kernel)⟩
theorem lw_p18 : lw_okq (⟨"BreweryCellar", "perform", "(LBreweryCellar$Command;)I"⟩, 11) := ⟨⟨by decide +kernel, by decide +kernel⟩, List.mem_of_getElem? (i := 17) (by decide +kernel), List.mem_of_getElem? (i := 666) (by decide +kernel), List.mem_of_getElem? (i := 667) (by decide +kernel)⟩
theorem lw_p19 : lw_okq (⟨"BreweryCellar$Mixer", "distanceAt", "(LBreweryCellar$Blend;LBreweryCellar$Blend;[IIIJ)J"⟩, 1) := ⟨⟨by decide +kernel, by decide +kernel⟩, List.mem_of_getElem? (i := 345) (by decide +kernel), List.mem_of_getElem? (i := 718) (by decide +kernel), List.mem_of_getElem? (i := 719) (by decide +kernel)⟩
theorem lw_p20 : lw_okq (⟨"BreweryCellarModel", "litresIn", "(I)I"⟩, 21) := ⟨⟨by decide +kernel, by decide +kernel⟩, List.mem_of_getElem? (i := 809) (by decide +kernel), List.mem_of_getElem? (i := 890) (by decide +kernel), List.mem_of_getElem? (i := 891) (by decide +kernel)⟩
theorem lw_p21 : lw_okq (⟨"BreweryCellarModel", "partAt", "(II)I"⟩, 21) := ⟨⟨by decide +kernel, by decide +kernel⟩, List.mem_of_getElem? (i := 809) (by decide +kernel), List.mem_of_getElem? (i := 894) (by decide +kernel), List.mem_of_getElem? (i := 895) (by decide +kernel)⟩
theorem lw_p22 : lw_okq (⟨"BreweryCellarModel", "tankAt", "(II)I"⟩, 21) := ⟨⟨by decide +kernel, by decide +kernel⟩, List.mem_of_getElem? (i := 809) (by decide +kernel), List.mem_of_getElem? (i := 898) (by decide +kernel), List.mem_of_getElem? (i := 899) (by decide +kernel)⟩
theorem lw_p23 : lw_okq (⟨"BreweryCellarModel", "refuses", "(I)I"⟩, 21) := ⟨⟨by decide +kernel, by decide +kernel⟩, List.mem_of_getElem? (i := 809) (by decide +kernel), List.mem_of_getElem? (i := 902) (by decide +kernel), List.mem_of_getElem? (i := 903) (by decide +kernel)⟩
theorem lw_p24 : lw_okq (⟨"BreweryCellarModel", "remembers", "()V"⟩, 21) := ⟨⟨by decide +kernel, by decide +kernel⟩, List.mem_of_getElem? (i := 809) (by decide +kernel), List.mem_of_getElem? (i := 906) (by decide +kernel), List.mem_of_getElem? (i := 907) (by decide +kernel)⟩
theorem lw_p25 : lw_okq (⟨"BreweryCellarModel", "remembersRow", "([I)V"⟩, 21) := ⟨⟨by decide +kernel, by decide +kernel⟩, List.mem_of_getElem? (i := 809) (by decide +kernel), List.mem_of_getElem? (i := 910) (by decide +kernel), List.mem_of_getElem? (i := 911) (by decide +kernel)⟩
theorem lw_p26 : lw_okq (⟨"BreweryCellarModel", "notes", "(III)V"⟩, 21) := ⟨⟨by decide +kernel, by decide +kernel⟩, List.mem_of_getElem? (i := 809) (by decide +kernel), List.mem_of_getElem? (i := 921) (by decide +kernel), List.mem_of_getElem? (i := 922) (by decide +kernel)⟩
theorem lw_p27 : lw_okq (⟨"BreweryCellarModel", "looksAt", "(I)V"⟩, 21) := ⟨⟨by decide +kernel, by decide +kernel⟩, List.mem_of_getElem? (i := 809) (by decide +kernel), List.mem_of_getElem? (i := 929) (by decide +kernel), List.mem_of_getElem? (i := 930) (by decide +kernel)⟩
theorem lw_p28 : lw_okq (⟨"BreweryCellarModel", "takes", "(I)V"⟩, 21) := ⟨⟨by decide +kernel, by decide +kernel⟩, List.mem_of_getElem? (i := 809) (by decide +kernel), List.mem_of_getElem? (i := 933) (by decide +kernel), List.mem_of_getElem? (i := 934) (by decide +kernel)⟩
theorem lw_p29 : lw_okq (⟨"BreweryCellarModel", "leaves", "(I)V"⟩, 21) := ⟨⟨by decide +kernel, by decide +kernel⟩, List.mem_of_getElem? (i := 809) (by decide +kernel), List.mem_of_getElem? (i := 940) (by decide +kernel), List.mem_of_getElem? (i := 941) (by decide +kernel)⟩
theorem lw_p30 : lw_okq (⟨"BreweryCellarModel", "loses", "(III)V"⟩, 21) := ⟨⟨by decide +kernel, by decide +kernel⟩, List.mem_of_getElem? (i := 809) (by decide +kernel), List.mem_of_getElem? (i := 944) (by decide +kernel), List.mem_of_getElem? (i := 945) (by decide +kernel)⟩
theorem lw_p31 : lw_okq (⟨"BreweryCellarModel", "isOpen", "(I)Z"⟩, 21) := ⟨⟨by decide +kernel, by decide +kernel⟩, List.mem_of_getElem? (i := 809) (by decide +kernel), List.mem_of_getElem? (i := 968) (by decide +kernel), List.mem_of_getElem? (i := 969) (by decide +kernel)⟩
def lw_privs_2 : List (MethodName × Nat) := [(⟨"BreweryCellar$Tape", "readSign", "(C)V"⟩, 6), (⟨"BreweryCellar$Tape", "readNumber", "()I"⟩, 6), (⟨"BreweryCellar", "perform", "(LBreweryCellar$Command;)I"⟩, 11), (⟨"BreweryCellar$Mixer", "distanceAt", "(LBreweryCellar$Blend;LBreweryCellar$Blend;[IIIJ)J"⟩, 1), (⟨"BreweryCellarModel", "litresIn", "(I)I"⟩, 21), (⟨"BreweryCellarModel", "partAt", "(II)I"⟩, 21), (⟨"BreweryCellarModel", "tankAt", "(II)I"⟩, 21), (⟨"BreweryCellarModel", "refuses", "(I)I"⟩, 21), (⟨"BreweryCellarModel", "remembers", "()V"⟩, 21), (⟨"BreweryCellarModel", "remembersRow", "([I)V"⟩, 21), (⟨"BreweryCellarModel", "notes", "(III)V"⟩, 21), (⟨"BreweryCellarModel", "looksAt", "(I)V"⟩, 21), (⟨"BreweryCellarModel", "takes", "(I)V"⟩, 21), (⟨"BreweryCellarModel", "leaves", "(I)V"⟩, 21), (⟨"BreweryCellarModel", "loses", "(III)V"⟩, 21), (⟨"BreweryCellarModel", "isOpen", "(I)Z"⟩, 21)]
theorem lw_r2 : ∀ q ∈ lw_privs_2, lw_okq q := List.forall_mem_cons.mpr ⟨lw_p16, List.forall_mem_cons.mpr ⟨lw_p17, List.forall_mem_cons.mpr ⟨lw_p18, List.forall_mem_cons.mpr ⟨lw_p19, List.forall_mem_cons.mpr ⟨lw_p20, List.forall_mem_cons.mpr ⟨lw_p21, List.forall_mem_cons.mpr ⟨lw_p22, List.forall_mem_cons.mpr ⟨lw_p23, List.forall_mem_cons.mpr ⟨lw_p24, List.forall_mem_cons.mpr ⟨lw_p25, List.forall_mem_cons.mpr ⟨lw_p26, List.forall_mem_cons.mpr ⟨lw_p27, List.forall_mem_cons.mpr ⟨lw_p28, List.forall_mem_cons.mpr ⟨lw_p29, List.forall_mem_cons.mpr ⟨lw_p30, List.forall_mem_cons.mpr ⟨lw_p31, fun _ h => absurd h List.not_mem_nil⟩⟩⟩⟩⟩⟩⟩⟩⟩⟩⟩⟩⟩⟩⟩⟩
theorem lw_p32 : lw_okq (⟨"BreweryCellarModel", "orderAt", "(II)I"⟩, 21) := ⟨⟨by decide +kernel, by decide +kernel⟩, List.mem_of_getElem? (i := 809) (by decide +kernel), List.mem_of_getElem? (i := 972) (by decide +kernel), List.mem_of_getElem? (i := 973) (by decide +kernel)⟩
theorem lw_p33 : lw_okq (⟨"BreweryCellarModel", "openMany", "()I"⟩, 21) := ⟨⟨by decide +kernel, by decide +kernel⟩, List.mem_of_getElem? (i := 809) (by decide +kernel), List.mem_of_getElem? (i := 976) (by decide +kernel), List.mem_of_getElem? (i := 977) (by decide +kernel)⟩
theorem lw_p34 : lw_okq (⟨"BreweryCellarModel", "hinders", "(I)I"⟩, 21) := ⟨⟨by decide +kernel, by decide +kernel⟩, List.mem_of_getElem? (i := 809) (by decide +kernel), List.mem_of_getElem? (i := 984) (by decide +kernel), List.mem_of_getElem? (i := 985) (by decide +kernel)⟩
theorem lw_p35 : lw_okq (⟨"BreweryCellarModel", "blend", "()I"⟩, 21) := ⟨⟨by decide +kernel, by decide +kernel⟩, List.mem_of_getElem? (i := 809) (by decide +kernel), List.mem_of_getElem? (i := 988) (by decide +kernel), List.mem_of_getElem? (i := 989) (by decide +kernel)⟩
theorem lw_p36 : lw_okq (⟨"BreweryCellarModel", "alcoholOf", "([I)J"⟩, 21) := ⟨⟨by decide +kernel, by decide +kernel⟩, List.mem_of_getElem? (i := 809) (by decide +kernel), List.mem_of_getElem? (i := 992) (by decide +kernel), List.mem_of_getElem? (i := 993) (by decide +kernel)⟩
theorem lw_p37 : lw_okq (⟨"BreweryCellarModel", "strengthOf", "(I)I"⟩, 21) := ⟨⟨by decide +kernel, by decide +kernel⟩, List.mem_of_getElem? (i := 809) (by decide +kernel), List.mem_of_getElem? (i := 996) (by decide +kernel), List.mem_of_getElem? (i := 997) (by decide +kernel)⟩
theorem lw_p38 : lw_okq (⟨"BreweryCellarModel", "fills", "(II)V"⟩, 21) := ⟨⟨by decide +kernel, by decide +kernel⟩, List.mem_of_getElem? (i := 809) (by decide +kernel), List.mem_of_getElem? (i := 1000) (by decide +kernel), List.mem_of_getElem? (i := 1001) (by decide +kernel)⟩
theorem lw_p39 : lw_okq (⟨"BreweryCellarModel", "dutyFor", "(III)I"⟩, 21) := ⟨⟨by decide +kernel, by decide +kernel⟩, List.mem_of_getElem? (i := 809) (by decide +kernel), List.mem_of_getElem? (i := 1004) (by decide +kernel), List.mem_of_getElem? (i := 1005) (by decide +kernel)⟩
theorem lw_p40 : lw_okq (⟨"BreweryCellarModel", "rateFor", "(II)I"⟩, 21) := ⟨⟨by decide +kernel, by decide +kernel⟩, List.mem_of_getElem? (i := 809) (by decide +kernel), List.mem_of_getElem? (i := 1008) (by decide +kernel), List.mem_of_getElem? (i := 1009) (by decide +kernel)⟩
theorem lw_p41 : lw_okq (⟨"BreweryCellarModel", "plans", "()V"⟩, 21) := ⟨⟨by decide +kernel, by decide +kernel⟩, List.mem_of_getElem? (i := 809) (by decide +kernel), List.mem_of_getElem? (i := 1018) (by decide +kernel), List.mem_of_getElem? (i := 1019) (by decide +kernel)⟩
theorem lw_p42 : lw_okq (⟨"BreweryCellarModel", "nextOrder", "()I"⟩, 21) := ⟨⟨by decide +kernel, by decide +kernel⟩, List.mem_of_getElem? (i := 809) (by decide +kernel), List.mem_of_getElem? (i := 1022) (by decide +kernel), List.mem_of_getElem? (i := 1023) (by decide +kernel)⟩
theorem lw_p43 : lw_okq (⟨"BreweryCellarModel", "isAhead", "(II)Z"⟩, 21) := ⟨⟨by decide +kernel, by decide +kernel⟩, List.mem_of_getElem? (i := 809) (by decide +kernel), List.mem_of_getElem? (i := 1026) (by decide +kernel), List.mem_of_getElem? (i := 1027) (by decide +kernel)⟩
theorem lw_p44 : lw_okq (⟨"BreweryCellarModel", "tankFor", "(I)I"⟩, 21) := ⟨⟨by decide +kernel, by decide +kernel⟩, List.mem_of_getElem? (i := 809) (by decide +kernel), List.mem_of_getElem? (i := 1030) (by decide +kernel), List.mem_of_getElem? (i := 1031) (by decide +kernel)⟩
theorem lw_p45 : lw_okq (⟨"BreweryCellarModel", "looksAtPlan", "(I)V"⟩, 21) := ⟨⟨by decide +kernel, by decide +kernel⟩, List.mem_of_getElem? (i := 809) (by decide +kernel), List.mem_of_getElem? (i := 1034) (by decide +kernel), List.mem_of_getElem? (i := 1035) (by decide +kernel)⟩
theorem lw_p46 : lw_okq (⟨"BreweryCellarModel", "readsCommand", "(I)V"⟩, 21) := ⟨⟨by decide +kernel, by decide +kernel⟩, List.mem_of_getElem? (i := 809) (by decide +kernel), List.mem_of_getElem? (i := 1057) (by decide +kernel), List.mem_of_getElem? (i := 1058) (by decide +kernel)⟩
theorem lw_p47 : lw_okq (⟨"BreweryCellarModel", "here", "()I"⟩, 21) := ⟨⟨by decide +kernel, by decide +kernel⟩, List.mem_of_getElem? (i := 809) (by decide +kernel), List.mem_of_getElem? (i := 1061) (by decide +kernel), List.mem_of_getElem? (i := 1062) (by decide +kernel)⟩
def lw_privs_3 : List (MethodName × Nat) := [(⟨"BreweryCellarModel", "orderAt", "(II)I"⟩, 21), (⟨"BreweryCellarModel", "openMany", "()I"⟩, 21), (⟨"BreweryCellarModel", "hinders", "(I)I"⟩, 21), (⟨"BreweryCellarModel", "blend", "()I"⟩, 21), (⟨"BreweryCellarModel", "alcoholOf", "([I)J"⟩, 21), (⟨"BreweryCellarModel", "strengthOf", "(I)I"⟩, 21), (⟨"BreweryCellarModel", "fills", "(II)V"⟩, 21), (⟨"BreweryCellarModel", "dutyFor", "(III)I"⟩, 21), (⟨"BreweryCellarModel", "rateFor", "(II)I"⟩, 21), (⟨"BreweryCellarModel", "plans", "()V"⟩, 21), (⟨"BreweryCellarModel", "nextOrder", "()I"⟩, 21), (⟨"BreweryCellarModel", "isAhead", "(II)Z"⟩, 21), (⟨"BreweryCellarModel", "tankFor", "(I)I"⟩, 21), (⟨"BreweryCellarModel", "looksAtPlan", "(I)V"⟩, 21), (⟨"BreweryCellarModel", "readsCommand", "(I)V"⟩, 21), (⟨"BreweryCellarModel", "here", "()I"⟩, 21)]
theorem lw_r3 : ∀ q ∈ lw_privs_3, lw_okq q := List.forall_mem_cons.mpr ⟨lw_p32, List.forall_mem_cons.mpr ⟨lw_p33, List.forall_mem_cons.mpr ⟨lw_p34, List.forall_mem_cons.mpr ⟨lw_p35, List.forall_mem_cons.mpr ⟨lw_p36, List.forall_mem_cons.mpr ⟨lw_p37, List.forall_mem_cons.mpr ⟨lw_p38, List.forall_mem_cons.mpr ⟨lw_p39, List.forall_mem_cons.mpr ⟨lw_p40, List.forall_mem_cons.mpr ⟨lw_p41, List.forall_mem_cons.mpr ⟨lw_p42, List.forall_mem_cons.mpr ⟨lw_p43, List.forall_mem_cons.mpr ⟨lw_p44, List.forall_mem_cons.mpr ⟨lw_p45, List.forall_mem_cons.mpr ⟨lw_p46, List.forall_mem_cons.mpr ⟨lw_p47, fun _ h => absurd h List.not_mem_nil⟩⟩⟩⟩⟩⟩⟩⟩⟩⟩⟩⟩⟩⟩⟩⟩
theorem lw_p48 : lw_okq (⟨"BreweryCellarModel", "readsDigits", "(I)I"⟩, 21) := ⟨⟨by decide +kernel, by decide +kernel⟩, List.mem_of_getElem? (i := 809) (by decide +kernel), List.mem_of_getElem? (i := 1065) (by decide +kernel), List.mem_of_getElem? (i := 1066) (by decide +kernel)⟩
theorem lw_p49 : lw_okq (⟨"BreweryCellarModel", "reads", "(C)V"⟩, 21) := ⟨⟨by decide +kernel, by decide +kernel⟩, List.mem_of_getElem? (i := 809) (by decide +kernel), List.mem_of_getElem? (i := 1069) (by decide +kernel), List.mem_of_getElem? (i := 1070) (by decide +kernel)⟩
theorem lw_p50 : lw_okq (⟨"BreweryCellarModel", "does", "(I)I"⟩, 21) := ⟨⟨by decide +kernel, by decide +kernel⟩, List.mem_of_getElem? (i := 809) (by decide +kernel), List.mem_of_getElem? (i := 1073) (by decide +kernel), List.mem_of_getElem? (i := 1074) (by decide +kernel)⟩
theorem lw_p51 : lw_okq (⟨"BreweryCellarModel", "alcoholBy", "(II)J"⟩, 21) := ⟨⟨by decide +kernel, by decide +kernel⟩, List.mem_of_getElem? (i := 809) (by decide +kernel), List.mem_of_getElem? (i := 1108) (by decide +kernel), List.mem_of_getElem? (i := 1109) (by decide +kernel)⟩
theorem lw_p52 : lw_okq (⟨"BreweryCellarModel", "excised", "(Z)J"⟩, 21) := ⟨⟨by decide +kernel, by decide +kernel⟩, List.mem_of_getElem? (i := 809) (by decide +kernel), List.mem_of_getElem? (i := 1130) (by decide +kernel), List.mem_of_getElem? (i := 1131) (by decide +kernel)⟩
def lw_privs_4 : List (MethodName × Nat) := [(⟨"BreweryCellarModel", "readsDigits", "(I)I"⟩, 21), (⟨"BreweryCellarModel", "reads", "(C)V"⟩, 21), (⟨"BreweryCellarModel", "does", "(I)I"⟩, 21), (⟨"BreweryCellarModel", "alcoholBy", "(II)J"⟩, 21), (⟨"BreweryCellarModel", "excised", "(Z)J"⟩, 21)]
theorem lw_r4 : ∀ q ∈ lw_privs_4, lw_okq q := List.forall_mem_cons.mpr ⟨lw_p48, List.forall_mem_cons.mpr ⟨lw_p49, List.forall_mem_cons.mpr ⟨lw_p50, List.forall_mem_cons.mpr ⟨lw_p51, List.forall_mem_cons.mpr ⟨lw_p52, fun _ h => absurd h List.not_mem_nil⟩⟩⟩⟩⟩
def lw_privs : List (MethodName × Nat) := lw_privs_1 ++ (lw_privs_2 ++ (lw_privs_3 ++ (lw_privs_4)))
def lw_tbl : List Cond := k2_sels lw_privs ++ tables_1
theorem lw_privs_ok : ∀ q ∈ lw_privs, lw_okq q := by
  show ∀ q ∈ lw_privs_1 ++ (lw_privs_2 ++ (lw_privs_3 ++ (lw_privs_4))), lw_okq q
  exact List.forall_mem_append.mpr ⟨lw_r1, List.forall_mem_append.mpr ⟨lw_r2, List.forall_mem_append.mpr ⟨lw_r3, lw_r4⟩⟩⟩
end
section
def RX0 : String := "BreweryCellar$Blend"
def TX0 : u_T := fun k => match k with
  | _ => ("BreweryCellar$Blend", "parts", "[I", true)
def tyX0 : Nat → FieldType := fun k => match k with
  | _ => .array .int
abbrev wsX00 : List Cond := u_ws RX0 TX0 1
theorem nmX0 : ∀ a, a < 1 → ∀ b, b < 1 → a ≠ b → (TX0 a).2.1 ≠ (TX0 b).2.1 := by decide +kernel
theorem tyX0_ok : ∀ k, k < 1 → parseFieldDescriptor (TX0 k).2.2.1 = some (tyX0 k) := by decide +kernel
abbrev cX0_init : ByteArray := prog_2_method_1_code
def yX0_init : MethodName := ⟨RX0, "<init>", "()V"⟩
abbrev cX0_copyFrom : ByteArray := prog_2_method_2_code
def yX0_copyFrom : MethodName := ⟨RX0, "copyFrom", "(LBreweryCellar$Blend;)V"⟩
abbrev cX0_add : ByteArray := prog_2_method_3_code
def yX0_add : MethodName := ⟨RX0, "add", "(LBreweryCellar$Blend;)V"⟩
abbrev cX0_remove : ByteArray := prog_2_method_4_code
def yX0_remove : MethodName := ⟨RX0, "remove", "(LBreweryCellar$Blend;)V"⟩
abbrev cX0_total : ByteArray := prog_2_method_5_code
def yX0_total : MethodName := ⟨RX0, "total", "()I"⟩
abbrev cX0_batches : ByteArray := prog_2_method_6_code
def yX0_batches : MethodName := ⟨RX0, "batches", "()I"⟩
abbrev cX0_alcohol : ByteArray := prog_2_method_7_code
def yX0_alcohol : MethodName := ⟨RX0, "alcohol", "([I)J"⟩
abbrev cX0_strength : ByteArray := prog_2_method_8_code
def yX0_strength : MethodName := ⟨RX0, "strength", "([I)I"⟩
abbrev cX0_sumOfStrengths : ByteArray := prog_2_method_9_code
def yX0_sumOfStrengths : MethodName := ⟨RX0, "sumOfStrengths", "([I)J"⟩
def RX1 : String := "BreweryCellar$Command"
def TX1 : u_T := fun k => match k with
  | 0 => ("BreweryCellar$Command", "letter", "I", false)
  | 1 => ("BreweryCellar$Command", "tank", "I", false)
  | 2 => ("BreweryCellar$Command", "other", "I", false)
  | _ => ("BreweryCellar$Command", "number", "I", false)
def tyX1 : Nat → FieldType := fun k => match k with
  | 0 => .int
  | 1 => .int
  | 2 => .int
  | _ => .int
abbrev wsX10 : List Cond := u_ws RX1 TX1 4
theorem nmX1 : ∀ a, a < 4 → ∀ b, b < 4 → a ≠ b → (TX1 a).2.1 ≠ (TX1 b).2.1 := by decide +kernel
theorem tyX1_ok : ∀ k, k < 4 → parseFieldDescriptor (TX1 k).2.2.1 = some (tyX1 k) := by decide +kernel
abbrev cX1_init : ByteArray := prog_3_method_1_code
def yX1_init : MethodName := ⟨RX1, "<init>", "()V"⟩
def RX2 : String := "BreweryCellar$Journal"
def TX2 : u_T := fun k => match k with
  | 0 => ("BreweryCellar$Journal", "made", "I", false)
  | _ => ("BreweryCellar$Journal", "parts", "[I", true)
def tyX2 : Nat → FieldType := fun k => match k with
  | 0 => .int
  | _ => .array .int
abbrev wsX20 : List Cond := u_ws RX2 TX2 2
theorem nmX2 : ∀ a, a < 2 → ∀ b, b < 2 → a ≠ b → (TX2 a).2.1 ≠ (TX2 b).2.1 := by decide +kernel
theorem tyX2_ok : ∀ k, k < 2 → parseFieldDescriptor (TX2 k).2.2.1 = some (tyX2 k) := by decide +kernel
abbrev cX2_init : ByteArray := prog_4_method_1_code
def yX2_init : MethodName := ⟨RX2, "<init>", "()V"⟩
abbrev cX2_copyFrom : ByteArray := prog_4_method_2_code
def yX2_copyFrom : MethodName := ⟨RX2, "copyFrom", "(LBreweryCellar$Journal;)V"⟩
abbrev cX2_write : ByteArray := prog_4_method_3_code
def yX2_write : MethodName := ⟨RX2, "write", "(IIII)V"⟩
abbrev cX2_part : ByteArray := prog_4_method_4_code
def yX2_part : MethodName := ⟨RX2, "part", "(II)I"⟩
def RX3 : String := "BreweryCellar$Mixer"
def TX3 : u_T := fun k => match k with
  | _ => ("BreweryCellar$Mixer", "taken", "LBreweryCellar$Portion;", true)
def tyX3 : Nat → FieldType := fun k => match k with
  | _ => .object "BreweryCellar$Portion"
abbrev wsX30 : List Cond := u_ws RX3 TX3 1
theorem nmX3 : ∀ a, a < 1 → ∀ b, b < 1 → a ≠ b → (TX3 a).2.1 ≠ (TX3 b).2.1 := by decide +kernel
theorem tyX3_ok : ∀ k, k < 1 → parseFieldDescriptor (TX3 k).2.2.1 = some (tyX3 k) := by decide +kernel
abbrev cX3_init : ByteArray := prog_5_method_1_code
def yX3_init : MethodName := ⟨RX3, "<init>", "()V"⟩
abbrev cX3_nearest : ByteArray := prog_5_method_2_code
def yX3_nearest : MethodName := ⟨RX3, "nearest", "(LBreweryCellar$Blend;LBreweryCellar$Blend;[III)I"⟩
abbrev cX3_distanceAt : ByteArray := prog_5_method_3_code
def yX3_distanceAt : MethodName := ⟨RX3, "distanceAt", "(LBreweryCellar$Blend;LBreweryCellar$Blend;[IIIJ)J"⟩
def RX4 : String := "BreweryCellar$Order"
def TX4 : u_T := fun k => match k with
  | 0 => ("BreweryCellar$Order", "due", "I", false)
  | 1 => ("BreweryCellar$Order", "litres", "I", false)
  | 2 => ("BreweryCellar$Order", "least", "I", false)
  | 3 => ("BreweryCellar$Order", "greatest", "I", false)
  | 4 => ("BreweryCellar$Order", "status", "I", false)
  | 5 => ("BreweryCellar$Order", "duty", "I", false)
  | 6 => ("BreweryCellar$Order", "fillDay", "I", false)
  | 7 => ("BreweryCellar$Order", "fillStrength", "I", false)
  | _ => ("BreweryCellar$Order", "fillAlcohol", "J", false)
def tyX4 : Nat → FieldType := fun k => match k with
  | 0 => .int
  | 1 => .int
  | 2 => .int
  | 3 => .int
  | 4 => .int
  | 5 => .int
  | 6 => .int
  | 7 => .int
  | _ => .long
abbrev wsX40 : List Cond := u_ws RX4 TX4 9
theorem nmX4 : ∀ a, a < 9 → ∀ b, b < 9 → a ≠ b → (TX4 a).2.1 ≠ (TX4 b).2.1 := by decide +kernel
theorem tyX4_ok : ∀ k, k < 9 → parseFieldDescriptor (TX4 k).2.2.1 = some (tyX4 k) := by decide +kernel
abbrev cX4_init : ByteArray := prog_6_method_1_code
def yX4_init : MethodName := ⟨RX4, "<init>", "()V"⟩
abbrev cX4_copyFrom : ByteArray := prog_6_method_2_code
def yX4_copyFrom : MethodName := ⟨RX4, "copyFrom", "(LBreweryCellar$Order;)V"⟩
abbrev cX4_allows : ByteArray := prog_6_method_3_code
def yX4_allows : MethodName := ⟨RX4, "allows", "(I)Z"⟩
abbrev cX4_aheadOf : ByteArray := prog_6_method_4_code
def yX4_aheadOf : MethodName := ⟨RX4, "aheadOf", "(LBreweryCellar$Order;)Z"⟩
def RX5 : String := "BreweryCellar$Plan"
def TX5 : u_T := fun k => match k with
  | 0 => ("BreweryCellar$Plan", "length", "I", false)
  | 1 => ("BreweryCellar$Plan", "orders", "[I", true)
  | 2 => ("BreweryCellar$Plan", "tanks", "[I", true)
  | 3 => ("BreweryCellar$Plan", "queued", "I", false)
  | 4 => ("BreweryCellar$Plan", "queue", "[I", true)
  | 5 => ("BreweryCellar$Plan", "left", "[LBreweryCellar$Blend;", true)
  | _ => ("BreweryCellar$Plan", "taken", "LBreweryCellar$Portion;", true)
def tyX5 : Nat → FieldType := fun k => match k with
  | 0 => .int
  | 1 => .array .int
  | 2 => .array .int
  | 3 => .int
  | 4 => .array .int
  | 5 => .array (.object "BreweryCellar$Blend")
  | _ => .object "BreweryCellar$Portion"
abbrev wsX50 : List Cond := u_ws RX5 TX5 7
theorem nmX5 : ∀ a, a < 7 → ∀ b, b < 7 → a ≠ b → (TX5 a).2.1 ≠ (TX5 b).2.1 := by decide +kernel
theorem tyX5_ok : ∀ k, k < 7 → parseFieldDescriptor (TX5 k).2.2.1 = some (tyX5 k) := by decide +kernel
abbrev cX5_init : ByteArray := prog_7_method_1_code
def yX5_init : MethodName := ⟨RX5, "<init>", "()V"⟩
abbrev cX5_reckon : ByteArray := prog_7_method_2_code
def yX5_reckon : MethodName := ⟨RX5, "reckon", "(LBreweryCellar$State;)V"⟩
abbrev cX5_tankOf : ByteArray := prog_7_method_3_code
def yX5_tankOf : MethodName := ⟨RX5, "tankOf", "(I)I"⟩
abbrev cX5_queueOpenOrders : ByteArray := prog_7_method_4_code
def yX5_queueOpenOrders : MethodName := ⟨RX5, "queueOpenOrders", "(LBreweryCellar$State;)V"⟩
abbrev cX5_bestTank : ByteArray := prog_7_method_5_code
def yX5_bestTank : MethodName := ⟨RX5, "bestTank", "(LBreweryCellar$Order;[I)I"⟩
def RX6 : String := "BreweryCellar$Portion"
def TX6 : u_T := fun k => match k with
  | 0 => ("BreweryCellar$Portion", "blend", "LBreweryCellar$Blend;", true)
  | _ => ("BreweryCellar$Portion", "remainders", "[I", true)
def tyX6 : Nat → FieldType := fun k => match k with
  | 0 => .object "BreweryCellar$Blend"
  | _ => .array .int
abbrev wsX60 : List Cond := u_ws RX6 TX6 2
theorem nmX6 : ∀ a, a < 2 → ∀ b, b < 2 → a ≠ b → (TX6 a).2.1 ≠ (TX6 b).2.1 := by decide +kernel
theorem tyX6_ok : ∀ k, k < 2 → parseFieldDescriptor (TX6 k).2.2.1 = some (tyX6 k) := by decide +kernel
abbrev cX6_init : ByteArray := prog_8_method_1_code
def yX6_init : MethodName := ⟨RX6, "<init>", "()V"⟩
abbrev cX6_take : ByteArray := prog_8_method_2_code
def yX6_take : MethodName := ⟨RX6, "take", "(LBreweryCellar$Blend;I)V"⟩
abbrev cX6_takeOneMore : ByteArray := prog_8_method_3_code
def yX6_takeOneMore : MethodName := ⟨RX6, "takeOneMore", "()V"⟩
def RX7 : String := "BreweryCellar$Rate"
def TX7 : u_T := fun k => match k with
  | 0 => ("BreweryCellar$Rate", "day", "I", false)
  | 1 => ("BreweryCellar$Rate", "strength", "I", false)
  | _ => ("BreweryCellar$Rate", "amount", "I", false)
def tyX7 : Nat → FieldType := fun k => match k with
  | 0 => .int
  | 1 => .int
  | _ => .int
abbrev wsX70 : List Cond := u_ws RX7 TX7 3
theorem nmX7 : ∀ a, a < 3 → ∀ b, b < 3 → a ≠ b → (TX7 a).2.1 ≠ (TX7 b).2.1 := by decide +kernel
theorem tyX7_ok : ∀ k, k < 3 → parseFieldDescriptor (TX7 k).2.2.1 = some (tyX7 k) := by decide +kernel
abbrev cX7_init : ByteArray := prog_9_method_1_code
def yX7_init : MethodName := ⟨RX7, "<init>", "()V"⟩
abbrev cX7_copyFrom : ByteArray := prog_9_method_2_code
def yX7_copyFrom : MethodName := ⟨RX7, "copyFrom", "(LBreweryCellar$Rate;)V"⟩
def RX8 : String := "BreweryCellar$State"
def TX8 : u_T := fun k => match k with
  | 0 => ("BreweryCellar$State", "day", "I", false)
  | 1 => ("BreweryCellar$State", "transferLoss", "I", false)
  | 2 => ("BreweryCellar$State", "tanks", "[LBreweryCellar$Tank;", true)
  | 3 => ("BreweryCellar$State", "batchCount", "I", false)
  | 4 => ("BreweryCellar$State", "strengths", "[I", true)
  | 5 => ("BreweryCellar$State", "brewDays", "[I", true)
  | 6 => ("BreweryCellar$State", "brewed", "LBreweryCellar$Blend;", true)
  | 7 => ("BreweryCellar$State", "filled", "LBreweryCellar$Blend;", true)
  | 8 => ("BreweryCellar$State", "lost", "LBreweryCellar$Blend;", true)
  | 9 => ("BreweryCellar$State", "lostFor", "[I", true)
  | 10 => ("BreweryCellar$State", "rateCount", "I", false)
  | 11 => ("BreweryCellar$State", "rates", "[LBreweryCellar$Rate;", true)
  | 12 => ("BreweryCellar$State", "orderCount", "I", false)
  | 13 => ("BreweryCellar$State", "orders", "[LBreweryCellar$Order;", true)
  | 14 => ("BreweryCellar$State", "paid", "J", false)
  | 15 => ("BreweryCellar$State", "corrected", "J", false)
  | _ => ("BreweryCellar$State", "journal", "LBreweryCellar$Journal;", true)
def tyX8 : Nat → FieldType := fun k => match k with
  | 0 => .int
  | 1 => .int
  | 2 => .array (.object "BreweryCellar$Tank")
  | 3 => .int
  | 4 => .array .int
  | 5 => .array .int
  | 6 => .object "BreweryCellar$Blend"
  | 7 => .object "BreweryCellar$Blend"
  | 8 => .object "BreweryCellar$Blend"
  | 9 => .array .int
  | 10 => .int
  | 11 => .array (.object "BreweryCellar$Rate")
  | 12 => .int
  | 13 => .array (.object "BreweryCellar$Order")
  | 14 => .long
  | 15 => .long
  | _ => .object "BreweryCellar$Journal"
abbrev wsX80 : List Cond := u_ws RX8 TX8 17
theorem nmX8 : ∀ a, a < 17 → ∀ b, b < 17 → a ≠ b → (TX8 a).2.1 ≠ (TX8 b).2.1 := by decide +kernel
theorem tyX8_ok : ∀ k, k < 17 → parseFieldDescriptor (TX8 k).2.2.1 = some (tyX8 k) := by decide +kernel
abbrev cX8_init : ByteArray := prog_10_method_1_code
def yX8_init : MethodName := ⟨RX8, "<init>", "()V"⟩
abbrev cX8_copyFrom : ByteArray := prog_10_method_2_code
def yX8_copyFrom : MethodName := ⟨RX8, "copyFrom", "(LBreweryCellar$State;)V"⟩
abbrev cX8_tankAt : ByteArray := prog_10_method_3_code
def yX8_tankAt : MethodName := ⟨RX8, "tankAt", "(I)LBreweryCellar$Tank;"⟩
abbrev cX8_orderAt : ByteArray := prog_10_method_4_code
def yX8_orderAt : MethodName := ⟨RX8, "orderAt", "(I)LBreweryCellar$Order;"⟩
abbrev cX8_note : ByteArray := prog_10_method_5_code
def yX8_note : MethodName := ⟨RX8, "note", "(III)V"⟩
abbrev cX8_addBatch : ByteArray := prog_10_method_6_code
def yX8_addBatch : MethodName := ⟨RX8, "addBatch", "(II)I"⟩
abbrev cX8_writeOff : ByteArray := prog_10_method_7_code
def yX8_writeOff : MethodName := ⟨RX8, "writeOff", "(ILBreweryCellar$Blend;II)V"⟩
abbrev cX8_inTanks : ByteArray := prog_10_method_8_code
def yX8_inTanks : MethodName := ⟨RX8, "inTanks", "(I)I"⟩
abbrev cX8_tanksWith : ByteArray := prog_10_method_9_code
def yX8_tanksWith : MethodName := ⟨RX8, "tanksWith", "(I)I"⟩
abbrev cX8_litresInTanks : ByteArray := prog_10_method_10_code
def yX8_litresInTanks : MethodName := ⟨RX8, "litresInTanks", "()I"⟩
abbrev cX8_alcoholInTanks : ByteArray := prog_10_method_11_code
def yX8_alcoholInTanks : MethodName := ⟨RX8, "alcoholInTanks", "()J"⟩
abbrev cX8_tanksInPhase : ByteArray := prog_10_method_12_code
def yX8_tanksInPhase : MethodName := ⟨RX8, "tanksInPhase", "(I)I"⟩
abbrev cX8_openOrders : ByteArray := prog_10_method_13_code
def yX8_openOrders : MethodName := ⟨RX8, "openOrders", "()I"⟩
abbrev cX8_openLitres : ByteArray := prog_10_method_14_code
def yX8_openLitres : MethodName := ⟨RX8, "openLitres", "()I"⟩
abbrev cX8_rateFor : ByteArray := prog_10_method_15_code
def yX8_rateFor : MethodName := ⟨RX8, "rateFor", "(II)I"⟩
abbrev cX8_dutyOn : ByteArray := prog_10_method_16_code
def yX8_dutyOn : MethodName := ⟨RX8, "dutyOn", "(LBreweryCellar$Order;)I"⟩
abbrev cX8_dutyNow : ByteArray := prog_10_method_17_code
def yX8_dutyNow : MethodName := ⟨RX8, "dutyNow", "()J"⟩
abbrev cX8_stillDue : ByteArray := prog_10_method_18_code
def yX8_stillDue : MethodName := ⟨RX8, "stillDue", "()J"⟩
def RX9 : String := "BreweryCellar$Tank"
def TX9 : u_T := fun k => match k with
  | 0 => ("BreweryCellar$Tank", "capacity", "I", false)
  | 1 => ("BreweryCellar$Tank", "phase", "I", false)
  | 2 => ("BreweryCellar$Tank", "cleanDay", "I", false)
  | _ => ("BreweryCellar$Tank", "content", "LBreweryCellar$Blend;", true)
def tyX9 : Nat → FieldType := fun k => match k with
  | 0 => .int
  | 1 => .int
  | 2 => .int
  | _ => .object "BreweryCellar$Blend"
abbrev wsX90 : List Cond := u_ws RX9 TX9 4
theorem nmX9 : ∀ a, a < 4 → ∀ b, b < 4 → a ≠ b → (TX9 a).2.1 ≠ (TX9 b).2.1 := by decide +kernel
theorem tyX9_ok : ∀ k, k < 4 → parseFieldDescriptor (TX9 k).2.2.1 = some (tyX9 k) := by decide +kernel
abbrev cX9_init : ByteArray := prog_11_method_1_code
def yX9_init : MethodName := ⟨RX9, "<init>", "()V"⟩
abbrev cX9_copyFrom : ByteArray := prog_11_method_2_code
def yX9_copyFrom : MethodName := ⟨RX9, "copyFrom", "(LBreweryCellar$Tank;)V"⟩
abbrev cX9_room : ByteArray := prog_11_method_3_code
def yX9_room : MethodName := ⟨RX9, "room", "()I"⟩
abbrev cX9_giveOut : ByteArray := prog_11_method_4_code
def yX9_giveOut : MethodName := ⟨RX9, "giveOut", "(LBreweryCellar$Blend;)V"⟩
abbrev cX9_takeIn : ByteArray := prog_11_method_5_code
def yX9_takeIn : MethodName := ⟨RX9, "takeIn", "(LBreweryCellar$Blend;)V"⟩
def RX10 : String := "BreweryCellar$Tape"
def TX10 : u_T := fun k => match k with
  | 0 => ("BreweryCellar$Tape", "length", "I", false)
  | 1 => ("BreweryCellar$Tape", "bytes", "[I", true)
  | 2 => ("BreweryCellar$Tape", "at", "I", false)
  | 3 => ("BreweryCellar$Tape", "wrong", "Z", false)
  | 4 => ("BreweryCellar$Tape", "commandCount", "I", false)
  | _ => ("BreweryCellar$Tape", "commands", "[LBreweryCellar$Command;", true)
def tyX10 : Nat → FieldType := fun k => match k with
  | 0 => .int
  | 1 => .array .int
  | 2 => .int
  | 3 => .boolean
  | 4 => .int
  | _ => .array (.object "BreweryCellar$Command")
abbrev wsX100 : List Cond := u_ws RX10 TX10 6
theorem nmX10 : ∀ a, a < 6 → ∀ b, b < 6 → a ≠ b → (TX10 a).2.1 ≠ (TX10 b).2.1 := by decide +kernel
theorem tyX10_ok : ∀ k, k < 6 → parseFieldDescriptor (TX10 k).2.2.1 = some (tyX10 k) := by decide +kernel
abbrev cX10_init : ByteArray := prog_12_method_1_code
def yX10_init : MethodName := ⟨RX10, "<init>", "()V"⟩
abbrev cX10_append : ByteArray := prog_12_method_2_code
def yX10_append : MethodName := ⟨RX10, "append", "(I)V"⟩
abbrev cX10_readCommands : ByteArray := prog_12_method_3_code
def yX10_readCommands : MethodName := ⟨RX10, "readCommands", "()Z"⟩
abbrev cX10_readCommand : ByteArray := prog_12_method_4_code
def yX10_readCommand : MethodName := ⟨RX10, "readCommand", "(LBreweryCellar$Command;)V"⟩
abbrev cX10_next : ByteArray := prog_12_method_5_code
def yX10_next : MethodName := ⟨RX10, "next", "()I"⟩
abbrev cX10_digitNext : ByteArray := prog_12_method_6_code
def yX10_digitNext : MethodName := ⟨RX10, "digitNext", "()Z"⟩
abbrev cX10_readSign : ByteArray := prog_12_method_7_code
def yX10_readSign : MethodName := ⟨RX10, "readSign", "(C)V"⟩
abbrev cX10_readDigit : ByteArray := prog_12_method_8_code
def yX10_readDigit : MethodName := ⟨RX10, "readDigit", "()I"⟩
abbrev cX10_readNumber : ByteArray := prog_12_method_9_code
def yX10_readNumber : MethodName := ⟨RX10, "readNumber", "()I"⟩
def RX11 : String := "BreweryCellar"
def TX11 : u_T := fun k => match k with
  | 0 => ("BreweryCellar", "state", "LBreweryCellar$State;", true)
  | 1 => ("BreweryCellar", "past", "[LBreweryCellar$State;", true)
  | 2 => ("BreweryCellar", "changes", "I", false)
  | 3 => ("BreweryCellar", "snapshot", "LBreweryCellar$State;", true)
  | 4 => ("BreweryCellar", "snapshotTaken", "Z", false)
  | 5 => ("BreweryCellar", "tape", "LBreweryCellar$Tape;", true)
  | 6 => ("BreweryCellar", "plan", "LBreweryCellar$Plan;", true)
  | 7 => ("BreweryCellar", "mixer", "LBreweryCellar$Mixer;", true)
  | 8 => ("BreweryCellar", "taken", "LBreweryCellar$Portion;", true)
  | 9 => ("BreweryCellar", "wasted", "LBreweryCellar$Portion;", true)
  | _ => ("BreweryCellar", "latestReason", "I", false)
def tyX11 : Nat → FieldType := fun k => match k with
  | 0 => .object "BreweryCellar$State"
  | 1 => .array (.object "BreweryCellar$State")
  | 2 => .int
  | 3 => .object "BreweryCellar$State"
  | 4 => .boolean
  | 5 => .object "BreweryCellar$Tape"
  | 6 => .object "BreweryCellar$Plan"
  | 7 => .object "BreweryCellar$Mixer"
  | 8 => .object "BreweryCellar$Portion"
  | 9 => .object "BreweryCellar$Portion"
  | _ => .int
abbrev wsX110 : List Cond := u_ws RX11 TX11 11
theorem nmX11 : ∀ a, a < 11 → ∀ b, b < 11 → a ≠ b → (TX11 a).2.1 ≠ (TX11 b).2.1 := by decide +kernel
theorem tyX11_ok : ∀ k, k < 11 → parseFieldDescriptor (TX11 k).2.2.1 = some (tyX11 k) := by decide +kernel
abbrev cX11_init : ByteArray := prog_1_method_1_code
def yX11_init : MethodName := ⟨RX11, "<init>", "()V"⟩
abbrev cX11_size : ByteArray := prog_1_method_2_code
def yX11_size : MethodName := ⟨RX11, "size", "(II)I"⟩
abbrev cX11_brew : ByteArray := prog_1_method_3_code
def yX11_brew : MethodName := ⟨RX11, "brew", "(III)I"⟩
abbrev cX11_transfer : ByteArray := prog_1_method_4_code
def yX11_transfer : MethodName := ⟨RX11, "transfer", "(III)I"⟩
abbrev cX11_lose : ByteArray := prog_1_method_5_code
def yX11_lose : MethodName := ⟨RX11, "lose", "(III)I"⟩
abbrev cX11_setLoss : ByteArray := prog_1_method_6_code
def yX11_setLoss : MethodName := ⟨RX11, "setLoss", "(I)I"⟩
abbrev cX11_rate : ByteArray := prog_1_method_7_code
def yX11_rate : MethodName := ⟨RX11, "rate", "(III)I"⟩
abbrev cX11_order : ByteArray := prog_1_method_8_code
def yX11_order : MethodName := ⟨RX11, "order", "(IIII)I"⟩
abbrev cX11_drop : ByteArray := prog_1_method_9_code
def yX11_drop : MethodName := ⟨RX11, "drop", "(I)I"⟩
abbrev cX11_fill : ByteArray := prog_1_method_10_code
def yX11_fill : MethodName := ⟨RX11, "fill", "(II)I"⟩
abbrev cX11_fillAll : ByteArray := prog_1_method_11_code
def yX11_fillAll : MethodName := ⟨RX11, "fillAll", "()I"⟩
abbrev cX11_clean : ByteArray := prog_1_method_12_code
def yX11_clean : MethodName := ⟨RX11, "clean", "(I)I"⟩
abbrev cX11_pass : ByteArray := prog_1_method_13_code
def yX11_pass : MethodName := ⟨RX11, "pass", "(I)I"⟩
abbrev cX11_feed : ByteArray := prog_1_method_14_code
def yX11_feed : MethodName := ⟨RX11, "feed", "(IIIIII)I"⟩
abbrev cX11_run : ByteArray := prog_1_method_15_code
def yX11_run : MethodName := ⟨RX11, "run", "()I"⟩
abbrev cX11_reason : ByteArray := prog_1_method_16_code
def yX11_reason : MethodName := ⟨RX11, "reason", "()I"⟩
abbrev cX11_ofTank : ByteArray := prog_1_method_17_code
def yX11_ofTank : MethodName := ⟨RX11, "ofTank", "(II)I"⟩
abbrev cX11_litres : ByteArray := prog_1_method_18_code
def yX11_litres : MethodName := ⟨RX11, "litres", "(II)I"⟩
abbrev cX11_ofBatch : ByteArray := prog_1_method_19_code
def yX11_ofBatch : MethodName := ⟨RX11, "ofBatch", "(II)I"⟩
abbrev cX11_mix : ByteArray := prog_1_method_20_code
def yX11_mix : MethodName := ⟨RX11, "mix", "(IIII)I"⟩
abbrev cX11_ofOrder : ByteArray := prog_1_method_21_code
def yX11_ofOrder : MethodName := ⟨RX11, "ofOrder", "(II)I"⟩
abbrev cX11_planned : ByteArray := prog_1_method_22_code
def yX11_planned : MethodName := ⟨RX11, "planned", "(I)I"⟩
abbrev cX11_holds : ByteArray := prog_1_method_23_code
def yX11_holds : MethodName := ⟨RX11, "holds", "(II)I"⟩
abbrev cX11_excise : ByteArray := prog_1_method_24_code
def yX11_excise : MethodName := ⟨RX11, "excise", "(I)J"⟩
abbrev cX11_correct : ByteArray := prog_1_method_25_code
def yX11_correct : MethodName := ⟨RX11, "correct", "()I"⟩
abbrev cX11_entry : ByteArray := prog_1_method_26_code
def yX11_entry : MethodName := ⟨RX11, "entry", "(II)I"⟩
abbrev cX11_account : ByteArray := prog_1_method_27_code
def yX11_account : MethodName := ⟨RX11, "account", "(I)J"⟩
abbrev cX11_back : ByteArray := prog_1_method_28_code
def yX11_back : MethodName := ⟨RX11, "back", "()I"⟩
abbrev cX11_image : ByteArray := prog_1_method_29_code
def yX11_image : MethodName := ⟨RX11, "image", "()I"⟩
abbrev cX11_undo : ByteArray := prog_1_method_30_code
def yX11_undo : MethodName := ⟨RX11, "undo", "()I"⟩
abbrev cX11_count : ByteArray := prog_1_method_31_code
def yX11_count : MethodName := ⟨RX11, "count", "(I)I"⟩
abbrev cX11_outside : ByteArray := prog_1_method_32_code
def yX11_outside : MethodName := ⟨RX11, "outside", "(III)Z"⟩
abbrev cX11_noByte : ByteArray := prog_1_method_33_code
def yX11_noByte : MethodName := ⟨RX11, "noByte", "(I)Z"⟩
abbrev cX11_refuse : ByteArray := prog_1_method_34_code
def yX11_refuse : MethodName := ⟨RX11, "refuse", "(I)I"⟩
abbrev cX11_putBy : ByteArray := prog_1_method_35_code
def yX11_putBy : MethodName := ⟨RX11, "putBy", "()V"⟩
abbrev cX11_changed : ByteArray := prog_1_method_36_code
def yX11_changed : MethodName := ⟨RX11, "changed", "(I)I"⟩
abbrev cX11_settle : ByteArray := prog_1_method_37_code
def yX11_settle : MethodName := ⟨RX11, "settle", "(I)I"⟩
abbrev cX11_perform : ByteArray := prog_1_method_38_code
def yX11_perform : MethodName := ⟨RX11, "perform", "(LBreweryCellar$Command;)I"⟩
abbrev cX11_pour : ByteArray := prog_1_method_39_code
def yX11_pour : MethodName := ⟨RX11, "pour", "(III)I"⟩
abbrev cX11_spill : ByteArray := prog_1_method_40_code
def yX11_spill : MethodName := ⟨RX11, "spill", "(III)I"⟩
abbrev cX11_deliver : ByteArray := prog_1_method_41_code
def yX11_deliver : MethodName := ⟨RX11, "deliver", "(II)I"⟩
abbrev cX11_scrub : ByteArray := prog_1_method_42_code
def yX11_scrub : MethodName := ⟨RX11, "scrub", "(I)I"⟩
abbrev cX11_letPass : ByteArray := prog_1_method_43_code
def yX11_letPass : MethodName := ⟨RX11, "letPass", "(I)I"⟩
def RX12 : String := "BreweryCellarModel"
def TX12 : u_T := fun k => match k with
  | 0 => ("BreweryCellarModel", "g", "[I", true)
  | 1 => ("BreweryCellarModel", "history", "[I", true)
  | 2 => ("BreweryCellarModel", "steps", "I", false)
  | 3 => ("BreweryCellarModel", "kept", "[I", true)
  | 4 => ("BreweryCellarModel", "hasKept", "Z", false)
  | 5 => ("BreweryCellarModel", "before", "[I", true)
  | 6 => ("BreweryCellarModel", "isQuiet", "Z", false)
  | 7 => ("BreweryCellarModel", "why", "I", false)
  | 8 => ("BreweryCellarModel", "tape", "[I", true)
  | 9 => ("BreweryCellarModel", "taped", "I", false)
  | 10 => ("BreweryCellarModel", "there", "[I", true)
  | 11 => ("BreweryCellarModel", "taken", "[I", true)
  | 12 => ("BreweryCellarModel", "rests", "[I", true)
  | 13 => ("BreweryCellarModel", "plannedRow", "[I", true)
  | 14 => ("BreweryCellarModel", "planTank", "[I", true)
  | 15 => ("BreweryCellarModel", "wasSeen", "[Z", true)
  | 16 => ("BreweryCellarModel", "planned", "[I", true)
  | 17 => ("BreweryCellarModel", "plannedMany", "I", false)
  | 18 => ("BreweryCellarModel", "place", "I", false)
  | 19 => ("BreweryCellarModel", "isWrong", "Z", false)
  | _ => ("BreweryCellarModel", "told", "[I", true)
def tyX12 : Nat → FieldType := fun k => match k with
  | 0 => .array .int
  | 1 => .array .int
  | 2 => .int
  | 3 => .array .int
  | 4 => .boolean
  | 5 => .array .int
  | 6 => .boolean
  | 7 => .int
  | 8 => .array .int
  | 9 => .int
  | 10 => .array .int
  | 11 => .array .int
  | 12 => .array .int
  | 13 => .array .int
  | 14 => .array .int
  | 15 => .array .boolean
  | 16 => .array .int
  | 17 => .int
  | 18 => .int
  | 19 => .boolean
  | _ => .array .int
abbrev wsX120 : List Cond := u_ws RX12 TX12 21
theorem nmX12 : ∀ a, a < 21 → ∀ b, b < 21 → a ≠ b → (TX12 a).2.1 ≠ (TX12 b).2.1 := by decide +kernel
theorem tyX12_ok : ∀ k, k < 21 → parseFieldDescriptor (TX12 k).2.2.1 = some (tyX12 k) := by decide +kernel
abbrev cX12_init : ByteArray := prog_14_method_1_code
def yX12_init : MethodName := ⟨RX12, "<init>", "()V"⟩
abbrev cX12_in : ByteArray := prog_14_method_2_code
def yX12_in : MethodName := ⟨RX12, "in", "(III)Z"⟩
abbrev cX12_refuses : ByteArray := prog_14_method_3_code
def yX12_refuses : MethodName := ⟨RX12, "refuses", "(I)I"⟩
abbrev cX12_copy : ByteArray := prog_14_method_4_code
def yX12_copy : MethodName := ⟨RX12, "copy", "([II[II)V"⟩
abbrev cX12_remembersRow : ByteArray := prog_14_method_5_code
def yX12_remembersRow : MethodName := ⟨RX12, "remembersRow", "([I)V"⟩
abbrev cX12_remembers : ByteArray := prog_14_method_6_code
def yX12_remembers : MethodName := ⟨RX12, "remembers", "()V"⟩
abbrev cX12_isTank : ByteArray := prog_14_method_7_code
def yX12_isTank : MethodName := ⟨RX12, "isTank", "(I)Z"⟩
abbrev cX12_tankAt : ByteArray := prog_14_method_8_code
def yX12_tankAt : MethodName := ⟨RX12, "tankAt", "(II)I"⟩
abbrev cX12_partAt : ByteArray := prog_14_method_9_code
def yX12_partAt : MethodName := ⟨RX12, "partAt", "(II)I"⟩
abbrev cX12_orderAt : ByteArray := prog_14_method_10_code
def yX12_orderAt : MethodName := ⟨RX12, "orderAt", "(II)I"⟩
abbrev cX12_strengthOf : ByteArray := prog_14_method_11_code
def yX12_strengthOf : MethodName := ⟨RX12, "strengthOf", "(I)I"⟩
abbrev cX12_litresIn : ByteArray := prog_14_method_12_code
def yX12_litresIn : MethodName := ⟨RX12, "litresIn", "(I)I"⟩
abbrev cX12_sumOf : ByteArray := prog_14_method_13_code
def yX12_sumOf : MethodName := ⟨RX12, "sumOf", "([I)I"⟩
abbrev cX12_alcoholOf : ByteArray := prog_14_method_14_code
def yX12_alcoholOf : MethodName := ⟨RX12, "alcoholOf", "([I)J"⟩
abbrev cX12_looksAt : ByteArray := prog_14_method_15_code
def yX12_looksAt : MethodName := ⟨RX12, "looksAt", "(I)V"⟩
abbrev cX12_takes : ByteArray := prog_14_method_16_code
def yX12_takes : MethodName := ⟨RX12, "takes", "(I)V"⟩
abbrev cX12_leaves : ByteArray := prog_14_method_17_code
def yX12_leaves : MethodName := ⟨RX12, "leaves", "(I)V"⟩
abbrev cX12_notes : ByteArray := prog_14_method_18_code
def yX12_notes : MethodName := ⟨RX12, "notes", "(III)V"⟩
abbrev cX12_loses : ByteArray := prog_14_method_19_code
def yX12_loses : MethodName := ⟨RX12, "loses", "(III)V"⟩
abbrev cX12_size : ByteArray := prog_14_method_20_code
def yX12_size : MethodName := ⟨RX12, "size", "(II)I"⟩
abbrev cX12_brew : ByteArray := prog_14_method_21_code
def yX12_brew : MethodName := ⟨RX12, "brew", "(III)I"⟩
abbrev cX12_transfer : ByteArray := prog_14_method_22_code
def yX12_transfer : MethodName := ⟨RX12, "transfer", "(III)I"⟩
abbrev cX12_lose : ByteArray := prog_14_method_23_code
def yX12_lose : MethodName := ⟨RX12, "lose", "(III)I"⟩
abbrev cX12_setLoss : ByteArray := prog_14_method_24_code
def yX12_setLoss : MethodName := ⟨RX12, "setLoss", "(I)I"⟩
abbrev cX12_rate : ByteArray := prog_14_method_25_code
def yX12_rate : MethodName := ⟨RX12, "rate", "(III)I"⟩
abbrev cX12_order : ByteArray := prog_14_method_26_code
def yX12_order : MethodName := ⟨RX12, "order", "(IIII)I"⟩
abbrev cX12_isOpen : ByteArray := prog_14_method_27_code
def yX12_isOpen : MethodName := ⟨RX12, "isOpen", "(I)Z"⟩
abbrev cX12_openMany : ByteArray := prog_14_method_28_code
def yX12_openMany : MethodName := ⟨RX12, "openMany", "()I"⟩
abbrev cX12_drop : ByteArray := prog_14_method_29_code
def yX12_drop : MethodName := ⟨RX12, "drop", "(I)I"⟩
abbrev cX12_rateFor : ByteArray := prog_14_method_30_code
def yX12_rateFor : MethodName := ⟨RX12, "rateFor", "(II)I"⟩
abbrev cX12_dutyFor : ByteArray := prog_14_method_31_code
def yX12_dutyFor : MethodName := ⟨RX12, "dutyFor", "(III)I"⟩
abbrev cX12_blend : ByteArray := prog_14_method_32_code
def yX12_blend : MethodName := ⟨RX12, "blend", "()I"⟩
abbrev cX12_hinders : ByteArray := prog_14_method_33_code
def yX12_hinders : MethodName := ⟨RX12, "hinders", "(I)I"⟩
abbrev cX12_fills : ByteArray := prog_14_method_34_code
def yX12_fills : MethodName := ⟨RX12, "fills", "(II)V"⟩
abbrev cX12_fill : ByteArray := prog_14_method_35_code
def yX12_fill : MethodName := ⟨RX12, "fill", "(II)I"⟩
abbrev cX12_isAhead : ByteArray := prog_14_method_36_code
def yX12_isAhead : MethodName := ⟨RX12, "isAhead", "(II)Z"⟩
abbrev cX12_nextOrder : ByteArray := prog_14_method_37_code
def yX12_nextOrder : MethodName := ⟨RX12, "nextOrder", "()I"⟩
abbrev cX12_looksAtPlan : ByteArray := prog_14_method_38_code
def yX12_looksAtPlan : MethodName := ⟨RX12, "looksAtPlan", "(I)V"⟩
abbrev cX12_tankFor : ByteArray := prog_14_method_39_code
def yX12_tankFor : MethodName := ⟨RX12, "tankFor", "(I)I"⟩
abbrev cX12_plans : ByteArray := prog_14_method_40_code
def yX12_plans : MethodName := ⟨RX12, "plans", "()V"⟩
abbrev cX12_fillAll : ByteArray := prog_14_method_41_code
def yX12_fillAll : MethodName := ⟨RX12, "fillAll", "()I"⟩
abbrev cX12_clean : ByteArray := prog_14_method_42_code
def yX12_clean : MethodName := ⟨RX12, "clean", "(I)I"⟩
abbrev cX12_pass : ByteArray := prog_14_method_43_code
def yX12_pass : MethodName := ⟨RX12, "pass", "(I)I"⟩
abbrev cX12_isByte : ByteArray := prog_14_method_44_code
def yX12_isByte : MethodName := ⟨RX12, "isByte", "(I)Z"⟩
abbrev cX12_feed : ByteArray := prog_14_method_45_code
def yX12_feed : MethodName := ⟨RX12, "feed", "(IIIIII)I"⟩
abbrev cX12_here : ByteArray := prog_14_method_46_code
def yX12_here : MethodName := ⟨RX12, "here", "()I"⟩
abbrev cX12_reads : ByteArray := prog_14_method_47_code
def yX12_reads : MethodName := ⟨RX12, "reads", "(C)V"⟩
abbrev cX12_readsDigits : ByteArray := prog_14_method_48_code
def yX12_readsDigits : MethodName := ⟨RX12, "readsDigits", "(I)I"⟩
abbrev cX12_readsCommand : ByteArray := prog_14_method_49_code
def yX12_readsCommand : MethodName := ⟨RX12, "readsCommand", "(I)V"⟩
abbrev cX12_does : ByteArray := prog_14_method_50_code
def yX12_does : MethodName := ⟨RX12, "does", "(I)I"⟩
abbrev cX12_run : ByteArray := prog_14_method_51_code
def yX12_run : MethodName := ⟨RX12, "run", "()I"⟩
abbrev cX12_reason : ByteArray := prog_14_method_52_code
def yX12_reason : MethodName := ⟨RX12, "reason", "()I"⟩
abbrev cX12_ofTank : ByteArray := prog_14_method_53_code
def yX12_ofTank : MethodName := ⟨RX12, "ofTank", "(II)I"⟩
abbrev cX12_litres : ByteArray := prog_14_method_54_code
def yX12_litres : MethodName := ⟨RX12, "litres", "(II)I"⟩
abbrev cX12_ofBatch : ByteArray := prog_14_method_55_code
def yX12_ofBatch : MethodName := ⟨RX12, "ofBatch", "(II)I"⟩
abbrev cX12_alcoholBy : ByteArray := prog_14_method_56_code
def yX12_alcoholBy : MethodName := ⟨RX12, "alcoholBy", "(II)J"⟩
abbrev cX12_mix : ByteArray := prog_14_method_57_code
def yX12_mix : MethodName := ⟨RX12, "mix", "(IIII)I"⟩
abbrev cX12_ofOrder : ByteArray := prog_14_method_58_code
def yX12_ofOrder : MethodName := ⟨RX12, "ofOrder", "(II)I"⟩
abbrev cX12_planned : ByteArray := prog_14_method_59_code
def yX12_planned : MethodName := ⟨RX12, "planned", "(I)I"⟩
abbrev cX12_holds : ByteArray := prog_14_method_60_code
def yX12_holds : MethodName := ⟨RX12, "holds", "(II)I"⟩
abbrev cX12_excised : ByteArray := prog_14_method_61_code
def yX12_excised : MethodName := ⟨RX12, "excised", "(Z)J"⟩
abbrev cX12_excise : ByteArray := prog_14_method_62_code
def yX12_excise : MethodName := ⟨RX12, "excise", "(I)J"⟩
abbrev cX12_correct : ByteArray := prog_14_method_63_code
def yX12_correct : MethodName := ⟨RX12, "correct", "()I"⟩
abbrev cX12_entry : ByteArray := prog_14_method_64_code
def yX12_entry : MethodName := ⟨RX12, "entry", "(II)I"⟩
abbrev cX12_account : ByteArray := prog_14_method_65_code
def yX12_account : MethodName := ⟨RX12, "account", "(I)J"⟩
abbrev cX12_back : ByteArray := prog_14_method_66_code
def yX12_back : MethodName := ⟨RX12, "back", "()I"⟩
abbrev cX12_image : ByteArray := prog_14_method_67_code
def yX12_image : MethodName := ⟨RX12, "image", "()I"⟩
abbrev cX12_undo : ByteArray := prog_14_method_68_code
def yX12_undo : MethodName := ⟨RX12, "undo", "()I"⟩
abbrev cX12_count : ByteArray := prog_14_method_69_code
def yX12_count : MethodName := ⟨RX12, "count", "(I)I"⟩
def RJ9 : String := "java/lang/Math"
def RJ10 : String := "java/lang/System"
def RL : String := "BreweryCellarLaw"
abbrev cL_law : ByteArray := code
def yL_law : MethodName := ⟨RL, "law", "([I)Z"⟩
theorem dX0_init_0 : decode cX0_init 0 = .ok (.aload_n 0, 1) := by decide +kernel
theorem dX0_init_1 : decode cX0_init 1 = .ok (.invokespecial 3, 3) := by decide +kernel
theorem dX0_init_4 : decode cX0_init 4 = .ok (.aload_n 0, 1) := by decide +kernel
theorem dX0_init_5 : decode cX0_init 5 = .ok (.bipush 16, 2) := by decide +kernel
theorem dX0_init_7 : decode cX0_init 7 = .ok (.newarray .int, 2) := by decide +kernel
theorem dX0_init_9 : decode cX0_init 9 = .ok (.putfield 9, 3) := by decide +kernel
theorem dX0_init_12 : decode cX0_init 12 = .ok (.return_, 1) := by decide +kernel
theorem dX0_copyFrom_0 : decode cX0_copyFrom 0 = .ok (.aload_n 1, 1) := by decide +kernel
theorem dX0_copyFrom_1 : decode cX0_copyFrom 1 = .ok (.getfield 9, 3) := by decide +kernel
theorem dX0_copyFrom_4 : decode cX0_copyFrom 4 = .ok (.iconst 0, 1) := by decide +kernel
theorem dX0_copyFrom_5 : decode cX0_copyFrom 5 = .ok (.aload_n 0, 1) := by decide +kernel
theorem dX0_copyFrom_6 : decode cX0_copyFrom 6 = .ok (.getfield 9, 3) := by decide +kernel
theorem dX0_copyFrom_9 : decode cX0_copyFrom 9 = .ok (.iconst 0, 1) := by decide +kernel
theorem dX0_copyFrom_10 : decode cX0_copyFrom 10 = .ok (.bipush 16, 2) := by decide +kernel
theorem dX0_copyFrom_12 : decode cX0_copyFrom 12 = .ok (.invokestatic 15, 3) := by decide +kernel
theorem dX0_copyFrom_15 : decode cX0_copyFrom 15 = .ok (.return_, 1) := by decide +kernel
theorem dX0_add_0 : decode cX0_add 0 = .ok (.iconst 0, 1) := by decide +kernel
theorem dX0_add_1 : decode cX0_add 1 = .ok (.istore_n 2, 1) := by decide +kernel
theorem dX0_add_2 : decode cX0_add 2 = .ok (.iload_n 2, 1) := by decide +kernel
theorem dX0_add_3 : decode cX0_add 3 = .ok (.bipush 16, 2) := by decide +kernel
theorem dX0_add_5 : decode cX0_add 5 = .ok (.if_icmp .ge 24, 3) := by decide +kernel
theorem dX0_add_8 : decode cX0_add 8 = .ok (.aload_n 0, 1) := by decide +kernel
theorem dX0_add_9 : decode cX0_add 9 = .ok (.getfield 9, 3) := by decide +kernel
theorem dX0_add_12 : decode cX0_add 12 = .ok (.iload_n 2, 1) := by decide +kernel
theorem dX0_add_13 : decode cX0_add 13 = .ok (.dup2, 1) := by decide +kernel
theorem dX0_add_14 : decode cX0_add 14 = .ok (.iaload, 1) := by decide +kernel
theorem dX0_add_15 : decode cX0_add 15 = .ok (.aload_n 1, 1) := by decide +kernel
theorem dX0_add_16 : decode cX0_add 16 = .ok (.getfield 9, 3) := by decide +kernel
theorem dX0_add_19 : decode cX0_add 19 = .ok (.iload_n 2, 1) := by decide +kernel
theorem dX0_add_20 : decode cX0_add 20 = .ok (.iaload, 1) := by decide +kernel
theorem dX0_add_21 : decode cX0_add 21 = .ok (.iadd, 1) := by decide +kernel
theorem dX0_add_22 : decode cX0_add 22 = .ok (.iastore, 1) := by decide +kernel
theorem dX0_add_23 : decode cX0_add 23 = .ok (.iinc 2 1, 3) := by decide +kernel
theorem dX0_add_26 : decode cX0_add 26 = .ok (.goto (-24), 3) := by decide +kernel
theorem dX0_add_29 : decode cX0_add 29 = .ok (.return_, 1) := by decide +kernel
theorem dX0_remove_0 : decode cX0_remove 0 = .ok (.iconst 0, 1) := by decide +kernel
theorem dX0_remove_1 : decode cX0_remove 1 = .ok (.istore_n 2, 1) := by decide +kernel
theorem dX0_remove_2 : decode cX0_remove 2 = .ok (.iload_n 2, 1) := by decide +kernel
theorem dX0_remove_3 : decode cX0_remove 3 = .ok (.bipush 16, 2) := by decide +kernel
theorem dX0_remove_5 : decode cX0_remove 5 = .ok (.if_icmp .ge 24, 3) := by decide +kernel
theorem dX0_remove_8 : decode cX0_remove 8 = .ok (.aload_n 0, 1) := by decide +kernel
theorem dX0_remove_9 : decode cX0_remove 9 = .ok (.getfield 9, 3) := by decide +kernel
theorem dX0_remove_12 : decode cX0_remove 12 = .ok (.iload_n 2, 1) := by decide +kernel
theorem dX0_remove_13 : decode cX0_remove 13 = .ok (.dup2, 1) := by decide +kernel
theorem dX0_remove_14 : decode cX0_remove 14 = .ok (.iaload, 1) := by decide +kernel
theorem dX0_remove_15 : decode cX0_remove 15 = .ok (.aload_n 1, 1) := by decide +kernel
theorem dX0_remove_16 : decode cX0_remove 16 = .ok (.getfield 9, 3) := by decide +kernel
theorem dX0_remove_19 : decode cX0_remove 19 = .ok (.iload_n 2, 1) := by decide +kernel
theorem dX0_remove_20 : decode cX0_remove 20 = .ok (.iaload, 1) := by decide +kernel
theorem dX0_remove_21 : decode cX0_remove 21 = .ok (.isub, 1) := by decide +kernel
theorem dX0_remove_22 : decode cX0_remove 22 = .ok (.iastore, 1) := by decide +kernel
theorem dX0_remove_23 : decode cX0_remove 23 = .ok (.iinc 2 1, 3) := by decide +kernel
theorem dX0_remove_26 : decode cX0_remove 26 = .ok (.goto (-24), 3) := by decide +kernel
theorem dX0_remove_29 : decode cX0_remove 29 = .ok (.return_, 1) := by decide +kernel
theorem dX0_total_0 : decode cX0_total 0 = .ok (.iconst 0, 1) := by decide +kernel
theorem dX0_total_1 : decode cX0_total 1 = .ok (.istore_n 1, 1) := by decide +kernel
theorem dX0_total_2 : decode cX0_total 2 = .ok (.iconst 0, 1) := by decide +kernel
theorem dX0_total_3 : decode cX0_total 3 = .ok (.istore_n 2, 1) := by decide +kernel
theorem dX0_total_4 : decode cX0_total 4 = .ok (.iload_n 2, 1) := by decide +kernel
theorem dX0_total_5 : decode cX0_total 5 = .ok (.bipush 16, 2) := by decide +kernel
theorem dX0_total_7 : decode cX0_total 7 = .ok (.if_icmp .ge 18, 3) := by decide +kernel
theorem dX0_total_10 : decode cX0_total 10 = .ok (.iload_n 1, 1) := by decide +kernel
theorem dX0_total_11 : decode cX0_total 11 = .ok (.aload_n 0, 1) := by decide +kernel
theorem dX0_total_12 : decode cX0_total 12 = .ok (.getfield 9, 3) := by decide +kernel
theorem dX0_total_15 : decode cX0_total 15 = .ok (.iload_n 2, 1) := by decide +kernel
theorem dX0_total_16 : decode cX0_total 16 = .ok (.iaload, 1) := by decide +kernel
theorem dX0_total_17 : decode cX0_total 17 = .ok (.iadd, 1) := by decide +kernel
theorem dX0_total_18 : decode cX0_total 18 = .ok (.istore_n 1, 1) := by decide +kernel
theorem dX0_total_19 : decode cX0_total 19 = .ok (.iinc 2 1, 3) := by decide +kernel
theorem dX0_total_22 : decode cX0_total 22 = .ok (.goto (-18), 3) := by decide +kernel
theorem dX0_total_25 : decode cX0_total 25 = .ok (.iload_n 1, 1) := by decide +kernel
theorem dX0_total_26 : decode cX0_total 26 = .ok (.ireturn, 1) := by decide +kernel
theorem dX0_batches_0 : decode cX0_batches 0 = .ok (.iconst 0, 1) := by decide +kernel
theorem dX0_batches_1 : decode cX0_batches 1 = .ok (.istore_n 1, 1) := by decide +kernel
theorem dX0_batches_2 : decode cX0_batches 2 = .ok (.iconst 0, 1) := by decide +kernel
theorem dX0_batches_3 : decode cX0_batches 3 = .ok (.istore_n 2, 1) := by decide +kernel
theorem dX0_batches_4 : decode cX0_batches 4 = .ok (.iload_n 2, 1) := by decide +kernel
theorem dX0_batches_5 : decode cX0_batches 5 = .ok (.bipush 16, 2) := by decide +kernel
theorem dX0_batches_7 : decode cX0_batches 7 = .ok (.if_icmp .ge 21, 3) := by decide +kernel
theorem dX0_batches_10 : decode cX0_batches 10 = .ok (.aload_n 0, 1) := by decide +kernel
theorem dX0_batches_11 : decode cX0_batches 11 = .ok (.getfield 9, 3) := by decide +kernel
theorem dX0_batches_14 : decode cX0_batches 14 = .ok (.iload_n 2, 1) := by decide +kernel
theorem dX0_batches_15 : decode cX0_batches 15 = .ok (.iaload, 1) := by decide +kernel
theorem dX0_batches_16 : decode cX0_batches 16 = .ok (.ifCond .le 6, 3) := by decide +kernel
theorem dX0_batches_19 : decode cX0_batches 19 = .ok (.iinc 1 1, 3) := by decide +kernel
theorem dX0_batches_22 : decode cX0_batches 22 = .ok (.iinc 2 1, 3) := by decide +kernel
theorem dX0_batches_25 : decode cX0_batches 25 = .ok (.goto (-21), 3) := by decide +kernel
theorem dX0_batches_28 : decode cX0_batches 28 = .ok (.iload_n 1, 1) := by decide +kernel
theorem dX0_batches_29 : decode cX0_batches 29 = .ok (.ireturn, 1) := by decide +kernel
theorem dX0_alcohol_0 : decode cX0_alcohol 0 = .ok (.lconst 0, 1) := by decide +kernel
theorem dX0_alcohol_1 : decode cX0_alcohol 1 = .ok (.lstore_n 2, 1) := by decide +kernel
theorem dX0_alcohol_2 : decode cX0_alcohol 2 = .ok (.iconst 0, 1) := by decide +kernel
theorem dX0_alcohol_3 : decode cX0_alcohol 3 = .ok (.istore 4, 2) := by decide +kernel
theorem dX0_alcohol_5 : decode cX0_alcohol 5 = .ok (.iload 4, 2) := by decide +kernel
theorem dX0_alcohol_7 : decode cX0_alcohol 7 = .ok (.bipush 16, 2) := by decide +kernel
theorem dX0_alcohol_9 : decode cX0_alcohol 9 = .ok (.if_icmp .ge 33, 3) := by decide +kernel
theorem dX0_alcohol_12 : decode cX0_alcohol 12 = .ok (.iload 4, 2) := by decide +kernel
theorem dX0_alcohol_14 : decode cX0_alcohol 14 = .ok (.aload_n 1, 1) := by decide +kernel
theorem dX0_alcohol_15 : decode cX0_alcohol 15 = .ok (.arraylength, 1) := by decide +kernel
theorem dX0_alcohol_16 : decode cX0_alcohol 16 = .ok (.if_icmp .ge 26, 3) := by decide +kernel
theorem dX0_alcohol_19 : decode cX0_alcohol 19 = .ok (.lload_n 2, 1) := by decide +kernel
theorem dX0_alcohol_20 : decode cX0_alcohol 20 = .ok (.aload_n 0, 1) := by decide +kernel
theorem dX0_alcohol_21 : decode cX0_alcohol 21 = .ok (.getfield 9, 3) := by decide +kernel
theorem dX0_alcohol_24 : decode cX0_alcohol 24 = .ok (.iload 4, 2) := by decide +kernel
theorem dX0_alcohol_26 : decode cX0_alcohol 26 = .ok (.iaload, 1) := by decide +kernel
theorem dX0_alcohol_27 : decode cX0_alcohol 27 = .ok (.i2l, 1) := by decide +kernel
theorem dX0_alcohol_28 : decode cX0_alcohol 28 = .ok (.aload_n 1, 1) := by decide +kernel
theorem dX0_alcohol_29 : decode cX0_alcohol 29 = .ok (.iload 4, 2) := by decide +kernel
theorem dX0_alcohol_31 : decode cX0_alcohol 31 = .ok (.iaload, 1) := by decide +kernel
theorem dX0_alcohol_32 : decode cX0_alcohol 32 = .ok (.i2l, 1) := by decide +kernel
theorem dX0_alcohol_33 : decode cX0_alcohol 33 = .ok (.lmul, 1) := by decide +kernel
theorem dX0_alcohol_34 : decode cX0_alcohol 34 = .ok (.ladd, 1) := by decide +kernel
theorem dX0_alcohol_35 : decode cX0_alcohol 35 = .ok (.lstore_n 2, 1) := by decide +kernel
theorem dX0_alcohol_36 : decode cX0_alcohol 36 = .ok (.iinc 4 1, 3) := by decide +kernel
theorem dX0_alcohol_39 : decode cX0_alcohol 39 = .ok (.goto (-34), 3) := by decide +kernel
theorem dX0_alcohol_42 : decode cX0_alcohol 42 = .ok (.lload_n 2, 1) := by decide +kernel
theorem dX0_alcohol_43 : decode cX0_alcohol 43 = .ok (.lreturn, 1) := by decide +kernel
theorem dX0_strength_0 : decode cX0_strength 0 = .ok (.aload_n 0, 1) := by decide +kernel
theorem dX0_strength_1 : decode cX0_strength 1 = .ok (.invokevirtual 21, 3) := by decide +kernel
theorem dX0_strength_4 : decode cX0_strength 4 = .ok (.istore_n 2, 1) := by decide +kernel
theorem dX0_strength_5 : decode cX0_strength 5 = .ok (.iload_n 2, 1) := by decide +kernel
theorem dX0_strength_6 : decode cX0_strength 6 = .ok (.ifCond .le 15, 3) := by decide +kernel
theorem dX0_strength_9 : decode cX0_strength 9 = .ok (.aload_n 0, 1) := by decide +kernel
theorem dX0_strength_10 : decode cX0_strength 10 = .ok (.aload_n 1, 1) := by decide +kernel
theorem dX0_strength_11 : decode cX0_strength 11 = .ok (.invokevirtual 25, 3) := by decide +kernel
theorem dX0_strength_14 : decode cX0_strength 14 = .ok (.iload_n 2, 1) := by decide +kernel
theorem dX0_strength_15 : decode cX0_strength 15 = .ok (.i2l, 1) := by decide +kernel
theorem dX0_strength_16 : decode cX0_strength 16 = .ok (.ldiv, 1) := by decide +kernel
theorem dX0_strength_17 : decode cX0_strength 17 = .ok (.l2i, 1) := by decide +kernel
theorem dX0_strength_18 : decode cX0_strength 18 = .ok (.goto 5, 3) := by decide +kernel
theorem dX0_strength_21 : decode cX0_strength 21 = .ok (.bipush (-5), 2) := by decide +kernel
theorem dX0_strength_23 : decode cX0_strength 23 = .ok (.ireturn, 1) := by decide +kernel
theorem dX0_sumOfStrengths_0 : decode cX0_sumOfStrengths 0 = .ok (.lconst 0, 1) := by decide +kernel
theorem dX0_sumOfStrengths_1 : decode cX0_sumOfStrengths 1 = .ok (.lstore_n 2, 1) := by decide +kernel
theorem dX0_sumOfStrengths_2 : decode cX0_sumOfStrengths 2 = .ok (.iconst 0, 1) := by decide +kernel
theorem dX0_sumOfStrengths_3 : decode cX0_sumOfStrengths 3 = .ok (.istore 4, 2) := by decide +kernel
theorem dX0_sumOfStrengths_5 : decode cX0_sumOfStrengths 5 = .ok (.iload 4, 2) := by decide +kernel
theorem dX0_sumOfStrengths_7 : decode cX0_sumOfStrengths 7 = .ok (.bipush 16, 2) := by decide +kernel
theorem dX0_sumOfStrengths_9 : decode cX0_sumOfStrengths 9 = .ok (.if_icmp .ge 34, 3) := by decide +kernel
theorem dX0_sumOfStrengths_12 : decode cX0_sumOfStrengths 12 = .ok (.iload 4, 2) := by decide +kernel
theorem dX0_sumOfStrengths_14 : decode cX0_sumOfStrengths 14 = .ok (.aload_n 1, 1) := by decide +kernel
theorem dX0_sumOfStrengths_15 : decode cX0_sumOfStrengths 15 = .ok (.arraylength, 1) := by decide +kernel
theorem dX0_sumOfStrengths_16 : decode cX0_sumOfStrengths 16 = .ok (.if_icmp .ge 27, 3) := by decide +kernel
theorem dX0_sumOfStrengths_19 : decode cX0_sumOfStrengths 19 = .ok (.aload_n 0, 1) := by decide +kernel
theorem dX0_sumOfStrengths_20 : decode cX0_sumOfStrengths 20 = .ok (.getfield 9, 3) := by decide +kernel
theorem dX0_sumOfStrengths_23 : decode cX0_sumOfStrengths 23 = .ok (.iload 4, 2) := by decide +kernel
theorem dX0_sumOfStrengths_25 : decode cX0_sumOfStrengths 25 = .ok (.iaload, 1) := by decide +kernel
theorem dX0_sumOfStrengths_26 : decode cX0_sumOfStrengths 26 = .ok (.ifCond .le 11, 3) := by decide +kernel
theorem dX0_sumOfStrengths_29 : decode cX0_sumOfStrengths 29 = .ok (.lload_n 2, 1) := by decide +kernel
theorem dX0_sumOfStrengths_30 : decode cX0_sumOfStrengths 30 = .ok (.aload_n 1, 1) := by decide +kernel
theorem dX0_sumOfStrengths_31 : decode cX0_sumOfStrengths 31 = .ok (.iload 4, 2) := by decide +kernel
theorem dX0_sumOfStrengths_33 : decode cX0_sumOfStrengths 33 = .ok (.iaload, 1) := by decide +kernel
theorem dX0_sumOfStrengths_34 : decode cX0_sumOfStrengths 34 = .ok (.i2l, 1) := by decide +kernel
theorem dX0_sumOfStrengths_35 : decode cX0_sumOfStrengths 35 = .ok (.ladd, 1) := by decide +kernel
theorem dX0_sumOfStrengths_36 : decode cX0_sumOfStrengths 36 = .ok (.lstore_n 2, 1) := by decide +kernel
theorem dX0_sumOfStrengths_37 : decode cX0_sumOfStrengths 37 = .ok (.iinc 4 1, 3) := by decide +kernel
theorem dX0_sumOfStrengths_40 : decode cX0_sumOfStrengths 40 = .ok (.goto (-35), 3) := by decide +kernel
theorem dX0_sumOfStrengths_43 : decode cX0_sumOfStrengths 43 = .ok (.lload_n 2, 1) := by decide +kernel
theorem dX0_sumOfStrengths_44 : decode cX0_sumOfStrengths 44 = .ok (.lreturn, 1) := by decide +kernel
theorem dX1_init_0 : decode cX1_init 0 = .ok (.aload_n 0, 1) := by decide +kernel
theorem dX1_init_1 : decode cX1_init 1 = .ok (.invokespecial 1, 3) := by decide +kernel
theorem dX1_init_4 : decode cX1_init 4 = .ok (.aload_n 0, 1) := by decide +kernel
theorem dX1_init_5 : decode cX1_init 5 = .ok (.iconst 0, 1) := by decide +kernel
theorem dX1_init_6 : decode cX1_init 6 = .ok (.putfield 7, 3) := by decide +kernel
theorem dX1_init_9 : decode cX1_init 9 = .ok (.aload_n 0, 1) := by decide +kernel
theorem dX1_init_10 : decode cX1_init 10 = .ok (.iconst 0, 1) := by decide +kernel
theorem dX1_init_11 : decode cX1_init 11 = .ok (.putfield 13, 3) := by decide +kernel
theorem dX1_init_14 : decode cX1_init 14 = .ok (.aload_n 0, 1) := by decide +kernel
theorem dX1_init_15 : decode cX1_init 15 = .ok (.iconst 0, 1) := by decide +kernel
theorem dX1_init_16 : decode cX1_init 16 = .ok (.putfield 16, 3) := by decide +kernel
theorem dX1_init_19 : decode cX1_init 19 = .ok (.aload_n 0, 1) := by decide +kernel
theorem dX1_init_20 : decode cX1_init 20 = .ok (.iconst 0, 1) := by decide +kernel
theorem dX1_init_21 : decode cX1_init 21 = .ok (.putfield 19, 3) := by decide +kernel
theorem dX1_init_24 : decode cX1_init 24 = .ok (.return_, 1) := by decide +kernel
theorem dX2_init_0 : decode cX2_init 0 = .ok (.aload_n 0, 1) := by decide +kernel
theorem dX2_init_1 : decode cX2_init 1 = .ok (.invokespecial 3, 3) := by decide +kernel
theorem dX2_init_4 : decode cX2_init 4 = .ok (.aload_n 0, 1) := by decide +kernel
theorem dX2_init_5 : decode cX2_init 5 = .ok (.iconst 0, 1) := by decide +kernel
theorem dX2_init_6 : decode cX2_init 6 = .ok (.putfield 9, 3) := by decide +kernel
theorem dX2_init_9 : decode cX2_init 9 = .ok (.aload_n 0, 1) := by decide +kernel
theorem dX2_init_10 : decode cX2_init 10 = .ok (.sipush 320, 3) := by decide +kernel
theorem dX2_init_13 : decode cX2_init 13 = .ok (.newarray .int, 2) := by decide +kernel
theorem dX2_init_15 : decode cX2_init 15 = .ok (.putfield 15, 3) := by decide +kernel
theorem dX2_init_18 : decode cX2_init 18 = .ok (.return_, 1) := by decide +kernel
theorem dX2_copyFrom_0 : decode cX2_copyFrom 0 = .ok (.aload_n 0, 1) := by decide +kernel
theorem dX2_copyFrom_1 : decode cX2_copyFrom 1 = .ok (.aload_n 1, 1) := by decide +kernel
theorem dX2_copyFrom_2 : decode cX2_copyFrom 2 = .ok (.getfield 9, 3) := by decide +kernel
theorem dX2_copyFrom_5 : decode cX2_copyFrom 5 = .ok (.putfield 9, 3) := by decide +kernel
theorem dX2_copyFrom_8 : decode cX2_copyFrom 8 = .ok (.aload_n 1, 1) := by decide +kernel
theorem dX2_copyFrom_9 : decode cX2_copyFrom 9 = .ok (.getfield 15, 3) := by decide +kernel
theorem dX2_copyFrom_12 : decode cX2_copyFrom 12 = .ok (.iconst 0, 1) := by decide +kernel
theorem dX2_copyFrom_13 : decode cX2_copyFrom 13 = .ok (.aload_n 0, 1) := by decide +kernel
theorem dX2_copyFrom_14 : decode cX2_copyFrom 14 = .ok (.getfield 15, 3) := by decide +kernel
theorem dX2_copyFrom_17 : decode cX2_copyFrom 17 = .ok (.iconst 0, 1) := by decide +kernel
theorem dX2_copyFrom_18 : decode cX2_copyFrom 18 = .ok (.sipush 320, 3) := by decide +kernel
theorem dX2_copyFrom_21 : decode cX2_copyFrom 21 = .ok (.invokestatic 19, 3) := by decide +kernel
theorem dX2_copyFrom_24 : decode cX2_copyFrom 24 = .ok (.return_, 1) := by decide +kernel
theorem dX2_write_0 : decode cX2_write 0 = .ok (.aload_n 0, 1) := by decide +kernel
theorem dX2_write_1 : decode cX2_write 1 = .ok (.getfield 9, 3) := by decide +kernel
theorem dX2_write_4 : decode cX2_write 4 = .ok (.ifCond .lt 59, 3) := by decide +kernel
theorem dX2_write_7 : decode cX2_write 7 = .ok (.aload_n 0, 1) := by decide +kernel
theorem dX2_write_8 : decode cX2_write 8 = .ok (.getfield 9, 3) := by decide +kernel
theorem dX2_write_11 : decode cX2_write 11 = .ok (.bipush 80, 2) := by decide +kernel
theorem dX2_write_13 : decode cX2_write 13 = .ok (.if_icmp .ge 50, 3) := by decide +kernel
theorem dX2_write_16 : decode cX2_write 16 = .ok (.aload_n 0, 1) := by decide +kernel
theorem dX2_write_17 : decode cX2_write 17 = .ok (.getfield 9, 3) := by decide +kernel
theorem dX2_write_20 : decode cX2_write 20 = .ok (.iconst 4, 1) := by decide +kernel
theorem dX2_write_21 : decode cX2_write 21 = .ok (.imul, 1) := by decide +kernel
theorem dX2_write_22 : decode cX2_write 22 = .ok (.istore 5, 2) := by decide +kernel
theorem dX2_write_24 : decode cX2_write 24 = .ok (.aload_n 0, 1) := by decide +kernel
theorem dX2_write_25 : decode cX2_write 25 = .ok (.getfield 15, 3) := by decide +kernel
theorem dX2_write_28 : decode cX2_write 28 = .ok (.iload 5, 2) := by decide +kernel
theorem dX2_write_30 : decode cX2_write 30 = .ok (.iload_n 1, 1) := by decide +kernel
theorem dX2_write_31 : decode cX2_write 31 = .ok (.iastore, 1) := by decide +kernel
theorem dX2_write_32 : decode cX2_write 32 = .ok (.aload_n 0, 1) := by decide +kernel
theorem dX2_write_33 : decode cX2_write 33 = .ok (.getfield 15, 3) := by decide +kernel
theorem dX2_write_36 : decode cX2_write 36 = .ok (.iload 5, 2) := by decide +kernel
theorem dX2_write_38 : decode cX2_write 38 = .ok (.iconst 1, 1) := by decide +kernel
theorem dX2_write_39 : decode cX2_write 39 = .ok (.iadd, 1) := by decide +kernel
theorem dX2_write_40 : decode cX2_write 40 = .ok (.iload_n 2, 1) := by decide +kernel
theorem dX2_write_41 : decode cX2_write 41 = .ok (.iastore, 1) := by decide +kernel
theorem dX2_write_42 : decode cX2_write 42 = .ok (.aload_n 0, 1) := by decide +kernel
theorem dX2_write_43 : decode cX2_write 43 = .ok (.getfield 15, 3) := by decide +kernel
theorem dX2_write_46 : decode cX2_write 46 = .ok (.iload 5, 2) := by decide +kernel
theorem dX2_write_48 : decode cX2_write 48 = .ok (.iconst 2, 1) := by decide +kernel
theorem dX2_write_49 : decode cX2_write 49 = .ok (.iadd, 1) := by decide +kernel
theorem dX2_write_50 : decode cX2_write 50 = .ok (.iload_n 3, 1) := by decide +kernel
theorem dX2_write_51 : decode cX2_write 51 = .ok (.iastore, 1) := by decide +kernel
theorem dX2_write_52 : decode cX2_write 52 = .ok (.aload_n 0, 1) := by decide +kernel
theorem dX2_write_53 : decode cX2_write 53 = .ok (.getfield 15, 3) := by decide +kernel
theorem dX2_write_56 : decode cX2_write 56 = .ok (.iload 5, 2) := by decide +kernel
theorem dX2_write_58 : decode cX2_write 58 = .ok (.iconst 3, 1) := by decide +kernel
theorem dX2_write_59 : decode cX2_write 59 = .ok (.iadd, 1) := by decide +kernel
theorem dX2_write_60 : decode cX2_write 60 = .ok (.iload 4, 2) := by decide +kernel
theorem dX2_write_62 : decode cX2_write 62 = .ok (.iastore, 1) := by decide +kernel
theorem dX2_write_63 : decode cX2_write 63 = .ok (.aload_n 0, 1) := by decide +kernel
theorem dX2_write_64 : decode cX2_write 64 = .ok (.dup, 1) := by decide +kernel
theorem dX2_write_65 : decode cX2_write 65 = .ok (.getfield 9, 3) := by decide +kernel
theorem dX2_write_68 : decode cX2_write 68 = .ok (.iconst 1, 1) := by decide +kernel
theorem dX2_write_69 : decode cX2_write 69 = .ok (.iadd, 1) := by decide +kernel
theorem dX2_write_70 : decode cX2_write 70 = .ok (.putfield 9, 3) := by decide +kernel
theorem dX2_write_73 : decode cX2_write 73 = .ok (.return_, 1) := by decide +kernel
theorem dX2_part_0 : decode cX2_part 0 = .ok (.iload_n 1, 1) := by decide +kernel
theorem dX2_part_1 : decode cX2_part 1 = .ok (.ifCond .lt 26, 3) := by decide +kernel
theorem dX2_part_4 : decode cX2_part 4 = .ok (.iload_n 1, 1) := by decide +kernel
theorem dX2_part_5 : decode cX2_part 5 = .ok (.aload_n 0, 1) := by decide +kernel
theorem dX2_part_6 : decode cX2_part 6 = .ok (.getfield 9, 3) := by decide +kernel
theorem dX2_part_9 : decode cX2_part 9 = .ok (.if_icmp .ge 18, 3) := by decide +kernel
theorem dX2_part_12 : decode cX2_part 12 = .ok (.iload_n 1, 1) := by decide +kernel
theorem dX2_part_13 : decode cX2_part 13 = .ok (.bipush 80, 2) := by decide +kernel
theorem dX2_part_15 : decode cX2_part 15 = .ok (.if_icmp .ge 12, 3) := by decide +kernel
theorem dX2_part_18 : decode cX2_part 18 = .ok (.iload_n 2, 1) := by decide +kernel
theorem dX2_part_19 : decode cX2_part 19 = .ok (.iconst 0, 1) := by decide +kernel
theorem dX2_part_20 : decode cX2_part 20 = .ok (.iconst 3, 1) := by decide +kernel
theorem dX2_part_21 : decode cX2_part 21 = .ok (.invokestatic 25, 3) := by decide +kernel
theorem dX2_part_24 : decode cX2_part 24 = .ok (.ifCond .eq 5, 3) := by decide +kernel
theorem dX2_part_27 : decode cX2_part 27 = .ok (.iconst (-1), 1) := by decide +kernel
theorem dX2_part_28 : decode cX2_part 28 = .ok (.ireturn, 1) := by decide +kernel
theorem dX2_part_29 : decode cX2_part 29 = .ok (.aload_n 0, 1) := by decide +kernel
theorem dX2_part_30 : decode cX2_part 30 = .ok (.getfield 15, 3) := by decide +kernel
theorem dX2_part_33 : decode cX2_part 33 = .ok (.iload_n 1, 1) := by decide +kernel
theorem dX2_part_34 : decode cX2_part 34 = .ok (.iconst 4, 1) := by decide +kernel
theorem dX2_part_35 : decode cX2_part 35 = .ok (.imul, 1) := by decide +kernel
theorem dX2_part_36 : decode cX2_part 36 = .ok (.iload_n 2, 1) := by decide +kernel
theorem dX2_part_37 : decode cX2_part 37 = .ok (.iadd, 1) := by decide +kernel
theorem dX2_part_38 : decode cX2_part 38 = .ok (.iaload, 1) := by decide +kernel
theorem dX2_part_39 : decode cX2_part 39 = .ok (.ireturn, 1) := by decide +kernel
theorem dX3_init_0 : decode cX3_init 0 = .ok (.aload_n 0, 1) := by decide +kernel
theorem dX3_init_1 : decode cX3_init 1 = .ok (.invokespecial 3, 3) := by decide +kernel
theorem dX3_init_4 : decode cX3_init 4 = .ok (.aload_n 0, 1) := by decide +kernel
theorem dX3_init_5 : decode cX3_init 5 = .ok (.new 9, 3) := by decide +kernel
theorem dX3_init_8 : decode cX3_init 8 = .ok (.dup, 1) := by decide +kernel
theorem dX3_init_9 : decode cX3_init 9 = .ok (.invokespecial 11, 3) := by decide +kernel
theorem dX3_init_12 : decode cX3_init 12 = .ok (.putfield 12, 3) := by decide +kernel
theorem dX3_init_15 : decode cX3_init 15 = .ok (.return_, 1) := by decide +kernel
theorem dX3_nearest_0 : decode cX3_nearest 0 = .ok (.aload_n 1, 1) := by decide +kernel
theorem dX3_nearest_1 : decode cX3_nearest 1 = .ok (.invokevirtual 18, 3) := by decide +kernel
theorem dX3_nearest_4 : decode cX3_nearest 4 = .ok (.i2l, 1) := by decide +kernel
theorem dX3_nearest_5 : decode cX3_nearest 5 = .ok (.lstore 6, 2) := by decide +kernel
theorem dX3_nearest_7 : decode cX3_nearest 7 = .ok (.aload_n 2, 1) := by decide +kernel
theorem dX3_nearest_8 : decode cX3_nearest 8 = .ok (.invokevirtual 18, 3) := by decide +kernel
theorem dX3_nearest_11 : decode cX3_nearest 11 = .ok (.i2l, 1) := by decide +kernel
theorem dX3_nearest_12 : decode cX3_nearest 12 = .ok (.lstore 8, 2) := by decide +kernel
theorem dX3_nearest_14 : decode cX3_nearest 14 = .ok (.lconst 0, 1) := by decide +kernel
theorem dX3_nearest_15 : decode cX3_nearest 15 = .ok (.iload 4, 2) := by decide +kernel
theorem dX3_nearest_17 : decode cX3_nearest 17 = .ok (.i2l, 1) := by decide +kernel
theorem dX3_nearest_18 : decode cX3_nearest 18 = .ok (.lload 8, 2) := by decide +kernel
theorem dX3_nearest_20 : decode cX3_nearest 20 = .ok (.lsub, 1) := by decide +kernel
theorem dX3_nearest_21 : decode cX3_nearest 21 = .ok (.invokestatic 24, 3) := by decide +kernel
theorem dX3_nearest_24 : decode cX3_nearest 24 = .ok (.l2i, 1) := by decide +kernel
theorem dX3_nearest_25 : decode cX3_nearest 25 = .ok (.istore 10, 2) := by decide +kernel
theorem dX3_nearest_27 : decode cX3_nearest 27 = .ok (.iload 4, 2) := by decide +kernel
theorem dX3_nearest_29 : decode cX3_nearest 29 = .ok (.i2l, 1) := by decide +kernel
theorem dX3_nearest_30 : decode cX3_nearest 30 = .ok (.lload 6, 2) := by decide +kernel
theorem dX3_nearest_32 : decode cX3_nearest 32 = .ok (.invokestatic 30, 3) := by decide +kernel
theorem dX3_nearest_35 : decode cX3_nearest 35 = .ok (.l2i, 1) := by decide +kernel
theorem dX3_nearest_36 : decode cX3_nearest 36 = .ok (.istore 11, 2) := by decide +kernel
theorem dX3_nearest_38 : decode cX3_nearest 38 = .ok (.iload 10, 2) := by decide +kernel
theorem dX3_nearest_40 : decode cX3_nearest 40 = .ok (.iload 11, 2) := by decide +kernel
theorem dX3_nearest_42 : decode cX3_nearest 42 = .ok (.if_icmp .le 6, 3) := by decide +kernel
theorem dX3_nearest_45 : decode cX3_nearest 45 = .ok (.bipush (-5), 2) := by decide +kernel
theorem dX3_nearest_47 : decode cX3_nearest 47 = .ok (.ireturn, 1) := by decide +kernel
theorem dX3_nearest_48 : decode cX3_nearest 48 = .ok (.iload 4, 2) := by decide +kernel
theorem dX3_nearest_50 : decode cX3_nearest 50 = .ok (.i2l, 1) := by decide +kernel
theorem dX3_nearest_51 : decode cX3_nearest 51 = .ok (.iload 5, 2) := by decide +kernel
theorem dX3_nearest_53 : decode cX3_nearest 53 = .ok (.i2l, 1) := by decide +kernel
theorem dX3_nearest_54 : decode cX3_nearest 54 = .ok (.lmul, 1) := by decide +kernel
theorem dX3_nearest_55 : decode cX3_nearest 55 = .ok (.lstore 12, 2) := by decide +kernel
theorem dX3_nearest_57 : decode cX3_nearest 57 = .ok (.lload 6, 2) := by decide +kernel
theorem dX3_nearest_59 : decode cX3_nearest 59 = .ok (.lload 8, 2) := by decide +kernel
theorem dX3_nearest_61 : decode cX3_nearest 61 = .ok (.lmul, 1) := by decide +kernel
theorem dX3_nearest_62 : decode cX3_nearest 62 = .ok (.lstore 14, 2) := by decide +kernel
theorem dX3_nearest_64 : decode cX3_nearest 64 = .ok (.aload_n 1, 1) := by decide +kernel
theorem dX3_nearest_65 : decode cX3_nearest 65 = .ok (.aload_n 3, 1) := by decide +kernel
theorem dX3_nearest_66 : decode cX3_nearest 66 = .ok (.invokevirtual 33, 3) := by decide +kernel
theorem dX3_nearest_69 : decode cX3_nearest 69 = .ok (.lload 8, 2) := by decide +kernel
theorem dX3_nearest_71 : decode cX3_nearest 71 = .ok (.lmul, 1) := by decide +kernel
theorem dX3_nearest_72 : decode cX3_nearest 72 = .ok (.aload_n 2, 1) := by decide +kernel
theorem dX3_nearest_73 : decode cX3_nearest 73 = .ok (.aload_n 3, 1) := by decide +kernel
theorem dX3_nearest_74 : decode cX3_nearest 74 = .ok (.invokevirtual 33, 3) := by decide +kernel
theorem dX3_nearest_77 : decode cX3_nearest 77 = .ok (.lload 6, 2) := by decide +kernel
theorem dX3_nearest_79 : decode cX3_nearest 79 = .ok (.lmul, 1) := by decide +kernel
theorem dX3_nearest_80 : decode cX3_nearest 80 = .ok (.lsub, 1) := by decide +kernel
theorem dX3_nearest_81 : decode cX3_nearest 81 = .ok (.lstore 16, 2) := by decide +kernel
theorem dX3_nearest_83 : decode cX3_nearest 83 = .ok (.aload_n 2, 1) := by decide +kernel
theorem dX3_nearest_84 : decode cX3_nearest 84 = .ok (.aload_n 3, 1) := by decide +kernel
theorem dX3_nearest_85 : decode cX3_nearest 85 = .ok (.invokevirtual 33, 3) := by decide +kernel
theorem dX3_nearest_88 : decode cX3_nearest 88 = .ok (.lload 6, 2) := by decide +kernel
theorem dX3_nearest_90 : decode cX3_nearest 90 = .ok (.lmul, 1) := by decide +kernel
theorem dX3_nearest_91 : decode cX3_nearest 91 = .ok (.iload 4, 2) := by decide +kernel
theorem dX3_nearest_93 : decode cX3_nearest 93 = .ok (.i2l, 1) := by decide +kernel
theorem dX3_nearest_94 : decode cX3_nearest 94 = .ok (.lmul, 1) := by decide +kernel
theorem dX3_nearest_95 : decode cX3_nearest 95 = .ok (.lload 12, 2) := by decide +kernel
theorem dX3_nearest_97 : decode cX3_nearest 97 = .ok (.lload 14, 2) := by decide +kernel
theorem dX3_nearest_99 : decode cX3_nearest 99 = .ok (.lmul, 1) := by decide +kernel
theorem dX3_nearest_100 : decode cX3_nearest 100 = .ok (.lsub, 1) := by decide +kernel
theorem dX3_nearest_101 : decode cX3_nearest 101 = .ok (.lstore 18, 2) := by decide +kernel
theorem dX3_nearest_103 : decode cX3_nearest 103 = .ok (.aload_n 1, 1) := by decide +kernel
theorem dX3_nearest_104 : decode cX3_nearest 104 = .ok (.aload_n 3, 1) := by decide +kernel
theorem dX3_nearest_105 : decode cX3_nearest 105 = .ok (.invokevirtual 37, 3) := by decide +kernel
theorem dX3_nearest_108 : decode cX3_nearest 108 = .ok (.aload_n 2, 1) := by decide +kernel
theorem dX3_nearest_109 : decode cX3_nearest 109 = .ok (.aload_n 3, 1) := by decide +kernel
theorem dX3_nearest_110 : decode cX3_nearest 110 = .ok (.invokevirtual 37, 3) := by decide +kernel
theorem dX3_nearest_113 : decode cX3_nearest 113 = .ok (.ladd, 1) := by decide +kernel
theorem dX3_nearest_114 : decode cX3_nearest 114 = .ok (.lstore 20, 2) := by decide +kernel
theorem dX3_nearest_116 : decode cX3_nearest 116 = .ok (.lload 16, 2) := by decide +kernel
theorem dX3_nearest_118 : decode cX3_nearest 118 = .ok (.lconst 0, 1) := by decide +kernel
theorem dX3_nearest_119 : decode cX3_nearest 119 = .ok (.lcmp, 1) := by decide +kernel
theorem dX3_nearest_120 : decode cX3_nearest 120 = .ok (.ifCond .ne 8, 3) := by decide +kernel
theorem dX3_nearest_123 : decode cX3_nearest 123 = .ok (.iload 10, 2) := by decide +kernel
theorem dX3_nearest_125 : decode cX3_nearest 125 = .ok (.goto 22, 3) := by decide +kernel
theorem dX3_nearest_128 : decode cX3_nearest 128 = .ok (.iload 10, 2) := by decide +kernel
theorem dX3_nearest_130 : decode cX3_nearest 130 = .ok (.i2l, 1) := by decide +kernel
theorem dX3_nearest_131 : decode cX3_nearest 131 = .ok (.iload 11, 2) := by decide +kernel
theorem dX3_nearest_133 : decode cX3_nearest 133 = .ok (.i2l, 1) := by decide +kernel
theorem dX3_nearest_134 : decode cX3_nearest 134 = .ok (.lload 18, 2) := by decide +kernel
theorem dX3_nearest_136 : decode cX3_nearest 136 = .ok (.lneg, 1) := by decide +kernel
theorem dX3_nearest_137 : decode cX3_nearest 137 = .ok (.lload 16, 2) := by decide +kernel
theorem dX3_nearest_139 : decode cX3_nearest 139 = .ok (.ldiv, 1) := by decide +kernel
theorem dX3_nearest_140 : decode cX3_nearest 140 = .ok (.invokestatic 30, 3) := by decide +kernel
theorem dX3_nearest_143 : decode cX3_nearest 143 = .ok (.invokestatic 24, 3) := by decide +kernel
theorem dX3_nearest_146 : decode cX3_nearest 146 = .ok (.l2i, 1) := by decide +kernel
theorem dX3_nearest_147 : decode cX3_nearest 147 = .ok (.istore 22, 2) := by decide +kernel
theorem dX3_nearest_149 : decode cX3_nearest 149 = .ok (.aload_n 0, 1) := by decide +kernel
theorem dX3_nearest_150 : decode cX3_nearest 150 = .ok (.aload_n 1, 1) := by decide +kernel
theorem dX3_nearest_151 : decode cX3_nearest 151 = .ok (.aload_n 2, 1) := by decide +kernel
theorem dX3_nearest_152 : decode cX3_nearest 152 = .ok (.aload_n 3, 1) := by decide +kernel
theorem dX3_nearest_153 : decode cX3_nearest 153 = .ok (.iload 4, 2) := by decide +kernel
theorem dX3_nearest_155 : decode cX3_nearest 155 = .ok (.iload 22, 2) := by decide +kernel
theorem dX3_nearest_157 : decode cX3_nearest 157 = .ok (.lload 12, 2) := by decide +kernel
theorem dX3_nearest_159 : decode cX3_nearest 159 = .ok (.invokevirtual 40, 3) := by decide +kernel
theorem dX3_nearest_162 : decode cX3_nearest 162 = .ok (.lconst 1, 1) := by decide +kernel
theorem dX3_nearest_163 : decode cX3_nearest 163 = .ok (.ladd, 1) := by decide +kernel
theorem dX3_nearest_164 : decode cX3_nearest 164 = .ok (.lstore 23, 2) := by decide +kernel
theorem dX3_nearest_166 : decode cX3_nearest 166 = .ok (.iload 10, 2) := by decide +kernel
theorem dX3_nearest_168 : decode cX3_nearest 168 = .ok (.istore 25, 2) := by decide +kernel
theorem dX3_nearest_170 : decode cX3_nearest 170 = .ok (.iload 25, 2) := by decide +kernel
theorem dX3_nearest_172 : decode cX3_nearest 172 = .ok (.iload 11, 2) := by decide +kernel
theorem dX3_nearest_174 : decode cX3_nearest 174 = .ok (.if_icmp .gt 67, 3) := by decide +kernel
theorem dX3_nearest_177 : decode cX3_nearest 177 = .ok (.lload 18, 2) := by decide +kernel
theorem dX3_nearest_179 : decode cX3_nearest 179 = .ok (.lload 16, 2) := by decide +kernel
theorem dX3_nearest_181 : decode cX3_nearest 181 = .ok (.iload 25, 2) := by decide +kernel
theorem dX3_nearest_183 : decode cX3_nearest 183 = .ok (.i2l, 1) := by decide +kernel
theorem dX3_nearest_184 : decode cX3_nearest 184 = .ok (.lmul, 1) := by decide +kernel
theorem dX3_nearest_185 : decode cX3_nearest 185 = .ok (.ladd, 1) := by decide +kernel
theorem dX3_nearest_186 : decode cX3_nearest 186 = .ok (.invokestatic 44, 3) := by decide +kernel
theorem dX3_nearest_189 : decode cX3_nearest 189 = .ok (.lload 23, 2) := by decide +kernel
theorem dX3_nearest_191 : decode cX3_nearest 191 = .ok (.lload 20, 2) := by decide +kernel
theorem dX3_nearest_193 : decode cX3_nearest 193 = .ok (.ladd, 1) := by decide +kernel
theorem dX3_nearest_194 : decode cX3_nearest 194 = .ok (.lload 14, 2) := by decide +kernel
theorem dX3_nearest_196 : decode cX3_nearest 196 = .ok (.lmul, 1) := by decide +kernel
theorem dX3_nearest_197 : decode cX3_nearest 197 = .ok (.lcmp, 1) := by decide +kernel
theorem dX3_nearest_198 : decode cX3_nearest 198 = .ok (.ifCond .lt 6, 3) := by decide +kernel
theorem dX3_nearest_201 : decode cX3_nearest 201 = .ok (.goto 34, 3) := by decide +kernel
theorem dX3_nearest_204 : decode cX3_nearest 204 = .ok (.aload_n 0, 1) := by decide +kernel
theorem dX3_nearest_205 : decode cX3_nearest 205 = .ok (.aload_n 1, 1) := by decide +kernel
theorem dX3_nearest_206 : decode cX3_nearest 206 = .ok (.aload_n 2, 1) := by decide +kernel
theorem dX3_nearest_207 : decode cX3_nearest 207 = .ok (.aload_n 3, 1) := by decide +kernel
theorem dX3_nearest_208 : decode cX3_nearest 208 = .ok (.iload 4, 2) := by decide +kernel
theorem dX3_nearest_210 : decode cX3_nearest 210 = .ok (.iload 25, 2) := by decide +kernel
theorem dX3_nearest_212 : decode cX3_nearest 212 = .ok (.lload 12, 2) := by decide +kernel
theorem dX3_nearest_214 : decode cX3_nearest 214 = .ok (.invokevirtual 40, 3) := by decide +kernel
theorem dX3_nearest_217 : decode cX3_nearest 217 = .ok (.lstore 26, 2) := by decide +kernel
theorem dX3_nearest_219 : decode cX3_nearest 219 = .ok (.lload 26, 2) := by decide +kernel
theorem dX3_nearest_221 : decode cX3_nearest 221 = .ok (.lload 23, 2) := by decide +kernel
theorem dX3_nearest_223 : decode cX3_nearest 223 = .ok (.lcmp, 1) := by decide +kernel
theorem dX3_nearest_224 : decode cX3_nearest 224 = .ok (.ifCond .ge 11, 3) := by decide +kernel
theorem dX3_nearest_227 : decode cX3_nearest 227 = .ok (.lload 26, 2) := by decide +kernel
theorem dX3_nearest_229 : decode cX3_nearest 229 = .ok (.lstore 23, 2) := by decide +kernel
theorem dX3_nearest_231 : decode cX3_nearest 231 = .ok (.iload 25, 2) := by decide +kernel
theorem dX3_nearest_233 : decode cX3_nearest 233 = .ok (.istore 22, 2) := by decide +kernel
theorem dX3_nearest_235 : decode cX3_nearest 235 = .ok (.iinc 25 1, 3) := by decide +kernel
theorem dX3_nearest_238 : decode cX3_nearest 238 = .ok (.goto (-68), 3) := by decide +kernel
theorem dX3_nearest_241 : decode cX3_nearest 241 = .ok (.iload 22, 2) := by decide +kernel
theorem dX3_nearest_243 : decode cX3_nearest 243 = .ok (.ireturn, 1) := by decide +kernel
theorem dX3_distanceAt_0 : decode cX3_distanceAt 0 = .ok (.aload_n 0, 1) := by decide +kernel
theorem dX3_distanceAt_1 : decode cX3_distanceAt 1 = .ok (.getfield 12, 3) := by decide +kernel
theorem dX3_distanceAt_4 : decode cX3_distanceAt 4 = .ok (.aload_n 1, 1) := by decide +kernel
theorem dX3_distanceAt_5 : decode cX3_distanceAt 5 = .ok (.iload 5, 2) := by decide +kernel
theorem dX3_distanceAt_7 : decode cX3_distanceAt 7 = .ok (.invokevirtual 48, 3) := by decide +kernel
theorem dX3_distanceAt_10 : decode cX3_distanceAt 10 = .ok (.aload_n 0, 1) := by decide +kernel
theorem dX3_distanceAt_11 : decode cX3_distanceAt 11 = .ok (.getfield 12, 3) := by decide +kernel
theorem dX3_distanceAt_14 : decode cX3_distanceAt 14 = .ok (.getfield 52, 3) := by decide +kernel
theorem dX3_distanceAt_17 : decode cX3_distanceAt 17 = .ok (.aload_n 3, 1) := by decide +kernel
theorem dX3_distanceAt_18 : decode cX3_distanceAt 18 = .ok (.invokevirtual 33, 3) := by decide +kernel
theorem dX3_distanceAt_21 : decode cX3_distanceAt 21 = .ok (.lstore 8, 2) := by decide +kernel
theorem dX3_distanceAt_23 : decode cX3_distanceAt 23 = .ok (.aload_n 0, 1) := by decide +kernel
theorem dX3_distanceAt_24 : decode cX3_distanceAt 24 = .ok (.getfield 12, 3) := by decide +kernel
theorem dX3_distanceAt_27 : decode cX3_distanceAt 27 = .ok (.aload_n 2, 1) := by decide +kernel
theorem dX3_distanceAt_28 : decode cX3_distanceAt 28 = .ok (.iload 4, 2) := by decide +kernel
theorem dX3_distanceAt_30 : decode cX3_distanceAt 30 = .ok (.iload 5, 2) := by decide +kernel
theorem dX3_distanceAt_32 : decode cX3_distanceAt 32 = .ok (.isub, 1) := by decide +kernel
theorem dX3_distanceAt_33 : decode cX3_distanceAt 33 = .ok (.invokevirtual 48, 3) := by decide +kernel
theorem dX3_distanceAt_36 : decode cX3_distanceAt 36 = .ok (.lload 8, 2) := by decide +kernel
theorem dX3_distanceAt_38 : decode cX3_distanceAt 38 = .ok (.aload_n 0, 1) := by decide +kernel
theorem dX3_distanceAt_39 : decode cX3_distanceAt 39 = .ok (.getfield 12, 3) := by decide +kernel
theorem dX3_distanceAt_42 : decode cX3_distanceAt 42 = .ok (.getfield 52, 3) := by decide +kernel
theorem dX3_distanceAt_45 : decode cX3_distanceAt 45 = .ok (.aload_n 3, 1) := by decide +kernel
theorem dX3_distanceAt_46 : decode cX3_distanceAt 46 = .ok (.invokevirtual 33, 3) := by decide +kernel
theorem dX3_distanceAt_49 : decode cX3_distanceAt 49 = .ok (.ladd, 1) := by decide +kernel
theorem dX3_distanceAt_50 : decode cX3_distanceAt 50 = .ok (.lload 6, 2) := by decide +kernel
theorem dX3_distanceAt_52 : decode cX3_distanceAt 52 = .ok (.lsub, 1) := by decide +kernel
theorem dX3_distanceAt_53 : decode cX3_distanceAt 53 = .ok (.invokestatic 44, 3) := by decide +kernel
theorem dX3_distanceAt_56 : decode cX3_distanceAt 56 = .ok (.lreturn, 1) := by decide +kernel
theorem dX4_init_0 : decode cX4_init 0 = .ok (.aload_n 0, 1) := by decide +kernel
theorem dX4_init_1 : decode cX4_init 1 = .ok (.invokespecial 3, 3) := by decide +kernel
theorem dX4_init_4 : decode cX4_init 4 = .ok (.aload_n 0, 1) := by decide +kernel
theorem dX4_init_5 : decode cX4_init 5 = .ok (.iconst 0, 1) := by decide +kernel
theorem dX4_init_6 : decode cX4_init 6 = .ok (.putfield 9, 3) := by decide +kernel
theorem dX4_init_9 : decode cX4_init 9 = .ok (.aload_n 0, 1) := by decide +kernel
theorem dX4_init_10 : decode cX4_init 10 = .ok (.iconst 0, 1) := by decide +kernel
theorem dX4_init_11 : decode cX4_init 11 = .ok (.putfield 15, 3) := by decide +kernel
theorem dX4_init_14 : decode cX4_init 14 = .ok (.aload_n 0, 1) := by decide +kernel
theorem dX4_init_15 : decode cX4_init 15 = .ok (.iconst 0, 1) := by decide +kernel
theorem dX4_init_16 : decode cX4_init 16 = .ok (.putfield 18, 3) := by decide +kernel
theorem dX4_init_19 : decode cX4_init 19 = .ok (.aload_n 0, 1) := by decide +kernel
theorem dX4_init_20 : decode cX4_init 20 = .ok (.iconst 0, 1) := by decide +kernel
theorem dX4_init_21 : decode cX4_init 21 = .ok (.putfield 21, 3) := by decide +kernel
theorem dX4_init_24 : decode cX4_init 24 = .ok (.aload_n 0, 1) := by decide +kernel
theorem dX4_init_25 : decode cX4_init 25 = .ok (.iconst 0, 1) := by decide +kernel
theorem dX4_init_26 : decode cX4_init 26 = .ok (.putfield 24, 3) := by decide +kernel
theorem dX4_init_29 : decode cX4_init 29 = .ok (.aload_n 0, 1) := by decide +kernel
theorem dX4_init_30 : decode cX4_init 30 = .ok (.iconst 0, 1) := by decide +kernel
theorem dX4_init_31 : decode cX4_init 31 = .ok (.putfield 27, 3) := by decide +kernel
theorem dX4_init_34 : decode cX4_init 34 = .ok (.aload_n 0, 1) := by decide +kernel
theorem dX4_init_35 : decode cX4_init 35 = .ok (.iconst 0, 1) := by decide +kernel
theorem dX4_init_36 : decode cX4_init 36 = .ok (.putfield 30, 3) := by decide +kernel
theorem dX4_init_39 : decode cX4_init 39 = .ok (.aload_n 0, 1) := by decide +kernel
theorem dX4_init_40 : decode cX4_init 40 = .ok (.iconst 0, 1) := by decide +kernel
theorem dX4_init_41 : decode cX4_init 41 = .ok (.putfield 33, 3) := by decide +kernel
theorem dX4_init_44 : decode cX4_init 44 = .ok (.aload_n 0, 1) := by decide +kernel
theorem dX4_init_45 : decode cX4_init 45 = .ok (.lconst 0, 1) := by decide +kernel
theorem dX4_init_46 : decode cX4_init 46 = .ok (.putfield 36, 3) := by decide +kernel
theorem dX4_init_49 : decode cX4_init 49 = .ok (.return_, 1) := by decide +kernel
theorem dX4_copyFrom_0 : decode cX4_copyFrom 0 = .ok (.aload_n 0, 1) := by decide +kernel
theorem dX4_copyFrom_1 : decode cX4_copyFrom 1 = .ok (.aload_n 1, 1) := by decide +kernel
theorem dX4_copyFrom_2 : decode cX4_copyFrom 2 = .ok (.getfield 9, 3) := by decide +kernel
theorem dX4_copyFrom_5 : decode cX4_copyFrom 5 = .ok (.putfield 9, 3) := by decide +kernel
theorem dX4_copyFrom_8 : decode cX4_copyFrom 8 = .ok (.aload_n 0, 1) := by decide +kernel
theorem dX4_copyFrom_9 : decode cX4_copyFrom 9 = .ok (.aload_n 1, 1) := by decide +kernel
theorem dX4_copyFrom_10 : decode cX4_copyFrom 10 = .ok (.getfield 15, 3) := by decide +kernel
theorem dX4_copyFrom_13 : decode cX4_copyFrom 13 = .ok (.putfield 15, 3) := by decide +kernel
theorem dX4_copyFrom_16 : decode cX4_copyFrom 16 = .ok (.aload_n 0, 1) := by decide +kernel
theorem dX4_copyFrom_17 : decode cX4_copyFrom 17 = .ok (.aload_n 1, 1) := by decide +kernel
theorem dX4_copyFrom_18 : decode cX4_copyFrom 18 = .ok (.getfield 18, 3) := by decide +kernel
theorem dX4_copyFrom_21 : decode cX4_copyFrom 21 = .ok (.putfield 18, 3) := by decide +kernel
theorem dX4_copyFrom_24 : decode cX4_copyFrom 24 = .ok (.aload_n 0, 1) := by decide +kernel
theorem dX4_copyFrom_25 : decode cX4_copyFrom 25 = .ok (.aload_n 1, 1) := by decide +kernel
theorem dX4_copyFrom_26 : decode cX4_copyFrom 26 = .ok (.getfield 21, 3) := by decide +kernel
theorem dX4_copyFrom_29 : decode cX4_copyFrom 29 = .ok (.putfield 21, 3) := by decide +kernel
theorem dX4_copyFrom_32 : decode cX4_copyFrom 32 = .ok (.aload_n 0, 1) := by decide +kernel
theorem dX4_copyFrom_33 : decode cX4_copyFrom 33 = .ok (.aload_n 1, 1) := by decide +kernel
theorem dX4_copyFrom_34 : decode cX4_copyFrom 34 = .ok (.getfield 24, 3) := by decide +kernel
theorem dX4_copyFrom_37 : decode cX4_copyFrom 37 = .ok (.putfield 24, 3) := by decide +kernel
theorem dX4_copyFrom_40 : decode cX4_copyFrom 40 = .ok (.aload_n 0, 1) := by decide +kernel
theorem dX4_copyFrom_41 : decode cX4_copyFrom 41 = .ok (.aload_n 1, 1) := by decide +kernel
theorem dX4_copyFrom_42 : decode cX4_copyFrom 42 = .ok (.getfield 27, 3) := by decide +kernel
theorem dX4_copyFrom_45 : decode cX4_copyFrom 45 = .ok (.putfield 27, 3) := by decide +kernel
theorem dX4_copyFrom_48 : decode cX4_copyFrom 48 = .ok (.aload_n 0, 1) := by decide +kernel
theorem dX4_copyFrom_49 : decode cX4_copyFrom 49 = .ok (.aload_n 1, 1) := by decide +kernel
theorem dX4_copyFrom_50 : decode cX4_copyFrom 50 = .ok (.getfield 30, 3) := by decide +kernel
theorem dX4_copyFrom_53 : decode cX4_copyFrom 53 = .ok (.putfield 30, 3) := by decide +kernel
theorem dX4_copyFrom_56 : decode cX4_copyFrom 56 = .ok (.aload_n 0, 1) := by decide +kernel
theorem dX4_copyFrom_57 : decode cX4_copyFrom 57 = .ok (.aload_n 1, 1) := by decide +kernel
theorem dX4_copyFrom_58 : decode cX4_copyFrom 58 = .ok (.getfield 33, 3) := by decide +kernel
theorem dX4_copyFrom_61 : decode cX4_copyFrom 61 = .ok (.putfield 33, 3) := by decide +kernel
theorem dX4_copyFrom_64 : decode cX4_copyFrom 64 = .ok (.aload_n 0, 1) := by decide +kernel
theorem dX4_copyFrom_65 : decode cX4_copyFrom 65 = .ok (.aload_n 1, 1) := by decide +kernel
theorem dX4_copyFrom_66 : decode cX4_copyFrom 66 = .ok (.getfield 36, 3) := by decide +kernel
theorem dX4_copyFrom_69 : decode cX4_copyFrom 69 = .ok (.putfield 36, 3) := by decide +kernel
theorem dX4_copyFrom_72 : decode cX4_copyFrom 72 = .ok (.return_, 1) := by decide +kernel
theorem dX4_allows_0 : decode cX4_allows 0 = .ok (.iload_n 1, 1) := by decide +kernel
theorem dX4_allows_1 : decode cX4_allows 1 = .ok (.aload_n 0, 1) := by decide +kernel
theorem dX4_allows_2 : decode cX4_allows 2 = .ok (.getfield 18, 3) := by decide +kernel
theorem dX4_allows_5 : decode cX4_allows 5 = .ok (.if_icmp .lt 15, 3) := by decide +kernel
theorem dX4_allows_8 : decode cX4_allows 8 = .ok (.iload_n 1, 1) := by decide +kernel
theorem dX4_allows_9 : decode cX4_allows 9 = .ok (.aload_n 0, 1) := by decide +kernel
theorem dX4_allows_10 : decode cX4_allows 10 = .ok (.getfield 21, 3) := by decide +kernel
theorem dX4_allows_13 : decode cX4_allows 13 = .ok (.if_icmp .gt 7, 3) := by decide +kernel
theorem dX4_allows_16 : decode cX4_allows 16 = .ok (.iconst 1, 1) := by decide +kernel
theorem dX4_allows_17 : decode cX4_allows 17 = .ok (.goto 4, 3) := by decide +kernel
theorem dX4_allows_20 : decode cX4_allows 20 = .ok (.iconst 0, 1) := by decide +kernel
theorem dX4_allows_21 : decode cX4_allows 21 = .ok (.ireturn, 1) := by decide +kernel
theorem dX4_aheadOf_0 : decode cX4_aheadOf 0 = .ok (.aload_n 0, 1) := by decide +kernel
theorem dX4_aheadOf_1 : decode cX4_aheadOf 1 = .ok (.getfield 9, 3) := by decide +kernel
theorem dX4_aheadOf_4 : decode cX4_aheadOf 4 = .ok (.aload_n 1, 1) := by decide +kernel
theorem dX4_aheadOf_5 : decode cX4_aheadOf 5 = .ok (.getfield 9, 3) := by decide +kernel
theorem dX4_aheadOf_8 : decode cX4_aheadOf 8 = .ok (.if_icmp .lt 25, 3) := by decide +kernel
theorem dX4_aheadOf_11 : decode cX4_aheadOf 11 = .ok (.aload_n 0, 1) := by decide +kernel
theorem dX4_aheadOf_12 : decode cX4_aheadOf 12 = .ok (.getfield 9, 3) := by decide +kernel
theorem dX4_aheadOf_15 : decode cX4_aheadOf 15 = .ok (.aload_n 1, 1) := by decide +kernel
theorem dX4_aheadOf_16 : decode cX4_aheadOf 16 = .ok (.getfield 9, 3) := by decide +kernel
theorem dX4_aheadOf_19 : decode cX4_aheadOf 19 = .ok (.if_icmp .ne 18, 3) := by decide +kernel
theorem dX4_aheadOf_22 : decode cX4_aheadOf 22 = .ok (.aload_n 0, 1) := by decide +kernel
theorem dX4_aheadOf_23 : decode cX4_aheadOf 23 = .ok (.getfield 15, 3) := by decide +kernel
theorem dX4_aheadOf_26 : decode cX4_aheadOf 26 = .ok (.aload_n 1, 1) := by decide +kernel
theorem dX4_aheadOf_27 : decode cX4_aheadOf 27 = .ok (.getfield 15, 3) := by decide +kernel
theorem dX4_aheadOf_30 : decode cX4_aheadOf 30 = .ok (.if_icmp .le 7, 3) := by decide +kernel
theorem dX4_aheadOf_33 : decode cX4_aheadOf 33 = .ok (.iconst 1, 1) := by decide +kernel
theorem dX4_aheadOf_34 : decode cX4_aheadOf 34 = .ok (.goto 4, 3) := by decide +kernel
theorem dX4_aheadOf_37 : decode cX4_aheadOf 37 = .ok (.iconst 0, 1) := by decide +kernel
theorem dX4_aheadOf_38 : decode cX4_aheadOf 38 = .ok (.ireturn, 1) := by decide +kernel
theorem dX5_init_0 : decode cX5_init 0 = .ok (.aload_n 0, 1) := by decide +kernel
theorem dX5_init_1 : decode cX5_init 1 = .ok (.invokespecial 3, 3) := by decide +kernel
theorem dX5_init_4 : decode cX5_init 4 = .ok (.aload_n 0, 1) := by decide +kernel
theorem dX5_init_5 : decode cX5_init 5 = .ok (.iconst 0, 1) := by decide +kernel
theorem dX5_init_6 : decode cX5_init 6 = .ok (.putfield 9, 3) := by decide +kernel
theorem dX5_init_9 : decode cX5_init 9 = .ok (.aload_n 0, 1) := by decide +kernel
theorem dX5_init_10 : decode cX5_init 10 = .ok (.bipush 10, 2) := by decide +kernel
theorem dX5_init_12 : decode cX5_init 12 = .ok (.newarray .int, 2) := by decide +kernel
theorem dX5_init_14 : decode cX5_init 14 = .ok (.putfield 15, 3) := by decide +kernel
theorem dX5_init_17 : decode cX5_init 17 = .ok (.aload_n 0, 1) := by decide +kernel
theorem dX5_init_18 : decode cX5_init 18 = .ok (.bipush 10, 2) := by decide +kernel
theorem dX5_init_20 : decode cX5_init 20 = .ok (.newarray .int, 2) := by decide +kernel
theorem dX5_init_22 : decode cX5_init 22 = .ok (.putfield 19, 3) := by decide +kernel
theorem dX5_init_25 : decode cX5_init 25 = .ok (.aload_n 0, 1) := by decide +kernel
theorem dX5_init_26 : decode cX5_init 26 = .ok (.iconst 0, 1) := by decide +kernel
theorem dX5_init_27 : decode cX5_init 27 = .ok (.putfield 22, 3) := by decide +kernel
theorem dX5_init_30 : decode cX5_init 30 = .ok (.aload_n 0, 1) := by decide +kernel
theorem dX5_init_31 : decode cX5_init 31 = .ok (.bipush 10, 2) := by decide +kernel
theorem dX5_init_33 : decode cX5_init 33 = .ok (.newarray .int, 2) := by decide +kernel
theorem dX5_init_35 : decode cX5_init 35 = .ok (.putfield 25, 3) := by decide +kernel
theorem dX5_init_38 : decode cX5_init 38 = .ok (.aload_n 0, 1) := by decide +kernel
theorem dX5_init_39 : decode cX5_init 39 = .ok (.bipush 6, 2) := by decide +kernel
theorem dX5_init_41 : decode cX5_init 41 = .ok (.anewarray 28, 3) := by decide +kernel
theorem dX5_init_44 : decode cX5_init 44 = .ok (.putfield 30, 3) := by decide +kernel
theorem dX5_init_47 : decode cX5_init 47 = .ok (.aload_n 0, 1) := by decide +kernel
theorem dX5_init_48 : decode cX5_init 48 = .ok (.new 34, 3) := by decide +kernel
theorem dX5_init_51 : decode cX5_init 51 = .ok (.dup, 1) := by decide +kernel
theorem dX5_init_52 : decode cX5_init 52 = .ok (.invokespecial 36, 3) := by decide +kernel
theorem dX5_init_55 : decode cX5_init 55 = .ok (.putfield 37, 3) := by decide +kernel
theorem dX5_init_58 : decode cX5_init 58 = .ok (.iconst 0, 1) := by decide +kernel
theorem dX5_init_59 : decode cX5_init 59 = .ok (.istore_n 1, 1) := by decide +kernel
theorem dX5_init_60 : decode cX5_init 60 = .ok (.iload_n 1, 1) := by decide +kernel
theorem dX5_init_61 : decode cX5_init 61 = .ok (.bipush 6, 2) := by decide +kernel
theorem dX5_init_63 : decode cX5_init 63 = .ok (.if_icmp .ge 22, 3) := by decide +kernel
theorem dX5_init_66 : decode cX5_init 66 = .ok (.aload_n 0, 1) := by decide +kernel
theorem dX5_init_67 : decode cX5_init 67 = .ok (.getfield 30, 3) := by decide +kernel
theorem dX5_init_70 : decode cX5_init 70 = .ok (.iload_n 1, 1) := by decide +kernel
theorem dX5_init_71 : decode cX5_init 71 = .ok (.new 28, 3) := by decide +kernel
theorem dX5_init_74 : decode cX5_init 74 = .ok (.dup, 1) := by decide +kernel
theorem dX5_init_75 : decode cX5_init 75 = .ok (.invokespecial 41, 3) := by decide +kernel
theorem dX5_init_78 : decode cX5_init 78 = .ok (.aastore, 1) := by decide +kernel
theorem dX5_init_79 : decode cX5_init 79 = .ok (.iinc 1 1, 3) := by decide +kernel
theorem dX5_init_82 : decode cX5_init 82 = .ok (.goto (-22), 3) := by decide +kernel
theorem dX5_init_85 : decode cX5_init 85 = .ok (.return_, 1) := by decide +kernel
theorem dX5_reckon_0 : decode cX5_reckon 0 = .ok (.aload_n 0, 1) := by decide +kernel
theorem dX5_reckon_1 : decode cX5_reckon 1 = .ok (.aload_n 1, 1) := by decide +kernel
theorem dX5_reckon_2 : decode cX5_reckon 2 = .ok (.invokevirtual 42, 3) := by decide +kernel
theorem dX5_reckon_5 : decode cX5_reckon 5 = .ok (.iconst 0, 1) := by decide +kernel
theorem dX5_reckon_6 : decode cX5_reckon 6 = .ok (.istore_n 2, 1) := by decide +kernel
theorem dX5_reckon_7 : decode cX5_reckon 7 = .ok (.iload_n 2, 1) := by decide +kernel
theorem dX5_reckon_8 : decode cX5_reckon 8 = .ok (.bipush 6, 2) := by decide +kernel
theorem dX5_reckon_10 : decode cX5_reckon 10 = .ok (.if_icmp .ge 27, 3) := by decide +kernel
theorem dX5_reckon_13 : decode cX5_reckon 13 = .ok (.aload_n 0, 1) := by decide +kernel
theorem dX5_reckon_14 : decode cX5_reckon 14 = .ok (.getfield 30, 3) := by decide +kernel
theorem dX5_reckon_17 : decode cX5_reckon 17 = .ok (.iload_n 2, 1) := by decide +kernel
theorem dX5_reckon_18 : decode cX5_reckon 18 = .ok (.aaload, 1) := by decide +kernel
theorem dX5_reckon_19 : decode cX5_reckon 19 = .ok (.aload_n 1, 1) := by decide +kernel
theorem dX5_reckon_20 : decode cX5_reckon 20 = .ok (.getfield 46, 3) := by decide +kernel
theorem dX5_reckon_23 : decode cX5_reckon 23 = .ok (.iload_n 2, 1) := by decide +kernel
theorem dX5_reckon_24 : decode cX5_reckon 24 = .ok (.aaload, 1) := by decide +kernel
theorem dX5_reckon_25 : decode cX5_reckon 25 = .ok (.getfield 51, 3) := by decide +kernel
theorem dX5_reckon_28 : decode cX5_reckon 28 = .ok (.invokevirtual 57, 3) := by decide +kernel
theorem dX5_reckon_31 : decode cX5_reckon 31 = .ok (.iinc 2 1, 3) := by decide +kernel
theorem dX5_reckon_34 : decode cX5_reckon 34 = .ok (.goto (-27), 3) := by decide +kernel
theorem dX5_reckon_37 : decode cX5_reckon 37 = .ok (.aload_n 0, 1) := by decide +kernel
theorem dX5_reckon_38 : decode cX5_reckon 38 = .ok (.iconst 0, 1) := by decide +kernel
theorem dX5_reckon_39 : decode cX5_reckon 39 = .ok (.putfield 9, 3) := by decide +kernel
theorem dX5_reckon_42 : decode cX5_reckon 42 = .ok (.iconst 0, 1) := by decide +kernel
theorem dX5_reckon_43 : decode cX5_reckon 43 = .ok (.istore_n 2, 1) := by decide +kernel
theorem dX5_reckon_44 : decode cX5_reckon 44 = .ok (.iload_n 2, 1) := by decide +kernel
theorem dX5_reckon_45 : decode cX5_reckon 45 = .ok (.aload_n 0, 1) := by decide +kernel
theorem dX5_reckon_46 : decode cX5_reckon 46 = .ok (.getfield 22, 3) := by decide +kernel
theorem dX5_reckon_49 : decode cX5_reckon 49 = .ok (.if_icmp .ge 108, 3) := by decide +kernel
theorem dX5_reckon_52 : decode cX5_reckon 52 = .ok (.aload_n 1, 1) := by decide +kernel
theorem dX5_reckon_53 : decode cX5_reckon 53 = .ok (.getfield 61, 3) := by decide +kernel
theorem dX5_reckon_56 : decode cX5_reckon 56 = .ok (.aload_n 0, 1) := by decide +kernel
theorem dX5_reckon_57 : decode cX5_reckon 57 = .ok (.getfield 25, 3) := by decide +kernel
theorem dX5_reckon_60 : decode cX5_reckon 60 = .ok (.iload_n 2, 1) := by decide +kernel
theorem dX5_reckon_61 : decode cX5_reckon 61 = .ok (.iaload, 1) := by decide +kernel
theorem dX5_reckon_62 : decode cX5_reckon 62 = .ok (.aaload, 1) := by decide +kernel
theorem dX5_reckon_63 : decode cX5_reckon 63 = .ok (.astore_n 3, 1) := by decide +kernel
theorem dX5_reckon_64 : decode cX5_reckon 64 = .ok (.aload_n 0, 1) := by decide +kernel
theorem dX5_reckon_65 : decode cX5_reckon 65 = .ok (.aload_n 3, 1) := by decide +kernel
theorem dX5_reckon_66 : decode cX5_reckon 66 = .ok (.aload_n 1, 1) := by decide +kernel
theorem dX5_reckon_67 : decode cX5_reckon 67 = .ok (.getfield 64, 3) := by decide +kernel
theorem dX5_reckon_70 : decode cX5_reckon 70 = .ok (.invokevirtual 67, 3) := by decide +kernel
theorem dX5_reckon_73 : decode cX5_reckon 73 = .ok (.istore 4, 2) := by decide +kernel
theorem dX5_reckon_75 : decode cX5_reckon 75 = .ok (.iload 4, 2) := by decide +kernel
theorem dX5_reckon_77 : decode cX5_reckon 77 = .ok (.ifCond .lt 74, 3) := by decide +kernel
theorem dX5_reckon_80 : decode cX5_reckon 80 = .ok (.aload_n 0, 1) := by decide +kernel
theorem dX5_reckon_81 : decode cX5_reckon 81 = .ok (.getfield 37, 3) := by decide +kernel
theorem dX5_reckon_84 : decode cX5_reckon 84 = .ok (.aload_n 0, 1) := by decide +kernel
theorem dX5_reckon_85 : decode cX5_reckon 85 = .ok (.getfield 30, 3) := by decide +kernel
theorem dX5_reckon_88 : decode cX5_reckon 88 = .ok (.iload 4, 2) := by decide +kernel
theorem dX5_reckon_90 : decode cX5_reckon 90 = .ok (.aaload, 1) := by decide +kernel
theorem dX5_reckon_91 : decode cX5_reckon 91 = .ok (.aload_n 3, 1) := by decide +kernel
theorem dX5_reckon_92 : decode cX5_reckon 92 = .ok (.getfield 71, 3) := by decide +kernel
theorem dX5_reckon_95 : decode cX5_reckon 95 = .ok (.invokevirtual 76, 3) := by decide +kernel
theorem dX5_reckon_98 : decode cX5_reckon 98 = .ok (.aload_n 0, 1) := by decide +kernel
theorem dX5_reckon_99 : decode cX5_reckon 99 = .ok (.getfield 30, 3) := by decide +kernel
theorem dX5_reckon_102 : decode cX5_reckon 102 = .ok (.iload 4, 2) := by decide +kernel
theorem dX5_reckon_104 : decode cX5_reckon 104 = .ok (.aaload, 1) := by decide +kernel
theorem dX5_reckon_105 : decode cX5_reckon 105 = .ok (.aload_n 0, 1) := by decide +kernel
theorem dX5_reckon_106 : decode cX5_reckon 106 = .ok (.getfield 37, 3) := by decide +kernel
theorem dX5_reckon_109 : decode cX5_reckon 109 = .ok (.getfield 80, 3) := by decide +kernel
theorem dX5_reckon_112 : decode cX5_reckon 112 = .ok (.invokevirtual 83, 3) := by decide +kernel
theorem dX5_reckon_115 : decode cX5_reckon 115 = .ok (.aload_n 0, 1) := by decide +kernel
theorem dX5_reckon_116 : decode cX5_reckon 116 = .ok (.getfield 15, 3) := by decide +kernel
theorem dX5_reckon_119 : decode cX5_reckon 119 = .ok (.aload_n 0, 1) := by decide +kernel
theorem dX5_reckon_120 : decode cX5_reckon 120 = .ok (.getfield 9, 3) := by decide +kernel
theorem dX5_reckon_123 : decode cX5_reckon 123 = .ok (.aload_n 0, 1) := by decide +kernel
theorem dX5_reckon_124 : decode cX5_reckon 124 = .ok (.getfield 25, 3) := by decide +kernel
theorem dX5_reckon_127 : decode cX5_reckon 127 = .ok (.iload_n 2, 1) := by decide +kernel
theorem dX5_reckon_128 : decode cX5_reckon 128 = .ok (.iaload, 1) := by decide +kernel
theorem dX5_reckon_129 : decode cX5_reckon 129 = .ok (.iastore, 1) := by decide +kernel
theorem dX5_reckon_130 : decode cX5_reckon 130 = .ok (.aload_n 0, 1) := by decide +kernel
theorem dX5_reckon_131 : decode cX5_reckon 131 = .ok (.getfield 19, 3) := by decide +kernel
theorem dX5_reckon_134 : decode cX5_reckon 134 = .ok (.aload_n 0, 1) := by decide +kernel
theorem dX5_reckon_135 : decode cX5_reckon 135 = .ok (.getfield 9, 3) := by decide +kernel
theorem dX5_reckon_138 : decode cX5_reckon 138 = .ok (.iload 4, 2) := by decide +kernel
theorem dX5_reckon_140 : decode cX5_reckon 140 = .ok (.iastore, 1) := by decide +kernel
theorem dX5_reckon_141 : decode cX5_reckon 141 = .ok (.aload_n 0, 1) := by decide +kernel
theorem dX5_reckon_142 : decode cX5_reckon 142 = .ok (.dup, 1) := by decide +kernel
theorem dX5_reckon_143 : decode cX5_reckon 143 = .ok (.getfield 9, 3) := by decide +kernel
theorem dX5_reckon_146 : decode cX5_reckon 146 = .ok (.iconst 1, 1) := by decide +kernel
theorem dX5_reckon_147 : decode cX5_reckon 147 = .ok (.iadd, 1) := by decide +kernel
theorem dX5_reckon_148 : decode cX5_reckon 148 = .ok (.putfield 9, 3) := by decide +kernel
theorem dX5_reckon_151 : decode cX5_reckon 151 = .ok (.iinc 2 1, 3) := by decide +kernel
theorem dX5_reckon_154 : decode cX5_reckon 154 = .ok (.goto (-110), 3) := by decide +kernel
theorem dX5_reckon_157 : decode cX5_reckon 157 = .ok (.return_, 1) := by decide +kernel
theorem dX5_tankOf_0 : decode cX5_tankOf 0 = .ok (.iconst 0, 1) := by decide +kernel
theorem dX5_tankOf_1 : decode cX5_tankOf 1 = .ok (.istore_n 2, 1) := by decide +kernel
theorem dX5_tankOf_2 : decode cX5_tankOf 2 = .ok (.iload_n 2, 1) := by decide +kernel
theorem dX5_tankOf_3 : decode cX5_tankOf 3 = .ok (.aload_n 0, 1) := by decide +kernel
theorem dX5_tankOf_4 : decode cX5_tankOf 4 = .ok (.getfield 9, 3) := by decide +kernel
theorem dX5_tankOf_7 : decode cX5_tankOf 7 = .ok (.if_icmp .ge 26, 3) := by decide +kernel
theorem dX5_tankOf_10 : decode cX5_tankOf 10 = .ok (.aload_n 0, 1) := by decide +kernel
theorem dX5_tankOf_11 : decode cX5_tankOf 11 = .ok (.getfield 15, 3) := by decide +kernel
theorem dX5_tankOf_14 : decode cX5_tankOf 14 = .ok (.iload_n 2, 1) := by decide +kernel
theorem dX5_tankOf_15 : decode cX5_tankOf 15 = .ok (.iaload, 1) := by decide +kernel
theorem dX5_tankOf_16 : decode cX5_tankOf 16 = .ok (.iload_n 1, 1) := by decide +kernel
theorem dX5_tankOf_17 : decode cX5_tankOf 17 = .ok (.if_icmp .ne 10, 3) := by decide +kernel
theorem dX5_tankOf_20 : decode cX5_tankOf 20 = .ok (.aload_n 0, 1) := by decide +kernel
theorem dX5_tankOf_21 : decode cX5_tankOf 21 = .ok (.getfield 19, 3) := by decide +kernel
theorem dX5_tankOf_24 : decode cX5_tankOf 24 = .ok (.iload_n 2, 1) := by decide +kernel
theorem dX5_tankOf_25 : decode cX5_tankOf 25 = .ok (.iaload, 1) := by decide +kernel
theorem dX5_tankOf_26 : decode cX5_tankOf 26 = .ok (.ireturn, 1) := by decide +kernel
theorem dX5_tankOf_27 : decode cX5_tankOf 27 = .ok (.iinc 2 1, 3) := by decide +kernel
theorem dX5_tankOf_30 : decode cX5_tankOf 30 = .ok (.goto (-28), 3) := by decide +kernel
theorem dX5_tankOf_33 : decode cX5_tankOf 33 = .ok (.bipush (-5), 2) := by decide +kernel
theorem dX5_tankOf_35 : decode cX5_tankOf 35 = .ok (.ireturn, 1) := by decide +kernel
theorem dX5_queueOpenOrders_0 : decode cX5_queueOpenOrders 0 = .ok (.aload_n 0, 1) := by decide +kernel
theorem dX5_queueOpenOrders_1 : decode cX5_queueOpenOrders 1 = .ok (.iconst 0, 1) := by decide +kernel
theorem dX5_queueOpenOrders_2 : decode cX5_queueOpenOrders 2 = .ok (.putfield 22, 3) := by decide +kernel
theorem dX5_queueOpenOrders_5 : decode cX5_queueOpenOrders 5 = .ok (.iconst 0, 1) := by decide +kernel
theorem dX5_queueOpenOrders_6 : decode cX5_queueOpenOrders 6 = .ok (.istore_n 2, 1) := by decide +kernel
theorem dX5_queueOpenOrders_7 : decode cX5_queueOpenOrders 7 = .ok (.iload_n 2, 1) := by decide +kernel
theorem dX5_queueOpenOrders_8 : decode cX5_queueOpenOrders 8 = .ok (.aload_n 1, 1) := by decide +kernel
theorem dX5_queueOpenOrders_9 : decode cX5_queueOpenOrders 9 = .ok (.getfield 86, 3) := by decide +kernel
theorem dX5_queueOpenOrders_12 : decode cX5_queueOpenOrders 12 = .ok (.if_icmp .ge 104, 3) := by decide +kernel
theorem dX5_queueOpenOrders_15 : decode cX5_queueOpenOrders 15 = .ok (.iload_n 2, 1) := by decide +kernel
theorem dX5_queueOpenOrders_16 : decode cX5_queueOpenOrders 16 = .ok (.bipush 10, 2) := by decide +kernel
theorem dX5_queueOpenOrders_18 : decode cX5_queueOpenOrders 18 = .ok (.if_icmp .ge 98, 3) := by decide +kernel
theorem dX5_queueOpenOrders_21 : decode cX5_queueOpenOrders 21 = .ok (.aload_n 1, 1) := by decide +kernel
theorem dX5_queueOpenOrders_22 : decode cX5_queueOpenOrders 22 = .ok (.getfield 61, 3) := by decide +kernel
theorem dX5_queueOpenOrders_25 : decode cX5_queueOpenOrders 25 = .ok (.iload_n 2, 1) := by decide +kernel
theorem dX5_queueOpenOrders_26 : decode cX5_queueOpenOrders 26 = .ok (.aaload, 1) := by decide +kernel
theorem dX5_queueOpenOrders_27 : decode cX5_queueOpenOrders 27 = .ok (.astore_n 3, 1) := by decide +kernel
theorem dX5_queueOpenOrders_28 : decode cX5_queueOpenOrders 28 = .ok (.aload_n 3, 1) := by decide +kernel
theorem dX5_queueOpenOrders_29 : decode cX5_queueOpenOrders 29 = .ok (.getfield 89, 3) := by decide +kernel
theorem dX5_queueOpenOrders_32 : decode cX5_queueOpenOrders 32 = .ok (.ifCond .eq 6, 3) := by decide +kernel
theorem dX5_queueOpenOrders_35 : decode cX5_queueOpenOrders 35 = .ok (.goto 75, 3) := by decide +kernel
theorem dX5_queueOpenOrders_38 : decode cX5_queueOpenOrders 38 = .ok (.aload_n 0, 1) := by decide +kernel
theorem dX5_queueOpenOrders_39 : decode cX5_queueOpenOrders 39 = .ok (.getfield 22, 3) := by decide +kernel
theorem dX5_queueOpenOrders_42 : decode cX5_queueOpenOrders 42 = .ok (.istore 4, 2) := by decide +kernel
theorem dX5_queueOpenOrders_44 : decode cX5_queueOpenOrders 44 = .ok (.iload 4, 2) := by decide +kernel
theorem dX5_queueOpenOrders_46 : decode cX5_queueOpenOrders 46 = .ok (.ifCond .le 46, 3) := by decide +kernel
theorem dX5_queueOpenOrders_49 : decode cX5_queueOpenOrders 49 = .ok (.aload_n 3, 1) := by decide +kernel
theorem dX5_queueOpenOrders_50 : decode cX5_queueOpenOrders 50 = .ok (.aload_n 1, 1) := by decide +kernel
theorem dX5_queueOpenOrders_51 : decode cX5_queueOpenOrders 51 = .ok (.getfield 61, 3) := by decide +kernel
theorem dX5_queueOpenOrders_54 : decode cX5_queueOpenOrders 54 = .ok (.aload_n 0, 1) := by decide +kernel
theorem dX5_queueOpenOrders_55 : decode cX5_queueOpenOrders 55 = .ok (.getfield 25, 3) := by decide +kernel
theorem dX5_queueOpenOrders_58 : decode cX5_queueOpenOrders 58 = .ok (.iload 4, 2) := by decide +kernel
theorem dX5_queueOpenOrders_60 : decode cX5_queueOpenOrders 60 = .ok (.iconst 1, 1) := by decide +kernel
theorem dX5_queueOpenOrders_61 : decode cX5_queueOpenOrders 61 = .ok (.isub, 1) := by decide +kernel
theorem dX5_queueOpenOrders_62 : decode cX5_queueOpenOrders 62 = .ok (.iaload, 1) := by decide +kernel
theorem dX5_queueOpenOrders_63 : decode cX5_queueOpenOrders 63 = .ok (.aaload, 1) := by decide +kernel
theorem dX5_queueOpenOrders_64 : decode cX5_queueOpenOrders 64 = .ok (.invokevirtual 92, 3) := by decide +kernel
theorem dX5_queueOpenOrders_67 : decode cX5_queueOpenOrders 67 = .ok (.ifCond .eq 25, 3) := by decide +kernel
theorem dX5_queueOpenOrders_70 : decode cX5_queueOpenOrders 70 = .ok (.aload_n 0, 1) := by decide +kernel
theorem dX5_queueOpenOrders_71 : decode cX5_queueOpenOrders 71 = .ok (.getfield 25, 3) := by decide +kernel
theorem dX5_queueOpenOrders_74 : decode cX5_queueOpenOrders 74 = .ok (.iload 4, 2) := by decide +kernel
theorem dX5_queueOpenOrders_76 : decode cX5_queueOpenOrders 76 = .ok (.aload_n 0, 1) := by decide +kernel
theorem dX5_queueOpenOrders_77 : decode cX5_queueOpenOrders 77 = .ok (.getfield 25, 3) := by decide +kernel
theorem dX5_queueOpenOrders_80 : decode cX5_queueOpenOrders 80 = .ok (.iload 4, 2) := by decide +kernel
theorem dX5_queueOpenOrders_82 : decode cX5_queueOpenOrders 82 = .ok (.iconst 1, 1) := by decide +kernel
theorem dX5_queueOpenOrders_83 : decode cX5_queueOpenOrders 83 = .ok (.isub, 1) := by decide +kernel
theorem dX5_queueOpenOrders_84 : decode cX5_queueOpenOrders 84 = .ok (.iaload, 1) := by decide +kernel
theorem dX5_queueOpenOrders_85 : decode cX5_queueOpenOrders 85 = .ok (.iastore, 1) := by decide +kernel
theorem dX5_queueOpenOrders_86 : decode cX5_queueOpenOrders 86 = .ok (.iinc 4 (-1), 3) := by decide +kernel
theorem dX5_queueOpenOrders_89 : decode cX5_queueOpenOrders 89 = .ok (.goto (-45), 3) := by decide +kernel
theorem dX5_queueOpenOrders_92 : decode cX5_queueOpenOrders 92 = .ok (.aload_n 0, 1) := by decide +kernel
theorem dX5_queueOpenOrders_93 : decode cX5_queueOpenOrders 93 = .ok (.getfield 25, 3) := by decide +kernel
theorem dX5_queueOpenOrders_96 : decode cX5_queueOpenOrders 96 = .ok (.iload 4, 2) := by decide +kernel
theorem dX5_queueOpenOrders_98 : decode cX5_queueOpenOrders 98 = .ok (.iload_n 2, 1) := by decide +kernel
theorem dX5_queueOpenOrders_99 : decode cX5_queueOpenOrders 99 = .ok (.iastore, 1) := by decide +kernel
theorem dX5_queueOpenOrders_100 : decode cX5_queueOpenOrders 100 = .ok (.aload_n 0, 1) := by decide +kernel
theorem dX5_queueOpenOrders_101 : decode cX5_queueOpenOrders 101 = .ok (.dup, 1) := by decide +kernel
theorem dX5_queueOpenOrders_102 : decode cX5_queueOpenOrders 102 = .ok (.getfield 22, 3) := by decide +kernel
theorem dX5_queueOpenOrders_105 : decode cX5_queueOpenOrders 105 = .ok (.iconst 1, 1) := by decide +kernel
theorem dX5_queueOpenOrders_106 : decode cX5_queueOpenOrders 106 = .ok (.iadd, 1) := by decide +kernel
theorem dX5_queueOpenOrders_107 : decode cX5_queueOpenOrders 107 = .ok (.putfield 22, 3) := by decide +kernel
theorem dX5_queueOpenOrders_110 : decode cX5_queueOpenOrders 110 = .ok (.iinc 2 1, 3) := by decide +kernel
theorem dX5_queueOpenOrders_113 : decode cX5_queueOpenOrders 113 = .ok (.goto (-106), 3) := by decide +kernel
theorem dX5_queueOpenOrders_116 : decode cX5_queueOpenOrders 116 = .ok (.return_, 1) := by decide +kernel
theorem dX5_bestTank_0 : decode cX5_bestTank 0 = .ok (.bipush (-5), 2) := by decide +kernel
theorem dX5_bestTank_2 : decode cX5_bestTank 2 = .ok (.istore_n 3, 1) := by decide +kernel
theorem dX5_bestTank_3 : decode cX5_bestTank 3 = .ok (.iconst 0, 1) := by decide +kernel
theorem dX5_bestTank_4 : decode cX5_bestTank 4 = .ok (.istore 4, 2) := by decide +kernel
theorem dX5_bestTank_6 : decode cX5_bestTank 6 = .ok (.iconst 0, 1) := by decide +kernel
theorem dX5_bestTank_7 : decode cX5_bestTank 7 = .ok (.istore 5, 2) := by decide +kernel
theorem dX5_bestTank_9 : decode cX5_bestTank 9 = .ok (.iload 5, 2) := by decide +kernel
theorem dX5_bestTank_11 : decode cX5_bestTank 11 = .ok (.bipush 6, 2) := by decide +kernel
theorem dX5_bestTank_13 : decode cX5_bestTank 13 = .ok (.if_icmp .ge 66, 3) := by decide +kernel
theorem dX5_bestTank_16 : decode cX5_bestTank 16 = .ok (.aload_n 0, 1) := by decide +kernel
theorem dX5_bestTank_17 : decode cX5_bestTank 17 = .ok (.getfield 30, 3) := by decide +kernel
theorem dX5_bestTank_20 : decode cX5_bestTank 20 = .ok (.iload 5, 2) := by decide +kernel
theorem dX5_bestTank_22 : decode cX5_bestTank 22 = .ok (.aaload, 1) := by decide +kernel
theorem dX5_bestTank_23 : decode cX5_bestTank 23 = .ok (.invokevirtual 96, 3) := by decide +kernel
theorem dX5_bestTank_26 : decode cX5_bestTank 26 = .ok (.istore 6, 2) := by decide +kernel
theorem dX5_bestTank_28 : decode cX5_bestTank 28 = .ok (.iload 6, 2) := by decide +kernel
theorem dX5_bestTank_30 : decode cX5_bestTank 30 = .ok (.aload_n 1, 1) := by decide +kernel
theorem dX5_bestTank_31 : decode cX5_bestTank 31 = .ok (.getfield 71, 3) := by decide +kernel
theorem dX5_bestTank_34 : decode cX5_bestTank 34 = .ok (.if_icmp .lt 39, 3) := by decide +kernel
theorem dX5_bestTank_37 : decode cX5_bestTank 37 = .ok (.aload_n 1, 1) := by decide +kernel
theorem dX5_bestTank_38 : decode cX5_bestTank 38 = .ok (.aload_n 0, 1) := by decide +kernel
theorem dX5_bestTank_39 : decode cX5_bestTank 39 = .ok (.getfield 30, 3) := by decide +kernel
theorem dX5_bestTank_42 : decode cX5_bestTank 42 = .ok (.iload 5, 2) := by decide +kernel
theorem dX5_bestTank_44 : decode cX5_bestTank 44 = .ok (.aaload, 1) := by decide +kernel
theorem dX5_bestTank_45 : decode cX5_bestTank 45 = .ok (.aload_n 2, 1) := by decide +kernel
theorem dX5_bestTank_46 : decode cX5_bestTank 46 = .ok (.invokevirtual 100, 3) := by decide +kernel
theorem dX5_bestTank_49 : decode cX5_bestTank 49 = .ok (.invokevirtual 104, 3) := by decide +kernel
theorem dX5_bestTank_52 : decode cX5_bestTank 52 = .ok (.ifCond .eq 21, 3) := by decide +kernel
theorem dX5_bestTank_55 : decode cX5_bestTank 55 = .ok (.iload_n 3, 1) := by decide +kernel
theorem dX5_bestTank_56 : decode cX5_bestTank 56 = .ok (.ifCond .lt 10, 3) := by decide +kernel
theorem dX5_bestTank_59 : decode cX5_bestTank 59 = .ok (.iload 6, 2) := by decide +kernel
theorem dX5_bestTank_61 : decode cX5_bestTank 61 = .ok (.iload 4, 2) := by decide +kernel
theorem dX5_bestTank_63 : decode cX5_bestTank 63 = .ok (.if_icmp .ge 10, 3) := by decide +kernel
theorem dX5_bestTank_66 : decode cX5_bestTank 66 = .ok (.iload 5, 2) := by decide +kernel
theorem dX5_bestTank_68 : decode cX5_bestTank 68 = .ok (.istore_n 3, 1) := by decide +kernel
theorem dX5_bestTank_69 : decode cX5_bestTank 69 = .ok (.iload 6, 2) := by decide +kernel
theorem dX5_bestTank_71 : decode cX5_bestTank 71 = .ok (.istore 4, 2) := by decide +kernel
theorem dX5_bestTank_73 : decode cX5_bestTank 73 = .ok (.iinc 5 1, 3) := by decide +kernel
theorem dX5_bestTank_76 : decode cX5_bestTank 76 = .ok (.goto (-67), 3) := by decide +kernel
theorem dX5_bestTank_79 : decode cX5_bestTank 79 = .ok (.iload_n 3, 1) := by decide +kernel
theorem dX5_bestTank_80 : decode cX5_bestTank 80 = .ok (.ireturn, 1) := by decide +kernel
theorem dX6_init_0 : decode cX6_init 0 = .ok (.aload_n 0, 1) := by decide +kernel
theorem dX6_init_1 : decode cX6_init 1 = .ok (.invokespecial 3, 3) := by decide +kernel
theorem dX6_init_4 : decode cX6_init 4 = .ok (.aload_n 0, 1) := by decide +kernel
theorem dX6_init_5 : decode cX6_init 5 = .ok (.new 9, 3) := by decide +kernel
theorem dX6_init_8 : decode cX6_init 8 = .ok (.dup, 1) := by decide +kernel
theorem dX6_init_9 : decode cX6_init 9 = .ok (.invokespecial 11, 3) := by decide +kernel
theorem dX6_init_12 : decode cX6_init 12 = .ok (.putfield 12, 3) := by decide +kernel
theorem dX6_init_15 : decode cX6_init 15 = .ok (.aload_n 0, 1) := by decide +kernel
theorem dX6_init_16 : decode cX6_init 16 = .ok (.bipush 16, 2) := by decide +kernel
theorem dX6_init_18 : decode cX6_init 18 = .ok (.newarray .int, 2) := by decide +kernel
theorem dX6_init_20 : decode cX6_init 20 = .ok (.putfield 18, 3) := by decide +kernel
theorem dX6_init_23 : decode cX6_init 23 = .ok (.return_, 1) := by decide +kernel
theorem dX6_take_0 : decode cX6_take 0 = .ok (.aload_n 1, 1) := by decide +kernel
theorem dX6_take_1 : decode cX6_take 1 = .ok (.invokevirtual 22, 3) := by decide +kernel
theorem dX6_take_4 : decode cX6_take 4 = .ok (.istore_n 3, 1) := by decide +kernel
theorem dX6_take_5 : decode cX6_take 5 = .ok (.iload_n 2, 1) := by decide +kernel
theorem dX6_take_6 : decode cX6_take 6 = .ok (.istore 4, 2) := by decide +kernel
theorem dX6_take_8 : decode cX6_take 8 = .ok (.iconst 0, 1) := by decide +kernel
theorem dX6_take_9 : decode cX6_take 9 = .ok (.istore 5, 2) := by decide +kernel
theorem dX6_take_11 : decode cX6_take 11 = .ok (.iload 5, 2) := by decide +kernel
theorem dX6_take_13 : decode cX6_take 13 = .ok (.bipush 16, 2) := by decide +kernel
theorem dX6_take_15 : decode cX6_take 15 = .ok (.if_icmp .ge 76, 3) := by decide +kernel
theorem dX6_take_18 : decode cX6_take 18 = .ok (.aload_n 1, 1) := by decide +kernel
theorem dX6_take_19 : decode cX6_take 19 = .ok (.getfield 26, 3) := by decide +kernel
theorem dX6_take_22 : decode cX6_take 22 = .ok (.iload 5, 2) := by decide +kernel
theorem dX6_take_24 : decode cX6_take 24 = .ok (.iaload, 1) := by decide +kernel
theorem dX6_take_25 : decode cX6_take 25 = .ok (.iload_n 2, 1) := by decide +kernel
theorem dX6_take_26 : decode cX6_take 26 = .ok (.imul, 1) := by decide +kernel
theorem dX6_take_27 : decode cX6_take 27 = .ok (.istore 6, 2) := by decide +kernel
theorem dX6_take_29 : decode cX6_take 29 = .ok (.aload_n 0, 1) := by decide +kernel
theorem dX6_take_30 : decode cX6_take 30 = .ok (.getfield 12, 3) := by decide +kernel
theorem dX6_take_33 : decode cX6_take 33 = .ok (.getfield 26, 3) := by decide +kernel
theorem dX6_take_36 : decode cX6_take 36 = .ok (.iload 5, 2) := by decide +kernel
theorem dX6_take_38 : decode cX6_take 38 = .ok (.iload_n 3, 1) := by decide +kernel
theorem dX6_take_39 : decode cX6_take 39 = .ok (.ifCond .le 10, 3) := by decide +kernel
theorem dX6_take_42 : decode cX6_take 42 = .ok (.iload 6, 2) := by decide +kernel
theorem dX6_take_44 : decode cX6_take 44 = .ok (.iload_n 3, 1) := by decide +kernel
theorem dX6_take_45 : decode cX6_take 45 = .ok (.idiv, 1) := by decide +kernel
theorem dX6_take_46 : decode cX6_take 46 = .ok (.goto 4, 3) := by decide +kernel
theorem dX6_take_49 : decode cX6_take 49 = .ok (.iconst 0, 1) := by decide +kernel
theorem dX6_take_50 : decode cX6_take 50 = .ok (.iastore, 1) := by decide +kernel
theorem dX6_take_51 : decode cX6_take 51 = .ok (.aload_n 0, 1) := by decide +kernel
theorem dX6_take_52 : decode cX6_take 52 = .ok (.getfield 18, 3) := by decide +kernel
theorem dX6_take_55 : decode cX6_take 55 = .ok (.iload 5, 2) := by decide +kernel
theorem dX6_take_57 : decode cX6_take 57 = .ok (.iload_n 3, 1) := by decide +kernel
theorem dX6_take_58 : decode cX6_take 58 = .ok (.ifCond .le 10, 3) := by decide +kernel
theorem dX6_take_61 : decode cX6_take 61 = .ok (.iload 6, 2) := by decide +kernel
theorem dX6_take_63 : decode cX6_take 63 = .ok (.iload_n 3, 1) := by decide +kernel
theorem dX6_take_64 : decode cX6_take 64 = .ok (.irem, 1) := by decide +kernel
theorem dX6_take_65 : decode cX6_take 65 = .ok (.goto 4, 3) := by decide +kernel
theorem dX6_take_68 : decode cX6_take 68 = .ok (.iconst 0, 1) := by decide +kernel
theorem dX6_take_69 : decode cX6_take 69 = .ok (.iastore, 1) := by decide +kernel
theorem dX6_take_70 : decode cX6_take 70 = .ok (.iload 4, 2) := by decide +kernel
theorem dX6_take_72 : decode cX6_take 72 = .ok (.aload_n 0, 1) := by decide +kernel
theorem dX6_take_73 : decode cX6_take 73 = .ok (.getfield 12, 3) := by decide +kernel
theorem dX6_take_76 : decode cX6_take 76 = .ok (.getfield 26, 3) := by decide +kernel
theorem dX6_take_79 : decode cX6_take 79 = .ok (.iload 5, 2) := by decide +kernel
theorem dX6_take_81 : decode cX6_take 81 = .ok (.iaload, 1) := by decide +kernel
theorem dX6_take_82 : decode cX6_take 82 = .ok (.isub, 1) := by decide +kernel
theorem dX6_take_83 : decode cX6_take 83 = .ok (.istore 4, 2) := by decide +kernel
theorem dX6_take_85 : decode cX6_take 85 = .ok (.iinc 5 1, 3) := by decide +kernel
theorem dX6_take_88 : decode cX6_take 88 = .ok (.goto (-77), 3) := by decide +kernel
theorem dX6_take_91 : decode cX6_take 91 = .ok (.iload 4, 2) := by decide +kernel
theorem dX6_take_93 : decode cX6_take 93 = .ok (.ifCond .le 13, 3) := by decide +kernel
theorem dX6_take_96 : decode cX6_take 96 = .ok (.aload_n 0, 1) := by decide +kernel
theorem dX6_take_97 : decode cX6_take 97 = .ok (.invokevirtual 29, 3) := by decide +kernel
theorem dX6_take_100 : decode cX6_take 100 = .ok (.iinc 4 (-1), 3) := by decide +kernel
theorem dX6_take_103 : decode cX6_take 103 = .ok (.goto (-12), 3) := by decide +kernel
theorem dX6_take_106 : decode cX6_take 106 = .ok (.return_, 1) := by decide +kernel
theorem dX6_takeOneMore_0 : decode cX6_takeOneMore 0 = .ok (.iconst 0, 1) := by decide +kernel
theorem dX6_takeOneMore_1 : decode cX6_takeOneMore 1 = .ok (.istore_n 1, 1) := by decide +kernel
theorem dX6_takeOneMore_2 : decode cX6_takeOneMore 2 = .ok (.iconst 1, 1) := by decide +kernel
theorem dX6_takeOneMore_3 : decode cX6_takeOneMore 3 = .ok (.istore_n 2, 1) := by decide +kernel
theorem dX6_takeOneMore_4 : decode cX6_takeOneMore 4 = .ok (.iload_n 2, 1) := by decide +kernel
theorem dX6_takeOneMore_5 : decode cX6_takeOneMore 5 = .ok (.bipush 16, 2) := by decide +kernel
theorem dX6_takeOneMore_7 : decode cX6_takeOneMore 7 = .ok (.if_icmp .ge 26, 3) := by decide +kernel
theorem dX6_takeOneMore_10 : decode cX6_takeOneMore 10 = .ok (.aload_n 0, 1) := by decide +kernel
theorem dX6_takeOneMore_11 : decode cX6_takeOneMore 11 = .ok (.getfield 18, 3) := by decide +kernel
theorem dX6_takeOneMore_14 : decode cX6_takeOneMore 14 = .ok (.iload_n 2, 1) := by decide +kernel
theorem dX6_takeOneMore_15 : decode cX6_takeOneMore 15 = .ok (.iaload, 1) := by decide +kernel
theorem dX6_takeOneMore_16 : decode cX6_takeOneMore 16 = .ok (.aload_n 0, 1) := by decide +kernel
theorem dX6_takeOneMore_17 : decode cX6_takeOneMore 17 = .ok (.getfield 18, 3) := by decide +kernel
theorem dX6_takeOneMore_20 : decode cX6_takeOneMore 20 = .ok (.iload_n 1, 1) := by decide +kernel
theorem dX6_takeOneMore_21 : decode cX6_takeOneMore 21 = .ok (.iaload, 1) := by decide +kernel
theorem dX6_takeOneMore_22 : decode cX6_takeOneMore 22 = .ok (.if_icmp .le 5, 3) := by decide +kernel
theorem dX6_takeOneMore_25 : decode cX6_takeOneMore 25 = .ok (.iload_n 2, 1) := by decide +kernel
theorem dX6_takeOneMore_26 : decode cX6_takeOneMore 26 = .ok (.istore_n 1, 1) := by decide +kernel
theorem dX6_takeOneMore_27 : decode cX6_takeOneMore 27 = .ok (.iinc 2 1, 3) := by decide +kernel
theorem dX6_takeOneMore_30 : decode cX6_takeOneMore 30 = .ok (.goto (-26), 3) := by decide +kernel
theorem dX6_takeOneMore_33 : decode cX6_takeOneMore 33 = .ok (.aload_n 0, 1) := by decide +kernel
theorem dX6_takeOneMore_34 : decode cX6_takeOneMore 34 = .ok (.getfield 18, 3) := by decide +kernel
theorem dX6_takeOneMore_37 : decode cX6_takeOneMore 37 = .ok (.iload_n 1, 1) := by decide +kernel
theorem dX6_takeOneMore_38 : decode cX6_takeOneMore 38 = .ok (.iaload, 1) := by decide +kernel
theorem dX6_takeOneMore_39 : decode cX6_takeOneMore 39 = .ok (.ifCond .le 23, 3) := by decide +kernel
theorem dX6_takeOneMore_42 : decode cX6_takeOneMore 42 = .ok (.aload_n 0, 1) := by decide +kernel
theorem dX6_takeOneMore_43 : decode cX6_takeOneMore 43 = .ok (.getfield 12, 3) := by decide +kernel
theorem dX6_takeOneMore_46 : decode cX6_takeOneMore 46 = .ok (.getfield 26, 3) := by decide +kernel
theorem dX6_takeOneMore_49 : decode cX6_takeOneMore 49 = .ok (.iload_n 1, 1) := by decide +kernel
theorem dX6_takeOneMore_50 : decode cX6_takeOneMore 50 = .ok (.dup2, 1) := by decide +kernel
theorem dX6_takeOneMore_51 : decode cX6_takeOneMore 51 = .ok (.iaload, 1) := by decide +kernel
theorem dX6_takeOneMore_52 : decode cX6_takeOneMore 52 = .ok (.iconst 1, 1) := by decide +kernel
theorem dX6_takeOneMore_53 : decode cX6_takeOneMore 53 = .ok (.iadd, 1) := by decide +kernel
theorem dX6_takeOneMore_54 : decode cX6_takeOneMore 54 = .ok (.iastore, 1) := by decide +kernel
theorem dX6_takeOneMore_55 : decode cX6_takeOneMore 55 = .ok (.aload_n 0, 1) := by decide +kernel
theorem dX6_takeOneMore_56 : decode cX6_takeOneMore 56 = .ok (.getfield 18, 3) := by decide +kernel
theorem dX6_takeOneMore_59 : decode cX6_takeOneMore 59 = .ok (.iload_n 1, 1) := by decide +kernel
theorem dX6_takeOneMore_60 : decode cX6_takeOneMore 60 = .ok (.iconst 0, 1) := by decide +kernel
theorem dX6_takeOneMore_61 : decode cX6_takeOneMore 61 = .ok (.iastore, 1) := by decide +kernel
theorem dX6_takeOneMore_62 : decode cX6_takeOneMore 62 = .ok (.return_, 1) := by decide +kernel
theorem dX7_init_0 : decode cX7_init 0 = .ok (.aload_n 0, 1) := by decide +kernel
theorem dX7_init_1 : decode cX7_init 1 = .ok (.invokespecial 1, 3) := by decide +kernel
theorem dX7_init_4 : decode cX7_init 4 = .ok (.aload_n 0, 1) := by decide +kernel
theorem dX7_init_5 : decode cX7_init 5 = .ok (.iconst 0, 1) := by decide +kernel
theorem dX7_init_6 : decode cX7_init 6 = .ok (.putfield 7, 3) := by decide +kernel
theorem dX7_init_9 : decode cX7_init 9 = .ok (.aload_n 0, 1) := by decide +kernel
theorem dX7_init_10 : decode cX7_init 10 = .ok (.iconst 0, 1) := by decide +kernel
theorem dX7_init_11 : decode cX7_init 11 = .ok (.putfield 13, 3) := by decide +kernel
theorem dX7_init_14 : decode cX7_init 14 = .ok (.aload_n 0, 1) := by decide +kernel
theorem dX7_init_15 : decode cX7_init 15 = .ok (.iconst 0, 1) := by decide +kernel
theorem dX7_init_16 : decode cX7_init 16 = .ok (.putfield 16, 3) := by decide +kernel
theorem dX7_init_19 : decode cX7_init 19 = .ok (.return_, 1) := by decide +kernel
theorem dX7_copyFrom_0 : decode cX7_copyFrom 0 = .ok (.aload_n 0, 1) := by decide +kernel
theorem dX7_copyFrom_1 : decode cX7_copyFrom 1 = .ok (.aload_n 1, 1) := by decide +kernel
theorem dX7_copyFrom_2 : decode cX7_copyFrom 2 = .ok (.getfield 7, 3) := by decide +kernel
theorem dX7_copyFrom_5 : decode cX7_copyFrom 5 = .ok (.putfield 7, 3) := by decide +kernel
theorem dX7_copyFrom_8 : decode cX7_copyFrom 8 = .ok (.aload_n 0, 1) := by decide +kernel
theorem dX7_copyFrom_9 : decode cX7_copyFrom 9 = .ok (.aload_n 1, 1) := by decide +kernel
theorem dX7_copyFrom_10 : decode cX7_copyFrom 10 = .ok (.getfield 13, 3) := by decide +kernel
theorem dX7_copyFrom_13 : decode cX7_copyFrom 13 = .ok (.putfield 13, 3) := by decide +kernel
theorem dX7_copyFrom_16 : decode cX7_copyFrom 16 = .ok (.aload_n 0, 1) := by decide +kernel
theorem dX7_copyFrom_17 : decode cX7_copyFrom 17 = .ok (.aload_n 1, 1) := by decide +kernel
theorem dX7_copyFrom_18 : decode cX7_copyFrom 18 = .ok (.getfield 16, 3) := by decide +kernel
theorem dX7_copyFrom_21 : decode cX7_copyFrom 21 = .ok (.putfield 16, 3) := by decide +kernel
theorem dX7_copyFrom_24 : decode cX7_copyFrom 24 = .ok (.return_, 1) := by decide +kernel
theorem dX8_init_0 : decode cX8_init 0 = .ok (.aload_n 0, 1) := by decide +kernel
theorem dX8_init_1 : decode cX8_init 1 = .ok (.invokespecial 3, 3) := by decide +kernel
theorem dX8_init_4 : decode cX8_init 4 = .ok (.aload_n 0, 1) := by decide +kernel
theorem dX8_init_5 : decode cX8_init 5 = .ok (.iconst 0, 1) := by decide +kernel
theorem dX8_init_6 : decode cX8_init 6 = .ok (.putfield 9, 3) := by decide +kernel
theorem dX8_init_9 : decode cX8_init 9 = .ok (.aload_n 0, 1) := by decide +kernel
theorem dX8_init_10 : decode cX8_init 10 = .ok (.iconst 5, 1) := by decide +kernel
theorem dX8_init_11 : decode cX8_init 11 = .ok (.putfield 15, 3) := by decide +kernel
theorem dX8_init_14 : decode cX8_init 14 = .ok (.aload_n 0, 1) := by decide +kernel
theorem dX8_init_15 : decode cX8_init 15 = .ok (.bipush 6, 2) := by decide +kernel
theorem dX8_init_17 : decode cX8_init 17 = .ok (.anewarray 18, 3) := by decide +kernel
theorem dX8_init_20 : decode cX8_init 20 = .ok (.putfield 20, 3) := by decide +kernel
theorem dX8_init_23 : decode cX8_init 23 = .ok (.aload_n 0, 1) := by decide +kernel
theorem dX8_init_24 : decode cX8_init 24 = .ok (.iconst 0, 1) := by decide +kernel
theorem dX8_init_25 : decode cX8_init 25 = .ok (.putfield 24, 3) := by decide +kernel
theorem dX8_init_28 : decode cX8_init 28 = .ok (.aload_n 0, 1) := by decide +kernel
theorem dX8_init_29 : decode cX8_init 29 = .ok (.bipush 16, 2) := by decide +kernel
theorem dX8_init_31 : decode cX8_init 31 = .ok (.newarray .int, 2) := by decide +kernel
theorem dX8_init_33 : decode cX8_init 33 = .ok (.putfield 27, 3) := by decide +kernel
theorem dX8_init_36 : decode cX8_init 36 = .ok (.aload_n 0, 1) := by decide +kernel
theorem dX8_init_37 : decode cX8_init 37 = .ok (.bipush 16, 2) := by decide +kernel
theorem dX8_init_39 : decode cX8_init 39 = .ok (.newarray .int, 2) := by decide +kernel
theorem dX8_init_41 : decode cX8_init 41 = .ok (.putfield 31, 3) := by decide +kernel
theorem dX8_init_44 : decode cX8_init 44 = .ok (.aload_n 0, 1) := by decide +kernel
theorem dX8_init_45 : decode cX8_init 45 = .ok (.new 34, 3) := by decide +kernel
theorem dX8_init_48 : decode cX8_init 48 = .ok (.dup, 1) := by decide +kernel
theorem dX8_init_49 : decode cX8_init 49 = .ok (.invokespecial 36, 3) := by decide +kernel
theorem dX8_init_52 : decode cX8_init 52 = .ok (.putfield 37, 3) := by decide +kernel
theorem dX8_init_55 : decode cX8_init 55 = .ok (.aload_n 0, 1) := by decide +kernel
theorem dX8_init_56 : decode cX8_init 56 = .ok (.new 34, 3) := by decide +kernel
theorem dX8_init_59 : decode cX8_init 59 = .ok (.dup, 1) := by decide +kernel
theorem dX8_init_60 : decode cX8_init 60 = .ok (.invokespecial 36, 3) := by decide +kernel
theorem dX8_init_63 : decode cX8_init 63 = .ok (.putfield 41, 3) := by decide +kernel
theorem dX8_init_66 : decode cX8_init 66 = .ok (.aload_n 0, 1) := by decide +kernel
theorem dX8_init_67 : decode cX8_init 67 = .ok (.new 34, 3) := by decide +kernel
theorem dX8_init_70 : decode cX8_init 70 = .ok (.dup, 1) := by decide +kernel
theorem dX8_init_71 : decode cX8_init 71 = .ok (.invokespecial 36, 3) := by decide +kernel
theorem dX8_init_74 : decode cX8_init 74 = .ok (.putfield 44, 3) := by decide +kernel
theorem dX8_init_77 : decode cX8_init 77 = .ok (.aload_n 0, 1) := by decide +kernel
theorem dX8_init_78 : decode cX8_init 78 = .ok (.iconst 4, 1) := by decide +kernel
theorem dX8_init_79 : decode cX8_init 79 = .ok (.newarray .int, 2) := by decide +kernel
theorem dX8_init_81 : decode cX8_init 81 = .ok (.putfield 47, 3) := by decide +kernel
theorem dX8_init_84 : decode cX8_init 84 = .ok (.aload_n 0, 1) := by decide +kernel
theorem dX8_init_85 : decode cX8_init 85 = .ok (.iconst 0, 1) := by decide +kernel
theorem dX8_init_86 : decode cX8_init 86 = .ok (.putfield 50, 3) := by decide +kernel
theorem dX8_init_89 : decode cX8_init 89 = .ok (.aload_n 0, 1) := by decide +kernel
theorem dX8_init_90 : decode cX8_init 90 = .ok (.bipush 10, 2) := by decide +kernel
theorem dX8_init_92 : decode cX8_init 92 = .ok (.anewarray 53, 3) := by decide +kernel
theorem dX8_init_95 : decode cX8_init 95 = .ok (.putfield 55, 3) := by decide +kernel
theorem dX8_init_98 : decode cX8_init 98 = .ok (.aload_n 0, 1) := by decide +kernel
theorem dX8_init_99 : decode cX8_init 99 = .ok (.iconst 0, 1) := by decide +kernel
theorem dX8_init_100 : decode cX8_init 100 = .ok (.putfield 59, 3) := by decide +kernel
theorem dX8_init_103 : decode cX8_init 103 = .ok (.aload_n 0, 1) := by decide +kernel
theorem dX8_init_104 : decode cX8_init 104 = .ok (.bipush 10, 2) := by decide +kernel
theorem dX8_init_106 : decode cX8_init 106 = .ok (.anewarray 62, 3) := by decide +kernel
theorem dX8_init_109 : decode cX8_init 109 = .ok (.putfield 64, 3) := by decide +kernel
theorem dX8_init_112 : decode cX8_init 112 = .ok (.aload_n 0, 1) := by decide +kernel
theorem dX8_init_113 : decode cX8_init 113 = .ok (.lconst 0, 1) := by decide +kernel
theorem dX8_init_114 : decode cX8_init 114 = .ok (.putfield 68, 3) := by decide +kernel
theorem dX8_init_117 : decode cX8_init 117 = .ok (.aload_n 0, 1) := by decide +kernel
theorem dX8_init_118 : decode cX8_init 118 = .ok (.lconst 0, 1) := by decide +kernel
theorem dX8_init_119 : decode cX8_init 119 = .ok (.putfield 72, 3) := by decide +kernel
theorem dX8_init_122 : decode cX8_init 122 = .ok (.aload_n 0, 1) := by decide +kernel
theorem dX8_init_123 : decode cX8_init 123 = .ok (.new 75, 3) := by decide +kernel
theorem dX8_init_126 : decode cX8_init 126 = .ok (.dup, 1) := by decide +kernel
theorem dX8_init_127 : decode cX8_init 127 = .ok (.invokespecial 77, 3) := by decide +kernel
theorem dX8_init_130 : decode cX8_init 130 = .ok (.putfield 78, 3) := by decide +kernel
theorem dX8_init_133 : decode cX8_init 133 = .ok (.iconst 0, 1) := by decide +kernel
theorem dX8_init_134 : decode cX8_init 134 = .ok (.istore_n 1, 1) := by decide +kernel
theorem dX8_init_135 : decode cX8_init 135 = .ok (.iload_n 1, 1) := by decide +kernel
theorem dX8_init_136 : decode cX8_init 136 = .ok (.bipush 6, 2) := by decide +kernel
theorem dX8_init_138 : decode cX8_init 138 = .ok (.if_icmp .ge 22, 3) := by decide +kernel
theorem dX8_init_141 : decode cX8_init 141 = .ok (.aload_n 0, 1) := by decide +kernel
theorem dX8_init_142 : decode cX8_init 142 = .ok (.getfield 20, 3) := by decide +kernel
theorem dX8_init_145 : decode cX8_init 145 = .ok (.iload_n 1, 1) := by decide +kernel
theorem dX8_init_146 : decode cX8_init 146 = .ok (.new 18, 3) := by decide +kernel
theorem dX8_init_149 : decode cX8_init 149 = .ok (.dup, 1) := by decide +kernel
theorem dX8_init_150 : decode cX8_init 150 = .ok (.invokespecial 82, 3) := by decide +kernel
theorem dX8_init_153 : decode cX8_init 153 = .ok (.aastore, 1) := by decide +kernel
theorem dX8_init_154 : decode cX8_init 154 = .ok (.iinc 1 1, 3) := by decide +kernel
theorem dX8_init_157 : decode cX8_init 157 = .ok (.goto (-22), 3) := by decide +kernel
theorem dX8_init_160 : decode cX8_init 160 = .ok (.iconst 0, 1) := by decide +kernel
theorem dX8_init_161 : decode cX8_init 161 = .ok (.istore_n 1, 1) := by decide +kernel
theorem dX8_init_162 : decode cX8_init 162 = .ok (.iload_n 1, 1) := by decide +kernel
theorem dX8_init_163 : decode cX8_init 163 = .ok (.bipush 10, 2) := by decide +kernel
theorem dX8_init_165 : decode cX8_init 165 = .ok (.if_icmp .ge 22, 3) := by decide +kernel
theorem dX8_init_168 : decode cX8_init 168 = .ok (.aload_n 0, 1) := by decide +kernel
theorem dX8_init_169 : decode cX8_init 169 = .ok (.getfield 55, 3) := by decide +kernel
theorem dX8_init_172 : decode cX8_init 172 = .ok (.iload_n 1, 1) := by decide +kernel
theorem dX8_init_173 : decode cX8_init 173 = .ok (.new 53, 3) := by decide +kernel
theorem dX8_init_176 : decode cX8_init 176 = .ok (.dup, 1) := by decide +kernel
theorem dX8_init_177 : decode cX8_init 177 = .ok (.invokespecial 83, 3) := by decide +kernel
theorem dX8_init_180 : decode cX8_init 180 = .ok (.aastore, 1) := by decide +kernel
theorem dX8_init_181 : decode cX8_init 181 = .ok (.iinc 1 1, 3) := by decide +kernel
theorem dX8_init_184 : decode cX8_init 184 = .ok (.goto (-22), 3) := by decide +kernel
theorem dX8_init_187 : decode cX8_init 187 = .ok (.iconst 0, 1) := by decide +kernel
theorem dX8_init_188 : decode cX8_init 188 = .ok (.istore_n 1, 1) := by decide +kernel
theorem dX8_init_189 : decode cX8_init 189 = .ok (.iload_n 1, 1) := by decide +kernel
theorem dX8_init_190 : decode cX8_init 190 = .ok (.bipush 10, 2) := by decide +kernel
theorem dX8_init_192 : decode cX8_init 192 = .ok (.if_icmp .ge 22, 3) := by decide +kernel
theorem dX8_init_195 : decode cX8_init 195 = .ok (.aload_n 0, 1) := by decide +kernel
theorem dX8_init_196 : decode cX8_init 196 = .ok (.getfield 64, 3) := by decide +kernel
theorem dX8_init_199 : decode cX8_init 199 = .ok (.iload_n 1, 1) := by decide +kernel
theorem dX8_init_200 : decode cX8_init 200 = .ok (.new 62, 3) := by decide +kernel
theorem dX8_init_203 : decode cX8_init 203 = .ok (.dup, 1) := by decide +kernel
theorem dX8_init_204 : decode cX8_init 204 = .ok (.invokespecial 84, 3) := by decide +kernel
theorem dX8_init_207 : decode cX8_init 207 = .ok (.aastore, 1) := by decide +kernel
theorem dX8_init_208 : decode cX8_init 208 = .ok (.iinc 1 1, 3) := by decide +kernel
theorem dX8_init_211 : decode cX8_init 211 = .ok (.goto (-22), 3) := by decide +kernel
theorem dX8_init_214 : decode cX8_init 214 = .ok (.return_, 1) := by decide +kernel
theorem dX8_copyFrom_0 : decode cX8_copyFrom 0 = .ok (.aload_n 0, 1) := by decide +kernel
theorem dX8_copyFrom_1 : decode cX8_copyFrom 1 = .ok (.aload_n 1, 1) := by decide +kernel
theorem dX8_copyFrom_2 : decode cX8_copyFrom 2 = .ok (.getfield 9, 3) := by decide +kernel
theorem dX8_copyFrom_5 : decode cX8_copyFrom 5 = .ok (.putfield 9, 3) := by decide +kernel
theorem dX8_copyFrom_8 : decode cX8_copyFrom 8 = .ok (.aload_n 0, 1) := by decide +kernel
theorem dX8_copyFrom_9 : decode cX8_copyFrom 9 = .ok (.aload_n 1, 1) := by decide +kernel
theorem dX8_copyFrom_10 : decode cX8_copyFrom 10 = .ok (.getfield 15, 3) := by decide +kernel
theorem dX8_copyFrom_13 : decode cX8_copyFrom 13 = .ok (.putfield 15, 3) := by decide +kernel
theorem dX8_copyFrom_16 : decode cX8_copyFrom 16 = .ok (.iconst 0, 1) := by decide +kernel
theorem dX8_copyFrom_17 : decode cX8_copyFrom 17 = .ok (.istore_n 2, 1) := by decide +kernel
theorem dX8_copyFrom_18 : decode cX8_copyFrom 18 = .ok (.iload_n 2, 1) := by decide +kernel
theorem dX8_copyFrom_19 : decode cX8_copyFrom 19 = .ok (.bipush 6, 2) := by decide +kernel
theorem dX8_copyFrom_21 : decode cX8_copyFrom 21 = .ok (.if_icmp .ge 24, 3) := by decide +kernel
theorem dX8_copyFrom_24 : decode cX8_copyFrom 24 = .ok (.aload_n 0, 1) := by decide +kernel
theorem dX8_copyFrom_25 : decode cX8_copyFrom 25 = .ok (.getfield 20, 3) := by decide +kernel
theorem dX8_copyFrom_28 : decode cX8_copyFrom 28 = .ok (.iload_n 2, 1) := by decide +kernel
theorem dX8_copyFrom_29 : decode cX8_copyFrom 29 = .ok (.aaload, 1) := by decide +kernel
theorem dX8_copyFrom_30 : decode cX8_copyFrom 30 = .ok (.aload_n 1, 1) := by decide +kernel
theorem dX8_copyFrom_31 : decode cX8_copyFrom 31 = .ok (.getfield 20, 3) := by decide +kernel
theorem dX8_copyFrom_34 : decode cX8_copyFrom 34 = .ok (.iload_n 2, 1) := by decide +kernel
theorem dX8_copyFrom_35 : decode cX8_copyFrom 35 = .ok (.aaload, 1) := by decide +kernel
theorem dX8_copyFrom_36 : decode cX8_copyFrom 36 = .ok (.invokevirtual 85, 3) := by decide +kernel
theorem dX8_copyFrom_39 : decode cX8_copyFrom 39 = .ok (.iinc 2 1, 3) := by decide +kernel
theorem dX8_copyFrom_42 : decode cX8_copyFrom 42 = .ok (.goto (-24), 3) := by decide +kernel
theorem dX8_copyFrom_45 : decode cX8_copyFrom 45 = .ok (.aload_n 0, 1) := by decide +kernel
theorem dX8_copyFrom_46 : decode cX8_copyFrom 46 = .ok (.aload_n 1, 1) := by decide +kernel
theorem dX8_copyFrom_47 : decode cX8_copyFrom 47 = .ok (.getfield 24, 3) := by decide +kernel
theorem dX8_copyFrom_50 : decode cX8_copyFrom 50 = .ok (.putfield 24, 3) := by decide +kernel
theorem dX8_copyFrom_53 : decode cX8_copyFrom 53 = .ok (.aload_n 1, 1) := by decide +kernel
theorem dX8_copyFrom_54 : decode cX8_copyFrom 54 = .ok (.getfield 27, 3) := by decide +kernel
theorem dX8_copyFrom_57 : decode cX8_copyFrom 57 = .ok (.iconst 0, 1) := by decide +kernel
theorem dX8_copyFrom_58 : decode cX8_copyFrom 58 = .ok (.aload_n 0, 1) := by decide +kernel
theorem dX8_copyFrom_59 : decode cX8_copyFrom 59 = .ok (.getfield 27, 3) := by decide +kernel
theorem dX8_copyFrom_62 : decode cX8_copyFrom 62 = .ok (.iconst 0, 1) := by decide +kernel
theorem dX8_copyFrom_63 : decode cX8_copyFrom 63 = .ok (.bipush 16, 2) := by decide +kernel
theorem dX8_copyFrom_65 : decode cX8_copyFrom 65 = .ok (.invokestatic 89, 3) := by decide +kernel
theorem dX8_copyFrom_68 : decode cX8_copyFrom 68 = .ok (.aload_n 1, 1) := by decide +kernel
theorem dX8_copyFrom_69 : decode cX8_copyFrom 69 = .ok (.getfield 31, 3) := by decide +kernel
theorem dX8_copyFrom_72 : decode cX8_copyFrom 72 = .ok (.iconst 0, 1) := by decide +kernel
theorem dX8_copyFrom_73 : decode cX8_copyFrom 73 = .ok (.aload_n 0, 1) := by decide +kernel
theorem dX8_copyFrom_74 : decode cX8_copyFrom 74 = .ok (.getfield 31, 3) := by decide +kernel
theorem dX8_copyFrom_77 : decode cX8_copyFrom 77 = .ok (.iconst 0, 1) := by decide +kernel
theorem dX8_copyFrom_78 : decode cX8_copyFrom 78 = .ok (.bipush 16, 2) := by decide +kernel
theorem dX8_copyFrom_80 : decode cX8_copyFrom 80 = .ok (.invokestatic 89, 3) := by decide +kernel
theorem dX8_copyFrom_83 : decode cX8_copyFrom 83 = .ok (.aload_n 0, 1) := by decide +kernel
theorem dX8_copyFrom_84 : decode cX8_copyFrom 84 = .ok (.getfield 37, 3) := by decide +kernel
theorem dX8_copyFrom_87 : decode cX8_copyFrom 87 = .ok (.aload_n 1, 1) := by decide +kernel
theorem dX8_copyFrom_88 : decode cX8_copyFrom 88 = .ok (.getfield 37, 3) := by decide +kernel
theorem dX8_copyFrom_91 : decode cX8_copyFrom 91 = .ok (.invokevirtual 95, 3) := by decide +kernel
theorem dX8_copyFrom_94 : decode cX8_copyFrom 94 = .ok (.aload_n 0, 1) := by decide +kernel
theorem dX8_copyFrom_95 : decode cX8_copyFrom 95 = .ok (.getfield 41, 3) := by decide +kernel
theorem dX8_copyFrom_98 : decode cX8_copyFrom 98 = .ok (.aload_n 1, 1) := by decide +kernel
theorem dX8_copyFrom_99 : decode cX8_copyFrom 99 = .ok (.getfield 41, 3) := by decide +kernel
theorem dX8_copyFrom_102 : decode cX8_copyFrom 102 = .ok (.invokevirtual 95, 3) := by decide +kernel
theorem dX8_copyFrom_105 : decode cX8_copyFrom 105 = .ok (.aload_n 0, 1) := by decide +kernel
theorem dX8_copyFrom_106 : decode cX8_copyFrom 106 = .ok (.getfield 44, 3) := by decide +kernel
theorem dX8_copyFrom_109 : decode cX8_copyFrom 109 = .ok (.aload_n 1, 1) := by decide +kernel
theorem dX8_copyFrom_110 : decode cX8_copyFrom 110 = .ok (.getfield 44, 3) := by decide +kernel
theorem dX8_copyFrom_113 : decode cX8_copyFrom 113 = .ok (.invokevirtual 95, 3) := by decide +kernel
theorem dX8_copyFrom_116 : decode cX8_copyFrom 116 = .ok (.aload_n 1, 1) := by decide +kernel
theorem dX8_copyFrom_117 : decode cX8_copyFrom 117 = .ok (.getfield 47, 3) := by decide +kernel
theorem dX8_copyFrom_120 : decode cX8_copyFrom 120 = .ok (.iconst 0, 1) := by decide +kernel
theorem dX8_copyFrom_121 : decode cX8_copyFrom 121 = .ok (.aload_n 0, 1) := by decide +kernel
theorem dX8_copyFrom_122 : decode cX8_copyFrom 122 = .ok (.getfield 47, 3) := by decide +kernel
theorem dX8_copyFrom_125 : decode cX8_copyFrom 125 = .ok (.iconst 0, 1) := by decide +kernel
theorem dX8_copyFrom_126 : decode cX8_copyFrom 126 = .ok (.iconst 4, 1) := by decide +kernel
theorem dX8_copyFrom_127 : decode cX8_copyFrom 127 = .ok (.invokestatic 89, 3) := by decide +kernel
theorem dX8_copyFrom_130 : decode cX8_copyFrom 130 = .ok (.aload_n 0, 1) := by decide +kernel
theorem dX8_copyFrom_131 : decode cX8_copyFrom 131 = .ok (.aload_n 1, 1) := by decide +kernel
theorem dX8_copyFrom_132 : decode cX8_copyFrom 132 = .ok (.getfield 50, 3) := by decide +kernel
theorem dX8_copyFrom_135 : decode cX8_copyFrom 135 = .ok (.putfield 50, 3) := by decide +kernel
theorem dX8_copyFrom_138 : decode cX8_copyFrom 138 = .ok (.iconst 0, 1) := by decide +kernel
theorem dX8_copyFrom_139 : decode cX8_copyFrom 139 = .ok (.istore_n 2, 1) := by decide +kernel
theorem dX8_copyFrom_140 : decode cX8_copyFrom 140 = .ok (.iload_n 2, 1) := by decide +kernel
theorem dX8_copyFrom_141 : decode cX8_copyFrom 141 = .ok (.bipush 10, 2) := by decide +kernel
theorem dX8_copyFrom_143 : decode cX8_copyFrom 143 = .ok (.if_icmp .ge 24, 3) := by decide +kernel
theorem dX8_copyFrom_146 : decode cX8_copyFrom 146 = .ok (.aload_n 0, 1) := by decide +kernel
theorem dX8_copyFrom_147 : decode cX8_copyFrom 147 = .ok (.getfield 55, 3) := by decide +kernel
theorem dX8_copyFrom_150 : decode cX8_copyFrom 150 = .ok (.iload_n 2, 1) := by decide +kernel
theorem dX8_copyFrom_151 : decode cX8_copyFrom 151 = .ok (.aaload, 1) := by decide +kernel
theorem dX8_copyFrom_152 : decode cX8_copyFrom 152 = .ok (.aload_n 1, 1) := by decide +kernel
theorem dX8_copyFrom_153 : decode cX8_copyFrom 153 = .ok (.getfield 55, 3) := by decide +kernel
theorem dX8_copyFrom_156 : decode cX8_copyFrom 156 = .ok (.iload_n 2, 1) := by decide +kernel
theorem dX8_copyFrom_157 : decode cX8_copyFrom 157 = .ok (.aaload, 1) := by decide +kernel
theorem dX8_copyFrom_158 : decode cX8_copyFrom 158 = .ok (.invokevirtual 98, 3) := by decide +kernel
theorem dX8_copyFrom_161 : decode cX8_copyFrom 161 = .ok (.iinc 2 1, 3) := by decide +kernel
theorem dX8_copyFrom_164 : decode cX8_copyFrom 164 = .ok (.goto (-24), 3) := by decide +kernel
theorem dX8_copyFrom_167 : decode cX8_copyFrom 167 = .ok (.aload_n 0, 1) := by decide +kernel
theorem dX8_copyFrom_168 : decode cX8_copyFrom 168 = .ok (.aload_n 1, 1) := by decide +kernel
theorem dX8_copyFrom_169 : decode cX8_copyFrom 169 = .ok (.getfield 59, 3) := by decide +kernel
theorem dX8_copyFrom_172 : decode cX8_copyFrom 172 = .ok (.putfield 59, 3) := by decide +kernel
theorem dX8_copyFrom_175 : decode cX8_copyFrom 175 = .ok (.iconst 0, 1) := by decide +kernel
theorem dX8_copyFrom_176 : decode cX8_copyFrom 176 = .ok (.istore_n 2, 1) := by decide +kernel
theorem dX8_copyFrom_177 : decode cX8_copyFrom 177 = .ok (.iload_n 2, 1) := by decide +kernel
theorem dX8_copyFrom_178 : decode cX8_copyFrom 178 = .ok (.bipush 10, 2) := by decide +kernel
theorem dX8_copyFrom_180 : decode cX8_copyFrom 180 = .ok (.if_icmp .ge 24, 3) := by decide +kernel
theorem dX8_copyFrom_183 : decode cX8_copyFrom 183 = .ok (.aload_n 0, 1) := by decide +kernel
theorem dX8_copyFrom_184 : decode cX8_copyFrom 184 = .ok (.getfield 64, 3) := by decide +kernel
theorem dX8_copyFrom_187 : decode cX8_copyFrom 187 = .ok (.iload_n 2, 1) := by decide +kernel
theorem dX8_copyFrom_188 : decode cX8_copyFrom 188 = .ok (.aaload, 1) := by decide +kernel
theorem dX8_copyFrom_189 : decode cX8_copyFrom 189 = .ok (.aload_n 1, 1) := by decide +kernel
theorem dX8_copyFrom_190 : decode cX8_copyFrom 190 = .ok (.getfield 64, 3) := by decide +kernel
theorem dX8_copyFrom_193 : decode cX8_copyFrom 193 = .ok (.iload_n 2, 1) := by decide +kernel
theorem dX8_copyFrom_194 : decode cX8_copyFrom 194 = .ok (.aaload, 1) := by decide +kernel
theorem dX8_copyFrom_195 : decode cX8_copyFrom 195 = .ok (.invokevirtual 101, 3) := by decide +kernel
theorem dX8_copyFrom_198 : decode cX8_copyFrom 198 = .ok (.iinc 2 1, 3) := by decide +kernel
theorem dX8_copyFrom_201 : decode cX8_copyFrom 201 = .ok (.goto (-24), 3) := by decide +kernel
theorem dX8_copyFrom_204 : decode cX8_copyFrom 204 = .ok (.aload_n 0, 1) := by decide +kernel
theorem dX8_copyFrom_205 : decode cX8_copyFrom 205 = .ok (.aload_n 1, 1) := by decide +kernel
theorem dX8_copyFrom_206 : decode cX8_copyFrom 206 = .ok (.getfield 68, 3) := by decide +kernel
theorem dX8_copyFrom_209 : decode cX8_copyFrom 209 = .ok (.putfield 68, 3) := by decide +kernel
theorem dX8_copyFrom_212 : decode cX8_copyFrom 212 = .ok (.aload_n 0, 1) := by decide +kernel
theorem dX8_copyFrom_213 : decode cX8_copyFrom 213 = .ok (.aload_n 1, 1) := by decide +kernel
theorem dX8_copyFrom_214 : decode cX8_copyFrom 214 = .ok (.getfield 72, 3) := by decide +kernel
theorem dX8_copyFrom_217 : decode cX8_copyFrom 217 = .ok (.putfield 72, 3) := by decide +kernel
theorem dX8_copyFrom_220 : decode cX8_copyFrom 220 = .ok (.aload_n 0, 1) := by decide +kernel
theorem dX8_copyFrom_221 : decode cX8_copyFrom 221 = .ok (.getfield 78, 3) := by decide +kernel
theorem dX8_copyFrom_224 : decode cX8_copyFrom 224 = .ok (.aload_n 1, 1) := by decide +kernel
theorem dX8_copyFrom_225 : decode cX8_copyFrom 225 = .ok (.getfield 78, 3) := by decide +kernel
theorem dX8_copyFrom_228 : decode cX8_copyFrom 228 = .ok (.invokevirtual 104, 3) := by decide +kernel
theorem dX8_copyFrom_231 : decode cX8_copyFrom 231 = .ok (.return_, 1) := by decide +kernel
theorem dX8_tankAt_0 : decode cX8_tankAt 0 = .ok (.iload_n 1, 1) := by decide +kernel
theorem dX8_tankAt_1 : decode cX8_tankAt 1 = .ok (.iconst 0, 1) := by decide +kernel
theorem dX8_tankAt_2 : decode cX8_tankAt 2 = .ok (.iconst 5, 1) := by decide +kernel
theorem dX8_tankAt_3 : decode cX8_tankAt 3 = .ok (.invokestatic 107, 3) := by decide +kernel
theorem dX8_tankAt_6 : decode cX8_tankAt 6 = .ok (.ifCond .eq 7, 3) := by decide +kernel
theorem dX8_tankAt_9 : decode cX8_tankAt 9 = .ok (.aconst_null, 1) := by decide +kernel
theorem dX8_tankAt_10 : decode cX8_tankAt 10 = .ok (.goto 9, 3) := by decide +kernel
theorem dX8_tankAt_13 : decode cX8_tankAt 13 = .ok (.aload_n 0, 1) := by decide +kernel
theorem dX8_tankAt_14 : decode cX8_tankAt 14 = .ok (.getfield 20, 3) := by decide +kernel
theorem dX8_tankAt_17 : decode cX8_tankAt 17 = .ok (.iload_n 1, 1) := by decide +kernel
theorem dX8_tankAt_18 : decode cX8_tankAt 18 = .ok (.aaload, 1) := by decide +kernel
theorem dX8_tankAt_19 : decode cX8_tankAt 19 = .ok (.areturn, 1) := by decide +kernel
theorem dX8_orderAt_0 : decode cX8_orderAt 0 = .ok (.iload_n 1, 1) := by decide +kernel
theorem dX8_orderAt_1 : decode cX8_orderAt 1 = .ok (.ifCond .lt 17, 3) := by decide +kernel
theorem dX8_orderAt_4 : decode cX8_orderAt 4 = .ok (.iload_n 1, 1) := by decide +kernel
theorem dX8_orderAt_5 : decode cX8_orderAt 5 = .ok (.aload_n 0, 1) := by decide +kernel
theorem dX8_orderAt_6 : decode cX8_orderAt 6 = .ok (.getfield 59, 3) := by decide +kernel
theorem dX8_orderAt_9 : decode cX8_orderAt 9 = .ok (.if_icmp .ge 9, 3) := by decide +kernel
theorem dX8_orderAt_12 : decode cX8_orderAt 12 = .ok (.iload_n 1, 1) := by decide +kernel
theorem dX8_orderAt_13 : decode cX8_orderAt 13 = .ok (.bipush 10, 2) := by decide +kernel
theorem dX8_orderAt_15 : decode cX8_orderAt 15 = .ok (.if_icmp .lt 7, 3) := by decide +kernel
theorem dX8_orderAt_18 : decode cX8_orderAt 18 = .ok (.aconst_null, 1) := by decide +kernel
theorem dX8_orderAt_19 : decode cX8_orderAt 19 = .ok (.goto 9, 3) := by decide +kernel
theorem dX8_orderAt_22 : decode cX8_orderAt 22 = .ok (.aload_n 0, 1) := by decide +kernel
theorem dX8_orderAt_23 : decode cX8_orderAt 23 = .ok (.getfield 64, 3) := by decide +kernel
theorem dX8_orderAt_26 : decode cX8_orderAt 26 = .ok (.iload_n 1, 1) := by decide +kernel
theorem dX8_orderAt_27 : decode cX8_orderAt 27 = .ok (.aaload, 1) := by decide +kernel
theorem dX8_orderAt_28 : decode cX8_orderAt 28 = .ok (.areturn, 1) := by decide +kernel
theorem dX8_note_0 : decode cX8_note 0 = .ok (.aload_n 0, 1) := by decide +kernel
theorem dX8_note_1 : decode cX8_note 1 = .ok (.getfield 78, 3) := by decide +kernel
theorem dX8_note_4 : decode cX8_note 4 = .ok (.aload_n 0, 1) := by decide +kernel
theorem dX8_note_5 : decode cX8_note 5 = .ok (.getfield 9, 3) := by decide +kernel
theorem dX8_note_8 : decode cX8_note 8 = .ok (.iload_n 1, 1) := by decide +kernel
theorem dX8_note_9 : decode cX8_note 9 = .ok (.iload_n 2, 1) := by decide +kernel
theorem dX8_note_10 : decode cX8_note 10 = .ok (.iload_n 3, 1) := by decide +kernel
theorem dX8_note_11 : decode cX8_note 11 = .ok (.invokevirtual 111, 3) := by decide +kernel
theorem dX8_note_14 : decode cX8_note 14 = .ok (.return_, 1) := by decide +kernel
theorem dX8_addBatch_0 : decode cX8_addBatch 0 = .ok (.aload_n 0, 1) := by decide +kernel
theorem dX8_addBatch_1 : decode cX8_addBatch 1 = .ok (.getfield 24, 3) := by decide +kernel
theorem dX8_addBatch_4 : decode cX8_addBatch 4 = .ok (.istore_n 3, 1) := by decide +kernel
theorem dX8_addBatch_5 : decode cX8_addBatch 5 = .ok (.aload_n 0, 1) := by decide +kernel
theorem dX8_addBatch_6 : decode cX8_addBatch 6 = .ok (.getfield 27, 3) := by decide +kernel
theorem dX8_addBatch_9 : decode cX8_addBatch 9 = .ok (.iload_n 3, 1) := by decide +kernel
theorem dX8_addBatch_10 : decode cX8_addBatch 10 = .ok (.iload_n 2, 1) := by decide +kernel
theorem dX8_addBatch_11 : decode cX8_addBatch 11 = .ok (.iastore, 1) := by decide +kernel
theorem dX8_addBatch_12 : decode cX8_addBatch 12 = .ok (.aload_n 0, 1) := by decide +kernel
theorem dX8_addBatch_13 : decode cX8_addBatch 13 = .ok (.getfield 31, 3) := by decide +kernel
theorem dX8_addBatch_16 : decode cX8_addBatch 16 = .ok (.iload_n 3, 1) := by decide +kernel
theorem dX8_addBatch_17 : decode cX8_addBatch 17 = .ok (.aload_n 0, 1) := by decide +kernel
theorem dX8_addBatch_18 : decode cX8_addBatch 18 = .ok (.getfield 9, 3) := by decide +kernel
theorem dX8_addBatch_21 : decode cX8_addBatch 21 = .ok (.iastore, 1) := by decide +kernel
theorem dX8_addBatch_22 : decode cX8_addBatch 22 = .ok (.aload_n 0, 1) := by decide +kernel
theorem dX8_addBatch_23 : decode cX8_addBatch 23 = .ok (.getfield 37, 3) := by decide +kernel
theorem dX8_addBatch_26 : decode cX8_addBatch 26 = .ok (.getfield 115, 3) := by decide +kernel
theorem dX8_addBatch_29 : decode cX8_addBatch 29 = .ok (.iload_n 3, 1) := by decide +kernel
theorem dX8_addBatch_30 : decode cX8_addBatch 30 = .ok (.iload_n 1, 1) := by decide +kernel
theorem dX8_addBatch_31 : decode cX8_addBatch 31 = .ok (.iastore, 1) := by decide +kernel
theorem dX8_addBatch_32 : decode cX8_addBatch 32 = .ok (.aload_n 0, 1) := by decide +kernel
theorem dX8_addBatch_33 : decode cX8_addBatch 33 = .ok (.dup, 1) := by decide +kernel
theorem dX8_addBatch_34 : decode cX8_addBatch 34 = .ok (.getfield 24, 3) := by decide +kernel
theorem dX8_addBatch_37 : decode cX8_addBatch 37 = .ok (.iconst 1, 1) := by decide +kernel
theorem dX8_addBatch_38 : decode cX8_addBatch 38 = .ok (.iadd, 1) := by decide +kernel
theorem dX8_addBatch_39 : decode cX8_addBatch 39 = .ok (.putfield 24, 3) := by decide +kernel
theorem dX8_addBatch_42 : decode cX8_addBatch 42 = .ok (.iload_n 3, 1) := by decide +kernel
theorem dX8_addBatch_43 : decode cX8_addBatch 43 = .ok (.ireturn, 1) := by decide +kernel
theorem dX8_writeOff_0 : decode cX8_writeOff 0 = .ok (.aload_n 0, 1) := by decide +kernel
theorem dX8_writeOff_1 : decode cX8_writeOff 1 = .ok (.getfield 44, 3) := by decide +kernel
theorem dX8_writeOff_4 : decode cX8_writeOff 4 = .ok (.aload_n 2, 1) := by decide +kernel
theorem dX8_writeOff_5 : decode cX8_writeOff 5 = .ok (.invokevirtual 118, 3) := by decide +kernel
theorem dX8_writeOff_8 : decode cX8_writeOff 8 = .ok (.aload_n 0, 1) := by decide +kernel
theorem dX8_writeOff_9 : decode cX8_writeOff 9 = .ok (.getfield 47, 3) := by decide +kernel
theorem dX8_writeOff_12 : decode cX8_writeOff 12 = .ok (.iload 4, 2) := by decide +kernel
theorem dX8_writeOff_14 : decode cX8_writeOff 14 = .ok (.dup2, 1) := by decide +kernel
theorem dX8_writeOff_15 : decode cX8_writeOff 15 = .ok (.iaload, 1) := by decide +kernel
theorem dX8_writeOff_16 : decode cX8_writeOff 16 = .ok (.iload_n 3, 1) := by decide +kernel
theorem dX8_writeOff_17 : decode cX8_writeOff 17 = .ok (.iadd, 1) := by decide +kernel
theorem dX8_writeOff_18 : decode cX8_writeOff 18 = .ok (.iastore, 1) := by decide +kernel
theorem dX8_writeOff_19 : decode cX8_writeOff 19 = .ok (.aload_n 0, 1) := by decide +kernel
theorem dX8_writeOff_20 : decode cX8_writeOff 20 = .ok (.iconst 3, 1) := by decide +kernel
theorem dX8_writeOff_21 : decode cX8_writeOff 21 = .ok (.iload_n 1, 1) := by decide +kernel
theorem dX8_writeOff_22 : decode cX8_writeOff 22 = .ok (.iload_n 3, 1) := by decide +kernel
theorem dX8_writeOff_23 : decode cX8_writeOff 23 = .ok (.invokevirtual 121, 3) := by decide +kernel
theorem dX8_writeOff_26 : decode cX8_writeOff 26 = .ok (.return_, 1) := by decide +kernel
theorem dX8_inTanks_0 : decode cX8_inTanks 0 = .ok (.iconst 0, 1) := by decide +kernel
theorem dX8_inTanks_1 : decode cX8_inTanks 1 = .ok (.istore_n 2, 1) := by decide +kernel
theorem dX8_inTanks_2 : decode cX8_inTanks 2 = .ok (.iconst 0, 1) := by decide +kernel
theorem dX8_inTanks_3 : decode cX8_inTanks 3 = .ok (.istore_n 3, 1) := by decide +kernel
theorem dX8_inTanks_4 : decode cX8_inTanks 4 = .ok (.iload_n 3, 1) := by decide +kernel
theorem dX8_inTanks_5 : decode cX8_inTanks 5 = .ok (.bipush 6, 2) := by decide +kernel
theorem dX8_inTanks_7 : decode cX8_inTanks 7 = .ok (.if_icmp .ge 26, 3) := by decide +kernel
theorem dX8_inTanks_10 : decode cX8_inTanks 10 = .ok (.iload_n 2, 1) := by decide +kernel
theorem dX8_inTanks_11 : decode cX8_inTanks 11 = .ok (.aload_n 0, 1) := by decide +kernel
theorem dX8_inTanks_12 : decode cX8_inTanks 12 = .ok (.getfield 20, 3) := by decide +kernel
theorem dX8_inTanks_15 : decode cX8_inTanks 15 = .ok (.iload_n 3, 1) := by decide +kernel
theorem dX8_inTanks_16 : decode cX8_inTanks 16 = .ok (.aaload, 1) := by decide +kernel
theorem dX8_inTanks_17 : decode cX8_inTanks 17 = .ok (.getfield 125, 3) := by decide +kernel
theorem dX8_inTanks_20 : decode cX8_inTanks 20 = .ok (.getfield 115, 3) := by decide +kernel
theorem dX8_inTanks_23 : decode cX8_inTanks 23 = .ok (.iload_n 1, 1) := by decide +kernel
theorem dX8_inTanks_24 : decode cX8_inTanks 24 = .ok (.iaload, 1) := by decide +kernel
theorem dX8_inTanks_25 : decode cX8_inTanks 25 = .ok (.iadd, 1) := by decide +kernel
theorem dX8_inTanks_26 : decode cX8_inTanks 26 = .ok (.istore_n 2, 1) := by decide +kernel
theorem dX8_inTanks_27 : decode cX8_inTanks 27 = .ok (.iinc 3 1, 3) := by decide +kernel
theorem dX8_inTanks_30 : decode cX8_inTanks 30 = .ok (.goto (-26), 3) := by decide +kernel
theorem dX8_inTanks_33 : decode cX8_inTanks 33 = .ok (.iload_n 2, 1) := by decide +kernel
theorem dX8_inTanks_34 : decode cX8_inTanks 34 = .ok (.ireturn, 1) := by decide +kernel
theorem dX8_tanksWith_0 : decode cX8_tanksWith 0 = .ok (.iconst 0, 1) := by decide +kernel
theorem dX8_tanksWith_1 : decode cX8_tanksWith 1 = .ok (.istore_n 2, 1) := by decide +kernel
theorem dX8_tanksWith_2 : decode cX8_tanksWith 2 = .ok (.iconst 0, 1) := by decide +kernel
theorem dX8_tanksWith_3 : decode cX8_tanksWith 3 = .ok (.istore_n 3, 1) := by decide +kernel
theorem dX8_tanksWith_4 : decode cX8_tanksWith 4 = .ok (.iload_n 3, 1) := by decide +kernel
theorem dX8_tanksWith_5 : decode cX8_tanksWith 5 = .ok (.bipush 6, 2) := by decide +kernel
theorem dX8_tanksWith_7 : decode cX8_tanksWith 7 = .ok (.if_icmp .ge 32, 3) := by decide +kernel
theorem dX8_tanksWith_10 : decode cX8_tanksWith 10 = .ok (.aload_n 0, 1) := by decide +kernel
theorem dX8_tanksWith_11 : decode cX8_tanksWith 11 = .ok (.getfield 20, 3) := by decide +kernel
theorem dX8_tanksWith_14 : decode cX8_tanksWith 14 = .ok (.iload_n 3, 1) := by decide +kernel
theorem dX8_tanksWith_15 : decode cX8_tanksWith 15 = .ok (.aaload, 1) := by decide +kernel
theorem dX8_tanksWith_16 : decode cX8_tanksWith 16 = .ok (.getfield 125, 3) := by decide +kernel
theorem dX8_tanksWith_19 : decode cX8_tanksWith 19 = .ok (.getfield 115, 3) := by decide +kernel
theorem dX8_tanksWith_22 : decode cX8_tanksWith 22 = .ok (.iload_n 1, 1) := by decide +kernel
theorem dX8_tanksWith_23 : decode cX8_tanksWith 23 = .ok (.iaload, 1) := by decide +kernel
theorem dX8_tanksWith_24 : decode cX8_tanksWith 24 = .ok (.ifCond .le 9, 3) := by decide +kernel
theorem dX8_tanksWith_27 : decode cX8_tanksWith 27 = .ok (.iload_n 2, 1) := by decide +kernel
theorem dX8_tanksWith_28 : decode cX8_tanksWith 28 = .ok (.iconst 1, 1) := by decide +kernel
theorem dX8_tanksWith_29 : decode cX8_tanksWith 29 = .ok (.iload_n 3, 1) := by decide +kernel
theorem dX8_tanksWith_30 : decode cX8_tanksWith 30 = .ok (.ishl, 1) := by decide +kernel
theorem dX8_tanksWith_31 : decode cX8_tanksWith 31 = .ok (.ior, 1) := by decide +kernel
theorem dX8_tanksWith_32 : decode cX8_tanksWith 32 = .ok (.istore_n 2, 1) := by decide +kernel
theorem dX8_tanksWith_33 : decode cX8_tanksWith 33 = .ok (.iinc 3 1, 3) := by decide +kernel
theorem dX8_tanksWith_36 : decode cX8_tanksWith 36 = .ok (.goto (-32), 3) := by decide +kernel
theorem dX8_tanksWith_39 : decode cX8_tanksWith 39 = .ok (.iload_n 2, 1) := by decide +kernel
theorem dX8_tanksWith_40 : decode cX8_tanksWith 40 = .ok (.ireturn, 1) := by decide +kernel
theorem dX8_litresInTanks_0 : decode cX8_litresInTanks 0 = .ok (.iconst 0, 1) := by decide +kernel
theorem dX8_litresInTanks_1 : decode cX8_litresInTanks 1 = .ok (.istore_n 1, 1) := by decide +kernel
theorem dX8_litresInTanks_2 : decode cX8_litresInTanks 2 = .ok (.iconst 0, 1) := by decide +kernel
theorem dX8_litresInTanks_3 : decode cX8_litresInTanks 3 = .ok (.istore_n 2, 1) := by decide +kernel
theorem dX8_litresInTanks_4 : decode cX8_litresInTanks 4 = .ok (.iload_n 2, 1) := by decide +kernel
theorem dX8_litresInTanks_5 : decode cX8_litresInTanks 5 = .ok (.bipush 6, 2) := by decide +kernel
theorem dX8_litresInTanks_7 : decode cX8_litresInTanks 7 = .ok (.if_icmp .ge 24, 3) := by decide +kernel
theorem dX8_litresInTanks_10 : decode cX8_litresInTanks 10 = .ok (.iload_n 1, 1) := by decide +kernel
theorem dX8_litresInTanks_11 : decode cX8_litresInTanks 11 = .ok (.aload_n 0, 1) := by decide +kernel
theorem dX8_litresInTanks_12 : decode cX8_litresInTanks 12 = .ok (.getfield 20, 3) := by decide +kernel
theorem dX8_litresInTanks_15 : decode cX8_litresInTanks 15 = .ok (.iload_n 2, 1) := by decide +kernel
theorem dX8_litresInTanks_16 : decode cX8_litresInTanks 16 = .ok (.aaload, 1) := by decide +kernel
theorem dX8_litresInTanks_17 : decode cX8_litresInTanks 17 = .ok (.getfield 125, 3) := by decide +kernel
theorem dX8_litresInTanks_20 : decode cX8_litresInTanks 20 = .ok (.invokevirtual 128, 3) := by decide +kernel
theorem dX8_litresInTanks_23 : decode cX8_litresInTanks 23 = .ok (.iadd, 1) := by decide +kernel
theorem dX8_litresInTanks_24 : decode cX8_litresInTanks 24 = .ok (.istore_n 1, 1) := by decide +kernel
theorem dX8_litresInTanks_25 : decode cX8_litresInTanks 25 = .ok (.iinc 2 1, 3) := by decide +kernel
theorem dX8_litresInTanks_28 : decode cX8_litresInTanks 28 = .ok (.goto (-24), 3) := by decide +kernel
theorem dX8_litresInTanks_31 : decode cX8_litresInTanks 31 = .ok (.iload_n 1, 1) := by decide +kernel
theorem dX8_litresInTanks_32 : decode cX8_litresInTanks 32 = .ok (.ireturn, 1) := by decide +kernel
theorem dX8_alcoholInTanks_0 : decode cX8_alcoholInTanks 0 = .ok (.lconst 0, 1) := by decide +kernel
theorem dX8_alcoholInTanks_1 : decode cX8_alcoholInTanks 1 = .ok (.lstore_n 1, 1) := by decide +kernel
theorem dX8_alcoholInTanks_2 : decode cX8_alcoholInTanks 2 = .ok (.iconst 0, 1) := by decide +kernel
theorem dX8_alcoholInTanks_3 : decode cX8_alcoholInTanks 3 = .ok (.istore_n 3, 1) := by decide +kernel
theorem dX8_alcoholInTanks_4 : decode cX8_alcoholInTanks 4 = .ok (.iload_n 3, 1) := by decide +kernel
theorem dX8_alcoholInTanks_5 : decode cX8_alcoholInTanks 5 = .ok (.bipush 6, 2) := by decide +kernel
theorem dX8_alcoholInTanks_7 : decode cX8_alcoholInTanks 7 = .ok (.if_icmp .ge 28, 3) := by decide +kernel
theorem dX8_alcoholInTanks_10 : decode cX8_alcoholInTanks 10 = .ok (.lload_n 1, 1) := by decide +kernel
theorem dX8_alcoholInTanks_11 : decode cX8_alcoholInTanks 11 = .ok (.aload_n 0, 1) := by decide +kernel
theorem dX8_alcoholInTanks_12 : decode cX8_alcoholInTanks 12 = .ok (.getfield 20, 3) := by decide +kernel
theorem dX8_alcoholInTanks_15 : decode cX8_alcoholInTanks 15 = .ok (.iload_n 3, 1) := by decide +kernel
theorem dX8_alcoholInTanks_16 : decode cX8_alcoholInTanks 16 = .ok (.aaload, 1) := by decide +kernel
theorem dX8_alcoholInTanks_17 : decode cX8_alcoholInTanks 17 = .ok (.getfield 125, 3) := by decide +kernel
theorem dX8_alcoholInTanks_20 : decode cX8_alcoholInTanks 20 = .ok (.aload_n 0, 1) := by decide +kernel
theorem dX8_alcoholInTanks_21 : decode cX8_alcoholInTanks 21 = .ok (.getfield 27, 3) := by decide +kernel
theorem dX8_alcoholInTanks_24 : decode cX8_alcoholInTanks 24 = .ok (.invokevirtual 132, 3) := by decide +kernel
theorem dX8_alcoholInTanks_27 : decode cX8_alcoholInTanks 27 = .ok (.ladd, 1) := by decide +kernel
theorem dX8_alcoholInTanks_28 : decode cX8_alcoholInTanks 28 = .ok (.lstore_n 1, 1) := by decide +kernel
theorem dX8_alcoholInTanks_29 : decode cX8_alcoholInTanks 29 = .ok (.iinc 3 1, 3) := by decide +kernel
theorem dX8_alcoholInTanks_32 : decode cX8_alcoholInTanks 32 = .ok (.goto (-28), 3) := by decide +kernel
theorem dX8_alcoholInTanks_35 : decode cX8_alcoholInTanks 35 = .ok (.lload_n 1, 1) := by decide +kernel
theorem dX8_alcoholInTanks_36 : decode cX8_alcoholInTanks 36 = .ok (.lreturn, 1) := by decide +kernel
theorem dX8_tanksInPhase_0 : decode cX8_tanksInPhase 0 = .ok (.iconst 0, 1) := by decide +kernel
theorem dX8_tanksInPhase_1 : decode cX8_tanksInPhase 1 = .ok (.istore_n 2, 1) := by decide +kernel
theorem dX8_tanksInPhase_2 : decode cX8_tanksInPhase 2 = .ok (.iconst 0, 1) := by decide +kernel
theorem dX8_tanksInPhase_3 : decode cX8_tanksInPhase 3 = .ok (.istore_n 3, 1) := by decide +kernel
theorem dX8_tanksInPhase_4 : decode cX8_tanksInPhase 4 = .ok (.iload_n 3, 1) := by decide +kernel
theorem dX8_tanksInPhase_5 : decode cX8_tanksInPhase 5 = .ok (.bipush 6, 2) := by decide +kernel
theorem dX8_tanksInPhase_7 : decode cX8_tanksInPhase 7 = .ok (.if_icmp .ge 25, 3) := by decide +kernel
theorem dX8_tanksInPhase_10 : decode cX8_tanksInPhase 10 = .ok (.aload_n 0, 1) := by decide +kernel
theorem dX8_tanksInPhase_11 : decode cX8_tanksInPhase 11 = .ok (.getfield 20, 3) := by decide +kernel
theorem dX8_tanksInPhase_14 : decode cX8_tanksInPhase 14 = .ok (.iload_n 3, 1) := by decide +kernel
theorem dX8_tanksInPhase_15 : decode cX8_tanksInPhase 15 = .ok (.aaload, 1) := by decide +kernel
theorem dX8_tanksInPhase_16 : decode cX8_tanksInPhase 16 = .ok (.getfield 136, 3) := by decide +kernel
theorem dX8_tanksInPhase_19 : decode cX8_tanksInPhase 19 = .ok (.iload_n 1, 1) := by decide +kernel
theorem dX8_tanksInPhase_20 : decode cX8_tanksInPhase 20 = .ok (.if_icmp .ne 6, 3) := by decide +kernel
theorem dX8_tanksInPhase_23 : decode cX8_tanksInPhase 23 = .ok (.iinc 2 1, 3) := by decide +kernel
theorem dX8_tanksInPhase_26 : decode cX8_tanksInPhase 26 = .ok (.iinc 3 1, 3) := by decide +kernel
theorem dX8_tanksInPhase_29 : decode cX8_tanksInPhase 29 = .ok (.goto (-25), 3) := by decide +kernel
theorem dX8_tanksInPhase_32 : decode cX8_tanksInPhase 32 = .ok (.iload_n 2, 1) := by decide +kernel
theorem dX8_tanksInPhase_33 : decode cX8_tanksInPhase 33 = .ok (.ireturn, 1) := by decide +kernel
theorem dX8_openOrders_0 : decode cX8_openOrders 0 = .ok (.iconst 0, 1) := by decide +kernel
theorem dX8_openOrders_1 : decode cX8_openOrders 1 = .ok (.istore_n 1, 1) := by decide +kernel
theorem dX8_openOrders_2 : decode cX8_openOrders 2 = .ok (.iconst 0, 1) := by decide +kernel
theorem dX8_openOrders_3 : decode cX8_openOrders 3 = .ok (.istore_n 2, 1) := by decide +kernel
theorem dX8_openOrders_4 : decode cX8_openOrders 4 = .ok (.iload_n 2, 1) := by decide +kernel
theorem dX8_openOrders_5 : decode cX8_openOrders 5 = .ok (.aload_n 0, 1) := by decide +kernel
theorem dX8_openOrders_6 : decode cX8_openOrders 6 = .ok (.getfield 59, 3) := by decide +kernel
theorem dX8_openOrders_9 : decode cX8_openOrders 9 = .ok (.if_icmp .ge 30, 3) := by decide +kernel
theorem dX8_openOrders_12 : decode cX8_openOrders 12 = .ok (.iload_n 2, 1) := by decide +kernel
theorem dX8_openOrders_13 : decode cX8_openOrders 13 = .ok (.bipush 10, 2) := by decide +kernel
theorem dX8_openOrders_15 : decode cX8_openOrders 15 = .ok (.if_icmp .ge 24, 3) := by decide +kernel
theorem dX8_openOrders_18 : decode cX8_openOrders 18 = .ok (.aload_n 0, 1) := by decide +kernel
theorem dX8_openOrders_19 : decode cX8_openOrders 19 = .ok (.getfield 64, 3) := by decide +kernel
theorem dX8_openOrders_22 : decode cX8_openOrders 22 = .ok (.iload_n 2, 1) := by decide +kernel
theorem dX8_openOrders_23 : decode cX8_openOrders 23 = .ok (.aaload, 1) := by decide +kernel
theorem dX8_openOrders_24 : decode cX8_openOrders 24 = .ok (.getfield 139, 3) := by decide +kernel
theorem dX8_openOrders_27 : decode cX8_openOrders 27 = .ok (.ifCond .ne 6, 3) := by decide +kernel
theorem dX8_openOrders_30 : decode cX8_openOrders 30 = .ok (.iinc 1 1, 3) := by decide +kernel
theorem dX8_openOrders_33 : decode cX8_openOrders 33 = .ok (.iinc 2 1, 3) := by decide +kernel
theorem dX8_openOrders_36 : decode cX8_openOrders 36 = .ok (.goto (-32), 3) := by decide +kernel
theorem dX8_openOrders_39 : decode cX8_openOrders 39 = .ok (.iload_n 1, 1) := by decide +kernel
theorem dX8_openOrders_40 : decode cX8_openOrders 40 = .ok (.ireturn, 1) := by decide +kernel
theorem dX8_openLitres_0 : decode cX8_openLitres 0 = .ok (.iconst 0, 1) := by decide +kernel
theorem dX8_openLitres_1 : decode cX8_openLitres 1 = .ok (.istore_n 1, 1) := by decide +kernel
theorem dX8_openLitres_2 : decode cX8_openLitres 2 = .ok (.iconst 0, 1) := by decide +kernel
theorem dX8_openLitres_3 : decode cX8_openLitres 3 = .ok (.istore_n 2, 1) := by decide +kernel
theorem dX8_openLitres_4 : decode cX8_openLitres 4 = .ok (.iload_n 2, 1) := by decide +kernel
theorem dX8_openLitres_5 : decode cX8_openLitres 5 = .ok (.aload_n 0, 1) := by decide +kernel
theorem dX8_openLitres_6 : decode cX8_openLitres 6 = .ok (.getfield 59, 3) := by decide +kernel
theorem dX8_openLitres_9 : decode cX8_openLitres 9 = .ok (.if_icmp .ge 39, 3) := by decide +kernel
theorem dX8_openLitres_12 : decode cX8_openLitres 12 = .ok (.iload_n 2, 1) := by decide +kernel
theorem dX8_openLitres_13 : decode cX8_openLitres 13 = .ok (.bipush 10, 2) := by decide +kernel
theorem dX8_openLitres_15 : decode cX8_openLitres 15 = .ok (.if_icmp .ge 33, 3) := by decide +kernel
theorem dX8_openLitres_18 : decode cX8_openLitres 18 = .ok (.aload_n 0, 1) := by decide +kernel
theorem dX8_openLitres_19 : decode cX8_openLitres 19 = .ok (.getfield 64, 3) := by decide +kernel
theorem dX8_openLitres_22 : decode cX8_openLitres 22 = .ok (.iload_n 2, 1) := by decide +kernel
theorem dX8_openLitres_23 : decode cX8_openLitres 23 = .ok (.aaload, 1) := by decide +kernel
theorem dX8_openLitres_24 : decode cX8_openLitres 24 = .ok (.getfield 139, 3) := by decide +kernel
theorem dX8_openLitres_27 : decode cX8_openLitres 27 = .ok (.ifCond .ne 15, 3) := by decide +kernel
theorem dX8_openLitres_30 : decode cX8_openLitres 30 = .ok (.iload_n 1, 1) := by decide +kernel
theorem dX8_openLitres_31 : decode cX8_openLitres 31 = .ok (.aload_n 0, 1) := by decide +kernel
theorem dX8_openLitres_32 : decode cX8_openLitres 32 = .ok (.getfield 64, 3) := by decide +kernel
theorem dX8_openLitres_35 : decode cX8_openLitres 35 = .ok (.iload_n 2, 1) := by decide +kernel
theorem dX8_openLitres_36 : decode cX8_openLitres 36 = .ok (.aaload, 1) := by decide +kernel
theorem dX8_openLitres_37 : decode cX8_openLitres 37 = .ok (.getfield 142, 3) := by decide +kernel
theorem dX8_openLitres_40 : decode cX8_openLitres 40 = .ok (.iadd, 1) := by decide +kernel
theorem dX8_openLitres_41 : decode cX8_openLitres 41 = .ok (.istore_n 1, 1) := by decide +kernel
theorem dX8_openLitres_42 : decode cX8_openLitres 42 = .ok (.iinc 2 1, 3) := by decide +kernel
theorem dX8_openLitres_45 : decode cX8_openLitres 45 = .ok (.goto (-41), 3) := by decide +kernel
theorem dX8_openLitres_48 : decode cX8_openLitres 48 = .ok (.iload_n 1, 1) := by decide +kernel
theorem dX8_openLitres_49 : decode cX8_openLitres 49 = .ok (.ireturn, 1) := by decide +kernel
theorem dX8_rateFor_0 : decode cX8_rateFor 0 = .ok (.bipush (-5), 2) := by decide +kernel
theorem dX8_rateFor_2 : decode cX8_rateFor 2 = .ok (.istore_n 3, 1) := by decide +kernel
theorem dX8_rateFor_3 : decode cX8_rateFor 3 = .ok (.iconst 0, 1) := by decide +kernel
theorem dX8_rateFor_4 : decode cX8_rateFor 4 = .ok (.istore 4, 2) := by decide +kernel
theorem dX8_rateFor_6 : decode cX8_rateFor 6 = .ok (.iload 4, 2) := by decide +kernel
theorem dX8_rateFor_8 : decode cX8_rateFor 8 = .ok (.aload_n 0, 1) := by decide +kernel
theorem dX8_rateFor_9 : decode cX8_rateFor 9 = .ok (.getfield 50, 3) := by decide +kernel
theorem dX8_rateFor_12 : decode cX8_rateFor 12 = .ok (.if_icmp .ge 104, 3) := by decide +kernel
theorem dX8_rateFor_15 : decode cX8_rateFor 15 = .ok (.iload 4, 2) := by decide +kernel
theorem dX8_rateFor_17 : decode cX8_rateFor 17 = .ok (.bipush 10, 2) := by decide +kernel
theorem dX8_rateFor_19 : decode cX8_rateFor 19 = .ok (.if_icmp .ge 97, 3) := by decide +kernel
theorem dX8_rateFor_22 : decode cX8_rateFor 22 = .ok (.aload_n 0, 1) := by decide +kernel
theorem dX8_rateFor_23 : decode cX8_rateFor 23 = .ok (.getfield 55, 3) := by decide +kernel
theorem dX8_rateFor_26 : decode cX8_rateFor 26 = .ok (.iload 4, 2) := by decide +kernel
theorem dX8_rateFor_28 : decode cX8_rateFor 28 = .ok (.aaload, 1) := by decide +kernel
theorem dX8_rateFor_29 : decode cX8_rateFor 29 = .ok (.astore 5, 2) := by decide +kernel
theorem dX8_rateFor_31 : decode cX8_rateFor 31 = .ok (.aload 5, 2) := by decide +kernel
theorem dX8_rateFor_33 : decode cX8_rateFor 33 = .ok (.getfield 145, 3) := by decide +kernel
theorem dX8_rateFor_36 : decode cX8_rateFor 36 = .ok (.iload_n 1, 1) := by decide +kernel
theorem dX8_rateFor_37 : decode cX8_rateFor 37 = .ok (.if_icmp .gt 73, 3) := by decide +kernel
theorem dX8_rateFor_40 : decode cX8_rateFor 40 = .ok (.aload 5, 2) := by decide +kernel
theorem dX8_rateFor_42 : decode cX8_rateFor 42 = .ok (.getfield 146, 3) := by decide +kernel
theorem dX8_rateFor_45 : decode cX8_rateFor 45 = .ok (.iload_n 2, 1) := by decide +kernel
theorem dX8_rateFor_46 : decode cX8_rateFor 46 = .ok (.if_icmp .le 6, 3) := by decide +kernel
theorem dX8_rateFor_49 : decode cX8_rateFor 49 = .ok (.goto 61, 3) := by decide +kernel
theorem dX8_rateFor_52 : decode cX8_rateFor 52 = .ok (.iload_n 3, 1) := by decide +kernel
theorem dX8_rateFor_53 : decode cX8_rateFor 53 = .ok (.ifCond .lt 54, 3) := by decide +kernel
theorem dX8_rateFor_56 : decode cX8_rateFor 56 = .ok (.aload 5, 2) := by decide +kernel
theorem dX8_rateFor_58 : decode cX8_rateFor 58 = .ok (.getfield 146, 3) := by decide +kernel
theorem dX8_rateFor_61 : decode cX8_rateFor 61 = .ok (.aload_n 0, 1) := by decide +kernel
theorem dX8_rateFor_62 : decode cX8_rateFor 62 = .ok (.getfield 55, 3) := by decide +kernel
theorem dX8_rateFor_65 : decode cX8_rateFor 65 = .ok (.iload_n 3, 1) := by decide +kernel
theorem dX8_rateFor_66 : decode cX8_rateFor 66 = .ok (.aaload, 1) := by decide +kernel
theorem dX8_rateFor_67 : decode cX8_rateFor 67 = .ok (.getfield 146, 3) := by decide +kernel
theorem dX8_rateFor_70 : decode cX8_rateFor 70 = .ok (.if_icmp .gt 37, 3) := by decide +kernel
theorem dX8_rateFor_73 : decode cX8_rateFor 73 = .ok (.aload 5, 2) := by decide +kernel
theorem dX8_rateFor_75 : decode cX8_rateFor 75 = .ok (.getfield 146, 3) := by decide +kernel
theorem dX8_rateFor_78 : decode cX8_rateFor 78 = .ok (.aload_n 0, 1) := by decide +kernel
theorem dX8_rateFor_79 : decode cX8_rateFor 79 = .ok (.getfield 55, 3) := by decide +kernel
theorem dX8_rateFor_82 : decode cX8_rateFor 82 = .ok (.iload_n 3, 1) := by decide +kernel
theorem dX8_rateFor_83 : decode cX8_rateFor 83 = .ok (.aaload, 1) := by decide +kernel
theorem dX8_rateFor_84 : decode cX8_rateFor 84 = .ok (.getfield 146, 3) := by decide +kernel
theorem dX8_rateFor_87 : decode cX8_rateFor 87 = .ok (.if_icmp .ne 23, 3) := by decide +kernel
theorem dX8_rateFor_90 : decode cX8_rateFor 90 = .ok (.aload 5, 2) := by decide +kernel
theorem dX8_rateFor_92 : decode cX8_rateFor 92 = .ok (.getfield 145, 3) := by decide +kernel
theorem dX8_rateFor_95 : decode cX8_rateFor 95 = .ok (.aload_n 0, 1) := by decide +kernel
theorem dX8_rateFor_96 : decode cX8_rateFor 96 = .ok (.getfield 55, 3) := by decide +kernel
theorem dX8_rateFor_99 : decode cX8_rateFor 99 = .ok (.iload_n 3, 1) := by decide +kernel
theorem dX8_rateFor_100 : decode cX8_rateFor 100 = .ok (.aaload, 1) := by decide +kernel
theorem dX8_rateFor_101 : decode cX8_rateFor 101 = .ok (.getfield 145, 3) := by decide +kernel
theorem dX8_rateFor_104 : decode cX8_rateFor 104 = .ok (.if_icmp .lt 6, 3) := by decide +kernel
theorem dX8_rateFor_107 : decode cX8_rateFor 107 = .ok (.iload 4, 2) := by decide +kernel
theorem dX8_rateFor_109 : decode cX8_rateFor 109 = .ok (.istore_n 3, 1) := by decide +kernel
theorem dX8_rateFor_110 : decode cX8_rateFor 110 = .ok (.iinc 4 1, 3) := by decide +kernel
theorem dX8_rateFor_113 : decode cX8_rateFor 113 = .ok (.goto (-107), 3) := by decide +kernel
theorem dX8_rateFor_116 : decode cX8_rateFor 116 = .ok (.iload_n 3, 1) := by decide +kernel
theorem dX8_rateFor_117 : decode cX8_rateFor 117 = .ok (.ireturn, 1) := by decide +kernel
theorem dX8_dutyOn_0 : decode cX8_dutyOn 0 = .ok (.aload_n 0, 1) := by decide +kernel
theorem dX8_dutyOn_1 : decode cX8_dutyOn 1 = .ok (.aload_n 1, 1) := by decide +kernel
theorem dX8_dutyOn_2 : decode cX8_dutyOn 2 = .ok (.getfield 149, 3) := by decide +kernel
theorem dX8_dutyOn_5 : decode cX8_dutyOn 5 = .ok (.aload_n 1, 1) := by decide +kernel
theorem dX8_dutyOn_6 : decode cX8_dutyOn 6 = .ok (.getfield 152, 3) := by decide +kernel
theorem dX8_dutyOn_9 : decode cX8_dutyOn 9 = .ok (.invokevirtual 155, 3) := by decide +kernel
theorem dX8_dutyOn_12 : decode cX8_dutyOn 12 = .ok (.istore_n 2, 1) := by decide +kernel
theorem dX8_dutyOn_13 : decode cX8_dutyOn 13 = .ok (.iload_n 2, 1) := by decide +kernel
theorem dX8_dutyOn_14 : decode cX8_dutyOn 14 = .ok (.ifCond .ge 7, 3) := by decide +kernel
theorem dX8_dutyOn_17 : decode cX8_dutyOn 17 = .ok (.iconst 0, 1) := by decide +kernel
theorem dX8_dutyOn_18 : decode cX8_dutyOn 18 = .ok (.goto 27, 3) := by decide +kernel
theorem dX8_dutyOn_21 : decode cX8_dutyOn 21 = .ok (.aload_n 1, 1) := by decide +kernel
theorem dX8_dutyOn_22 : decode cX8_dutyOn 22 = .ok (.getfield 159, 3) := by decide +kernel
theorem dX8_dutyOn_25 : decode cX8_dutyOn 25 = .ok (.aload_n 0, 1) := by decide +kernel
theorem dX8_dutyOn_26 : decode cX8_dutyOn 26 = .ok (.getfield 55, 3) := by decide +kernel
theorem dX8_dutyOn_29 : decode cX8_dutyOn 29 = .ok (.iload_n 2, 1) := by decide +kernel
theorem dX8_dutyOn_30 : decode cX8_dutyOn 30 = .ok (.aaload, 1) := by decide +kernel
theorem dX8_dutyOn_31 : decode cX8_dutyOn 31 = .ok (.getfield 162, 3) := by decide +kernel
theorem dX8_dutyOn_34 : decode cX8_dutyOn 34 = .ok (.i2l, 1) := by decide +kernel
theorem dX8_dutyOn_35 : decode cX8_dutyOn 35 = .ok (.lmul, 1) := by decide +kernel
theorem dX8_dutyOn_36 : decode cX8_dutyOn 36 = .ok (.ldc2_w 165, 3) := by decide +kernel
theorem dX8_dutyOn_39 : decode cX8_dutyOn 39 = .ok (.ladd, 1) := by decide +kernel
theorem dX8_dutyOn_40 : decode cX8_dutyOn 40 = .ok (.ldc2_w 167, 3) := by decide +kernel
theorem dX8_dutyOn_43 : decode cX8_dutyOn 43 = .ok (.ldiv, 1) := by decide +kernel
theorem dX8_dutyOn_44 : decode cX8_dutyOn 44 = .ok (.l2i, 1) := by decide +kernel
theorem dX8_dutyOn_45 : decode cX8_dutyOn 45 = .ok (.ireturn, 1) := by decide +kernel
theorem dX8_dutyNow_0 : decode cX8_dutyNow 0 = .ok (.lconst 0, 1) := by decide +kernel
theorem dX8_dutyNow_1 : decode cX8_dutyNow 1 = .ok (.lstore_n 1, 1) := by decide +kernel
theorem dX8_dutyNow_2 : decode cX8_dutyNow 2 = .ok (.iconst 0, 1) := by decide +kernel
theorem dX8_dutyNow_3 : decode cX8_dutyNow 3 = .ok (.istore_n 3, 1) := by decide +kernel
theorem dX8_dutyNow_4 : decode cX8_dutyNow 4 = .ok (.iload_n 3, 1) := by decide +kernel
theorem dX8_dutyNow_5 : decode cX8_dutyNow 5 = .ok (.aload_n 0, 1) := by decide +kernel
theorem dX8_dutyNow_6 : decode cX8_dutyNow 6 = .ok (.getfield 59, 3) := by decide +kernel
theorem dX8_dutyNow_9 : decode cX8_dutyNow 9 = .ok (.if_icmp .ge 42, 3) := by decide +kernel
theorem dX8_dutyNow_12 : decode cX8_dutyNow 12 = .ok (.iload_n 3, 1) := by decide +kernel
theorem dX8_dutyNow_13 : decode cX8_dutyNow 13 = .ok (.bipush 10, 2) := by decide +kernel
theorem dX8_dutyNow_15 : decode cX8_dutyNow 15 = .ok (.if_icmp .ge 36, 3) := by decide +kernel
theorem dX8_dutyNow_18 : decode cX8_dutyNow 18 = .ok (.aload_n 0, 1) := by decide +kernel
theorem dX8_dutyNow_19 : decode cX8_dutyNow 19 = .ok (.getfield 64, 3) := by decide +kernel
theorem dX8_dutyNow_22 : decode cX8_dutyNow 22 = .ok (.iload_n 3, 1) := by decide +kernel
theorem dX8_dutyNow_23 : decode cX8_dutyNow 23 = .ok (.aaload, 1) := by decide +kernel
theorem dX8_dutyNow_24 : decode cX8_dutyNow 24 = .ok (.getfield 139, 3) := by decide +kernel
theorem dX8_dutyNow_27 : decode cX8_dutyNow 27 = .ok (.iconst 1, 1) := by decide +kernel
theorem dX8_dutyNow_28 : decode cX8_dutyNow 28 = .ok (.if_icmp .ne 17, 3) := by decide +kernel
theorem dX8_dutyNow_31 : decode cX8_dutyNow 31 = .ok (.lload_n 1, 1) := by decide +kernel
theorem dX8_dutyNow_32 : decode cX8_dutyNow 32 = .ok (.aload_n 0, 1) := by decide +kernel
theorem dX8_dutyNow_33 : decode cX8_dutyNow 33 = .ok (.aload_n 0, 1) := by decide +kernel
theorem dX8_dutyNow_34 : decode cX8_dutyNow 34 = .ok (.getfield 64, 3) := by decide +kernel
theorem dX8_dutyNow_37 : decode cX8_dutyNow 37 = .ok (.iload_n 3, 1) := by decide +kernel
theorem dX8_dutyNow_38 : decode cX8_dutyNow 38 = .ok (.aaload, 1) := by decide +kernel
theorem dX8_dutyNow_39 : decode cX8_dutyNow 39 = .ok (.invokevirtual 169, 3) := by decide +kernel
theorem dX8_dutyNow_42 : decode cX8_dutyNow 42 = .ok (.i2l, 1) := by decide +kernel
theorem dX8_dutyNow_43 : decode cX8_dutyNow 43 = .ok (.ladd, 1) := by decide +kernel
theorem dX8_dutyNow_44 : decode cX8_dutyNow 44 = .ok (.lstore_n 1, 1) := by decide +kernel
theorem dX8_dutyNow_45 : decode cX8_dutyNow 45 = .ok (.iinc 3 1, 3) := by decide +kernel
theorem dX8_dutyNow_48 : decode cX8_dutyNow 48 = .ok (.goto (-44), 3) := by decide +kernel
theorem dX8_dutyNow_51 : decode cX8_dutyNow 51 = .ok (.lload_n 1, 1) := by decide +kernel
theorem dX8_dutyNow_52 : decode cX8_dutyNow 52 = .ok (.lreturn, 1) := by decide +kernel
theorem dX8_stillDue_0 : decode cX8_stillDue 0 = .ok (.aload_n 0, 1) := by decide +kernel
theorem dX8_stillDue_1 : decode cX8_stillDue 1 = .ok (.invokevirtual 173, 3) := by decide +kernel
theorem dX8_stillDue_4 : decode cX8_stillDue 4 = .ok (.aload_n 0, 1) := by decide +kernel
theorem dX8_stillDue_5 : decode cX8_stillDue 5 = .ok (.getfield 68, 3) := by decide +kernel
theorem dX8_stillDue_8 : decode cX8_stillDue 8 = .ok (.lsub, 1) := by decide +kernel
theorem dX8_stillDue_9 : decode cX8_stillDue 9 = .ok (.aload_n 0, 1) := by decide +kernel
theorem dX8_stillDue_10 : decode cX8_stillDue 10 = .ok (.getfield 72, 3) := by decide +kernel
theorem dX8_stillDue_13 : decode cX8_stillDue 13 = .ok (.lsub, 1) := by decide +kernel
theorem dX8_stillDue_14 : decode cX8_stillDue 14 = .ok (.lreturn, 1) := by decide +kernel
theorem dX9_init_0 : decode cX9_init 0 = .ok (.aload_n 0, 1) := by decide +kernel
theorem dX9_init_1 : decode cX9_init 1 = .ok (.invokespecial 3, 3) := by decide +kernel
theorem dX9_init_4 : decode cX9_init 4 = .ok (.aload_n 0, 1) := by decide +kernel
theorem dX9_init_5 : decode cX9_init 5 = .ok (.sipush 1000, 3) := by decide +kernel
theorem dX9_init_8 : decode cX9_init 8 = .ok (.putfield 9, 3) := by decide +kernel
theorem dX9_init_11 : decode cX9_init 11 = .ok (.aload_n 0, 1) := by decide +kernel
theorem dX9_init_12 : decode cX9_init 12 = .ok (.iconst 0, 1) := by decide +kernel
theorem dX9_init_13 : decode cX9_init 13 = .ok (.putfield 15, 3) := by decide +kernel
theorem dX9_init_16 : decode cX9_init 16 = .ok (.aload_n 0, 1) := by decide +kernel
theorem dX9_init_17 : decode cX9_init 17 = .ok (.iconst 0, 1) := by decide +kernel
theorem dX9_init_18 : decode cX9_init 18 = .ok (.putfield 18, 3) := by decide +kernel
theorem dX9_init_21 : decode cX9_init 21 = .ok (.aload_n 0, 1) := by decide +kernel
theorem dX9_init_22 : decode cX9_init 22 = .ok (.new 21, 3) := by decide +kernel
theorem dX9_init_25 : decode cX9_init 25 = .ok (.dup, 1) := by decide +kernel
theorem dX9_init_26 : decode cX9_init 26 = .ok (.invokespecial 23, 3) := by decide +kernel
theorem dX9_init_29 : decode cX9_init 29 = .ok (.putfield 24, 3) := by decide +kernel
theorem dX9_init_32 : decode cX9_init 32 = .ok (.return_, 1) := by decide +kernel
theorem dX9_copyFrom_0 : decode cX9_copyFrom 0 = .ok (.aload_n 0, 1) := by decide +kernel
theorem dX9_copyFrom_1 : decode cX9_copyFrom 1 = .ok (.aload_n 1, 1) := by decide +kernel
theorem dX9_copyFrom_2 : decode cX9_copyFrom 2 = .ok (.getfield 9, 3) := by decide +kernel
theorem dX9_copyFrom_5 : decode cX9_copyFrom 5 = .ok (.putfield 9, 3) := by decide +kernel
theorem dX9_copyFrom_8 : decode cX9_copyFrom 8 = .ok (.aload_n 0, 1) := by decide +kernel
theorem dX9_copyFrom_9 : decode cX9_copyFrom 9 = .ok (.aload_n 1, 1) := by decide +kernel
theorem dX9_copyFrom_10 : decode cX9_copyFrom 10 = .ok (.getfield 15, 3) := by decide +kernel
theorem dX9_copyFrom_13 : decode cX9_copyFrom 13 = .ok (.putfield 15, 3) := by decide +kernel
theorem dX9_copyFrom_16 : decode cX9_copyFrom 16 = .ok (.aload_n 0, 1) := by decide +kernel
theorem dX9_copyFrom_17 : decode cX9_copyFrom 17 = .ok (.aload_n 1, 1) := by decide +kernel
theorem dX9_copyFrom_18 : decode cX9_copyFrom 18 = .ok (.getfield 18, 3) := by decide +kernel
theorem dX9_copyFrom_21 : decode cX9_copyFrom 21 = .ok (.putfield 18, 3) := by decide +kernel
theorem dX9_copyFrom_24 : decode cX9_copyFrom 24 = .ok (.aload_n 0, 1) := by decide +kernel
theorem dX9_copyFrom_25 : decode cX9_copyFrom 25 = .ok (.getfield 24, 3) := by decide +kernel
theorem dX9_copyFrom_28 : decode cX9_copyFrom 28 = .ok (.aload_n 1, 1) := by decide +kernel
theorem dX9_copyFrom_29 : decode cX9_copyFrom 29 = .ok (.getfield 24, 3) := by decide +kernel
theorem dX9_copyFrom_32 : decode cX9_copyFrom 32 = .ok (.invokevirtual 28, 3) := by decide +kernel
theorem dX9_copyFrom_35 : decode cX9_copyFrom 35 = .ok (.return_, 1) := by decide +kernel
theorem dX9_room_0 : decode cX9_room 0 = .ok (.aload_n 0, 1) := by decide +kernel
theorem dX9_room_1 : decode cX9_room 1 = .ok (.getfield 9, 3) := by decide +kernel
theorem dX9_room_4 : decode cX9_room 4 = .ok (.aload_n 0, 1) := by decide +kernel
theorem dX9_room_5 : decode cX9_room 5 = .ok (.getfield 24, 3) := by decide +kernel
theorem dX9_room_8 : decode cX9_room 8 = .ok (.invokevirtual 32, 3) := by decide +kernel
theorem dX9_room_11 : decode cX9_room 11 = .ok (.isub, 1) := by decide +kernel
theorem dX9_room_12 : decode cX9_room 12 = .ok (.ireturn, 1) := by decide +kernel
theorem dX9_giveOut_0 : decode cX9_giveOut 0 = .ok (.aload_n 0, 1) := by decide +kernel
theorem dX9_giveOut_1 : decode cX9_giveOut 1 = .ok (.getfield 24, 3) := by decide +kernel
theorem dX9_giveOut_4 : decode cX9_giveOut 4 = .ok (.aload_n 1, 1) := by decide +kernel
theorem dX9_giveOut_5 : decode cX9_giveOut 5 = .ok (.invokevirtual 36, 3) := by decide +kernel
theorem dX9_giveOut_8 : decode cX9_giveOut 8 = .ok (.aload_n 0, 1) := by decide +kernel
theorem dX9_giveOut_9 : decode cX9_giveOut 9 = .ok (.getfield 24, 3) := by decide +kernel
theorem dX9_giveOut_12 : decode cX9_giveOut 12 = .ok (.invokevirtual 32, 3) := by decide +kernel
theorem dX9_giveOut_15 : decode cX9_giveOut 15 = .ok (.ifCond .ne 8, 3) := by decide +kernel
theorem dX9_giveOut_18 : decode cX9_giveOut 18 = .ok (.aload_n 0, 1) := by decide +kernel
theorem dX9_giveOut_19 : decode cX9_giveOut 19 = .ok (.iconst 2, 1) := by decide +kernel
theorem dX9_giveOut_20 : decode cX9_giveOut 20 = .ok (.putfield 15, 3) := by decide +kernel
theorem dX9_giveOut_23 : decode cX9_giveOut 23 = .ok (.return_, 1) := by decide +kernel
theorem dX9_takeIn_0 : decode cX9_takeIn 0 = .ok (.aload_n 0, 1) := by decide +kernel
theorem dX9_takeIn_1 : decode cX9_takeIn 1 = .ok (.getfield 24, 3) := by decide +kernel
theorem dX9_takeIn_4 : decode cX9_takeIn 4 = .ok (.aload_n 1, 1) := by decide +kernel
theorem dX9_takeIn_5 : decode cX9_takeIn 5 = .ok (.invokevirtual 39, 3) := by decide +kernel
theorem dX9_takeIn_8 : decode cX9_takeIn 8 = .ok (.aload_n 0, 1) := by decide +kernel
theorem dX9_takeIn_9 : decode cX9_takeIn 9 = .ok (.iconst 1, 1) := by decide +kernel
theorem dX9_takeIn_10 : decode cX9_takeIn 10 = .ok (.putfield 15, 3) := by decide +kernel
theorem dX9_takeIn_13 : decode cX9_takeIn 13 = .ok (.return_, 1) := by decide +kernel
theorem dX10_init_0 : decode cX10_init 0 = .ok (.aload_n 0, 1) := by decide +kernel
theorem dX10_init_1 : decode cX10_init 1 = .ok (.invokespecial 3, 3) := by decide +kernel
theorem dX10_init_4 : decode cX10_init 4 = .ok (.aload_n 0, 1) := by decide +kernel
theorem dX10_init_5 : decode cX10_init 5 = .ok (.iconst 0, 1) := by decide +kernel
theorem dX10_init_6 : decode cX10_init 6 = .ok (.putfield 9, 3) := by decide +kernel
theorem dX10_init_9 : decode cX10_init 9 = .ok (.aload_n 0, 1) := by decide +kernel
theorem dX10_init_10 : decode cX10_init 10 = .ok (.bipush 60, 2) := by decide +kernel
theorem dX10_init_12 : decode cX10_init 12 = .ok (.newarray .int, 2) := by decide +kernel
theorem dX10_init_14 : decode cX10_init 14 = .ok (.putfield 15, 3) := by decide +kernel
theorem dX10_init_17 : decode cX10_init 17 = .ok (.aload_n 0, 1) := by decide +kernel
theorem dX10_init_18 : decode cX10_init 18 = .ok (.iconst 0, 1) := by decide +kernel
theorem dX10_init_19 : decode cX10_init 19 = .ok (.putfield 19, 3) := by decide +kernel
theorem dX10_init_22 : decode cX10_init 22 = .ok (.aload_n 0, 1) := by decide +kernel
theorem dX10_init_23 : decode cX10_init 23 = .ok (.iconst 0, 1) := by decide +kernel
theorem dX10_init_24 : decode cX10_init 24 = .ok (.putfield 22, 3) := by decide +kernel
theorem dX10_init_27 : decode cX10_init 27 = .ok (.aload_n 0, 1) := by decide +kernel
theorem dX10_init_28 : decode cX10_init 28 = .ok (.iconst 0, 1) := by decide +kernel
theorem dX10_init_29 : decode cX10_init 29 = .ok (.putfield 26, 3) := by decide +kernel
theorem dX10_init_32 : decode cX10_init 32 = .ok (.aload_n 0, 1) := by decide +kernel
theorem dX10_init_33 : decode cX10_init 33 = .ok (.bipush 20, 2) := by decide +kernel
theorem dX10_init_35 : decode cX10_init 35 = .ok (.anewarray 29, 3) := by decide +kernel
theorem dX10_init_38 : decode cX10_init 38 = .ok (.putfield 31, 3) := by decide +kernel
theorem dX10_init_41 : decode cX10_init 41 = .ok (.iconst 0, 1) := by decide +kernel
theorem dX10_init_42 : decode cX10_init 42 = .ok (.istore_n 1, 1) := by decide +kernel
theorem dX10_init_43 : decode cX10_init 43 = .ok (.iload_n 1, 1) := by decide +kernel
theorem dX10_init_44 : decode cX10_init 44 = .ok (.bipush 20, 2) := by decide +kernel
theorem dX10_init_46 : decode cX10_init 46 = .ok (.if_icmp .ge 22, 3) := by decide +kernel
theorem dX10_init_49 : decode cX10_init 49 = .ok (.aload_n 0, 1) := by decide +kernel
theorem dX10_init_50 : decode cX10_init 50 = .ok (.getfield 31, 3) := by decide +kernel
theorem dX10_init_53 : decode cX10_init 53 = .ok (.iload_n 1, 1) := by decide +kernel
theorem dX10_init_54 : decode cX10_init 54 = .ok (.new 29, 3) := by decide +kernel
theorem dX10_init_57 : decode cX10_init 57 = .ok (.dup, 1) := by decide +kernel
theorem dX10_init_58 : decode cX10_init 58 = .ok (.invokespecial 35, 3) := by decide +kernel
theorem dX10_init_61 : decode cX10_init 61 = .ok (.aastore, 1) := by decide +kernel
theorem dX10_init_62 : decode cX10_init 62 = .ok (.iinc 1 1, 3) := by decide +kernel
theorem dX10_init_65 : decode cX10_init 65 = .ok (.goto (-22), 3) := by decide +kernel
theorem dX10_init_68 : decode cX10_init 68 = .ok (.return_, 1) := by decide +kernel
theorem dX10_append_0 : decode cX10_append 0 = .ok (.aload_n 0, 1) := by decide +kernel
theorem dX10_append_1 : decode cX10_append 1 = .ok (.getfield 9, 3) := by decide +kernel
theorem dX10_append_4 : decode cX10_append 4 = .ok (.bipush 60, 2) := by decide +kernel
theorem dX10_append_6 : decode cX10_append 6 = .ok (.if_icmp .ge 23, 3) := by decide +kernel
theorem dX10_append_9 : decode cX10_append 9 = .ok (.aload_n 0, 1) := by decide +kernel
theorem dX10_append_10 : decode cX10_append 10 = .ok (.getfield 15, 3) := by decide +kernel
theorem dX10_append_13 : decode cX10_append 13 = .ok (.aload_n 0, 1) := by decide +kernel
theorem dX10_append_14 : decode cX10_append 14 = .ok (.getfield 9, 3) := by decide +kernel
theorem dX10_append_17 : decode cX10_append 17 = .ok (.iload_n 1, 1) := by decide +kernel
theorem dX10_append_18 : decode cX10_append 18 = .ok (.iastore, 1) := by decide +kernel
theorem dX10_append_19 : decode cX10_append 19 = .ok (.aload_n 0, 1) := by decide +kernel
theorem dX10_append_20 : decode cX10_append 20 = .ok (.dup, 1) := by decide +kernel
theorem dX10_append_21 : decode cX10_append 21 = .ok (.getfield 9, 3) := by decide +kernel
theorem dX10_append_24 : decode cX10_append 24 = .ok (.iconst 1, 1) := by decide +kernel
theorem dX10_append_25 : decode cX10_append 25 = .ok (.iadd, 1) := by decide +kernel
theorem dX10_append_26 : decode cX10_append 26 = .ok (.putfield 9, 3) := by decide +kernel
theorem dX10_append_29 : decode cX10_append 29 = .ok (.return_, 1) := by decide +kernel
theorem dX10_readCommands_0 : decode cX10_readCommands 0 = .ok (.aload_n 0, 1) := by decide +kernel
theorem dX10_readCommands_1 : decode cX10_readCommands 1 = .ok (.iconst 0, 1) := by decide +kernel
theorem dX10_readCommands_2 : decode cX10_readCommands 2 = .ok (.putfield 19, 3) := by decide +kernel
theorem dX10_readCommands_5 : decode cX10_readCommands 5 = .ok (.aload_n 0, 1) := by decide +kernel
theorem dX10_readCommands_6 : decode cX10_readCommands 6 = .ok (.iconst 0, 1) := by decide +kernel
theorem dX10_readCommands_7 : decode cX10_readCommands 7 = .ok (.putfield 22, 3) := by decide +kernel
theorem dX10_readCommands_10 : decode cX10_readCommands 10 = .ok (.aload_n 0, 1) := by decide +kernel
theorem dX10_readCommands_11 : decode cX10_readCommands 11 = .ok (.iconst 0, 1) := by decide +kernel
theorem dX10_readCommands_12 : decode cX10_readCommands 12 = .ok (.putfield 26, 3) := by decide +kernel
theorem dX10_readCommands_15 : decode cX10_readCommands 15 = .ok (.iconst 0, 1) := by decide +kernel
theorem dX10_readCommands_16 : decode cX10_readCommands 16 = .ok (.istore_n 1, 1) := by decide +kernel
theorem dX10_readCommands_17 : decode cX10_readCommands 17 = .ok (.iload_n 1, 1) := by decide +kernel
theorem dX10_readCommands_18 : decode cX10_readCommands 18 = .ok (.bipush 20, 2) := by decide +kernel
theorem dX10_readCommands_20 : decode cX10_readCommands 20 = .ok (.if_icmp .ge 57, 3) := by decide +kernel
theorem dX10_readCommands_23 : decode cX10_readCommands 23 = .ok (.aload_n 0, 1) := by decide +kernel
theorem dX10_readCommands_24 : decode cX10_readCommands 24 = .ok (.aload_n 0, 1) := by decide +kernel
theorem dX10_readCommands_25 : decode cX10_readCommands 25 = .ok (.getfield 31, 3) := by decide +kernel
theorem dX10_readCommands_28 : decode cX10_readCommands 28 = .ok (.iload_n 1, 1) := by decide +kernel
theorem dX10_readCommands_29 : decode cX10_readCommands 29 = .ok (.aaload, 1) := by decide +kernel
theorem dX10_readCommands_30 : decode cX10_readCommands 30 = .ok (.invokevirtual 36, 3) := by decide +kernel
theorem dX10_readCommands_33 : decode cX10_readCommands 33 = .ok (.aload_n 0, 1) := by decide +kernel
theorem dX10_readCommands_34 : decode cX10_readCommands 34 = .ok (.getfield 22, 3) := by decide +kernel
theorem dX10_readCommands_37 : decode cX10_readCommands 37 = .ok (.ifCond .eq 5, 3) := by decide +kernel
theorem dX10_readCommands_40 : decode cX10_readCommands 40 = .ok (.iconst 0, 1) := by decide +kernel
theorem dX10_readCommands_41 : decode cX10_readCommands 41 = .ok (.ireturn, 1) := by decide +kernel
theorem dX10_readCommands_42 : decode cX10_readCommands 42 = .ok (.aload_n 0, 1) := by decide +kernel
theorem dX10_readCommands_43 : decode cX10_readCommands 43 = .ok (.dup, 1) := by decide +kernel
theorem dX10_readCommands_44 : decode cX10_readCommands 44 = .ok (.getfield 26, 3) := by decide +kernel
theorem dX10_readCommands_47 : decode cX10_readCommands 47 = .ok (.iconst 1, 1) := by decide +kernel
theorem dX10_readCommands_48 : decode cX10_readCommands 48 = .ok (.iadd, 1) := by decide +kernel
theorem dX10_readCommands_49 : decode cX10_readCommands 49 = .ok (.putfield 26, 3) := by decide +kernel
theorem dX10_readCommands_52 : decode cX10_readCommands 52 = .ok (.aload_n 0, 1) := by decide +kernel
theorem dX10_readCommands_53 : decode cX10_readCommands 53 = .ok (.getfield 19, 3) := by decide +kernel
theorem dX10_readCommands_56 : decode cX10_readCommands 56 = .ok (.aload_n 0, 1) := by decide +kernel
theorem dX10_readCommands_57 : decode cX10_readCommands 57 = .ok (.getfield 9, 3) := by decide +kernel
theorem dX10_readCommands_60 : decode cX10_readCommands 60 = .ok (.if_icmp .lt 5, 3) := by decide +kernel
theorem dX10_readCommands_63 : decode cX10_readCommands 63 = .ok (.iconst 1, 1) := by decide +kernel
theorem dX10_readCommands_64 : decode cX10_readCommands 64 = .ok (.ireturn, 1) := by decide +kernel
theorem dX10_readCommands_65 : decode cX10_readCommands 65 = .ok (.aload_n 0, 1) := by decide +kernel
theorem dX10_readCommands_66 : decode cX10_readCommands 66 = .ok (.bipush 59, 2) := by decide +kernel
theorem dX10_readCommands_68 : decode cX10_readCommands 68 = .ok (.invokevirtual 40, 3) := by decide +kernel
theorem dX10_readCommands_71 : decode cX10_readCommands 71 = .ok (.iinc 1 1, 3) := by decide +kernel
theorem dX10_readCommands_74 : decode cX10_readCommands 74 = .ok (.goto (-57), 3) := by decide +kernel
theorem dX10_readCommands_77 : decode cX10_readCommands 77 = .ok (.iconst 0, 1) := by decide +kernel
theorem dX10_readCommands_78 : decode cX10_readCommands 78 = .ok (.ireturn, 1) := by decide +kernel
theorem dX10_readCommand_0 : decode cX10_readCommand 0 = .ok (.aload_n 1, 1) := by decide +kernel
theorem dX10_readCommand_1 : decode cX10_readCommand 1 = .ok (.aload_n 0, 1) := by decide +kernel
theorem dX10_readCommand_2 : decode cX10_readCommand 2 = .ok (.invokevirtual 44, 3) := by decide +kernel
theorem dX10_readCommand_5 : decode cX10_readCommand 5 = .ok (.putfield 48, 3) := by decide +kernel
theorem dX10_readCommand_8 : decode cX10_readCommand 8 = .ok (.aload_n 0, 1) := by decide +kernel
theorem dX10_readCommand_9 : decode cX10_readCommand 9 = .ok (.dup, 1) := by decide +kernel
theorem dX10_readCommand_10 : decode cX10_readCommand 10 = .ok (.getfield 19, 3) := by decide +kernel
theorem dX10_readCommand_13 : decode cX10_readCommand 13 = .ok (.iconst 1, 1) := by decide +kernel
theorem dX10_readCommand_14 : decode cX10_readCommand 14 = .ok (.iadd, 1) := by decide +kernel
theorem dX10_readCommand_15 : decode cX10_readCommand 15 = .ok (.putfield 19, 3) := by decide +kernel
theorem dX10_readCommand_18 : decode cX10_readCommand 18 = .ok (.aload_n 1, 1) := by decide +kernel
theorem dX10_readCommand_19 : decode cX10_readCommand 19 = .ok (.getfield 48, 3) := by decide +kernel
theorem dX10_readCommand_22 : decode cX10_readCommand 22 = .ok (.lookupswitch 175 #[(99, 153), (100, 164), (102, 128), (108, 89), (116, 50)], 50) := by decide +kernel
theorem dX10_readCommand_72 : decode cX10_readCommand 72 = .ok (.aload_n 1, 1) := by decide +kernel
theorem dX10_readCommand_73 : decode cX10_readCommand 73 = .ok (.aload_n 0, 1) := by decide +kernel
theorem dX10_readCommand_74 : decode cX10_readCommand 74 = .ok (.invokevirtual 51, 3) := by decide +kernel
theorem dX10_readCommand_77 : decode cX10_readCommand 77 = .ok (.putfield 54, 3) := by decide +kernel
theorem dX10_readCommand_80 : decode cX10_readCommand 80 = .ok (.aload_n 0, 1) := by decide +kernel
theorem dX10_readCommand_81 : decode cX10_readCommand 81 = .ok (.bipush 62, 2) := by decide +kernel
theorem dX10_readCommand_83 : decode cX10_readCommand 83 = .ok (.invokevirtual 40, 3) := by decide +kernel
theorem dX10_readCommand_86 : decode cX10_readCommand 86 = .ok (.aload_n 1, 1) := by decide +kernel
theorem dX10_readCommand_87 : decode cX10_readCommand 87 = .ok (.aload_n 0, 1) := by decide +kernel
theorem dX10_readCommand_88 : decode cX10_readCommand 88 = .ok (.invokevirtual 51, 3) := by decide +kernel
theorem dX10_readCommand_91 : decode cX10_readCommand 91 = .ok (.putfield 57, 3) := by decide +kernel
theorem dX10_readCommand_94 : decode cX10_readCommand 94 = .ok (.aload_n 0, 1) := by decide +kernel
theorem dX10_readCommand_95 : decode cX10_readCommand 95 = .ok (.bipush 58, 2) := by decide +kernel
theorem dX10_readCommand_97 : decode cX10_readCommand 97 = .ok (.invokevirtual 40, 3) := by decide +kernel
theorem dX10_readCommand_100 : decode cX10_readCommand 100 = .ok (.aload_n 1, 1) := by decide +kernel
theorem dX10_readCommand_101 : decode cX10_readCommand 101 = .ok (.aload_n 0, 1) := by decide +kernel
theorem dX10_readCommand_102 : decode cX10_readCommand 102 = .ok (.invokevirtual 60, 3) := by decide +kernel
theorem dX10_readCommand_105 : decode cX10_readCommand 105 = .ok (.putfield 63, 3) := by decide +kernel
theorem dX10_readCommand_108 : decode cX10_readCommand 108 = .ok (.goto 104, 3) := by decide +kernel
theorem dX10_readCommand_111 : decode cX10_readCommand 111 = .ok (.aload_n 1, 1) := by decide +kernel
theorem dX10_readCommand_112 : decode cX10_readCommand 112 = .ok (.aload_n 0, 1) := by decide +kernel
theorem dX10_readCommand_113 : decode cX10_readCommand 113 = .ok (.invokevirtual 51, 3) := by decide +kernel
theorem dX10_readCommand_116 : decode cX10_readCommand 116 = .ok (.putfield 54, 3) := by decide +kernel
theorem dX10_readCommand_119 : decode cX10_readCommand 119 = .ok (.aload_n 0, 1) := by decide +kernel
theorem dX10_readCommand_120 : decode cX10_readCommand 120 = .ok (.bipush 58, 2) := by decide +kernel
theorem dX10_readCommand_122 : decode cX10_readCommand 122 = .ok (.invokevirtual 40, 3) := by decide +kernel
theorem dX10_readCommand_125 : decode cX10_readCommand 125 = .ok (.aload_n 1, 1) := by decide +kernel
theorem dX10_readCommand_126 : decode cX10_readCommand 126 = .ok (.aload_n 0, 1) := by decide +kernel
theorem dX10_readCommand_127 : decode cX10_readCommand 127 = .ok (.invokevirtual 60, 3) := by decide +kernel
theorem dX10_readCommand_130 : decode cX10_readCommand 130 = .ok (.putfield 63, 3) := by decide +kernel
theorem dX10_readCommand_133 : decode cX10_readCommand 133 = .ok (.aload_n 0, 1) := by decide +kernel
theorem dX10_readCommand_134 : decode cX10_readCommand 134 = .ok (.bipush 47, 2) := by decide +kernel
theorem dX10_readCommand_136 : decode cX10_readCommand 136 = .ok (.invokevirtual 40, 3) := by decide +kernel
theorem dX10_readCommand_139 : decode cX10_readCommand 139 = .ok (.aload_n 1, 1) := by decide +kernel
theorem dX10_readCommand_140 : decode cX10_readCommand 140 = .ok (.aload_n 0, 1) := by decide +kernel
theorem dX10_readCommand_141 : decode cX10_readCommand 141 = .ok (.invokevirtual 51, 3) := by decide +kernel
theorem dX10_readCommand_144 : decode cX10_readCommand 144 = .ok (.putfield 57, 3) := by decide +kernel
theorem dX10_readCommand_147 : decode cX10_readCommand 147 = .ok (.goto 65, 3) := by decide +kernel
theorem dX10_readCommand_150 : decode cX10_readCommand 150 = .ok (.aload_n 1, 1) := by decide +kernel
theorem dX10_readCommand_151 : decode cX10_readCommand 151 = .ok (.aload_n 0, 1) := by decide +kernel
theorem dX10_readCommand_152 : decode cX10_readCommand 152 = .ok (.invokevirtual 51, 3) := by decide +kernel
theorem dX10_readCommand_155 : decode cX10_readCommand 155 = .ok (.putfield 54, 3) := by decide +kernel
theorem dX10_readCommand_158 : decode cX10_readCommand 158 = .ok (.aload_n 0, 1) := by decide +kernel
theorem dX10_readCommand_159 : decode cX10_readCommand 159 = .ok (.bipush 35, 2) := by decide +kernel
theorem dX10_readCommand_161 : decode cX10_readCommand 161 = .ok (.invokevirtual 40, 3) := by decide +kernel
theorem dX10_readCommand_164 : decode cX10_readCommand 164 = .ok (.aload_n 1, 1) := by decide +kernel
theorem dX10_readCommand_165 : decode cX10_readCommand 165 = .ok (.aload_n 0, 1) := by decide +kernel
theorem dX10_readCommand_166 : decode cX10_readCommand 166 = .ok (.invokevirtual 60, 3) := by decide +kernel
theorem dX10_readCommand_169 : decode cX10_readCommand 169 = .ok (.putfield 63, 3) := by decide +kernel
theorem dX10_readCommand_172 : decode cX10_readCommand 172 = .ok (.goto 40, 3) := by decide +kernel
theorem dX10_readCommand_175 : decode cX10_readCommand 175 = .ok (.aload_n 1, 1) := by decide +kernel
theorem dX10_readCommand_176 : decode cX10_readCommand 176 = .ok (.aload_n 0, 1) := by decide +kernel
theorem dX10_readCommand_177 : decode cX10_readCommand 177 = .ok (.invokevirtual 51, 3) := by decide +kernel
theorem dX10_readCommand_180 : decode cX10_readCommand 180 = .ok (.putfield 54, 3) := by decide +kernel
theorem dX10_readCommand_183 : decode cX10_readCommand 183 = .ok (.goto 29, 3) := by decide +kernel
theorem dX10_readCommand_186 : decode cX10_readCommand 186 = .ok (.aload_n 1, 1) := by decide +kernel
theorem dX10_readCommand_187 : decode cX10_readCommand 187 = .ok (.aload_n 0, 1) := by decide +kernel
theorem dX10_readCommand_188 : decode cX10_readCommand 188 = .ok (.invokevirtual 60, 3) := by decide +kernel
theorem dX10_readCommand_191 : decode cX10_readCommand 191 = .ok (.putfield 63, 3) := by decide +kernel
theorem dX10_readCommand_194 : decode cX10_readCommand 194 = .ok (.goto 18, 3) := by decide +kernel
theorem dX10_readCommand_197 : decode cX10_readCommand 197 = .ok (.aload_n 0, 1) := by decide +kernel
theorem dX10_readCommand_198 : decode cX10_readCommand 198 = .ok (.dup, 1) := by decide +kernel
theorem dX10_readCommand_199 : decode cX10_readCommand 199 = .ok (.getfield 19, 3) := by decide +kernel
theorem dX10_readCommand_202 : decode cX10_readCommand 202 = .ok (.iconst 1, 1) := by decide +kernel
theorem dX10_readCommand_203 : decode cX10_readCommand 203 = .ok (.isub, 1) := by decide +kernel
theorem dX10_readCommand_204 : decode cX10_readCommand 204 = .ok (.putfield 19, 3) := by decide +kernel
theorem dX10_readCommand_207 : decode cX10_readCommand 207 = .ok (.aload_n 0, 1) := by decide +kernel
theorem dX10_readCommand_208 : decode cX10_readCommand 208 = .ok (.iconst 1, 1) := by decide +kernel
theorem dX10_readCommand_209 : decode cX10_readCommand 209 = .ok (.putfield 22, 3) := by decide +kernel
theorem dX10_readCommand_212 : decode cX10_readCommand 212 = .ok (.return_, 1) := by decide +kernel
theorem dX10_next_0 : decode cX10_next 0 = .ok (.aload_n 0, 1) := by decide +kernel
theorem dX10_next_1 : decode cX10_next 1 = .ok (.getfield 22, 3) := by decide +kernel
theorem dX10_next_4 : decode cX10_next 4 = .ok (.ifCond .ne 30, 3) := by decide +kernel
theorem dX10_next_7 : decode cX10_next 7 = .ok (.aload_n 0, 1) := by decide +kernel
theorem dX10_next_8 : decode cX10_next 8 = .ok (.getfield 19, 3) := by decide +kernel
theorem dX10_next_11 : decode cX10_next 11 = .ok (.ifCond .lt 23, 3) := by decide +kernel
theorem dX10_next_14 : decode cX10_next 14 = .ok (.aload_n 0, 1) := by decide +kernel
theorem dX10_next_15 : decode cX10_next 15 = .ok (.getfield 19, 3) := by decide +kernel
theorem dX10_next_18 : decode cX10_next 18 = .ok (.aload_n 0, 1) := by decide +kernel
theorem dX10_next_19 : decode cX10_next 19 = .ok (.getfield 9, 3) := by decide +kernel
theorem dX10_next_22 : decode cX10_next 22 = .ok (.if_icmp .ge 12, 3) := by decide +kernel
theorem dX10_next_25 : decode cX10_next 25 = .ok (.aload_n 0, 1) := by decide +kernel
theorem dX10_next_26 : decode cX10_next 26 = .ok (.getfield 19, 3) := by decide +kernel
theorem dX10_next_29 : decode cX10_next 29 = .ok (.bipush 60, 2) := by decide +kernel
theorem dX10_next_31 : decode cX10_next 31 = .ok (.if_icmp .lt 8, 3) := by decide +kernel
theorem dX10_next_34 : decode cX10_next 34 = .ok (.bipush (-5), 2) := by decide +kernel
theorem dX10_next_36 : decode cX10_next 36 = .ok (.goto 12, 3) := by decide +kernel
theorem dX10_next_39 : decode cX10_next 39 = .ok (.aload_n 0, 1) := by decide +kernel
theorem dX10_next_40 : decode cX10_next 40 = .ok (.getfield 15, 3) := by decide +kernel
theorem dX10_next_43 : decode cX10_next 43 = .ok (.aload_n 0, 1) := by decide +kernel
theorem dX10_next_44 : decode cX10_next 44 = .ok (.getfield 19, 3) := by decide +kernel
theorem dX10_next_47 : decode cX10_next 47 = .ok (.iaload, 1) := by decide +kernel
theorem dX10_next_48 : decode cX10_next 48 = .ok (.ireturn, 1) := by decide +kernel
theorem dX10_digitNext_0 : decode cX10_digitNext 0 = .ok (.aload_n 0, 1) := by decide +kernel
theorem dX10_digitNext_1 : decode cX10_digitNext 1 = .ok (.invokevirtual 44, 3) := by decide +kernel
theorem dX10_digitNext_4 : decode cX10_digitNext 4 = .ok (.bipush 48, 2) := by decide +kernel
theorem dX10_digitNext_6 : decode cX10_digitNext 6 = .ok (.if_icmp .lt 16, 3) := by decide +kernel
theorem dX10_digitNext_9 : decode cX10_digitNext 9 = .ok (.aload_n 0, 1) := by decide +kernel
theorem dX10_digitNext_10 : decode cX10_digitNext 10 = .ok (.invokevirtual 44, 3) := by decide +kernel
theorem dX10_digitNext_13 : decode cX10_digitNext 13 = .ok (.bipush 57, 2) := by decide +kernel
theorem dX10_digitNext_15 : decode cX10_digitNext 15 = .ok (.if_icmp .gt 7, 3) := by decide +kernel
theorem dX10_digitNext_18 : decode cX10_digitNext 18 = .ok (.iconst 1, 1) := by decide +kernel
theorem dX10_digitNext_19 : decode cX10_digitNext 19 = .ok (.goto 4, 3) := by decide +kernel
theorem dX10_digitNext_22 : decode cX10_digitNext 22 = .ok (.iconst 0, 1) := by decide +kernel
theorem dX10_digitNext_23 : decode cX10_digitNext 23 = .ok (.ireturn, 1) := by decide +kernel
theorem dX10_readSign_0 : decode cX10_readSign 0 = .ok (.aload_n 0, 1) := by decide +kernel
theorem dX10_readSign_1 : decode cX10_readSign 1 = .ok (.invokevirtual 44, 3) := by decide +kernel
theorem dX10_readSign_4 : decode cX10_readSign 4 = .ok (.iload_n 1, 1) := by decide +kernel
theorem dX10_readSign_5 : decode cX10_readSign 5 = .ok (.if_icmp .ne 16, 3) := by decide +kernel
theorem dX10_readSign_8 : decode cX10_readSign 8 = .ok (.aload_n 0, 1) := by decide +kernel
theorem dX10_readSign_9 : decode cX10_readSign 9 = .ok (.dup, 1) := by decide +kernel
theorem dX10_readSign_10 : decode cX10_readSign 10 = .ok (.getfield 19, 3) := by decide +kernel
theorem dX10_readSign_13 : decode cX10_readSign 13 = .ok (.iconst 1, 1) := by decide +kernel
theorem dX10_readSign_14 : decode cX10_readSign 14 = .ok (.iadd, 1) := by decide +kernel
theorem dX10_readSign_15 : decode cX10_readSign 15 = .ok (.putfield 19, 3) := by decide +kernel
theorem dX10_readSign_18 : decode cX10_readSign 18 = .ok (.goto 8, 3) := by decide +kernel
theorem dX10_readSign_21 : decode cX10_readSign 21 = .ok (.aload_n 0, 1) := by decide +kernel
theorem dX10_readSign_22 : decode cX10_readSign 22 = .ok (.iconst 1, 1) := by decide +kernel
theorem dX10_readSign_23 : decode cX10_readSign 23 = .ok (.putfield 22, 3) := by decide +kernel
theorem dX10_readSign_26 : decode cX10_readSign 26 = .ok (.return_, 1) := by decide +kernel
theorem dX10_readDigit_0 : decode cX10_readDigit 0 = .ok (.aload_n 0, 1) := by decide +kernel
theorem dX10_readDigit_1 : decode cX10_readDigit 1 = .ok (.invokevirtual 66, 3) := by decide +kernel
theorem dX10_readDigit_4 : decode cX10_readDigit 4 = .ok (.ifCond .ne 10, 3) := by decide +kernel
theorem dX10_readDigit_7 : decode cX10_readDigit 7 = .ok (.aload_n 0, 1) := by decide +kernel
theorem dX10_readDigit_8 : decode cX10_readDigit 8 = .ok (.iconst 1, 1) := by decide +kernel
theorem dX10_readDigit_9 : decode cX10_readDigit 9 = .ok (.putfield 22, 3) := by decide +kernel
theorem dX10_readDigit_12 : decode cX10_readDigit 12 = .ok (.iconst 0, 1) := by decide +kernel
theorem dX10_readDigit_13 : decode cX10_readDigit 13 = .ok (.ireturn, 1) := by decide +kernel
theorem dX10_readDigit_14 : decode cX10_readDigit 14 = .ok (.aload_n 0, 1) := by decide +kernel
theorem dX10_readDigit_15 : decode cX10_readDigit 15 = .ok (.invokevirtual 44, 3) := by decide +kernel
theorem dX10_readDigit_18 : decode cX10_readDigit 18 = .ok (.bipush 48, 2) := by decide +kernel
theorem dX10_readDigit_20 : decode cX10_readDigit 20 = .ok (.isub, 1) := by decide +kernel
theorem dX10_readDigit_21 : decode cX10_readDigit 21 = .ok (.istore_n 1, 1) := by decide +kernel
theorem dX10_readDigit_22 : decode cX10_readDigit 22 = .ok (.aload_n 0, 1) := by decide +kernel
theorem dX10_readDigit_23 : decode cX10_readDigit 23 = .ok (.dup, 1) := by decide +kernel
theorem dX10_readDigit_24 : decode cX10_readDigit 24 = .ok (.getfield 19, 3) := by decide +kernel
theorem dX10_readDigit_27 : decode cX10_readDigit 27 = .ok (.iconst 1, 1) := by decide +kernel
theorem dX10_readDigit_28 : decode cX10_readDigit 28 = .ok (.iadd, 1) := by decide +kernel
theorem dX10_readDigit_29 : decode cX10_readDigit 29 = .ok (.putfield 19, 3) := by decide +kernel
theorem dX10_readDigit_32 : decode cX10_readDigit 32 = .ok (.iload_n 1, 1) := by decide +kernel
theorem dX10_readDigit_33 : decode cX10_readDigit 33 = .ok (.ireturn, 1) := by decide +kernel
theorem dX10_readNumber_0 : decode cX10_readNumber 0 = .ok (.aload_n 0, 1) := by decide +kernel
theorem dX10_readNumber_1 : decode cX10_readNumber 1 = .ok (.invokevirtual 51, 3) := by decide +kernel
theorem dX10_readNumber_4 : decode cX10_readNumber 4 = .ok (.istore_n 1, 1) := by decide +kernel
theorem dX10_readNumber_5 : decode cX10_readNumber 5 = .ok (.iconst 1, 1) := by decide +kernel
theorem dX10_readNumber_6 : decode cX10_readNumber 6 = .ok (.istore_n 2, 1) := by decide +kernel
theorem dX10_readNumber_7 : decode cX10_readNumber 7 = .ok (.iload_n 2, 1) := by decide +kernel
theorem dX10_readNumber_8 : decode cX10_readNumber 8 = .ok (.iconst 4, 1) := by decide +kernel
theorem dX10_readNumber_9 : decode cX10_readNumber 9 = .ok (.if_icmp .ge 26, 3) := by decide +kernel
theorem dX10_readNumber_12 : decode cX10_readNumber 12 = .ok (.aload_n 0, 1) := by decide +kernel
theorem dX10_readNumber_13 : decode cX10_readNumber 13 = .ok (.invokevirtual 66, 3) := by decide +kernel
theorem dX10_readNumber_16 : decode cX10_readNumber 16 = .ok (.ifCond .eq 19, 3) := by decide +kernel
theorem dX10_readNumber_19 : decode cX10_readNumber 19 = .ok (.iload_n 1, 1) := by decide +kernel
theorem dX10_readNumber_20 : decode cX10_readNumber 20 = .ok (.bipush 10, 2) := by decide +kernel
theorem dX10_readNumber_22 : decode cX10_readNumber 22 = .ok (.imul, 1) := by decide +kernel
theorem dX10_readNumber_23 : decode cX10_readNumber 23 = .ok (.aload_n 0, 1) := by decide +kernel
theorem dX10_readNumber_24 : decode cX10_readNumber 24 = .ok (.invokevirtual 51, 3) := by decide +kernel
theorem dX10_readNumber_27 : decode cX10_readNumber 27 = .ok (.iadd, 1) := by decide +kernel
theorem dX10_readNumber_28 : decode cX10_readNumber 28 = .ok (.istore_n 1, 1) := by decide +kernel
theorem dX10_readNumber_29 : decode cX10_readNumber 29 = .ok (.iinc 2 1, 3) := by decide +kernel
theorem dX10_readNumber_32 : decode cX10_readNumber 32 = .ok (.goto (-25), 3) := by decide +kernel
theorem dX10_readNumber_35 : decode cX10_readNumber 35 = .ok (.iload_n 1, 1) := by decide +kernel
theorem dX10_readNumber_36 : decode cX10_readNumber 36 = .ok (.ireturn, 1) := by decide +kernel
theorem dX11_init_0 : decode cX11_init 0 = .ok (.aload_n 0, 1) := by decide +kernel
theorem dX11_init_1 : decode cX11_init 1 = .ok (.invokespecial 1, 3) := by decide +kernel
theorem dX11_init_4 : decode cX11_init 4 = .ok (.aload_n 0, 1) := by decide +kernel
theorem dX11_init_5 : decode cX11_init 5 = .ok (.new 7, 3) := by decide +kernel
theorem dX11_init_8 : decode cX11_init 8 = .ok (.dup, 1) := by decide +kernel
theorem dX11_init_9 : decode cX11_init 9 = .ok (.invokespecial 9, 3) := by decide +kernel
theorem dX11_init_12 : decode cX11_init 12 = .ok (.putfield 10, 3) := by decide +kernel
theorem dX11_init_15 : decode cX11_init 15 = .ok (.aload_n 0, 1) := by decide +kernel
theorem dX11_init_16 : decode cX11_init 16 = .ok (.bipush 7, 2) := by decide +kernel
theorem dX11_init_18 : decode cX11_init 18 = .ok (.anewarray 7, 3) := by decide +kernel
theorem dX11_init_21 : decode cX11_init 21 = .ok (.putfield 16, 3) := by decide +kernel
theorem dX11_init_24 : decode cX11_init 24 = .ok (.aload_n 0, 1) := by decide +kernel
theorem dX11_init_25 : decode cX11_init 25 = .ok (.iconst 0, 1) := by decide +kernel
theorem dX11_init_26 : decode cX11_init 26 = .ok (.putfield 20, 3) := by decide +kernel
theorem dX11_init_29 : decode cX11_init 29 = .ok (.aload_n 0, 1) := by decide +kernel
theorem dX11_init_30 : decode cX11_init 30 = .ok (.new 7, 3) := by decide +kernel
theorem dX11_init_33 : decode cX11_init 33 = .ok (.dup, 1) := by decide +kernel
theorem dX11_init_34 : decode cX11_init 34 = .ok (.invokespecial 9, 3) := by decide +kernel
theorem dX11_init_37 : decode cX11_init 37 = .ok (.putfield 24, 3) := by decide +kernel
theorem dX11_init_40 : decode cX11_init 40 = .ok (.aload_n 0, 1) := by decide +kernel
theorem dX11_init_41 : decode cX11_init 41 = .ok (.iconst 0, 1) := by decide +kernel
theorem dX11_init_42 : decode cX11_init 42 = .ok (.putfield 27, 3) := by decide +kernel
theorem dX11_init_45 : decode cX11_init 45 = .ok (.aload_n 0, 1) := by decide +kernel
theorem dX11_init_46 : decode cX11_init 46 = .ok (.new 31, 3) := by decide +kernel
theorem dX11_init_49 : decode cX11_init 49 = .ok (.dup, 1) := by decide +kernel
theorem dX11_init_50 : decode cX11_init 50 = .ok (.invokespecial 33, 3) := by decide +kernel
theorem dX11_init_53 : decode cX11_init 53 = .ok (.putfield 34, 3) := by decide +kernel
theorem dX11_init_56 : decode cX11_init 56 = .ok (.aload_n 0, 1) := by decide +kernel
theorem dX11_init_57 : decode cX11_init 57 = .ok (.new 38, 3) := by decide +kernel
theorem dX11_init_60 : decode cX11_init 60 = .ok (.dup, 1) := by decide +kernel
theorem dX11_init_61 : decode cX11_init 61 = .ok (.invokespecial 40, 3) := by decide +kernel
theorem dX11_init_64 : decode cX11_init 64 = .ok (.putfield 41, 3) := by decide +kernel
theorem dX11_init_67 : decode cX11_init 67 = .ok (.aload_n 0, 1) := by decide +kernel
theorem dX11_init_68 : decode cX11_init 68 = .ok (.new 45, 3) := by decide +kernel
theorem dX11_init_71 : decode cX11_init 71 = .ok (.dup, 1) := by decide +kernel
theorem dX11_init_72 : decode cX11_init 72 = .ok (.invokespecial 47, 3) := by decide +kernel
theorem dX11_init_75 : decode cX11_init 75 = .ok (.putfield 48, 3) := by decide +kernel
theorem dX11_init_78 : decode cX11_init 78 = .ok (.aload_n 0, 1) := by decide +kernel
theorem dX11_init_79 : decode cX11_init 79 = .ok (.new 52, 3) := by decide +kernel
theorem dX11_init_82 : decode cX11_init 82 = .ok (.dup, 1) := by decide +kernel
theorem dX11_init_83 : decode cX11_init 83 = .ok (.invokespecial 54, 3) := by decide +kernel
theorem dX11_init_86 : decode cX11_init 86 = .ok (.putfield 55, 3) := by decide +kernel
theorem dX11_init_89 : decode cX11_init 89 = .ok (.aload_n 0, 1) := by decide +kernel
theorem dX11_init_90 : decode cX11_init 90 = .ok (.new 52, 3) := by decide +kernel
theorem dX11_init_93 : decode cX11_init 93 = .ok (.dup, 1) := by decide +kernel
theorem dX11_init_94 : decode cX11_init 94 = .ok (.invokespecial 54, 3) := by decide +kernel
theorem dX11_init_97 : decode cX11_init 97 = .ok (.putfield 59, 3) := by decide +kernel
theorem dX11_init_100 : decode cX11_init 100 = .ok (.aload_n 0, 1) := by decide +kernel
theorem dX11_init_101 : decode cX11_init 101 = .ok (.bipush (-5), 2) := by decide +kernel
theorem dX11_init_103 : decode cX11_init 103 = .ok (.putfield 62, 3) := by decide +kernel
theorem dX11_init_106 : decode cX11_init 106 = .ok (.iconst 0, 1) := by decide +kernel
theorem dX11_init_107 : decode cX11_init 107 = .ok (.istore_n 1, 1) := by decide +kernel
theorem dX11_init_108 : decode cX11_init 108 = .ok (.iload_n 1, 1) := by decide +kernel
theorem dX11_init_109 : decode cX11_init 109 = .ok (.bipush 6, 2) := by decide +kernel
theorem dX11_init_111 : decode cX11_init 111 = .ok (.if_icmp .gt 22, 3) := by decide +kernel
theorem dX11_init_114 : decode cX11_init 114 = .ok (.aload_n 0, 1) := by decide +kernel
theorem dX11_init_115 : decode cX11_init 115 = .ok (.getfield 16, 3) := by decide +kernel
theorem dX11_init_118 : decode cX11_init 118 = .ok (.iload_n 1, 1) := by decide +kernel
theorem dX11_init_119 : decode cX11_init 119 = .ok (.new 7, 3) := by decide +kernel
theorem dX11_init_122 : decode cX11_init 122 = .ok (.dup, 1) := by decide +kernel
theorem dX11_init_123 : decode cX11_init 123 = .ok (.invokespecial 9, 3) := by decide +kernel
theorem dX11_init_126 : decode cX11_init 126 = .ok (.aastore, 1) := by decide +kernel
theorem dX11_init_127 : decode cX11_init 127 = .ok (.iinc 1 1, 3) := by decide +kernel
theorem dX11_init_130 : decode cX11_init 130 = .ok (.goto (-22), 3) := by decide +kernel
theorem dX11_init_133 : decode cX11_init 133 = .ok (.return_, 1) := by decide +kernel
theorem dX11_size_0 : decode cX11_size 0 = .ok (.aload_n 0, 1) := by decide +kernel
theorem dX11_size_1 : decode cX11_size 1 = .ok (.getfield 10, 3) := by decide +kernel
theorem dX11_size_4 : decode cX11_size 4 = .ok (.iload_n 1, 1) := by decide +kernel
theorem dX11_size_5 : decode cX11_size 5 = .ok (.invokevirtual 65, 3) := by decide +kernel
theorem dX11_size_8 : decode cX11_size 8 = .ok (.astore_n 3, 1) := by decide +kernel
theorem dX11_size_9 : decode cX11_size 9 = .ok (.aload_n 3, 1) := by decide +kernel
theorem dX11_size_10 : decode cX11_size 10 = .ok (.ifnonnull 5, 3) := by decide +kernel
theorem dX11_size_13 : decode cX11_size 13 = .ok (.iconst (-1), 1) := by decide +kernel
theorem dX11_size_14 : decode cX11_size 14 = .ok (.ireturn, 1) := by decide +kernel
theorem dX11_size_15 : decode cX11_size 15 = .ok (.iload_n 2, 1) := by decide +kernel
theorem dX11_size_16 : decode cX11_size 16 = .ok (.iconst 1, 1) := by decide +kernel
theorem dX11_size_17 : decode cX11_size 17 = .ok (.sipush 9999, 3) := by decide +kernel
theorem dX11_size_20 : decode cX11_size 20 = .ok (.invokestatic 69, 3) := by decide +kernel
theorem dX11_size_23 : decode cX11_size 23 = .ok (.ifCond .eq 6, 3) := by decide +kernel
theorem dX11_size_26 : decode cX11_size 26 = .ok (.bipush (-2), 2) := by decide +kernel
theorem dX11_size_28 : decode cX11_size 28 = .ok (.ireturn, 1) := by decide +kernel
theorem dX11_size_29 : decode cX11_size 29 = .ok (.aload_n 3, 1) := by decide +kernel
theorem dX11_size_30 : decode cX11_size 30 = .ok (.getfield 73, 3) := by decide +kernel
theorem dX11_size_33 : decode cX11_size 33 = .ok (.invokevirtual 79, 3) := by decide +kernel
theorem dX11_size_36 : decode cX11_size 36 = .ok (.iload_n 2, 1) := by decide +kernel
theorem dX11_size_37 : decode cX11_size 37 = .ok (.if_icmp .le 9, 3) := by decide +kernel
theorem dX11_size_40 : decode cX11_size 40 = .ok (.aload_n 0, 1) := by decide +kernel
theorem dX11_size_41 : decode cX11_size 41 = .ok (.iconst 4, 1) := by decide +kernel
theorem dX11_size_42 : decode cX11_size 42 = .ok (.invokevirtual 85, 3) := by decide +kernel
theorem dX11_size_45 : decode cX11_size 45 = .ok (.ireturn, 1) := by decide +kernel
theorem dX11_size_46 : decode cX11_size 46 = .ok (.aload_n 0, 1) := by decide +kernel
theorem dX11_size_47 : decode cX11_size 47 = .ok (.invokevirtual 89, 3) := by decide +kernel
theorem dX11_size_50 : decode cX11_size 50 = .ok (.aload_n 3, 1) := by decide +kernel
theorem dX11_size_51 : decode cX11_size 51 = .ok (.getfield 92, 3) := by decide +kernel
theorem dX11_size_54 : decode cX11_size 54 = .ok (.istore 4, 2) := by decide +kernel
theorem dX11_size_56 : decode cX11_size 56 = .ok (.aload_n 3, 1) := by decide +kernel
theorem dX11_size_57 : decode cX11_size 57 = .ok (.iload_n 2, 1) := by decide +kernel
theorem dX11_size_58 : decode cX11_size 58 = .ok (.putfield 92, 3) := by decide +kernel
theorem dX11_size_61 : decode cX11_size 61 = .ok (.aload_n 0, 1) := by decide +kernel
theorem dX11_size_62 : decode cX11_size 62 = .ok (.iload 4, 2) := by decide +kernel
theorem dX11_size_64 : decode cX11_size 64 = .ok (.invokevirtual 95, 3) := by decide +kernel
theorem dX11_size_67 : decode cX11_size 67 = .ok (.ireturn, 1) := by decide +kernel
theorem dX11_brew_0 : decode cX11_brew 0 = .ok (.aload_n 0, 1) := by decide +kernel
theorem dX11_brew_1 : decode cX11_brew 1 = .ok (.getfield 10, 3) := by decide +kernel
theorem dX11_brew_4 : decode cX11_brew 4 = .ok (.iload_n 1, 1) := by decide +kernel
theorem dX11_brew_5 : decode cX11_brew 5 = .ok (.invokevirtual 65, 3) := by decide +kernel
theorem dX11_brew_8 : decode cX11_brew 8 = .ok (.astore 4, 2) := by decide +kernel
theorem dX11_brew_10 : decode cX11_brew 10 = .ok (.aload 4, 2) := by decide +kernel
theorem dX11_brew_12 : decode cX11_brew 12 = .ok (.ifnonnull 5, 3) := by decide +kernel
theorem dX11_brew_15 : decode cX11_brew 15 = .ok (.iconst (-1), 1) := by decide +kernel
theorem dX11_brew_16 : decode cX11_brew 16 = .ok (.ireturn, 1) := by decide +kernel
theorem dX11_brew_17 : decode cX11_brew 17 = .ok (.iload_n 2, 1) := by decide +kernel
theorem dX11_brew_18 : decode cX11_brew 18 = .ok (.iconst 1, 1) := by decide +kernel
theorem dX11_brew_19 : decode cX11_brew 19 = .ok (.sipush 9999, 3) := by decide +kernel
theorem dX11_brew_22 : decode cX11_brew 22 = .ok (.invokestatic 69, 3) := by decide +kernel
theorem dX11_brew_25 : decode cX11_brew 25 = .ok (.ifCond .ne 14, 3) := by decide +kernel
theorem dX11_brew_28 : decode cX11_brew 28 = .ok (.iload_n 3, 1) := by decide +kernel
theorem dX11_brew_29 : decode cX11_brew 29 = .ok (.iconst 0, 1) := by decide +kernel
theorem dX11_brew_30 : decode cX11_brew 30 = .ok (.sipush 2000, 3) := by decide +kernel
theorem dX11_brew_33 : decode cX11_brew 33 = .ok (.invokestatic 69, 3) := by decide +kernel
theorem dX11_brew_36 : decode cX11_brew 36 = .ok (.ifCond .eq 6, 3) := by decide +kernel
theorem dX11_brew_39 : decode cX11_brew 39 = .ok (.bipush (-2), 2) := by decide +kernel
theorem dX11_brew_41 : decode cX11_brew 41 = .ok (.ireturn, 1) := by decide +kernel
theorem dX11_brew_42 : decode cX11_brew 42 = .ok (.aload_n 0, 1) := by decide +kernel
theorem dX11_brew_43 : decode cX11_brew 43 = .ok (.getfield 10, 3) := by decide +kernel
theorem dX11_brew_46 : decode cX11_brew 46 = .ok (.getfield 98, 3) := by decide +kernel
theorem dX11_brew_49 : decode cX11_brew 49 = .ok (.bipush 16, 2) := by decide +kernel
theorem dX11_brew_51 : decode cX11_brew 51 = .ok (.if_icmp .lt 6, 3) := by decide +kernel
theorem dX11_brew_54 : decode cX11_brew 54 = .ok (.bipush (-4), 2) := by decide +kernel
theorem dX11_brew_56 : decode cX11_brew 56 = .ok (.ireturn, 1) := by decide +kernel
theorem dX11_brew_57 : decode cX11_brew 57 = .ok (.aload 4, 2) := by decide +kernel
theorem dX11_brew_59 : decode cX11_brew 59 = .ok (.getfield 101, 3) := by decide +kernel
theorem dX11_brew_62 : decode cX11_brew 62 = .ok (.ifCond .eq 9, 3) := by decide +kernel
theorem dX11_brew_65 : decode cX11_brew 65 = .ok (.aload_n 0, 1) := by decide +kernel
theorem dX11_brew_66 : decode cX11_brew 66 = .ok (.iconst 2, 1) := by decide +kernel
theorem dX11_brew_67 : decode cX11_brew 67 = .ok (.invokevirtual 85, 3) := by decide +kernel
theorem dX11_brew_70 : decode cX11_brew 70 = .ok (.ireturn, 1) := by decide +kernel
theorem dX11_brew_71 : decode cX11_brew 71 = .ok (.iload_n 2, 1) := by decide +kernel
theorem dX11_brew_72 : decode cX11_brew 72 = .ok (.aload 4, 2) := by decide +kernel
theorem dX11_brew_74 : decode cX11_brew 74 = .ok (.invokevirtual 104, 3) := by decide +kernel
theorem dX11_brew_77 : decode cX11_brew 77 = .ok (.if_icmp .le 9, 3) := by decide +kernel
theorem dX11_brew_80 : decode cX11_brew 80 = .ok (.aload_n 0, 1) := by decide +kernel
theorem dX11_brew_81 : decode cX11_brew 81 = .ok (.iconst 4, 1) := by decide +kernel
theorem dX11_brew_82 : decode cX11_brew 82 = .ok (.invokevirtual 85, 3) := by decide +kernel
theorem dX11_brew_85 : decode cX11_brew 85 = .ok (.ireturn, 1) := by decide +kernel
theorem dX11_brew_86 : decode cX11_brew 86 = .ok (.aload_n 0, 1) := by decide +kernel
theorem dX11_brew_87 : decode cX11_brew 87 = .ok (.invokevirtual 89, 3) := by decide +kernel
theorem dX11_brew_90 : decode cX11_brew 90 = .ok (.aload_n 0, 1) := by decide +kernel
theorem dX11_brew_91 : decode cX11_brew 91 = .ok (.getfield 10, 3) := by decide +kernel
theorem dX11_brew_94 : decode cX11_brew 94 = .ok (.iload_n 2, 1) := by decide +kernel
theorem dX11_brew_95 : decode cX11_brew 95 = .ok (.iload_n 3, 1) := by decide +kernel
theorem dX11_brew_96 : decode cX11_brew 96 = .ok (.invokevirtual 107, 3) := by decide +kernel
theorem dX11_brew_99 : decode cX11_brew 99 = .ok (.istore 5, 2) := by decide +kernel
theorem dX11_brew_101 : decode cX11_brew 101 = .ok (.aload 4, 2) := by decide +kernel
theorem dX11_brew_103 : decode cX11_brew 103 = .ok (.getfield 73, 3) := by decide +kernel
theorem dX11_brew_106 : decode cX11_brew 106 = .ok (.getfield 111, 3) := by decide +kernel
theorem dX11_brew_109 : decode cX11_brew 109 = .ok (.iload 5, 2) := by decide +kernel
theorem dX11_brew_111 : decode cX11_brew 111 = .ok (.iload_n 2, 1) := by decide +kernel
theorem dX11_brew_112 : decode cX11_brew 112 = .ok (.iastore, 1) := by decide +kernel
theorem dX11_brew_113 : decode cX11_brew 113 = .ok (.aload 4, 2) := by decide +kernel
theorem dX11_brew_115 : decode cX11_brew 115 = .ok (.iconst 1, 1) := by decide +kernel
theorem dX11_brew_116 : decode cX11_brew 116 = .ok (.putfield 101, 3) := by decide +kernel
theorem dX11_brew_119 : decode cX11_brew 119 = .ok (.aload_n 0, 1) := by decide +kernel
theorem dX11_brew_120 : decode cX11_brew 120 = .ok (.getfield 10, 3) := by decide +kernel
theorem dX11_brew_123 : decode cX11_brew 123 = .ok (.iconst 0, 1) := by decide +kernel
theorem dX11_brew_124 : decode cX11_brew 124 = .ok (.iload_n 1, 1) := by decide +kernel
theorem dX11_brew_125 : decode cX11_brew 125 = .ok (.iload_n 2, 1) := by decide +kernel
theorem dX11_brew_126 : decode cX11_brew 126 = .ok (.invokevirtual 115, 3) := by decide +kernel
theorem dX11_brew_129 : decode cX11_brew 129 = .ok (.aload_n 0, 1) := by decide +kernel
theorem dX11_brew_130 : decode cX11_brew 130 = .ok (.iload 5, 2) := by decide +kernel
theorem dX11_brew_132 : decode cX11_brew 132 = .ok (.invokevirtual 95, 3) := by decide +kernel
theorem dX11_brew_135 : decode cX11_brew 135 = .ok (.ireturn, 1) := by decide +kernel
theorem dX11_transfer_0 : decode cX11_transfer 0 = .ok (.aload_n 0, 1) := by decide +kernel
theorem dX11_transfer_1 : decode cX11_transfer 1 = .ok (.invokevirtual 89, 3) := by decide +kernel
theorem dX11_transfer_4 : decode cX11_transfer 4 = .ok (.aload_n 0, 1) := by decide +kernel
theorem dX11_transfer_5 : decode cX11_transfer 5 = .ok (.aload_n 0, 1) := by decide +kernel
theorem dX11_transfer_6 : decode cX11_transfer 6 = .ok (.iload_n 1, 1) := by decide +kernel
theorem dX11_transfer_7 : decode cX11_transfer 7 = .ok (.iload_n 2, 1) := by decide +kernel
theorem dX11_transfer_8 : decode cX11_transfer 8 = .ok (.iload_n 3, 1) := by decide +kernel
theorem dX11_transfer_9 : decode cX11_transfer 9 = .ok (.invokevirtual 119, 3) := by decide +kernel
theorem dX11_transfer_12 : decode cX11_transfer 12 = .ok (.invokevirtual 123, 3) := by decide +kernel
theorem dX11_transfer_15 : decode cX11_transfer 15 = .ok (.ireturn, 1) := by decide +kernel
theorem dX11_lose_0 : decode cX11_lose 0 = .ok (.aload_n 0, 1) := by decide +kernel
theorem dX11_lose_1 : decode cX11_lose 1 = .ok (.invokevirtual 89, 3) := by decide +kernel
theorem dX11_lose_4 : decode cX11_lose 4 = .ok (.aload_n 0, 1) := by decide +kernel
theorem dX11_lose_5 : decode cX11_lose 5 = .ok (.aload_n 0, 1) := by decide +kernel
theorem dX11_lose_6 : decode cX11_lose 6 = .ok (.iload_n 1, 1) := by decide +kernel
theorem dX11_lose_7 : decode cX11_lose 7 = .ok (.iload_n 2, 1) := by decide +kernel
theorem dX11_lose_8 : decode cX11_lose 8 = .ok (.iload_n 3, 1) := by decide +kernel
theorem dX11_lose_9 : decode cX11_lose 9 = .ok (.invokevirtual 126, 3) := by decide +kernel
theorem dX11_lose_12 : decode cX11_lose 12 = .ok (.invokevirtual 123, 3) := by decide +kernel
theorem dX11_lose_15 : decode cX11_lose 15 = .ok (.ireturn, 1) := by decide +kernel
theorem dX11_setLoss_0 : decode cX11_setLoss 0 = .ok (.iload_n 1, 1) := by decide +kernel
theorem dX11_setLoss_1 : decode cX11_setLoss 1 = .ok (.iconst 0, 1) := by decide +kernel
theorem dX11_setLoss_2 : decode cX11_setLoss 2 = .ok (.bipush 100, 2) := by decide +kernel
theorem dX11_setLoss_4 : decode cX11_setLoss 4 = .ok (.invokestatic 69, 3) := by decide +kernel
theorem dX11_setLoss_7 : decode cX11_setLoss 7 = .ok (.ifCond .eq 6, 3) := by decide +kernel
theorem dX11_setLoss_10 : decode cX11_setLoss 10 = .ok (.bipush (-2), 2) := by decide +kernel
theorem dX11_setLoss_12 : decode cX11_setLoss 12 = .ok (.ireturn, 1) := by decide +kernel
theorem dX11_setLoss_13 : decode cX11_setLoss 13 = .ok (.aload_n 0, 1) := by decide +kernel
theorem dX11_setLoss_14 : decode cX11_setLoss 14 = .ok (.invokevirtual 89, 3) := by decide +kernel
theorem dX11_setLoss_17 : decode cX11_setLoss 17 = .ok (.aload_n 0, 1) := by decide +kernel
theorem dX11_setLoss_18 : decode cX11_setLoss 18 = .ok (.getfield 10, 3) := by decide +kernel
theorem dX11_setLoss_21 : decode cX11_setLoss 21 = .ok (.getfield 129, 3) := by decide +kernel
theorem dX11_setLoss_24 : decode cX11_setLoss 24 = .ok (.istore_n 2, 1) := by decide +kernel
theorem dX11_setLoss_25 : decode cX11_setLoss 25 = .ok (.aload_n 0, 1) := by decide +kernel
theorem dX11_setLoss_26 : decode cX11_setLoss 26 = .ok (.getfield 10, 3) := by decide +kernel
theorem dX11_setLoss_29 : decode cX11_setLoss 29 = .ok (.iload_n 1, 1) := by decide +kernel
theorem dX11_setLoss_30 : decode cX11_setLoss 30 = .ok (.putfield 129, 3) := by decide +kernel
theorem dX11_setLoss_33 : decode cX11_setLoss 33 = .ok (.aload_n 0, 1) := by decide +kernel
theorem dX11_setLoss_34 : decode cX11_setLoss 34 = .ok (.iload_n 2, 1) := by decide +kernel
theorem dX11_setLoss_35 : decode cX11_setLoss 35 = .ok (.invokevirtual 95, 3) := by decide +kernel
theorem dX11_setLoss_38 : decode cX11_setLoss 38 = .ok (.ireturn, 1) := by decide +kernel
theorem dX11_rate_0 : decode cX11_rate 0 = .ok (.iload_n 1, 1) := by decide +kernel
theorem dX11_rate_1 : decode cX11_rate 1 = .ok (.iconst 0, 1) := by decide +kernel
theorem dX11_rate_2 : decode cX11_rate 2 = .ok (.sipush 9999, 3) := by decide +kernel
theorem dX11_rate_5 : decode cX11_rate 5 = .ok (.invokestatic 69, 3) := by decide +kernel
theorem dX11_rate_8 : decode cX11_rate 8 = .ok (.ifCond .ne 25, 3) := by decide +kernel
theorem dX11_rate_11 : decode cX11_rate 11 = .ok (.iload_n 2, 1) := by decide +kernel
theorem dX11_rate_12 : decode cX11_rate 12 = .ok (.iconst 0, 1) := by decide +kernel
theorem dX11_rate_13 : decode cX11_rate 13 = .ok (.sipush 2000, 3) := by decide +kernel
theorem dX11_rate_16 : decode cX11_rate 16 = .ok (.invokestatic 69, 3) := by decide +kernel
theorem dX11_rate_19 : decode cX11_rate 19 = .ok (.ifCond .ne 14, 3) := by decide +kernel
theorem dX11_rate_22 : decode cX11_rate 22 = .ok (.iload_n 3, 1) := by decide +kernel
theorem dX11_rate_23 : decode cX11_rate 23 = .ok (.iconst 0, 1) := by decide +kernel
theorem dX11_rate_24 : decode cX11_rate 24 = .ok (.sipush 9999, 3) := by decide +kernel
theorem dX11_rate_27 : decode cX11_rate 27 = .ok (.invokestatic 69, 3) := by decide +kernel
theorem dX11_rate_30 : decode cX11_rate 30 = .ok (.ifCond .eq 6, 3) := by decide +kernel
theorem dX11_rate_33 : decode cX11_rate 33 = .ok (.bipush (-2), 2) := by decide +kernel
theorem dX11_rate_35 : decode cX11_rate 35 = .ok (.ireturn, 1) := by decide +kernel
theorem dX11_rate_36 : decode cX11_rate 36 = .ok (.aload_n 0, 1) := by decide +kernel
theorem dX11_rate_37 : decode cX11_rate 37 = .ok (.getfield 10, 3) := by decide +kernel
theorem dX11_rate_40 : decode cX11_rate 40 = .ok (.getfield 132, 3) := by decide +kernel
theorem dX11_rate_43 : decode cX11_rate 43 = .ok (.bipush 10, 2) := by decide +kernel
theorem dX11_rate_45 : decode cX11_rate 45 = .ok (.if_icmp .lt 6, 3) := by decide +kernel
theorem dX11_rate_48 : decode cX11_rate 48 = .ok (.bipush (-4), 2) := by decide +kernel
theorem dX11_rate_50 : decode cX11_rate 50 = .ok (.ireturn, 1) := by decide +kernel
theorem dX11_rate_51 : decode cX11_rate 51 = .ok (.aload_n 0, 1) := by decide +kernel
theorem dX11_rate_52 : decode cX11_rate 52 = .ok (.invokevirtual 89, 3) := by decide +kernel
theorem dX11_rate_55 : decode cX11_rate 55 = .ok (.aload_n 0, 1) := by decide +kernel
theorem dX11_rate_56 : decode cX11_rate 56 = .ok (.getfield 10, 3) := by decide +kernel
theorem dX11_rate_59 : decode cX11_rate 59 = .ok (.getfield 135, 3) := by decide +kernel
theorem dX11_rate_62 : decode cX11_rate 62 = .ok (.aload_n 0, 1) := by decide +kernel
theorem dX11_rate_63 : decode cX11_rate 63 = .ok (.getfield 10, 3) := by decide +kernel
theorem dX11_rate_66 : decode cX11_rate 66 = .ok (.getfield 132, 3) := by decide +kernel
theorem dX11_rate_69 : decode cX11_rate 69 = .ok (.aaload, 1) := by decide +kernel
theorem dX11_rate_70 : decode cX11_rate 70 = .ok (.astore 4, 2) := by decide +kernel
theorem dX11_rate_72 : decode cX11_rate 72 = .ok (.aload 4, 2) := by decide +kernel
theorem dX11_rate_74 : decode cX11_rate 74 = .ok (.iload_n 1, 1) := by decide +kernel
theorem dX11_rate_75 : decode cX11_rate 75 = .ok (.putfield 139, 3) := by decide +kernel
theorem dX11_rate_78 : decode cX11_rate 78 = .ok (.aload 4, 2) := by decide +kernel
theorem dX11_rate_80 : decode cX11_rate 80 = .ok (.iload_n 2, 1) := by decide +kernel
theorem dX11_rate_81 : decode cX11_rate 81 = .ok (.putfield 144, 3) := by decide +kernel
theorem dX11_rate_84 : decode cX11_rate 84 = .ok (.aload 4, 2) := by decide +kernel
theorem dX11_rate_86 : decode cX11_rate 86 = .ok (.iload_n 3, 1) := by decide +kernel
theorem dX11_rate_87 : decode cX11_rate 87 = .ok (.putfield 147, 3) := by decide +kernel
theorem dX11_rate_90 : decode cX11_rate 90 = .ok (.aload_n 0, 1) := by decide +kernel
theorem dX11_rate_91 : decode cX11_rate 91 = .ok (.getfield 10, 3) := by decide +kernel
theorem dX11_rate_94 : decode cX11_rate 94 = .ok (.dup, 1) := by decide +kernel
theorem dX11_rate_95 : decode cX11_rate 95 = .ok (.getfield 132, 3) := by decide +kernel
theorem dX11_rate_98 : decode cX11_rate 98 = .ok (.iconst 1, 1) := by decide +kernel
theorem dX11_rate_99 : decode cX11_rate 99 = .ok (.iadd, 1) := by decide +kernel
theorem dX11_rate_100 : decode cX11_rate 100 = .ok (.putfield 132, 3) := by decide +kernel
theorem dX11_rate_103 : decode cX11_rate 103 = .ok (.aload_n 0, 1) := by decide +kernel
theorem dX11_rate_104 : decode cX11_rate 104 = .ok (.aload_n 0, 1) := by decide +kernel
theorem dX11_rate_105 : decode cX11_rate 105 = .ok (.getfield 10, 3) := by decide +kernel
theorem dX11_rate_108 : decode cX11_rate 108 = .ok (.getfield 132, 3) := by decide +kernel
theorem dX11_rate_111 : decode cX11_rate 111 = .ok (.iconst 1, 1) := by decide +kernel
theorem dX11_rate_112 : decode cX11_rate 112 = .ok (.isub, 1) := by decide +kernel
theorem dX11_rate_113 : decode cX11_rate 113 = .ok (.invokevirtual 95, 3) := by decide +kernel
theorem dX11_rate_116 : decode cX11_rate 116 = .ok (.ireturn, 1) := by decide +kernel
theorem dX11_order_0 : decode cX11_order 0 = .ok (.iload_n 1, 1) := by decide +kernel
theorem dX11_order_1 : decode cX11_order 1 = .ok (.iconst 0, 1) := by decide +kernel
theorem dX11_order_2 : decode cX11_order 2 = .ok (.bipush 99, 2) := by decide +kernel
theorem dX11_order_4 : decode cX11_order 4 = .ok (.invokestatic 69, 3) := by decide +kernel
theorem dX11_order_7 : decode cX11_order 7 = .ok (.ifCond .ne 37, 3) := by decide +kernel
theorem dX11_order_10 : decode cX11_order 10 = .ok (.iload_n 2, 1) := by decide +kernel
theorem dX11_order_11 : decode cX11_order 11 = .ok (.iconst 1, 1) := by decide +kernel
theorem dX11_order_12 : decode cX11_order 12 = .ok (.sipush 9999, 3) := by decide +kernel
theorem dX11_order_15 : decode cX11_order 15 = .ok (.invokestatic 69, 3) := by decide +kernel
theorem dX11_order_18 : decode cX11_order 18 = .ok (.ifCond .ne 26, 3) := by decide +kernel
theorem dX11_order_21 : decode cX11_order 21 = .ok (.iload_n 3, 1) := by decide +kernel
theorem dX11_order_22 : decode cX11_order 22 = .ok (.iconst 0, 1) := by decide +kernel
theorem dX11_order_23 : decode cX11_order 23 = .ok (.sipush 2000, 3) := by decide +kernel
theorem dX11_order_26 : decode cX11_order 26 = .ok (.invokestatic 69, 3) := by decide +kernel
theorem dX11_order_29 : decode cX11_order 29 = .ok (.ifCond .ne 15, 3) := by decide +kernel
theorem dX11_order_32 : decode cX11_order 32 = .ok (.iload 4, 2) := by decide +kernel
theorem dX11_order_34 : decode cX11_order 34 = .ok (.iload_n 3, 1) := by decide +kernel
theorem dX11_order_35 : decode cX11_order 35 = .ok (.sipush 2000, 3) := by decide +kernel
theorem dX11_order_38 : decode cX11_order 38 = .ok (.invokestatic 69, 3) := by decide +kernel
theorem dX11_order_41 : decode cX11_order 41 = .ok (.ifCond .eq 6, 3) := by decide +kernel
theorem dX11_order_44 : decode cX11_order 44 = .ok (.bipush (-2), 2) := by decide +kernel
theorem dX11_order_46 : decode cX11_order 46 = .ok (.ireturn, 1) := by decide +kernel
theorem dX11_order_47 : decode cX11_order 47 = .ok (.aload_n 0, 1) := by decide +kernel
theorem dX11_order_48 : decode cX11_order 48 = .ok (.getfield 10, 3) := by decide +kernel
theorem dX11_order_51 : decode cX11_order 51 = .ok (.getfield 150, 3) := by decide +kernel
theorem dX11_order_54 : decode cX11_order 54 = .ok (.bipush 10, 2) := by decide +kernel
theorem dX11_order_56 : decode cX11_order 56 = .ok (.if_icmp .lt 6, 3) := by decide +kernel
theorem dX11_order_59 : decode cX11_order 59 = .ok (.bipush (-4), 2) := by decide +kernel
theorem dX11_order_61 : decode cX11_order 61 = .ok (.ireturn, 1) := by decide +kernel
theorem dX11_order_62 : decode cX11_order 62 = .ok (.aload_n 0, 1) := by decide +kernel
theorem dX11_order_63 : decode cX11_order 63 = .ok (.invokevirtual 89, 3) := by decide +kernel
theorem dX11_order_66 : decode cX11_order 66 = .ok (.aload_n 0, 1) := by decide +kernel
theorem dX11_order_67 : decode cX11_order 67 = .ok (.getfield 10, 3) := by decide +kernel
theorem dX11_order_70 : decode cX11_order 70 = .ok (.getfield 153, 3) := by decide +kernel
theorem dX11_order_73 : decode cX11_order 73 = .ok (.aload_n 0, 1) := by decide +kernel
theorem dX11_order_74 : decode cX11_order 74 = .ok (.getfield 10, 3) := by decide +kernel
theorem dX11_order_77 : decode cX11_order 77 = .ok (.getfield 150, 3) := by decide +kernel
theorem dX11_order_80 : decode cX11_order 80 = .ok (.aaload, 1) := by decide +kernel
theorem dX11_order_81 : decode cX11_order 81 = .ok (.astore 5, 2) := by decide +kernel
theorem dX11_order_83 : decode cX11_order 83 = .ok (.aload 5, 2) := by decide +kernel
theorem dX11_order_85 : decode cX11_order 85 = .ok (.aload_n 0, 1) := by decide +kernel
theorem dX11_order_86 : decode cX11_order 86 = .ok (.getfield 10, 3) := by decide +kernel
theorem dX11_order_89 : decode cX11_order 89 = .ok (.getfield 157, 3) := by decide +kernel
theorem dX11_order_92 : decode cX11_order 92 = .ok (.iload_n 1, 1) := by decide +kernel
theorem dX11_order_93 : decode cX11_order 93 = .ok (.iadd, 1) := by decide +kernel
theorem dX11_order_94 : decode cX11_order 94 = .ok (.putfield 158, 3) := by decide +kernel
theorem dX11_order_97 : decode cX11_order 97 = .ok (.aload 5, 2) := by decide +kernel
theorem dX11_order_99 : decode cX11_order 99 = .ok (.iload_n 2, 1) := by decide +kernel
theorem dX11_order_100 : decode cX11_order 100 = .ok (.putfield 163, 3) := by decide +kernel
theorem dX11_order_103 : decode cX11_order 103 = .ok (.aload 5, 2) := by decide +kernel
theorem dX11_order_105 : decode cX11_order 105 = .ok (.iload_n 3, 1) := by decide +kernel
theorem dX11_order_106 : decode cX11_order 106 = .ok (.putfield 166, 3) := by decide +kernel
theorem dX11_order_109 : decode cX11_order 109 = .ok (.aload 5, 2) := by decide +kernel
theorem dX11_order_111 : decode cX11_order 111 = .ok (.iload 4, 2) := by decide +kernel
theorem dX11_order_113 : decode cX11_order 113 = .ok (.putfield 169, 3) := by decide +kernel
theorem dX11_order_116 : decode cX11_order 116 = .ok (.aload 5, 2) := by decide +kernel
theorem dX11_order_118 : decode cX11_order 118 = .ok (.iconst 0, 1) := by decide +kernel
theorem dX11_order_119 : decode cX11_order 119 = .ok (.putfield 172, 3) := by decide +kernel
theorem dX11_order_122 : decode cX11_order 122 = .ok (.aload_n 0, 1) := by decide +kernel
theorem dX11_order_123 : decode cX11_order 123 = .ok (.getfield 10, 3) := by decide +kernel
theorem dX11_order_126 : decode cX11_order 126 = .ok (.dup, 1) := by decide +kernel
theorem dX11_order_127 : decode cX11_order 127 = .ok (.getfield 150, 3) := by decide +kernel
theorem dX11_order_130 : decode cX11_order 130 = .ok (.iconst 1, 1) := by decide +kernel
theorem dX11_order_131 : decode cX11_order 131 = .ok (.iadd, 1) := by decide +kernel
theorem dX11_order_132 : decode cX11_order 132 = .ok (.putfield 150, 3) := by decide +kernel
theorem dX11_order_135 : decode cX11_order 135 = .ok (.aload_n 0, 1) := by decide +kernel
theorem dX11_order_136 : decode cX11_order 136 = .ok (.aload_n 0, 1) := by decide +kernel
theorem dX11_order_137 : decode cX11_order 137 = .ok (.getfield 10, 3) := by decide +kernel
theorem dX11_order_140 : decode cX11_order 140 = .ok (.getfield 150, 3) := by decide +kernel
theorem dX11_order_143 : decode cX11_order 143 = .ok (.iconst 1, 1) := by decide +kernel
theorem dX11_order_144 : decode cX11_order 144 = .ok (.isub, 1) := by decide +kernel
theorem dX11_order_145 : decode cX11_order 145 = .ok (.invokevirtual 95, 3) := by decide +kernel
theorem dX11_order_148 : decode cX11_order 148 = .ok (.ireturn, 1) := by decide +kernel
theorem dX11_drop_0 : decode cX11_drop 0 = .ok (.aload_n 0, 1) := by decide +kernel
theorem dX11_drop_1 : decode cX11_drop 1 = .ok (.getfield 10, 3) := by decide +kernel
theorem dX11_drop_4 : decode cX11_drop 4 = .ok (.iload_n 1, 1) := by decide +kernel
theorem dX11_drop_5 : decode cX11_drop 5 = .ok (.invokevirtual 175, 3) := by decide +kernel
theorem dX11_drop_8 : decode cX11_drop 8 = .ok (.astore_n 2, 1) := by decide +kernel
theorem dX11_drop_9 : decode cX11_drop 9 = .ok (.aload_n 2, 1) := by decide +kernel
theorem dX11_drop_10 : decode cX11_drop 10 = .ok (.ifnull 10, 3) := by decide +kernel
theorem dX11_drop_13 : decode cX11_drop 13 = .ok (.aload_n 2, 1) := by decide +kernel
theorem dX11_drop_14 : decode cX11_drop 14 = .ok (.getfield 172, 3) := by decide +kernel
theorem dX11_drop_17 : decode cX11_drop 17 = .ok (.ifCond .eq 9, 3) := by decide +kernel
theorem dX11_drop_20 : decode cX11_drop 20 = .ok (.aload_n 0, 1) := by decide +kernel
theorem dX11_drop_21 : decode cX11_drop 21 = .ok (.iconst 5, 1) := by decide +kernel
theorem dX11_drop_22 : decode cX11_drop 22 = .ok (.invokevirtual 85, 3) := by decide +kernel
theorem dX11_drop_25 : decode cX11_drop 25 = .ok (.ireturn, 1) := by decide +kernel
theorem dX11_drop_26 : decode cX11_drop 26 = .ok (.aload_n 0, 1) := by decide +kernel
theorem dX11_drop_27 : decode cX11_drop 27 = .ok (.invokevirtual 89, 3) := by decide +kernel
theorem dX11_drop_30 : decode cX11_drop 30 = .ok (.aload_n 2, 1) := by decide +kernel
theorem dX11_drop_31 : decode cX11_drop 31 = .ok (.iconst 2, 1) := by decide +kernel
theorem dX11_drop_32 : decode cX11_drop 32 = .ok (.putfield 172, 3) := by decide +kernel
theorem dX11_drop_35 : decode cX11_drop 35 = .ok (.aload_n 0, 1) := by decide +kernel
theorem dX11_drop_36 : decode cX11_drop 36 = .ok (.aload_n 0, 1) := by decide +kernel
theorem dX11_drop_37 : decode cX11_drop 37 = .ok (.getfield 10, 3) := by decide +kernel
theorem dX11_drop_40 : decode cX11_drop 40 = .ok (.invokevirtual 179, 3) := by decide +kernel
theorem dX11_drop_43 : decode cX11_drop 43 = .ok (.invokevirtual 95, 3) := by decide +kernel
theorem dX11_drop_46 : decode cX11_drop 46 = .ok (.ireturn, 1) := by decide +kernel
theorem dX11_fill_0 : decode cX11_fill 0 = .ok (.aload_n 0, 1) := by decide +kernel
theorem dX11_fill_1 : decode cX11_fill 1 = .ok (.invokevirtual 89, 3) := by decide +kernel
theorem dX11_fill_4 : decode cX11_fill 4 = .ok (.aload_n 0, 1) := by decide +kernel
theorem dX11_fill_5 : decode cX11_fill 5 = .ok (.aload_n 0, 1) := by decide +kernel
theorem dX11_fill_6 : decode cX11_fill 6 = .ok (.iload_n 1, 1) := by decide +kernel
theorem dX11_fill_7 : decode cX11_fill 7 = .ok (.iload_n 2, 1) := by decide +kernel
theorem dX11_fill_8 : decode cX11_fill 8 = .ok (.invokevirtual 182, 3) := by decide +kernel
theorem dX11_fill_11 : decode cX11_fill 11 = .ok (.invokevirtual 123, 3) := by decide +kernel
theorem dX11_fill_14 : decode cX11_fill 14 = .ok (.ireturn, 1) := by decide +kernel
theorem dX11_fillAll_0 : decode cX11_fillAll 0 = .ok (.aload_n 0, 1) := by decide +kernel
theorem dX11_fillAll_1 : decode cX11_fillAll 1 = .ok (.invokevirtual 89, 3) := by decide +kernel
theorem dX11_fillAll_4 : decode cX11_fillAll 4 = .ok (.aload_n 0, 1) := by decide +kernel
theorem dX11_fillAll_5 : decode cX11_fillAll 5 = .ok (.getfield 41, 3) := by decide +kernel
theorem dX11_fillAll_8 : decode cX11_fillAll 8 = .ok (.aload_n 0, 1) := by decide +kernel
theorem dX11_fillAll_9 : decode cX11_fillAll 9 = .ok (.getfield 10, 3) := by decide +kernel
theorem dX11_fillAll_12 : decode cX11_fillAll 12 = .ok (.invokevirtual 185, 3) := by decide +kernel
theorem dX11_fillAll_15 : decode cX11_fillAll 15 = .ok (.iconst 0, 1) := by decide +kernel
theorem dX11_fillAll_16 : decode cX11_fillAll 16 = .ok (.istore_n 1, 1) := by decide +kernel
theorem dX11_fillAll_17 : decode cX11_fillAll 17 = .ok (.iload_n 1, 1) := by decide +kernel
theorem dX11_fillAll_18 : decode cX11_fillAll 18 = .ok (.aload_n 0, 1) := by decide +kernel
theorem dX11_fillAll_19 : decode cX11_fillAll 19 = .ok (.getfield 41, 3) := by decide +kernel
theorem dX11_fillAll_22 : decode cX11_fillAll 22 = .ok (.getfield 189, 3) := by decide +kernel
theorem dX11_fillAll_25 : decode cX11_fillAll 25 = .ok (.if_icmp .ge 32, 3) := by decide +kernel
theorem dX11_fillAll_28 : decode cX11_fillAll 28 = .ok (.aload_n 0, 1) := by decide +kernel
theorem dX11_fillAll_29 : decode cX11_fillAll 29 = .ok (.aload_n 0, 1) := by decide +kernel
theorem dX11_fillAll_30 : decode cX11_fillAll 30 = .ok (.getfield 41, 3) := by decide +kernel
theorem dX11_fillAll_33 : decode cX11_fillAll 33 = .ok (.getfield 192, 3) := by decide +kernel
theorem dX11_fillAll_36 : decode cX11_fillAll 36 = .ok (.iload_n 1, 1) := by decide +kernel
theorem dX11_fillAll_37 : decode cX11_fillAll 37 = .ok (.iaload, 1) := by decide +kernel
theorem dX11_fillAll_38 : decode cX11_fillAll 38 = .ok (.aload_n 0, 1) := by decide +kernel
theorem dX11_fillAll_39 : decode cX11_fillAll 39 = .ok (.getfield 41, 3) := by decide +kernel
theorem dX11_fillAll_42 : decode cX11_fillAll 42 = .ok (.getfield 195, 3) := by decide +kernel
theorem dX11_fillAll_45 : decode cX11_fillAll 45 = .ok (.iload_n 1, 1) := by decide +kernel
theorem dX11_fillAll_46 : decode cX11_fillAll 46 = .ok (.iaload, 1) := by decide +kernel
theorem dX11_fillAll_47 : decode cX11_fillAll 47 = .ok (.invokevirtual 182, 3) := by decide +kernel
theorem dX11_fillAll_50 : decode cX11_fillAll 50 = .ok (.pop, 1) := by decide +kernel
theorem dX11_fillAll_51 : decode cX11_fillAll 51 = .ok (.iinc 1 1, 3) := by decide +kernel
theorem dX11_fillAll_54 : decode cX11_fillAll 54 = .ok (.goto (-37), 3) := by decide +kernel
theorem dX11_fillAll_57 : decode cX11_fillAll 57 = .ok (.aload_n 0, 1) := by decide +kernel
theorem dX11_fillAll_58 : decode cX11_fillAll 58 = .ok (.aload_n 0, 1) := by decide +kernel
theorem dX11_fillAll_59 : decode cX11_fillAll 59 = .ok (.getfield 41, 3) := by decide +kernel
theorem dX11_fillAll_62 : decode cX11_fillAll 62 = .ok (.getfield 189, 3) := by decide +kernel
theorem dX11_fillAll_65 : decode cX11_fillAll 65 = .ok (.invokevirtual 95, 3) := by decide +kernel
theorem dX11_fillAll_68 : decode cX11_fillAll 68 = .ok (.ireturn, 1) := by decide +kernel
theorem dX11_clean_0 : decode cX11_clean 0 = .ok (.aload_n 0, 1) := by decide +kernel
theorem dX11_clean_1 : decode cX11_clean 1 = .ok (.invokevirtual 89, 3) := by decide +kernel
theorem dX11_clean_4 : decode cX11_clean 4 = .ok (.aload_n 0, 1) := by decide +kernel
theorem dX11_clean_5 : decode cX11_clean 5 = .ok (.aload_n 0, 1) := by decide +kernel
theorem dX11_clean_6 : decode cX11_clean 6 = .ok (.iload_n 1, 1) := by decide +kernel
theorem dX11_clean_7 : decode cX11_clean 7 = .ok (.invokevirtual 197, 3) := by decide +kernel
theorem dX11_clean_10 : decode cX11_clean 10 = .ok (.invokevirtual 123, 3) := by decide +kernel
theorem dX11_clean_13 : decode cX11_clean 13 = .ok (.ireturn, 1) := by decide +kernel
theorem dX11_pass_0 : decode cX11_pass 0 = .ok (.aload_n 0, 1) := by decide +kernel
theorem dX11_pass_1 : decode cX11_pass 1 = .ok (.invokevirtual 89, 3) := by decide +kernel
theorem dX11_pass_4 : decode cX11_pass 4 = .ok (.aload_n 0, 1) := by decide +kernel
theorem dX11_pass_5 : decode cX11_pass 5 = .ok (.aload_n 0, 1) := by decide +kernel
theorem dX11_pass_6 : decode cX11_pass 6 = .ok (.iload_n 1, 1) := by decide +kernel
theorem dX11_pass_7 : decode cX11_pass 7 = .ok (.invokevirtual 200, 3) := by decide +kernel
theorem dX11_pass_10 : decode cX11_pass 10 = .ok (.invokevirtual 123, 3) := by decide +kernel
theorem dX11_pass_13 : decode cX11_pass 13 = .ok (.ireturn, 1) := by decide +kernel
theorem dX11_feed_0 : decode cX11_feed 0 = .ok (.iload_n 1, 1) := by decide +kernel
theorem dX11_feed_1 : decode cX11_feed 1 = .ok (.iconst 1, 1) := by decide +kernel
theorem dX11_feed_2 : decode cX11_feed 2 = .ok (.iconst 5, 1) := by decide +kernel
theorem dX11_feed_3 : decode cX11_feed 3 = .ok (.invokestatic 69, 3) := by decide +kernel
theorem dX11_feed_6 : decode cX11_feed 6 = .ok (.ifCond .ne 41, 3) := by decide +kernel
theorem dX11_feed_9 : decode cX11_feed 9 = .ok (.iload_n 2, 1) := by decide +kernel
theorem dX11_feed_10 : decode cX11_feed 10 = .ok (.invokestatic 203, 3) := by decide +kernel
theorem dX11_feed_13 : decode cX11_feed 13 = .ok (.ifCond .ne 34, 3) := by decide +kernel
theorem dX11_feed_16 : decode cX11_feed 16 = .ok (.iload_n 3, 1) := by decide +kernel
theorem dX11_feed_17 : decode cX11_feed 17 = .ok (.invokestatic 203, 3) := by decide +kernel
theorem dX11_feed_20 : decode cX11_feed 20 = .ok (.ifCond .ne 27, 3) := by decide +kernel
theorem dX11_feed_23 : decode cX11_feed 23 = .ok (.iload 4, 2) := by decide +kernel
theorem dX11_feed_25 : decode cX11_feed 25 = .ok (.invokestatic 203, 3) := by decide +kernel
theorem dX11_feed_28 : decode cX11_feed 28 = .ok (.ifCond .ne 19, 3) := by decide +kernel
theorem dX11_feed_31 : decode cX11_feed 31 = .ok (.iload 5, 2) := by decide +kernel
theorem dX11_feed_33 : decode cX11_feed 33 = .ok (.invokestatic 203, 3) := by decide +kernel
theorem dX11_feed_36 : decode cX11_feed 36 = .ok (.ifCond .ne 11, 3) := by decide +kernel
theorem dX11_feed_39 : decode cX11_feed 39 = .ok (.iload 6, 2) := by decide +kernel
theorem dX11_feed_41 : decode cX11_feed 41 = .ok (.invokestatic 203, 3) := by decide +kernel
theorem dX11_feed_44 : decode cX11_feed 44 = .ok (.ifCond .eq 6, 3) := by decide +kernel
theorem dX11_feed_47 : decode cX11_feed 47 = .ok (.bipush (-2), 2) := by decide +kernel
theorem dX11_feed_49 : decode cX11_feed 49 = .ok (.ireturn, 1) := by decide +kernel
theorem dX11_feed_50 : decode cX11_feed 50 = .ok (.aload_n 0, 1) := by decide +kernel
theorem dX11_feed_51 : decode cX11_feed 51 = .ok (.getfield 34, 3) := by decide +kernel
theorem dX11_feed_54 : decode cX11_feed 54 = .ok (.getfield 207, 3) := by decide +kernel
theorem dX11_feed_57 : decode cX11_feed 57 = .ok (.iload_n 1, 1) := by decide +kernel
theorem dX11_feed_58 : decode cX11_feed 58 = .ok (.iadd, 1) := by decide +kernel
theorem dX11_feed_59 : decode cX11_feed 59 = .ok (.bipush 60, 2) := by decide +kernel
theorem dX11_feed_61 : decode cX11_feed 61 = .ok (.if_icmp .le 6, 3) := by decide +kernel
theorem dX11_feed_64 : decode cX11_feed 64 = .ok (.bipush (-4), 2) := by decide +kernel
theorem dX11_feed_66 : decode cX11_feed 66 = .ok (.ireturn, 1) := by decide +kernel
theorem dX11_feed_67 : decode cX11_feed 67 = .ok (.aload_n 0, 1) := by decide +kernel
theorem dX11_feed_68 : decode cX11_feed 68 = .ok (.getfield 34, 3) := by decide +kernel
theorem dX11_feed_71 : decode cX11_feed 71 = .ok (.iload_n 2, 1) := by decide +kernel
theorem dX11_feed_72 : decode cX11_feed 72 = .ok (.invokevirtual 208, 3) := by decide +kernel
theorem dX11_feed_75 : decode cX11_feed 75 = .ok (.iload_n 1, 1) := by decide +kernel
theorem dX11_feed_76 : decode cX11_feed 76 = .ok (.iconst 1, 1) := by decide +kernel
theorem dX11_feed_77 : decode cX11_feed 77 = .ok (.if_icmp .le 11, 3) := by decide +kernel
theorem dX11_feed_80 : decode cX11_feed 80 = .ok (.aload_n 0, 1) := by decide +kernel
theorem dX11_feed_81 : decode cX11_feed 81 = .ok (.getfield 34, 3) := by decide +kernel
theorem dX11_feed_84 : decode cX11_feed 84 = .ok (.iload_n 3, 1) := by decide +kernel
theorem dX11_feed_85 : decode cX11_feed 85 = .ok (.invokevirtual 208, 3) := by decide +kernel
theorem dX11_feed_88 : decode cX11_feed 88 = .ok (.iload_n 1, 1) := by decide +kernel
theorem dX11_feed_89 : decode cX11_feed 89 = .ok (.iconst 2, 1) := by decide +kernel
theorem dX11_feed_90 : decode cX11_feed 90 = .ok (.if_icmp .le 12, 3) := by decide +kernel
theorem dX11_feed_93 : decode cX11_feed 93 = .ok (.aload_n 0, 1) := by decide +kernel
theorem dX11_feed_94 : decode cX11_feed 94 = .ok (.getfield 34, 3) := by decide +kernel
theorem dX11_feed_97 : decode cX11_feed 97 = .ok (.iload 4, 2) := by decide +kernel
theorem dX11_feed_99 : decode cX11_feed 99 = .ok (.invokevirtual 208, 3) := by decide +kernel
theorem dX11_feed_102 : decode cX11_feed 102 = .ok (.iload_n 1, 1) := by decide +kernel
theorem dX11_feed_103 : decode cX11_feed 103 = .ok (.iconst 3, 1) := by decide +kernel
theorem dX11_feed_104 : decode cX11_feed 104 = .ok (.if_icmp .le 12, 3) := by decide +kernel
theorem dX11_feed_107 : decode cX11_feed 107 = .ok (.aload_n 0, 1) := by decide +kernel
theorem dX11_feed_108 : decode cX11_feed 108 = .ok (.getfield 34, 3) := by decide +kernel
theorem dX11_feed_111 : decode cX11_feed 111 = .ok (.iload 5, 2) := by decide +kernel
theorem dX11_feed_113 : decode cX11_feed 113 = .ok (.invokevirtual 208, 3) := by decide +kernel
theorem dX11_feed_116 : decode cX11_feed 116 = .ok (.iload_n 1, 1) := by decide +kernel
theorem dX11_feed_117 : decode cX11_feed 117 = .ok (.iconst 4, 1) := by decide +kernel
theorem dX11_feed_118 : decode cX11_feed 118 = .ok (.if_icmp .le 12, 3) := by decide +kernel
theorem dX11_feed_121 : decode cX11_feed 121 = .ok (.aload_n 0, 1) := by decide +kernel
theorem dX11_feed_122 : decode cX11_feed 122 = .ok (.getfield 34, 3) := by decide +kernel
theorem dX11_feed_125 : decode cX11_feed 125 = .ok (.iload 6, 2) := by decide +kernel
theorem dX11_feed_127 : decode cX11_feed 127 = .ok (.invokevirtual 208, 3) := by decide +kernel
theorem dX11_feed_130 : decode cX11_feed 130 = .ok (.aload_n 0, 1) := by decide +kernel
theorem dX11_feed_131 : decode cX11_feed 131 = .ok (.getfield 34, 3) := by decide +kernel
theorem dX11_feed_134 : decode cX11_feed 134 = .ok (.getfield 207, 3) := by decide +kernel
theorem dX11_feed_137 : decode cX11_feed 137 = .ok (.ireturn, 1) := by decide +kernel
theorem dX11_run_0 : decode cX11_run 0 = .ok (.aload_n 0, 1) := by decide +kernel
theorem dX11_run_1 : decode cX11_run 1 = .ok (.getfield 34, 3) := by decide +kernel
theorem dX11_run_4 : decode cX11_run 4 = .ok (.invokevirtual 212, 3) := by decide +kernel
theorem dX11_run_7 : decode cX11_run 7 = .ok (.ifCond .ne 7, 3) := by decide +kernel
theorem dX11_run_10 : decode cX11_run 10 = .ok (.iconst 1, 1) := by decide +kernel
theorem dX11_run_11 : decode cX11_run 11 = .ok (.goto 4, 3) := by decide +kernel
theorem dX11_run_14 : decode cX11_run 14 = .ok (.iconst 0, 1) := by decide +kernel
theorem dX11_run_15 : decode cX11_run 15 = .ok (.istore_n 1, 1) := by decide +kernel
theorem dX11_run_16 : decode cX11_run 16 = .ok (.aload_n 0, 1) := by decide +kernel
theorem dX11_run_17 : decode cX11_run 17 = .ok (.getfield 34, 3) := by decide +kernel
theorem dX11_run_20 : decode cX11_run 20 = .ok (.iconst 0, 1) := by decide +kernel
theorem dX11_run_21 : decode cX11_run 21 = .ok (.putfield 207, 3) := by decide +kernel
theorem dX11_run_24 : decode cX11_run 24 = .ok (.iload_n 1, 1) := by decide +kernel
theorem dX11_run_25 : decode cX11_run 25 = .ok (.ifCond .eq 14, 3) := by decide +kernel
theorem dX11_run_28 : decode cX11_run 28 = .ok (.bipush (-100), 2) := by decide +kernel
theorem dX11_run_30 : decode cX11_run 30 = .ok (.aload_n 0, 1) := by decide +kernel
theorem dX11_run_31 : decode cX11_run 31 = .ok (.getfield 34, 3) := by decide +kernel
theorem dX11_run_34 : decode cX11_run 34 = .ok (.getfield 216, 3) := by decide +kernel
theorem dX11_run_37 : decode cX11_run 37 = .ok (.isub, 1) := by decide +kernel
theorem dX11_run_38 : decode cX11_run 38 = .ok (.ireturn, 1) := by decide +kernel
theorem dX11_run_39 : decode cX11_run 39 = .ok (.aload_n 0, 1) := by decide +kernel
theorem dX11_run_40 : decode cX11_run 40 = .ok (.invokevirtual 89, 3) := by decide +kernel
theorem dX11_run_43 : decode cX11_run 43 = .ok (.iconst 0, 1) := by decide +kernel
theorem dX11_run_44 : decode cX11_run 44 = .ok (.istore_n 2, 1) := by decide +kernel
theorem dX11_run_45 : decode cX11_run 45 = .ok (.iload_n 2, 1) := by decide +kernel
theorem dX11_run_46 : decode cX11_run 46 = .ok (.aload_n 0, 1) := by decide +kernel
theorem dX11_run_47 : decode cX11_run 47 = .ok (.getfield 34, 3) := by decide +kernel
theorem dX11_run_50 : decode cX11_run 50 = .ok (.getfield 219, 3) := by decide +kernel
theorem dX11_run_53 : decode cX11_run 53 = .ok (.if_icmp .ge 55, 3) := by decide +kernel
theorem dX11_run_56 : decode cX11_run 56 = .ok (.aload_n 0, 1) := by decide +kernel
theorem dX11_run_57 : decode cX11_run 57 = .ok (.aload_n 0, 1) := by decide +kernel
theorem dX11_run_58 : decode cX11_run 58 = .ok (.getfield 34, 3) := by decide +kernel
theorem dX11_run_61 : decode cX11_run 61 = .ok (.getfield 222, 3) := by decide +kernel
theorem dX11_run_64 : decode cX11_run 64 = .ok (.iload_n 2, 1) := by decide +kernel
theorem dX11_run_65 : decode cX11_run 65 = .ok (.aaload, 1) := by decide +kernel
theorem dX11_run_66 : decode cX11_run 66 = .ok (.invokevirtual 226, 3) := by decide +kernel
theorem dX11_run_69 : decode cX11_run 69 = .ok (.istore_n 3, 1) := by decide +kernel
theorem dX11_run_70 : decode cX11_run 70 = .ok (.iload_n 3, 1) := by decide +kernel
theorem dX11_run_71 : decode cX11_run 71 = .ok (.ifCond .ge 31, 3) := by decide +kernel
theorem dX11_run_74 : decode cX11_run 74 = .ok (.aload_n 0, 1) := by decide +kernel
theorem dX11_run_75 : decode cX11_run 75 = .ok (.getfield 10, 3) := by decide +kernel
theorem dX11_run_78 : decode cX11_run 78 = .ok (.aload_n 0, 1) := by decide +kernel
theorem dX11_run_79 : decode cX11_run 79 = .ok (.getfield 16, 3) := by decide +kernel
theorem dX11_run_82 : decode cX11_run 82 = .ok (.aload_n 0, 1) := by decide +kernel
theorem dX11_run_83 : decode cX11_run 83 = .ok (.getfield 20, 3) := by decide +kernel
theorem dX11_run_86 : decode cX11_run 86 = .ok (.aaload, 1) := by decide +kernel
theorem dX11_run_87 : decode cX11_run 87 = .ok (.invokevirtual 230, 3) := by decide +kernel
theorem dX11_run_90 : decode cX11_run 90 = .ok (.aload_n 0, 1) := by decide +kernel
theorem dX11_run_91 : decode cX11_run 91 = .ok (.iload_n 3, 1) := by decide +kernel
theorem dX11_run_92 : decode cX11_run 92 = .ok (.ineg, 1) := by decide +kernel
theorem dX11_run_93 : decode cX11_run 93 = .ok (.putfield 62, 3) := by decide +kernel
theorem dX11_run_96 : decode cX11_run 96 = .ok (.sipush (-200), 3) := by decide +kernel
theorem dX11_run_99 : decode cX11_run 99 = .ok (.iload_n 2, 1) := by decide +kernel
theorem dX11_run_100 : decode cX11_run 100 = .ok (.isub, 1) := by decide +kernel
theorem dX11_run_101 : decode cX11_run 101 = .ok (.ireturn, 1) := by decide +kernel
theorem dX11_run_102 : decode cX11_run 102 = .ok (.iinc 2 1, 3) := by decide +kernel
theorem dX11_run_105 : decode cX11_run 105 = .ok (.goto (-60), 3) := by decide +kernel
theorem dX11_run_108 : decode cX11_run 108 = .ok (.aload_n 0, 1) := by decide +kernel
theorem dX11_run_109 : decode cX11_run 109 = .ok (.aload_n 0, 1) := by decide +kernel
theorem dX11_run_110 : decode cX11_run 110 = .ok (.getfield 34, 3) := by decide +kernel
theorem dX11_run_113 : decode cX11_run 113 = .ok (.getfield 219, 3) := by decide +kernel
theorem dX11_run_116 : decode cX11_run 116 = .ok (.invokevirtual 95, 3) := by decide +kernel
theorem dX11_run_119 : decode cX11_run 119 = .ok (.ireturn, 1) := by decide +kernel
theorem dX11_reason_0 : decode cX11_reason 0 = .ok (.aload_n 0, 1) := by decide +kernel
theorem dX11_reason_1 : decode cX11_reason 1 = .ok (.getfield 62, 3) := by decide +kernel
theorem dX11_reason_4 : decode cX11_reason 4 = .ok (.ireturn, 1) := by decide +kernel
theorem dX11_ofTank_0 : decode cX11_ofTank 0 = .ok (.aload_n 0, 1) := by decide +kernel
theorem dX11_ofTank_1 : decode cX11_ofTank 1 = .ok (.getfield 10, 3) := by decide +kernel
theorem dX11_ofTank_4 : decode cX11_ofTank 4 = .ok (.iload_n 1, 1) := by decide +kernel
theorem dX11_ofTank_5 : decode cX11_ofTank 5 = .ok (.invokevirtual 65, 3) := by decide +kernel
theorem dX11_ofTank_8 : decode cX11_ofTank 8 = .ok (.astore_n 3, 1) := by decide +kernel
theorem dX11_ofTank_9 : decode cX11_ofTank 9 = .ok (.aload_n 3, 1) := by decide +kernel
theorem dX11_ofTank_10 : decode cX11_ofTank 10 = .ok (.ifnonnull 5, 3) := by decide +kernel
theorem dX11_ofTank_13 : decode cX11_ofTank 13 = .ok (.iconst (-1), 1) := by decide +kernel
theorem dX11_ofTank_14 : decode cX11_ofTank 14 = .ok (.ireturn, 1) := by decide +kernel
theorem dX11_ofTank_15 : decode cX11_ofTank 15 = .ok (.iload_n 2, 1) := by decide +kernel
theorem dX11_ofTank_16 : decode cX11_ofTank 16 = .ok (.tableswitch 108 0 6 #[44, 49, 57, 62, 77, 95, 103], 44) := by decide +kernel
theorem dX11_ofTank_60 : decode cX11_ofTank 60 = .ok (.aload_n 3, 1) := by decide +kernel
theorem dX11_ofTank_61 : decode cX11_ofTank 61 = .ok (.getfield 92, 3) := by decide +kernel
theorem dX11_ofTank_64 : decode cX11_ofTank 64 = .ok (.ireturn, 1) := by decide +kernel
theorem dX11_ofTank_65 : decode cX11_ofTank 65 = .ok (.aload_n 3, 1) := by decide +kernel
theorem dX11_ofTank_66 : decode cX11_ofTank 66 = .ok (.getfield 73, 3) := by decide +kernel
theorem dX11_ofTank_69 : decode cX11_ofTank 69 = .ok (.invokevirtual 79, 3) := by decide +kernel
theorem dX11_ofTank_72 : decode cX11_ofTank 72 = .ok (.ireturn, 1) := by decide +kernel
theorem dX11_ofTank_73 : decode cX11_ofTank 73 = .ok (.aload_n 3, 1) := by decide +kernel
theorem dX11_ofTank_74 : decode cX11_ofTank 74 = .ok (.getfield 101, 3) := by decide +kernel
theorem dX11_ofTank_77 : decode cX11_ofTank 77 = .ok (.ireturn, 1) := by decide +kernel
theorem dX11_ofTank_78 : decode cX11_ofTank 78 = .ok (.aload_n 3, 1) := by decide +kernel
theorem dX11_ofTank_79 : decode cX11_ofTank 79 = .ok (.getfield 73, 3) := by decide +kernel
theorem dX11_ofTank_82 : decode cX11_ofTank 82 = .ok (.aload_n 0, 1) := by decide +kernel
theorem dX11_ofTank_83 : decode cX11_ofTank 83 = .ok (.getfield 10, 3) := by decide +kernel
theorem dX11_ofTank_86 : decode cX11_ofTank 86 = .ok (.getfield 233, 3) := by decide +kernel
theorem dX11_ofTank_89 : decode cX11_ofTank 89 = .ok (.invokevirtual 236, 3) := by decide +kernel
theorem dX11_ofTank_92 : decode cX11_ofTank 92 = .ok (.ireturn, 1) := by decide +kernel
theorem dX11_ofTank_93 : decode cX11_ofTank 93 = .ok (.aload_n 3, 1) := by decide +kernel
theorem dX11_ofTank_94 : decode cX11_ofTank 94 = .ok (.getfield 101, 3) := by decide +kernel
theorem dX11_ofTank_97 : decode cX11_ofTank 97 = .ok (.iconst 3, 1) := by decide +kernel
theorem dX11_ofTank_98 : decode cX11_ofTank 98 = .ok (.if_icmp .ne 10, 3) := by decide +kernel
theorem dX11_ofTank_101 : decode cX11_ofTank 101 = .ok (.aload_n 3, 1) := by decide +kernel
theorem dX11_ofTank_102 : decode cX11_ofTank 102 = .ok (.getfield 239, 3) := by decide +kernel
theorem dX11_ofTank_105 : decode cX11_ofTank 105 = .ok (.goto 5, 3) := by decide +kernel
theorem dX11_ofTank_108 : decode cX11_ofTank 108 = .ok (.bipush (-5), 2) := by decide +kernel
theorem dX11_ofTank_110 : decode cX11_ofTank 110 = .ok (.ireturn, 1) := by decide +kernel
theorem dX11_ofTank_111 : decode cX11_ofTank 111 = .ok (.aload_n 3, 1) := by decide +kernel
theorem dX11_ofTank_112 : decode cX11_ofTank 112 = .ok (.getfield 73, 3) := by decide +kernel
theorem dX11_ofTank_115 : decode cX11_ofTank 115 = .ok (.invokevirtual 242, 3) := by decide +kernel
theorem dX11_ofTank_118 : decode cX11_ofTank 118 = .ok (.ireturn, 1) := by decide +kernel
theorem dX11_ofTank_119 : decode cX11_ofTank 119 = .ok (.aload_n 3, 1) := by decide +kernel
theorem dX11_ofTank_120 : decode cX11_ofTank 120 = .ok (.invokevirtual 104, 3) := by decide +kernel
theorem dX11_ofTank_123 : decode cX11_ofTank 123 = .ok (.ireturn, 1) := by decide +kernel
theorem dX11_ofTank_124 : decode cX11_ofTank 124 = .ok (.iconst (-1), 1) := by decide +kernel
theorem dX11_ofTank_125 : decode cX11_ofTank 125 = .ok (.ireturn, 1) := by decide +kernel
theorem dX11_litres_0 : decode cX11_litres 0 = .ok (.aload_n 0, 1) := by decide +kernel
theorem dX11_litres_1 : decode cX11_litres 1 = .ok (.getfield 10, 3) := by decide +kernel
theorem dX11_litres_4 : decode cX11_litres 4 = .ok (.iload_n 1, 1) := by decide +kernel
theorem dX11_litres_5 : decode cX11_litres 5 = .ok (.invokevirtual 65, 3) := by decide +kernel
theorem dX11_litres_8 : decode cX11_litres 8 = .ok (.astore_n 3, 1) := by decide +kernel
theorem dX11_litres_9 : decode cX11_litres 9 = .ok (.aload_n 3, 1) := by decide +kernel
theorem dX11_litres_10 : decode cX11_litres 10 = .ok (.ifnull 20, 3) := by decide +kernel
theorem dX11_litres_13 : decode cX11_litres 13 = .ok (.iload_n 2, 1) := by decide +kernel
theorem dX11_litres_14 : decode cX11_litres 14 = .ok (.iconst 0, 1) := by decide +kernel
theorem dX11_litres_15 : decode cX11_litres 15 = .ok (.aload_n 0, 1) := by decide +kernel
theorem dX11_litres_16 : decode cX11_litres 16 = .ok (.getfield 10, 3) := by decide +kernel
theorem dX11_litres_19 : decode cX11_litres 19 = .ok (.getfield 98, 3) := by decide +kernel
theorem dX11_litres_22 : decode cX11_litres 22 = .ok (.iconst 1, 1) := by decide +kernel
theorem dX11_litres_23 : decode cX11_litres 23 = .ok (.isub, 1) := by decide +kernel
theorem dX11_litres_24 : decode cX11_litres 24 = .ok (.invokestatic 69, 3) := by decide +kernel
theorem dX11_litres_27 : decode cX11_litres 27 = .ok (.ifCond .eq 5, 3) := by decide +kernel
theorem dX11_litres_30 : decode cX11_litres 30 = .ok (.iconst (-1), 1) := by decide +kernel
theorem dX11_litres_31 : decode cX11_litres 31 = .ok (.ireturn, 1) := by decide +kernel
theorem dX11_litres_32 : decode cX11_litres 32 = .ok (.aload_n 3, 1) := by decide +kernel
theorem dX11_litres_33 : decode cX11_litres 33 = .ok (.getfield 73, 3) := by decide +kernel
theorem dX11_litres_36 : decode cX11_litres 36 = .ok (.getfield 111, 3) := by decide +kernel
theorem dX11_litres_39 : decode cX11_litres 39 = .ok (.iload_n 2, 1) := by decide +kernel
theorem dX11_litres_40 : decode cX11_litres 40 = .ok (.iaload, 1) := by decide +kernel
theorem dX11_litres_41 : decode cX11_litres 41 = .ok (.ireturn, 1) := by decide +kernel
theorem dX11_ofBatch_0 : decode cX11_ofBatch 0 = .ok (.iload_n 1, 1) := by decide +kernel
theorem dX11_ofBatch_1 : decode cX11_ofBatch 1 = .ok (.iconst 0, 1) := by decide +kernel
theorem dX11_ofBatch_2 : decode cX11_ofBatch 2 = .ok (.aload_n 0, 1) := by decide +kernel
theorem dX11_ofBatch_3 : decode cX11_ofBatch 3 = .ok (.getfield 10, 3) := by decide +kernel
theorem dX11_ofBatch_6 : decode cX11_ofBatch 6 = .ok (.getfield 98, 3) := by decide +kernel
theorem dX11_ofBatch_9 : decode cX11_ofBatch 9 = .ok (.iconst 1, 1) := by decide +kernel
theorem dX11_ofBatch_10 : decode cX11_ofBatch 10 = .ok (.isub, 1) := by decide +kernel
theorem dX11_ofBatch_11 : decode cX11_ofBatch 11 = .ok (.invokestatic 69, 3) := by decide +kernel
theorem dX11_ofBatch_14 : decode cX11_ofBatch 14 = .ok (.ifCond .eq 5, 3) := by decide +kernel
theorem dX11_ofBatch_17 : decode cX11_ofBatch 17 = .ok (.iconst (-1), 1) := by decide +kernel
theorem dX11_ofBatch_18 : decode cX11_ofBatch 18 = .ok (.ireturn, 1) := by decide +kernel
theorem dX11_ofBatch_19 : decode cX11_ofBatch 19 = .ok (.iload_n 2, 1) := by decide +kernel
theorem dX11_ofBatch_20 : decode cX11_ofBatch 20 = .ok (.tableswitch 121 0 6 #[44, 54, 67, 76, 89, 102, 112], 44) := by decide +kernel
theorem dX11_ofBatch_64 : decode cX11_ofBatch 64 = .ok (.aload_n 0, 1) := by decide +kernel
theorem dX11_ofBatch_65 : decode cX11_ofBatch 65 = .ok (.getfield 10, 3) := by decide +kernel
theorem dX11_ofBatch_68 : decode cX11_ofBatch 68 = .ok (.getfield 233, 3) := by decide +kernel
theorem dX11_ofBatch_71 : decode cX11_ofBatch 71 = .ok (.iload_n 1, 1) := by decide +kernel
theorem dX11_ofBatch_72 : decode cX11_ofBatch 72 = .ok (.iaload, 1) := by decide +kernel
theorem dX11_ofBatch_73 : decode cX11_ofBatch 73 = .ok (.ireturn, 1) := by decide +kernel
theorem dX11_ofBatch_74 : decode cX11_ofBatch 74 = .ok (.aload_n 0, 1) := by decide +kernel
theorem dX11_ofBatch_75 : decode cX11_ofBatch 75 = .ok (.getfield 10, 3) := by decide +kernel
theorem dX11_ofBatch_78 : decode cX11_ofBatch 78 = .ok (.getfield 245, 3) := by decide +kernel
theorem dX11_ofBatch_81 : decode cX11_ofBatch 81 = .ok (.getfield 111, 3) := by decide +kernel
theorem dX11_ofBatch_84 : decode cX11_ofBatch 84 = .ok (.iload_n 1, 1) := by decide +kernel
theorem dX11_ofBatch_85 : decode cX11_ofBatch 85 = .ok (.iaload, 1) := by decide +kernel
theorem dX11_ofBatch_86 : decode cX11_ofBatch 86 = .ok (.ireturn, 1) := by decide +kernel
theorem dX11_ofBatch_87 : decode cX11_ofBatch 87 = .ok (.aload_n 0, 1) := by decide +kernel
theorem dX11_ofBatch_88 : decode cX11_ofBatch 88 = .ok (.getfield 10, 3) := by decide +kernel
theorem dX11_ofBatch_91 : decode cX11_ofBatch 91 = .ok (.iload_n 1, 1) := by decide +kernel
theorem dX11_ofBatch_92 : decode cX11_ofBatch 92 = .ok (.invokevirtual 248, 3) := by decide +kernel
theorem dX11_ofBatch_95 : decode cX11_ofBatch 95 = .ok (.ireturn, 1) := by decide +kernel
theorem dX11_ofBatch_96 : decode cX11_ofBatch 96 = .ok (.aload_n 0, 1) := by decide +kernel
theorem dX11_ofBatch_97 : decode cX11_ofBatch 97 = .ok (.getfield 10, 3) := by decide +kernel
theorem dX11_ofBatch_100 : decode cX11_ofBatch 100 = .ok (.getfield 251, 3) := by decide +kernel
theorem dX11_ofBatch_103 : decode cX11_ofBatch 103 = .ok (.getfield 111, 3) := by decide +kernel
theorem dX11_ofBatch_106 : decode cX11_ofBatch 106 = .ok (.iload_n 1, 1) := by decide +kernel
theorem dX11_ofBatch_107 : decode cX11_ofBatch 107 = .ok (.iaload, 1) := by decide +kernel
theorem dX11_ofBatch_108 : decode cX11_ofBatch 108 = .ok (.ireturn, 1) := by decide +kernel
theorem dX11_ofBatch_109 : decode cX11_ofBatch 109 = .ok (.aload_n 0, 1) := by decide +kernel
theorem dX11_ofBatch_110 : decode cX11_ofBatch 110 = .ok (.getfield 10, 3) := by decide +kernel
theorem dX11_ofBatch_113 : decode cX11_ofBatch 113 = .ok (.getfield 254, 3) := by decide +kernel
theorem dX11_ofBatch_116 : decode cX11_ofBatch 116 = .ok (.getfield 111, 3) := by decide +kernel
theorem dX11_ofBatch_119 : decode cX11_ofBatch 119 = .ok (.iload_n 1, 1) := by decide +kernel
theorem dX11_ofBatch_120 : decode cX11_ofBatch 120 = .ok (.iaload, 1) := by decide +kernel
theorem dX11_ofBatch_121 : decode cX11_ofBatch 121 = .ok (.ireturn, 1) := by decide +kernel
theorem dX11_ofBatch_122 : decode cX11_ofBatch 122 = .ok (.aload_n 0, 1) := by decide +kernel
theorem dX11_ofBatch_123 : decode cX11_ofBatch 123 = .ok (.getfield 10, 3) := by decide +kernel
theorem dX11_ofBatch_126 : decode cX11_ofBatch 126 = .ok (.getfield 257, 3) := by decide +kernel
theorem dX11_ofBatch_129 : decode cX11_ofBatch 129 = .ok (.iload_n 1, 1) := by decide +kernel
theorem dX11_ofBatch_130 : decode cX11_ofBatch 130 = .ok (.iaload, 1) := by decide +kernel
theorem dX11_ofBatch_131 : decode cX11_ofBatch 131 = .ok (.ireturn, 1) := by decide +kernel
theorem dX11_ofBatch_132 : decode cX11_ofBatch 132 = .ok (.aload_n 0, 1) := by decide +kernel
theorem dX11_ofBatch_133 : decode cX11_ofBatch 133 = .ok (.getfield 10, 3) := by decide +kernel
theorem dX11_ofBatch_136 : decode cX11_ofBatch 136 = .ok (.iload_n 1, 1) := by decide +kernel
theorem dX11_ofBatch_137 : decode cX11_ofBatch 137 = .ok (.invokevirtual 260, 3) := by decide +kernel
theorem dX11_ofBatch_140 : decode cX11_ofBatch 140 = .ok (.ireturn, 1) := by decide +kernel
theorem dX11_ofBatch_141 : decode cX11_ofBatch 141 = .ok (.iconst (-1), 1) := by decide +kernel
theorem dX11_ofBatch_142 : decode cX11_ofBatch 142 = .ok (.ireturn, 1) := by decide +kernel
theorem dX11_mix_0 : decode cX11_mix 0 = .ok (.aload_n 0, 1) := by decide +kernel
theorem dX11_mix_1 : decode cX11_mix 1 = .ok (.getfield 10, 3) := by decide +kernel
theorem dX11_mix_4 : decode cX11_mix 4 = .ok (.iload_n 1, 1) := by decide +kernel
theorem dX11_mix_5 : decode cX11_mix 5 = .ok (.invokevirtual 65, 3) := by decide +kernel
theorem dX11_mix_8 : decode cX11_mix 8 = .ok (.astore 5, 2) := by decide +kernel
theorem dX11_mix_10 : decode cX11_mix 10 = .ok (.aload_n 0, 1) := by decide +kernel
theorem dX11_mix_11 : decode cX11_mix 11 = .ok (.getfield 10, 3) := by decide +kernel
theorem dX11_mix_14 : decode cX11_mix 14 = .ok (.iload_n 2, 1) := by decide +kernel
theorem dX11_mix_15 : decode cX11_mix 15 = .ok (.invokevirtual 65, 3) := by decide +kernel
theorem dX11_mix_18 : decode cX11_mix 18 = .ok (.astore 6, 2) := by decide +kernel
theorem dX11_mix_20 : decode cX11_mix 20 = .ok (.aload 5, 2) := by decide +kernel
theorem dX11_mix_22 : decode cX11_mix 22 = .ok (.ifnull 13, 3) := by decide +kernel
theorem dX11_mix_25 : decode cX11_mix 25 = .ok (.aload 6, 2) := by decide +kernel
theorem dX11_mix_27 : decode cX11_mix 27 = .ok (.ifnull 8, 3) := by decide +kernel
theorem dX11_mix_30 : decode cX11_mix 30 = .ok (.iload_n 1, 1) := by decide +kernel
theorem dX11_mix_31 : decode cX11_mix 31 = .ok (.iload_n 2, 1) := by decide +kernel
theorem dX11_mix_32 : decode cX11_mix 32 = .ok (.if_icmp .ne 9, 3) := by decide +kernel
theorem dX11_mix_35 : decode cX11_mix 35 = .ok (.aload_n 0, 1) := by decide +kernel
theorem dX11_mix_36 : decode cX11_mix 36 = .ok (.iconst 1, 1) := by decide +kernel
theorem dX11_mix_37 : decode cX11_mix 37 = .ok (.invokevirtual 85, 3) := by decide +kernel
theorem dX11_mix_40 : decode cX11_mix 40 = .ok (.ireturn, 1) := by decide +kernel
theorem dX11_mix_41 : decode cX11_mix 41 = .ok (.iload_n 3, 1) := by decide +kernel
theorem dX11_mix_42 : decode cX11_mix 42 = .ok (.iconst 1, 1) := by decide +kernel
theorem dX11_mix_43 : decode cX11_mix 43 = .ok (.sipush 9999, 3) := by decide +kernel
theorem dX11_mix_46 : decode cX11_mix 46 = .ok (.invokestatic 69, 3) := by decide +kernel
theorem dX11_mix_49 : decode cX11_mix 49 = .ok (.ifCond .ne 15, 3) := by decide +kernel
theorem dX11_mix_52 : decode cX11_mix 52 = .ok (.iload 4, 2) := by decide +kernel
theorem dX11_mix_54 : decode cX11_mix 54 = .ok (.iconst 0, 1) := by decide +kernel
theorem dX11_mix_55 : decode cX11_mix 55 = .ok (.sipush 2000, 3) := by decide +kernel
theorem dX11_mix_58 : decode cX11_mix 58 = .ok (.invokestatic 69, 3) := by decide +kernel
theorem dX11_mix_61 : decode cX11_mix 61 = .ok (.ifCond .eq 10, 3) := by decide +kernel
theorem dX11_mix_64 : decode cX11_mix 64 = .ok (.aload_n 0, 1) := by decide +kernel
theorem dX11_mix_65 : decode cX11_mix 65 = .ok (.bipush 8, 2) := by decide +kernel
theorem dX11_mix_67 : decode cX11_mix 67 = .ok (.invokevirtual 85, 3) := by decide +kernel
theorem dX11_mix_70 : decode cX11_mix 70 = .ok (.ireturn, 1) := by decide +kernel
theorem dX11_mix_71 : decode cX11_mix 71 = .ok (.aload 5, 2) := by decide +kernel
theorem dX11_mix_73 : decode cX11_mix 73 = .ok (.getfield 101, 3) := by decide +kernel
theorem dX11_mix_76 : decode cX11_mix 76 = .ok (.iconst 1, 1) := by decide +kernel
theorem dX11_mix_77 : decode cX11_mix 77 = .ok (.if_icmp .ne 12, 3) := by decide +kernel
theorem dX11_mix_80 : decode cX11_mix 80 = .ok (.aload 6, 2) := by decide +kernel
theorem dX11_mix_82 : decode cX11_mix 82 = .ok (.getfield 101, 3) := by decide +kernel
theorem dX11_mix_85 : decode cX11_mix 85 = .ok (.iconst 1, 1) := by decide +kernel
theorem dX11_mix_86 : decode cX11_mix 86 = .ok (.if_icmp .eq 9, 3) := by decide +kernel
theorem dX11_mix_89 : decode cX11_mix 89 = .ok (.aload_n 0, 1) := by decide +kernel
theorem dX11_mix_90 : decode cX11_mix 90 = .ok (.iconst 2, 1) := by decide +kernel
theorem dX11_mix_91 : decode cX11_mix 91 = .ok (.invokevirtual 85, 3) := by decide +kernel
theorem dX11_mix_94 : decode cX11_mix 94 = .ok (.ireturn, 1) := by decide +kernel
theorem dX11_mix_95 : decode cX11_mix 95 = .ok (.aload_n 0, 1) := by decide +kernel
theorem dX11_mix_96 : decode cX11_mix 96 = .ok (.getfield 48, 3) := by decide +kernel
theorem dX11_mix_99 : decode cX11_mix 99 = .ok (.aload 5, 2) := by decide +kernel
theorem dX11_mix_101 : decode cX11_mix 101 = .ok (.getfield 73, 3) := by decide +kernel
theorem dX11_mix_104 : decode cX11_mix 104 = .ok (.aload 6, 2) := by decide +kernel
theorem dX11_mix_106 : decode cX11_mix 106 = .ok (.getfield 73, 3) := by decide +kernel
theorem dX11_mix_109 : decode cX11_mix 109 = .ok (.aload_n 0, 1) := by decide +kernel
theorem dX11_mix_110 : decode cX11_mix 110 = .ok (.getfield 10, 3) := by decide +kernel
theorem dX11_mix_113 : decode cX11_mix 113 = .ok (.getfield 233, 3) := by decide +kernel
theorem dX11_mix_116 : decode cX11_mix 116 = .ok (.iload_n 3, 1) := by decide +kernel
theorem dX11_mix_117 : decode cX11_mix 117 = .ok (.iload 4, 2) := by decide +kernel
theorem dX11_mix_119 : decode cX11_mix 119 = .ok (.invokevirtual 263, 3) := by decide +kernel
theorem dX11_mix_122 : decode cX11_mix 122 = .ok (.ireturn, 1) := by decide +kernel
theorem dX11_ofOrder_0 : decode cX11_ofOrder 0 = .ok (.aload_n 0, 1) := by decide +kernel
theorem dX11_ofOrder_1 : decode cX11_ofOrder 1 = .ok (.getfield 10, 3) := by decide +kernel
theorem dX11_ofOrder_4 : decode cX11_ofOrder 4 = .ok (.iload_n 1, 1) := by decide +kernel
theorem dX11_ofOrder_5 : decode cX11_ofOrder 5 = .ok (.invokevirtual 175, 3) := by decide +kernel
theorem dX11_ofOrder_8 : decode cX11_ofOrder 8 = .ok (.astore_n 3, 1) := by decide +kernel
theorem dX11_ofOrder_9 : decode cX11_ofOrder 9 = .ok (.aload_n 3, 1) := by decide +kernel
theorem dX11_ofOrder_10 : decode cX11_ofOrder 10 = .ok (.ifnonnull 5, 3) := by decide +kernel
theorem dX11_ofOrder_13 : decode cX11_ofOrder 13 = .ok (.iconst (-1), 1) := by decide +kernel
theorem dX11_ofOrder_14 : decode cX11_ofOrder 14 = .ok (.ireturn, 1) := by decide +kernel
theorem dX11_ofOrder_15 : decode cX11_ofOrder 15 = .ok (.iload_n 2, 1) := by decide +kernel
theorem dX11_ofOrder_16 : decode cX11_ofOrder 16 = .ok (.tableswitch 107 0 6 #[44, 49, 54, 59, 64, 69, 89], 44) := by decide +kernel
theorem dX11_ofOrder_60 : decode cX11_ofOrder 60 = .ok (.aload_n 3, 1) := by decide +kernel
theorem dX11_ofOrder_61 : decode cX11_ofOrder 61 = .ok (.getfield 158, 3) := by decide +kernel
theorem dX11_ofOrder_64 : decode cX11_ofOrder 64 = .ok (.ireturn, 1) := by decide +kernel
theorem dX11_ofOrder_65 : decode cX11_ofOrder 65 = .ok (.aload_n 3, 1) := by decide +kernel
theorem dX11_ofOrder_66 : decode cX11_ofOrder 66 = .ok (.getfield 163, 3) := by decide +kernel
theorem dX11_ofOrder_69 : decode cX11_ofOrder 69 = .ok (.ireturn, 1) := by decide +kernel
theorem dX11_ofOrder_70 : decode cX11_ofOrder 70 = .ok (.aload_n 3, 1) := by decide +kernel
theorem dX11_ofOrder_71 : decode cX11_ofOrder 71 = .ok (.getfield 166, 3) := by decide +kernel
theorem dX11_ofOrder_74 : decode cX11_ofOrder 74 = .ok (.ireturn, 1) := by decide +kernel
theorem dX11_ofOrder_75 : decode cX11_ofOrder 75 = .ok (.aload_n 3, 1) := by decide +kernel
theorem dX11_ofOrder_76 : decode cX11_ofOrder 76 = .ok (.getfield 169, 3) := by decide +kernel
theorem dX11_ofOrder_79 : decode cX11_ofOrder 79 = .ok (.ireturn, 1) := by decide +kernel
theorem dX11_ofOrder_80 : decode cX11_ofOrder 80 = .ok (.aload_n 3, 1) := by decide +kernel
theorem dX11_ofOrder_81 : decode cX11_ofOrder 81 = .ok (.getfield 172, 3) := by decide +kernel
theorem dX11_ofOrder_84 : decode cX11_ofOrder 84 = .ok (.ireturn, 1) := by decide +kernel
theorem dX11_ofOrder_85 : decode cX11_ofOrder 85 = .ok (.aload_n 0, 1) := by decide +kernel
theorem dX11_ofOrder_86 : decode cX11_ofOrder 86 = .ok (.getfield 41, 3) := by decide +kernel
theorem dX11_ofOrder_89 : decode cX11_ofOrder 89 = .ok (.aload_n 0, 1) := by decide +kernel
theorem dX11_ofOrder_90 : decode cX11_ofOrder 90 = .ok (.getfield 10, 3) := by decide +kernel
theorem dX11_ofOrder_93 : decode cX11_ofOrder 93 = .ok (.invokevirtual 185, 3) := by decide +kernel
theorem dX11_ofOrder_96 : decode cX11_ofOrder 96 = .ok (.aload_n 0, 1) := by decide +kernel
theorem dX11_ofOrder_97 : decode cX11_ofOrder 97 = .ok (.getfield 41, 3) := by decide +kernel
theorem dX11_ofOrder_100 : decode cX11_ofOrder 100 = .ok (.iload_n 1, 1) := by decide +kernel
theorem dX11_ofOrder_101 : decode cX11_ofOrder 101 = .ok (.invokevirtual 267, 3) := by decide +kernel
theorem dX11_ofOrder_104 : decode cX11_ofOrder 104 = .ok (.ireturn, 1) := by decide +kernel
theorem dX11_ofOrder_105 : decode cX11_ofOrder 105 = .ok (.aload_n 3, 1) := by decide +kernel
theorem dX11_ofOrder_106 : decode cX11_ofOrder 106 = .ok (.getfield 172, 3) := by decide +kernel
theorem dX11_ofOrder_109 : decode cX11_ofOrder 109 = .ok (.iconst 1, 1) := by decide +kernel
theorem dX11_ofOrder_110 : decode cX11_ofOrder 110 = .ok (.if_icmp .ne 10, 3) := by decide +kernel
theorem dX11_ofOrder_113 : decode cX11_ofOrder 113 = .ok (.aload_n 3, 1) := by decide +kernel
theorem dX11_ofOrder_114 : decode cX11_ofOrder 114 = .ok (.getfield 270, 3) := by decide +kernel
theorem dX11_ofOrder_117 : decode cX11_ofOrder 117 = .ok (.goto 5, 3) := by decide +kernel
theorem dX11_ofOrder_120 : decode cX11_ofOrder 120 = .ok (.bipush (-5), 2) := by decide +kernel
theorem dX11_ofOrder_122 : decode cX11_ofOrder 122 = .ok (.ireturn, 1) := by decide +kernel
theorem dX11_ofOrder_123 : decode cX11_ofOrder 123 = .ok (.iconst (-1), 1) := by decide +kernel
theorem dX11_ofOrder_124 : decode cX11_ofOrder 124 = .ok (.ireturn, 1) := by decide +kernel
theorem dX11_planned_0 : decode cX11_planned 0 = .ok (.iload_n 1, 1) := by decide +kernel
theorem dX11_planned_1 : decode cX11_planned 1 = .ok (.ifCond .ge 5, 3) := by decide +kernel
theorem dX11_planned_4 : decode cX11_planned 4 = .ok (.iconst (-1), 1) := by decide +kernel
theorem dX11_planned_5 : decode cX11_planned 5 = .ok (.ireturn, 1) := by decide +kernel
theorem dX11_planned_6 : decode cX11_planned 6 = .ok (.aload_n 0, 1) := by decide +kernel
theorem dX11_planned_7 : decode cX11_planned 7 = .ok (.getfield 41, 3) := by decide +kernel
theorem dX11_planned_10 : decode cX11_planned 10 = .ok (.aload_n 0, 1) := by decide +kernel
theorem dX11_planned_11 : decode cX11_planned 11 = .ok (.getfield 10, 3) := by decide +kernel
theorem dX11_planned_14 : decode cX11_planned 14 = .ok (.invokevirtual 185, 3) := by decide +kernel
theorem dX11_planned_17 : decode cX11_planned 17 = .ok (.iload_n 1, 1) := by decide +kernel
theorem dX11_planned_18 : decode cX11_planned 18 = .ok (.aload_n 0, 1) := by decide +kernel
theorem dX11_planned_19 : decode cX11_planned 19 = .ok (.getfield 41, 3) := by decide +kernel
theorem dX11_planned_22 : decode cX11_planned 22 = .ok (.getfield 189, 3) := by decide +kernel
theorem dX11_planned_25 : decode cX11_planned 25 = .ok (.if_icmp .ge 15, 3) := by decide +kernel
theorem dX11_planned_28 : decode cX11_planned 28 = .ok (.aload_n 0, 1) := by decide +kernel
theorem dX11_planned_29 : decode cX11_planned 29 = .ok (.getfield 41, 3) := by decide +kernel
theorem dX11_planned_32 : decode cX11_planned 32 = .ok (.getfield 195, 3) := by decide +kernel
theorem dX11_planned_35 : decode cX11_planned 35 = .ok (.iload_n 1, 1) := by decide +kernel
theorem dX11_planned_36 : decode cX11_planned 36 = .ok (.iaload, 1) := by decide +kernel
theorem dX11_planned_37 : decode cX11_planned 37 = .ok (.goto 5, 3) := by decide +kernel
theorem dX11_planned_40 : decode cX11_planned 40 = .ok (.bipush (-5), 2) := by decide +kernel
theorem dX11_planned_42 : decode cX11_planned 42 = .ok (.ireturn, 1) := by decide +kernel
theorem dX11_holds_0 : decode cX11_holds 0 = .ok (.iload_n 1, 1) := by decide +kernel
theorem dX11_holds_1 : decode cX11_holds 1 = .ok (.iconst 0, 1) := by decide +kernel
theorem dX11_holds_2 : decode cX11_holds 2 = .ok (.sipush 9999, 3) := by decide +kernel
theorem dX11_holds_5 : decode cX11_holds 5 = .ok (.invokestatic 69, 3) := by decide +kernel
theorem dX11_holds_8 : decode cX11_holds 8 = .ok (.ifCond .ne 14, 3) := by decide +kernel
theorem dX11_holds_11 : decode cX11_holds 11 = .ok (.iload_n 2, 1) := by decide +kernel
theorem dX11_holds_12 : decode cX11_holds 12 = .ok (.iconst 0, 1) := by decide +kernel
theorem dX11_holds_13 : decode cX11_holds 13 = .ok (.sipush 2000, 3) := by decide +kernel
theorem dX11_holds_16 : decode cX11_holds 16 = .ok (.invokestatic 69, 3) := by decide +kernel
theorem dX11_holds_19 : decode cX11_holds 19 = .ok (.ifCond .eq 6, 3) := by decide +kernel
theorem dX11_holds_22 : decode cX11_holds 22 = .ok (.bipush (-2), 2) := by decide +kernel
theorem dX11_holds_24 : decode cX11_holds 24 = .ok (.ireturn, 1) := by decide +kernel
theorem dX11_holds_25 : decode cX11_holds 25 = .ok (.aload_n 0, 1) := by decide +kernel
theorem dX11_holds_26 : decode cX11_holds 26 = .ok (.getfield 10, 3) := by decide +kernel
theorem dX11_holds_29 : decode cX11_holds 29 = .ok (.iload_n 1, 1) := by decide +kernel
theorem dX11_holds_30 : decode cX11_holds 30 = .ok (.iload_n 2, 1) := by decide +kernel
theorem dX11_holds_31 : decode cX11_holds 31 = .ok (.invokevirtual 273, 3) := by decide +kernel
theorem dX11_holds_34 : decode cX11_holds 34 = .ok (.ireturn, 1) := by decide +kernel
theorem dX11_excise_0 : decode cX11_excise 0 = .ok (.iload_n 1, 1) := by decide +kernel
theorem dX11_excise_1 : decode cX11_excise 1 = .ok (.tableswitch 63 0 3 #[31, 39, 47, 55], 31) := by decide +kernel
theorem dX11_excise_32 : decode cX11_excise 32 = .ok (.aload_n 0, 1) := by decide +kernel
theorem dX11_excise_33 : decode cX11_excise 33 = .ok (.getfield 10, 3) := by decide +kernel
theorem dX11_excise_36 : decode cX11_excise 36 = .ok (.getfield 276, 3) := by decide +kernel
theorem dX11_excise_39 : decode cX11_excise 39 = .ok (.lreturn, 1) := by decide +kernel
theorem dX11_excise_40 : decode cX11_excise 40 = .ok (.aload_n 0, 1) := by decide +kernel
theorem dX11_excise_41 : decode cX11_excise 41 = .ok (.getfield 10, 3) := by decide +kernel
theorem dX11_excise_44 : decode cX11_excise 44 = .ok (.invokevirtual 280, 3) := by decide +kernel
theorem dX11_excise_47 : decode cX11_excise 47 = .ok (.lreturn, 1) := by decide +kernel
theorem dX11_excise_48 : decode cX11_excise 48 = .ok (.aload_n 0, 1) := by decide +kernel
theorem dX11_excise_49 : decode cX11_excise 49 = .ok (.getfield 10, 3) := by decide +kernel
theorem dX11_excise_52 : decode cX11_excise 52 = .ok (.getfield 284, 3) := by decide +kernel
theorem dX11_excise_55 : decode cX11_excise 55 = .ok (.lreturn, 1) := by decide +kernel
theorem dX11_excise_56 : decode cX11_excise 56 = .ok (.aload_n 0, 1) := by decide +kernel
theorem dX11_excise_57 : decode cX11_excise 57 = .ok (.getfield 10, 3) := by decide +kernel
theorem dX11_excise_60 : decode cX11_excise 60 = .ok (.invokevirtual 287, 3) := by decide +kernel
theorem dX11_excise_63 : decode cX11_excise 63 = .ok (.lreturn, 1) := by decide +kernel
theorem dX11_excise_64 : decode cX11_excise 64 = .ok (.ldc2_w 292, 3) := by decide +kernel
theorem dX11_excise_67 : decode cX11_excise 67 = .ok (.lreturn, 1) := by decide +kernel
theorem dX11_correct_0 : decode cX11_correct 0 = .ok (.aload_n 0, 1) := by decide +kernel
theorem dX11_correct_1 : decode cX11_correct 1 = .ok (.invokevirtual 89, 3) := by decide +kernel
theorem dX11_correct_4 : decode cX11_correct 4 = .ok (.aload_n 0, 1) := by decide +kernel
theorem dX11_correct_5 : decode cX11_correct 5 = .ok (.getfield 10, 3) := by decide +kernel
theorem dX11_correct_8 : decode cX11_correct 8 = .ok (.invokevirtual 287, 3) := by decide +kernel
theorem dX11_correct_11 : decode cX11_correct 11 = .ok (.lstore_n 1, 1) := by decide +kernel
theorem dX11_correct_12 : decode cX11_correct 12 = .ok (.aload_n 0, 1) := by decide +kernel
theorem dX11_correct_13 : decode cX11_correct 13 = .ok (.getfield 10, 3) := by decide +kernel
theorem dX11_correct_16 : decode cX11_correct 16 = .ok (.dup, 1) := by decide +kernel
theorem dX11_correct_17 : decode cX11_correct 17 = .ok (.getfield 284, 3) := by decide +kernel
theorem dX11_correct_20 : decode cX11_correct 20 = .ok (.lload_n 1, 1) := by decide +kernel
theorem dX11_correct_21 : decode cX11_correct 21 = .ok (.ladd, 1) := by decide +kernel
theorem dX11_correct_22 : decode cX11_correct 22 = .ok (.putfield 284, 3) := by decide +kernel
theorem dX11_correct_25 : decode cX11_correct 25 = .ok (.lload_n 1, 1) := by decide +kernel
theorem dX11_correct_26 : decode cX11_correct 26 = .ok (.lconst 0, 1) := by decide +kernel
theorem dX11_correct_27 : decode cX11_correct 27 = .ok (.lcmp, 1) := by decide +kernel
theorem dX11_correct_28 : decode cX11_correct 28 = .ok (.ifCond .ne 9, 3) := by decide +kernel
theorem dX11_correct_31 : decode cX11_correct 31 = .ok (.aload_n 0, 1) := by decide +kernel
theorem dX11_correct_32 : decode cX11_correct 32 = .ok (.iconst 0, 1) := by decide +kernel
theorem dX11_correct_33 : decode cX11_correct 33 = .ok (.invokevirtual 95, 3) := by decide +kernel
theorem dX11_correct_36 : decode cX11_correct 36 = .ok (.ireturn, 1) := by decide +kernel
theorem dX11_correct_37 : decode cX11_correct 37 = .ok (.aload_n 0, 1) := by decide +kernel
theorem dX11_correct_38 : decode cX11_correct 38 = .ok (.lload_n 1, 1) := by decide +kernel
theorem dX11_correct_39 : decode cX11_correct 39 = .ok (.lconst 0, 1) := by decide +kernel
theorem dX11_correct_40 : decode cX11_correct 40 = .ok (.lcmp, 1) := by decide +kernel
theorem dX11_correct_41 : decode cX11_correct 41 = .ok (.ifCond .le 7, 3) := by decide +kernel
theorem dX11_correct_44 : decode cX11_correct 44 = .ok (.iconst 1, 1) := by decide +kernel
theorem dX11_correct_45 : decode cX11_correct 45 = .ok (.goto 4, 3) := by decide +kernel
theorem dX11_correct_48 : decode cX11_correct 48 = .ok (.iconst 2, 1) := by decide +kernel
theorem dX11_correct_49 : decode cX11_correct 49 = .ok (.invokevirtual 95, 3) := by decide +kernel
theorem dX11_correct_52 : decode cX11_correct 52 = .ok (.ireturn, 1) := by decide +kernel
theorem dX11_entry_0 : decode cX11_entry 0 = .ok (.iload_n 1, 1) := by decide +kernel
theorem dX11_entry_1 : decode cX11_entry 1 = .ok (.iconst (-1), 1) := by decide +kernel
theorem dX11_entry_2 : decode cX11_entry 2 = .ok (.if_icmp .ne 14, 3) := by decide +kernel
theorem dX11_entry_5 : decode cX11_entry 5 = .ok (.aload_n 0, 1) := by decide +kernel
theorem dX11_entry_6 : decode cX11_entry 6 = .ok (.getfield 10, 3) := by decide +kernel
theorem dX11_entry_9 : decode cX11_entry 9 = .ok (.getfield 294, 3) := by decide +kernel
theorem dX11_entry_12 : decode cX11_entry 12 = .ok (.getfield 298, 3) := by decide +kernel
theorem dX11_entry_15 : decode cX11_entry 15 = .ok (.ireturn, 1) := by decide +kernel
theorem dX11_entry_16 : decode cX11_entry 16 = .ok (.aload_n 0, 1) := by decide +kernel
theorem dX11_entry_17 : decode cX11_entry 17 = .ok (.getfield 10, 3) := by decide +kernel
theorem dX11_entry_20 : decode cX11_entry 20 = .ok (.getfield 294, 3) := by decide +kernel
theorem dX11_entry_23 : decode cX11_entry 23 = .ok (.iload_n 1, 1) := by decide +kernel
theorem dX11_entry_24 : decode cX11_entry 24 = .ok (.iload_n 2, 1) := by decide +kernel
theorem dX11_entry_25 : decode cX11_entry 25 = .ok (.invokevirtual 303, 3) := by decide +kernel
theorem dX11_entry_28 : decode cX11_entry 28 = .ok (.ireturn, 1) := by decide +kernel
theorem dX11_account_0 : decode cX11_account 0 = .ok (.iload_n 1, 1) := by decide +kernel
theorem dX11_account_1 : decode cX11_account 1 = .ok (.tableswitch 193 0 12 #[67, 79, 88, 100, 100, 100, 100, 113, 131, 139, 157, 175, 184], 67) := by decide +kernel
theorem dX11_account_68 : decode cX11_account 68 = .ok (.aload_n 0, 1) := by decide +kernel
theorem dX11_account_69 : decode cX11_account 69 = .ok (.getfield 10, 3) := by decide +kernel
theorem dX11_account_72 : decode cX11_account 72 = .ok (.getfield 245, 3) := by decide +kernel
theorem dX11_account_75 : decode cX11_account 75 = .ok (.invokevirtual 79, 3) := by decide +kernel
theorem dX11_account_78 : decode cX11_account 78 = .ok (.i2l, 1) := by decide +kernel
theorem dX11_account_79 : decode cX11_account 79 = .ok (.lreturn, 1) := by decide +kernel
theorem dX11_account_80 : decode cX11_account 80 = .ok (.aload_n 0, 1) := by decide +kernel
theorem dX11_account_81 : decode cX11_account 81 = .ok (.getfield 10, 3) := by decide +kernel
theorem dX11_account_84 : decode cX11_account 84 = .ok (.invokevirtual 306, 3) := by decide +kernel
theorem dX11_account_87 : decode cX11_account 87 = .ok (.i2l, 1) := by decide +kernel
theorem dX11_account_88 : decode cX11_account 88 = .ok (.lreturn, 1) := by decide +kernel
theorem dX11_account_89 : decode cX11_account 89 = .ok (.aload_n 0, 1) := by decide +kernel
theorem dX11_account_90 : decode cX11_account 90 = .ok (.getfield 10, 3) := by decide +kernel
theorem dX11_account_93 : decode cX11_account 93 = .ok (.getfield 251, 3) := by decide +kernel
theorem dX11_account_96 : decode cX11_account 96 = .ok (.invokevirtual 79, 3) := by decide +kernel
theorem dX11_account_99 : decode cX11_account 99 = .ok (.i2l, 1) := by decide +kernel
theorem dX11_account_100 : decode cX11_account 100 = .ok (.lreturn, 1) := by decide +kernel
theorem dX11_account_101 : decode cX11_account 101 = .ok (.aload_n 0, 1) := by decide +kernel
theorem dX11_account_102 : decode cX11_account 102 = .ok (.getfield 10, 3) := by decide +kernel
theorem dX11_account_105 : decode cX11_account 105 = .ok (.getfield 309, 3) := by decide +kernel
theorem dX11_account_108 : decode cX11_account 108 = .ok (.iload_n 1, 1) := by decide +kernel
theorem dX11_account_109 : decode cX11_account 109 = .ok (.iconst 3, 1) := by decide +kernel
theorem dX11_account_110 : decode cX11_account 110 = .ok (.isub, 1) := by decide +kernel
theorem dX11_account_111 : decode cX11_account 111 = .ok (.iaload, 1) := by decide +kernel
theorem dX11_account_112 : decode cX11_account 112 = .ok (.i2l, 1) := by decide +kernel
theorem dX11_account_113 : decode cX11_account 113 = .ok (.lreturn, 1) := by decide +kernel
theorem dX11_account_114 : decode cX11_account 114 = .ok (.aload_n 0, 1) := by decide +kernel
theorem dX11_account_115 : decode cX11_account 115 = .ok (.getfield 10, 3) := by decide +kernel
theorem dX11_account_118 : decode cX11_account 118 = .ok (.getfield 245, 3) := by decide +kernel
theorem dX11_account_121 : decode cX11_account 121 = .ok (.aload_n 0, 1) := by decide +kernel
theorem dX11_account_122 : decode cX11_account 122 = .ok (.getfield 10, 3) := by decide +kernel
theorem dX11_account_125 : decode cX11_account 125 = .ok (.getfield 233, 3) := by decide +kernel
theorem dX11_account_128 : decode cX11_account 128 = .ok (.invokevirtual 312, 3) := by decide +kernel
theorem dX11_account_131 : decode cX11_account 131 = .ok (.lreturn, 1) := by decide +kernel
theorem dX11_account_132 : decode cX11_account 132 = .ok (.aload_n 0, 1) := by decide +kernel
theorem dX11_account_133 : decode cX11_account 133 = .ok (.getfield 10, 3) := by decide +kernel
theorem dX11_account_136 : decode cX11_account 136 = .ok (.invokevirtual 316, 3) := by decide +kernel
theorem dX11_account_139 : decode cX11_account 139 = .ok (.lreturn, 1) := by decide +kernel
theorem dX11_account_140 : decode cX11_account 140 = .ok (.aload_n 0, 1) := by decide +kernel
theorem dX11_account_141 : decode cX11_account 141 = .ok (.getfield 10, 3) := by decide +kernel
theorem dX11_account_144 : decode cX11_account 144 = .ok (.getfield 251, 3) := by decide +kernel
theorem dX11_account_147 : decode cX11_account 147 = .ok (.aload_n 0, 1) := by decide +kernel
theorem dX11_account_148 : decode cX11_account 148 = .ok (.getfield 10, 3) := by decide +kernel
theorem dX11_account_151 : decode cX11_account 151 = .ok (.getfield 233, 3) := by decide +kernel
theorem dX11_account_154 : decode cX11_account 154 = .ok (.invokevirtual 312, 3) := by decide +kernel
theorem dX11_account_157 : decode cX11_account 157 = .ok (.lreturn, 1) := by decide +kernel
theorem dX11_account_158 : decode cX11_account 158 = .ok (.aload_n 0, 1) := by decide +kernel
theorem dX11_account_159 : decode cX11_account 159 = .ok (.getfield 10, 3) := by decide +kernel
theorem dX11_account_162 : decode cX11_account 162 = .ok (.getfield 254, 3) := by decide +kernel
theorem dX11_account_165 : decode cX11_account 165 = .ok (.aload_n 0, 1) := by decide +kernel
theorem dX11_account_166 : decode cX11_account 166 = .ok (.getfield 10, 3) := by decide +kernel
theorem dX11_account_169 : decode cX11_account 169 = .ok (.getfield 233, 3) := by decide +kernel
theorem dX11_account_172 : decode cX11_account 172 = .ok (.invokevirtual 312, 3) := by decide +kernel
theorem dX11_account_175 : decode cX11_account 175 = .ok (.lreturn, 1) := by decide +kernel
theorem dX11_account_176 : decode cX11_account 176 = .ok (.aload_n 0, 1) := by decide +kernel
theorem dX11_account_177 : decode cX11_account 177 = .ok (.getfield 10, 3) := by decide +kernel
theorem dX11_account_180 : decode cX11_account 180 = .ok (.invokevirtual 179, 3) := by decide +kernel
theorem dX11_account_183 : decode cX11_account 183 = .ok (.i2l, 1) := by decide +kernel
theorem dX11_account_184 : decode cX11_account 184 = .ok (.lreturn, 1) := by decide +kernel
theorem dX11_account_185 : decode cX11_account 185 = .ok (.aload_n 0, 1) := by decide +kernel
theorem dX11_account_186 : decode cX11_account 186 = .ok (.getfield 10, 3) := by decide +kernel
theorem dX11_account_189 : decode cX11_account 189 = .ok (.invokevirtual 319, 3) := by decide +kernel
theorem dX11_account_192 : decode cX11_account 192 = .ok (.i2l, 1) := by decide +kernel
theorem dX11_account_193 : decode cX11_account 193 = .ok (.lreturn, 1) := by decide +kernel
theorem dX11_account_194 : decode cX11_account 194 = .ok (.ldc2_w 292, 3) := by decide +kernel
theorem dX11_account_197 : decode cX11_account 197 = .ok (.lreturn, 1) := by decide +kernel
theorem dX11_back_0 : decode cX11_back 0 = .ok (.aload_n 0, 1) := by decide +kernel
theorem dX11_back_1 : decode cX11_back 1 = .ok (.getfield 20, 3) := by decide +kernel
theorem dX11_back_4 : decode cX11_back 4 = .ok (.ifCond .gt 6, 3) := by decide +kernel
theorem dX11_back_7 : decode cX11_back 7 = .ok (.bipush (-3), 2) := by decide +kernel
theorem dX11_back_9 : decode cX11_back 9 = .ok (.ireturn, 1) := by decide +kernel
theorem dX11_back_10 : decode cX11_back 10 = .ok (.aload_n 0, 1) := by decide +kernel
theorem dX11_back_11 : decode cX11_back 11 = .ok (.dup, 1) := by decide +kernel
theorem dX11_back_12 : decode cX11_back 12 = .ok (.getfield 20, 3) := by decide +kernel
theorem dX11_back_15 : decode cX11_back 15 = .ok (.iconst 1, 1) := by decide +kernel
theorem dX11_back_16 : decode cX11_back 16 = .ok (.isub, 1) := by decide +kernel
theorem dX11_back_17 : decode cX11_back 17 = .ok (.putfield 20, 3) := by decide +kernel
theorem dX11_back_20 : decode cX11_back 20 = .ok (.aload_n 0, 1) := by decide +kernel
theorem dX11_back_21 : decode cX11_back 21 = .ok (.getfield 10, 3) := by decide +kernel
theorem dX11_back_24 : decode cX11_back 24 = .ok (.aload_n 0, 1) := by decide +kernel
theorem dX11_back_25 : decode cX11_back 25 = .ok (.getfield 16, 3) := by decide +kernel
theorem dX11_back_28 : decode cX11_back 28 = .ok (.aload_n 0, 1) := by decide +kernel
theorem dX11_back_29 : decode cX11_back 29 = .ok (.getfield 20, 3) := by decide +kernel
theorem dX11_back_32 : decode cX11_back 32 = .ok (.aaload, 1) := by decide +kernel
theorem dX11_back_33 : decode cX11_back 33 = .ok (.invokevirtual 230, 3) := by decide +kernel
theorem dX11_back_36 : decode cX11_back 36 = .ok (.aload_n 0, 1) := by decide +kernel
theorem dX11_back_37 : decode cX11_back 37 = .ok (.getfield 20, 3) := by decide +kernel
theorem dX11_back_40 : decode cX11_back 40 = .ok (.ireturn, 1) := by decide +kernel
theorem dX11_image_0 : decode cX11_image 0 = .ok (.aload_n 0, 1) := by decide +kernel
theorem dX11_image_1 : decode cX11_image 1 = .ok (.getfield 24, 3) := by decide +kernel
theorem dX11_image_4 : decode cX11_image 4 = .ok (.aload_n 0, 1) := by decide +kernel
theorem dX11_image_5 : decode cX11_image 5 = .ok (.getfield 10, 3) := by decide +kernel
theorem dX11_image_8 : decode cX11_image 8 = .ok (.invokevirtual 230, 3) := by decide +kernel
theorem dX11_image_11 : decode cX11_image 11 = .ok (.aload_n 0, 1) := by decide +kernel
theorem dX11_image_12 : decode cX11_image 12 = .ok (.iconst 1, 1) := by decide +kernel
theorem dX11_image_13 : decode cX11_image 13 = .ok (.putfield 27, 3) := by decide +kernel
theorem dX11_image_16 : decode cX11_image 16 = .ok (.aload_n 0, 1) := by decide +kernel
theorem dX11_image_17 : decode cX11_image 17 = .ok (.getfield 10, 3) := by decide +kernel
theorem dX11_image_20 : decode cX11_image 20 = .ok (.getfield 157, 3) := by decide +kernel
theorem dX11_image_23 : decode cX11_image 23 = .ok (.ireturn, 1) := by decide +kernel
theorem dX11_undo_0 : decode cX11_undo 0 = .ok (.aload_n 0, 1) := by decide +kernel
theorem dX11_undo_1 : decode cX11_undo 1 = .ok (.getfield 27, 3) := by decide +kernel
theorem dX11_undo_4 : decode cX11_undo 4 = .ok (.ifCond .ne 6, 3) := by decide +kernel
theorem dX11_undo_7 : decode cX11_undo 7 = .ok (.bipush (-3), 2) := by decide +kernel
theorem dX11_undo_9 : decode cX11_undo 9 = .ok (.ireturn, 1) := by decide +kernel
theorem dX11_undo_10 : decode cX11_undo 10 = .ok (.aload_n 0, 1) := by decide +kernel
theorem dX11_undo_11 : decode cX11_undo 11 = .ok (.getfield 10, 3) := by decide +kernel
theorem dX11_undo_14 : decode cX11_undo 14 = .ok (.aload_n 0, 1) := by decide +kernel
theorem dX11_undo_15 : decode cX11_undo 15 = .ok (.getfield 24, 3) := by decide +kernel
theorem dX11_undo_18 : decode cX11_undo 18 = .ok (.invokevirtual 230, 3) := by decide +kernel
theorem dX11_undo_21 : decode cX11_undo 21 = .ok (.aload_n 0, 1) := by decide +kernel
theorem dX11_undo_22 : decode cX11_undo 22 = .ok (.iconst 0, 1) := by decide +kernel
theorem dX11_undo_23 : decode cX11_undo 23 = .ok (.putfield 20, 3) := by decide +kernel
theorem dX11_undo_26 : decode cX11_undo 26 = .ok (.aload_n 0, 1) := by decide +kernel
theorem dX11_undo_27 : decode cX11_undo 27 = .ok (.getfield 10, 3) := by decide +kernel
theorem dX11_undo_30 : decode cX11_undo 30 = .ok (.getfield 157, 3) := by decide +kernel
theorem dX11_undo_33 : decode cX11_undo 33 = .ok (.ireturn, 1) := by decide +kernel
theorem dX11_count_0 : decode cX11_count 0 = .ok (.iload_n 1, 1) := by decide +kernel
theorem dX11_count_1 : decode cX11_count 1 = .ok (.tableswitch 136 0 13 #[71, 79, 87, 95, 103, 111, 116, 136, 136, 136, 124, 124, 124, 124], 71) := by decide +kernel
theorem dX11_count_72 : decode cX11_count 72 = .ok (.aload_n 0, 1) := by decide +kernel
theorem dX11_count_73 : decode cX11_count 73 = .ok (.getfield 10, 3) := by decide +kernel
theorem dX11_count_76 : decode cX11_count 76 = .ok (.getfield 157, 3) := by decide +kernel
theorem dX11_count_79 : decode cX11_count 79 = .ok (.ireturn, 1) := by decide +kernel
theorem dX11_count_80 : decode cX11_count 80 = .ok (.aload_n 0, 1) := by decide +kernel
theorem dX11_count_81 : decode cX11_count 81 = .ok (.getfield 10, 3) := by decide +kernel
theorem dX11_count_84 : decode cX11_count 84 = .ok (.getfield 98, 3) := by decide +kernel
theorem dX11_count_87 : decode cX11_count 87 = .ok (.ireturn, 1) := by decide +kernel
theorem dX11_count_88 : decode cX11_count 88 = .ok (.aload_n 0, 1) := by decide +kernel
theorem dX11_count_89 : decode cX11_count 89 = .ok (.getfield 10, 3) := by decide +kernel
theorem dX11_count_92 : decode cX11_count 92 = .ok (.getfield 150, 3) := by decide +kernel
theorem dX11_count_95 : decode cX11_count 95 = .ok (.ireturn, 1) := by decide +kernel
theorem dX11_count_96 : decode cX11_count 96 = .ok (.aload_n 0, 1) := by decide +kernel
theorem dX11_count_97 : decode cX11_count 97 = .ok (.getfield 10, 3) := by decide +kernel
theorem dX11_count_100 : decode cX11_count 100 = .ok (.getfield 132, 3) := by decide +kernel
theorem dX11_count_103 : decode cX11_count 103 = .ok (.ireturn, 1) := by decide +kernel
theorem dX11_count_104 : decode cX11_count 104 = .ok (.aload_n 0, 1) := by decide +kernel
theorem dX11_count_105 : decode cX11_count 105 = .ok (.getfield 34, 3) := by decide +kernel
theorem dX11_count_108 : decode cX11_count 108 = .ok (.getfield 207, 3) := by decide +kernel
theorem dX11_count_111 : decode cX11_count 111 = .ok (.ireturn, 1) := by decide +kernel
theorem dX11_count_112 : decode cX11_count 112 = .ok (.aload_n 0, 1) := by decide +kernel
theorem dX11_count_113 : decode cX11_count 113 = .ok (.getfield 20, 3) := by decide +kernel
theorem dX11_count_116 : decode cX11_count 116 = .ok (.ireturn, 1) := by decide +kernel
theorem dX11_count_117 : decode cX11_count 117 = .ok (.aload_n 0, 1) := by decide +kernel
theorem dX11_count_118 : decode cX11_count 118 = .ok (.getfield 10, 3) := by decide +kernel
theorem dX11_count_121 : decode cX11_count 121 = .ok (.getfield 129, 3) := by decide +kernel
theorem dX11_count_124 : decode cX11_count 124 = .ok (.ireturn, 1) := by decide +kernel
theorem dX11_count_125 : decode cX11_count 125 = .ok (.aload_n 0, 1) := by decide +kernel
theorem dX11_count_126 : decode cX11_count 126 = .ok (.getfield 10, 3) := by decide +kernel
theorem dX11_count_129 : decode cX11_count 129 = .ok (.iload_n 1, 1) := by decide +kernel
theorem dX11_count_130 : decode cX11_count 130 = .ok (.bipush 10, 2) := by decide +kernel
theorem dX11_count_132 : decode cX11_count 132 = .ok (.isub, 1) := by decide +kernel
theorem dX11_count_133 : decode cX11_count 133 = .ok (.invokevirtual 322, 3) := by decide +kernel
theorem dX11_count_136 : decode cX11_count 136 = .ok (.ireturn, 1) := by decide +kernel
theorem dX11_count_137 : decode cX11_count 137 = .ok (.iconst (-1), 1) := by decide +kernel
theorem dX11_count_138 : decode cX11_count 138 = .ok (.ireturn, 1) := by decide +kernel
theorem dX11_outside_0 : decode cX11_outside 0 = .ok (.iload_n 0, 1) := by decide +kernel
theorem dX11_outside_1 : decode cX11_outside 1 = .ok (.iload_n 1, 1) := by decide +kernel
theorem dX11_outside_2 : decode cX11_outside 2 = .ok (.if_icmp .lt 8, 3) := by decide +kernel
theorem dX11_outside_5 : decode cX11_outside 5 = .ok (.iload_n 0, 1) := by decide +kernel
theorem dX11_outside_6 : decode cX11_outside 6 = .ok (.iload_n 2, 1) := by decide +kernel
theorem dX11_outside_7 : decode cX11_outside 7 = .ok (.if_icmp .le 7, 3) := by decide +kernel
theorem dX11_outside_10 : decode cX11_outside 10 = .ok (.iconst 1, 1) := by decide +kernel
theorem dX11_outside_11 : decode cX11_outside 11 = .ok (.goto 4, 3) := by decide +kernel
theorem dX11_outside_14 : decode cX11_outside 14 = .ok (.iconst 0, 1) := by decide +kernel
theorem dX11_outside_15 : decode cX11_outside 15 = .ok (.ireturn, 1) := by decide +kernel
theorem dX11_noByte_0 : decode cX11_noByte 0 = .ok (.iload_n 0, 1) := by decide +kernel
theorem dX11_noByte_1 : decode cX11_noByte 1 = .ok (.iconst 0, 1) := by decide +kernel
theorem dX11_noByte_2 : decode cX11_noByte 2 = .ok (.bipush 127, 2) := by decide +kernel
theorem dX11_noByte_4 : decode cX11_noByte 4 = .ok (.invokestatic 69, 3) := by decide +kernel
theorem dX11_noByte_7 : decode cX11_noByte 7 = .ok (.ireturn, 1) := by decide +kernel
theorem dX11_refuse_0 : decode cX11_refuse 0 = .ok (.aload_n 0, 1) := by decide +kernel
theorem dX11_refuse_1 : decode cX11_refuse 1 = .ok (.iload_n 1, 1) := by decide +kernel
theorem dX11_refuse_2 : decode cX11_refuse 2 = .ok (.putfield 62, 3) := by decide +kernel
theorem dX11_refuse_5 : decode cX11_refuse 5 = .ok (.bipush (-3), 2) := by decide +kernel
theorem dX11_refuse_7 : decode cX11_refuse 7 = .ok (.ireturn, 1) := by decide +kernel
theorem dX11_putBy_0 : decode cX11_putBy 0 = .ok (.aload_n 0, 1) := by decide +kernel
theorem dX11_putBy_1 : decode cX11_putBy 1 = .ok (.getfield 16, 3) := by decide +kernel
theorem dX11_putBy_4 : decode cX11_putBy 4 = .ok (.aload_n 0, 1) := by decide +kernel
theorem dX11_putBy_5 : decode cX11_putBy 5 = .ok (.getfield 20, 3) := by decide +kernel
theorem dX11_putBy_8 : decode cX11_putBy 8 = .ok (.aaload, 1) := by decide +kernel
theorem dX11_putBy_9 : decode cX11_putBy 9 = .ok (.aload_n 0, 1) := by decide +kernel
theorem dX11_putBy_10 : decode cX11_putBy 10 = .ok (.getfield 10, 3) := by decide +kernel
theorem dX11_putBy_13 : decode cX11_putBy 13 = .ok (.invokevirtual 230, 3) := by decide +kernel
theorem dX11_putBy_16 : decode cX11_putBy 16 = .ok (.return_, 1) := by decide +kernel
theorem dX11_changed_0 : decode cX11_changed 0 = .ok (.aload_n 0, 1) := by decide +kernel
theorem dX11_changed_1 : decode cX11_changed 1 = .ok (.getfield 20, 3) := by decide +kernel
theorem dX11_changed_4 : decode cX11_changed 4 = .ok (.bipush 6, 2) := by decide +kernel
theorem dX11_changed_6 : decode cX11_changed 6 = .ok (.if_icmp .ge 15, 3) := by decide +kernel
theorem dX11_changed_9 : decode cX11_changed 9 = .ok (.aload_n 0, 1) := by decide +kernel
theorem dX11_changed_10 : decode cX11_changed 10 = .ok (.dup, 1) := by decide +kernel
theorem dX11_changed_11 : decode cX11_changed 11 = .ok (.getfield 20, 3) := by decide +kernel
theorem dX11_changed_14 : decode cX11_changed 14 = .ok (.iconst 1, 1) := by decide +kernel
theorem dX11_changed_15 : decode cX11_changed 15 = .ok (.iadd, 1) := by decide +kernel
theorem dX11_changed_16 : decode cX11_changed 16 = .ok (.putfield 20, 3) := by decide +kernel
theorem dX11_changed_19 : decode cX11_changed 19 = .ok (.iload_n 1, 1) := by decide +kernel
theorem dX11_changed_20 : decode cX11_changed 20 = .ok (.ireturn, 1) := by decide +kernel
theorem dX11_changed_21 : decode cX11_changed 21 = .ok (.aload_n 0, 1) := by decide +kernel
theorem dX11_changed_22 : decode cX11_changed 22 = .ok (.getfield 16, 3) := by decide +kernel
theorem dX11_changed_25 : decode cX11_changed 25 = .ok (.iconst 0, 1) := by decide +kernel
theorem dX11_changed_26 : decode cX11_changed 26 = .ok (.aaload, 1) := by decide +kernel
theorem dX11_changed_27 : decode cX11_changed 27 = .ok (.astore_n 2, 1) := by decide +kernel
theorem dX11_changed_28 : decode cX11_changed 28 = .ok (.iconst 0, 1) := by decide +kernel
theorem dX11_changed_29 : decode cX11_changed 29 = .ok (.istore_n 3, 1) := by decide +kernel
theorem dX11_changed_30 : decode cX11_changed 30 = .ok (.iload_n 3, 1) := by decide +kernel
theorem dX11_changed_31 : decode cX11_changed 31 = .ok (.bipush 6, 2) := by decide +kernel
theorem dX11_changed_33 : decode cX11_changed 33 = .ok (.if_icmp .ge 23, 3) := by decide +kernel
theorem dX11_changed_36 : decode cX11_changed 36 = .ok (.aload_n 0, 1) := by decide +kernel
theorem dX11_changed_37 : decode cX11_changed 37 = .ok (.getfield 16, 3) := by decide +kernel
theorem dX11_changed_40 : decode cX11_changed 40 = .ok (.iload_n 3, 1) := by decide +kernel
theorem dX11_changed_41 : decode cX11_changed 41 = .ok (.aload_n 0, 1) := by decide +kernel
theorem dX11_changed_42 : decode cX11_changed 42 = .ok (.getfield 16, 3) := by decide +kernel
theorem dX11_changed_45 : decode cX11_changed 45 = .ok (.iload_n 3, 1) := by decide +kernel
theorem dX11_changed_46 : decode cX11_changed 46 = .ok (.iconst 1, 1) := by decide +kernel
theorem dX11_changed_47 : decode cX11_changed 47 = .ok (.iadd, 1) := by decide +kernel
theorem dX11_changed_48 : decode cX11_changed 48 = .ok (.aaload, 1) := by decide +kernel
theorem dX11_changed_49 : decode cX11_changed 49 = .ok (.aastore, 1) := by decide +kernel
theorem dX11_changed_50 : decode cX11_changed 50 = .ok (.iinc 3 1, 3) := by decide +kernel
theorem dX11_changed_53 : decode cX11_changed 53 = .ok (.goto (-23), 3) := by decide +kernel
theorem dX11_changed_56 : decode cX11_changed 56 = .ok (.aload_n 0, 1) := by decide +kernel
theorem dX11_changed_57 : decode cX11_changed 57 = .ok (.getfield 16, 3) := by decide +kernel
theorem dX11_changed_60 : decode cX11_changed 60 = .ok (.bipush 6, 2) := by decide +kernel
theorem dX11_changed_62 : decode cX11_changed 62 = .ok (.aload_n 2, 1) := by decide +kernel
theorem dX11_changed_63 : decode cX11_changed 63 = .ok (.aastore, 1) := by decide +kernel
theorem dX11_changed_64 : decode cX11_changed 64 = .ok (.iload_n 1, 1) := by decide +kernel
theorem dX11_changed_65 : decode cX11_changed 65 = .ok (.ireturn, 1) := by decide +kernel
theorem dX11_settle_0 : decode cX11_settle 0 = .ok (.iload_n 1, 1) := by decide +kernel
theorem dX11_settle_1 : decode cX11_settle 1 = .ok (.ifCond .ge 12, 3) := by decide +kernel
theorem dX11_settle_4 : decode cX11_settle 4 = .ok (.aload_n 0, 1) := by decide +kernel
theorem dX11_settle_5 : decode cX11_settle 5 = .ok (.iload_n 1, 1) := by decide +kernel
theorem dX11_settle_6 : decode cX11_settle 6 = .ok (.ineg, 1) := by decide +kernel
theorem dX11_settle_7 : decode cX11_settle 7 = .ok (.invokevirtual 85, 3) := by decide +kernel
theorem dX11_settle_10 : decode cX11_settle 10 = .ok (.goto 8, 3) := by decide +kernel
theorem dX11_settle_13 : decode cX11_settle 13 = .ok (.aload_n 0, 1) := by decide +kernel
theorem dX11_settle_14 : decode cX11_settle 14 = .ok (.iload_n 1, 1) := by decide +kernel
theorem dX11_settle_15 : decode cX11_settle 15 = .ok (.invokevirtual 95, 3) := by decide +kernel
theorem dX11_settle_18 : decode cX11_settle 18 = .ok (.ireturn, 1) := by decide +kernel
theorem dX11_perform_0 : decode cX11_perform 0 = .ok (.aload_n 1, 1) := by decide +kernel
theorem dX11_perform_1 : decode cX11_perform 1 = .ok (.getfield 325, 3) := by decide +kernel
theorem dX11_perform_4 : decode cX11_perform 4 = .ok (.lookupswitch 100 #[(99, 91), (102, 78), (108, 61), (116, 44)], 44) := by decide +kernel
theorem dX11_perform_48 : decode cX11_perform 48 = .ok (.aload_n 0, 1) := by decide +kernel
theorem dX11_perform_49 : decode cX11_perform 49 = .ok (.aload_n 1, 1) := by decide +kernel
theorem dX11_perform_50 : decode cX11_perform 50 = .ok (.getfield 330, 3) := by decide +kernel
theorem dX11_perform_53 : decode cX11_perform 53 = .ok (.aload_n 1, 1) := by decide +kernel
theorem dX11_perform_54 : decode cX11_perform 54 = .ok (.getfield 333, 3) := by decide +kernel
theorem dX11_perform_57 : decode cX11_perform 57 = .ok (.aload_n 1, 1) := by decide +kernel
theorem dX11_perform_58 : decode cX11_perform 58 = .ok (.getfield 336, 3) := by decide +kernel
theorem dX11_perform_61 : decode cX11_perform 61 = .ok (.invokevirtual 119, 3) := by decide +kernel
theorem dX11_perform_64 : decode cX11_perform 64 = .ok (.ireturn, 1) := by decide +kernel
theorem dX11_perform_65 : decode cX11_perform 65 = .ok (.aload_n 0, 1) := by decide +kernel
theorem dX11_perform_66 : decode cX11_perform 66 = .ok (.aload_n 1, 1) := by decide +kernel
theorem dX11_perform_67 : decode cX11_perform 67 = .ok (.getfield 330, 3) := by decide +kernel
theorem dX11_perform_70 : decode cX11_perform 70 = .ok (.aload_n 1, 1) := by decide +kernel
theorem dX11_perform_71 : decode cX11_perform 71 = .ok (.getfield 336, 3) := by decide +kernel
theorem dX11_perform_74 : decode cX11_perform 74 = .ok (.aload_n 1, 1) := by decide +kernel
theorem dX11_perform_75 : decode cX11_perform 75 = .ok (.getfield 333, 3) := by decide +kernel
theorem dX11_perform_78 : decode cX11_perform 78 = .ok (.invokevirtual 126, 3) := by decide +kernel
theorem dX11_perform_81 : decode cX11_perform 81 = .ok (.ireturn, 1) := by decide +kernel
theorem dX11_perform_82 : decode cX11_perform 82 = .ok (.aload_n 0, 1) := by decide +kernel
theorem dX11_perform_83 : decode cX11_perform 83 = .ok (.aload_n 1, 1) := by decide +kernel
theorem dX11_perform_84 : decode cX11_perform 84 = .ok (.getfield 330, 3) := by decide +kernel
theorem dX11_perform_87 : decode cX11_perform 87 = .ok (.aload_n 1, 1) := by decide +kernel
theorem dX11_perform_88 : decode cX11_perform 88 = .ok (.getfield 336, 3) := by decide +kernel
theorem dX11_perform_91 : decode cX11_perform 91 = .ok (.invokevirtual 182, 3) := by decide +kernel
theorem dX11_perform_94 : decode cX11_perform 94 = .ok (.ireturn, 1) := by decide +kernel
theorem dX11_perform_95 : decode cX11_perform 95 = .ok (.aload_n 0, 1) := by decide +kernel
theorem dX11_perform_96 : decode cX11_perform 96 = .ok (.aload_n 1, 1) := by decide +kernel
theorem dX11_perform_97 : decode cX11_perform 97 = .ok (.getfield 330, 3) := by decide +kernel
theorem dX11_perform_100 : decode cX11_perform 100 = .ok (.invokevirtual 197, 3) := by decide +kernel
theorem dX11_perform_103 : decode cX11_perform 103 = .ok (.ireturn, 1) := by decide +kernel
theorem dX11_perform_104 : decode cX11_perform 104 = .ok (.aload_n 0, 1) := by decide +kernel
theorem dX11_perform_105 : decode cX11_perform 105 = .ok (.aload_n 1, 1) := by decide +kernel
theorem dX11_perform_106 : decode cX11_perform 106 = .ok (.getfield 336, 3) := by decide +kernel
theorem dX11_perform_109 : decode cX11_perform 109 = .ok (.invokevirtual 200, 3) := by decide +kernel
theorem dX11_perform_112 : decode cX11_perform 112 = .ok (.ireturn, 1) := by decide +kernel
theorem dX11_pour_0 : decode cX11_pour 0 = .ok (.aload_n 0, 1) := by decide +kernel
theorem dX11_pour_1 : decode cX11_pour 1 = .ok (.getfield 10, 3) := by decide +kernel
theorem dX11_pour_4 : decode cX11_pour 4 = .ok (.iload_n 1, 1) := by decide +kernel
theorem dX11_pour_5 : decode cX11_pour 5 = .ok (.invokevirtual 65, 3) := by decide +kernel
theorem dX11_pour_8 : decode cX11_pour 8 = .ok (.astore 4, 2) := by decide +kernel
theorem dX11_pour_10 : decode cX11_pour 10 = .ok (.aload_n 0, 1) := by decide +kernel
theorem dX11_pour_11 : decode cX11_pour 11 = .ok (.getfield 10, 3) := by decide +kernel
theorem dX11_pour_14 : decode cX11_pour 14 = .ok (.iload_n 2, 1) := by decide +kernel
theorem dX11_pour_15 : decode cX11_pour 15 = .ok (.invokevirtual 65, 3) := by decide +kernel
theorem dX11_pour_18 : decode cX11_pour 18 = .ok (.astore 5, 2) := by decide +kernel
theorem dX11_pour_20 : decode cX11_pour 20 = .ok (.aload 4, 2) := by decide +kernel
theorem dX11_pour_22 : decode cX11_pour 22 = .ok (.ifnull 13, 3) := by decide +kernel
theorem dX11_pour_25 : decode cX11_pour 25 = .ok (.aload 5, 2) := by decide +kernel
theorem dX11_pour_27 : decode cX11_pour 27 = .ok (.ifnull 8, 3) := by decide +kernel
theorem dX11_pour_30 : decode cX11_pour 30 = .ok (.iload_n 1, 1) := by decide +kernel
theorem dX11_pour_31 : decode cX11_pour 31 = .ok (.iload_n 2, 1) := by decide +kernel
theorem dX11_pour_32 : decode cX11_pour 32 = .ok (.if_icmp .ne 5, 3) := by decide +kernel
theorem dX11_pour_35 : decode cX11_pour 35 = .ok (.iconst (-1), 1) := by decide +kernel
theorem dX11_pour_36 : decode cX11_pour 36 = .ok (.ireturn, 1) := by decide +kernel
theorem dX11_pour_37 : decode cX11_pour 37 = .ok (.iload_n 3, 1) := by decide +kernel
theorem dX11_pour_38 : decode cX11_pour 38 = .ok (.iconst 1, 1) := by decide +kernel
theorem dX11_pour_39 : decode cX11_pour 39 = .ok (.sipush 9999, 3) := by decide +kernel
theorem dX11_pour_42 : decode cX11_pour 42 = .ok (.invokestatic 69, 3) := by decide +kernel
theorem dX11_pour_45 : decode cX11_pour 45 = .ok (.ifCond .eq 6, 3) := by decide +kernel
theorem dX11_pour_48 : decode cX11_pour 48 = .ok (.bipush (-8), 2) := by decide +kernel
theorem dX11_pour_50 : decode cX11_pour 50 = .ok (.ireturn, 1) := by decide +kernel
theorem dX11_pour_51 : decode cX11_pour 51 = .ok (.aload 4, 2) := by decide +kernel
theorem dX11_pour_53 : decode cX11_pour 53 = .ok (.getfield 101, 3) := by decide +kernel
theorem dX11_pour_56 : decode cX11_pour 56 = .ok (.iconst 1, 1) := by decide +kernel
theorem dX11_pour_57 : decode cX11_pour 57 = .ok (.if_icmp .ne 20, 3) := by decide +kernel
theorem dX11_pour_60 : decode cX11_pour 60 = .ok (.aload 5, 2) := by decide +kernel
theorem dX11_pour_62 : decode cX11_pour 62 = .ok (.getfield 101, 3) := by decide +kernel
theorem dX11_pour_65 : decode cX11_pour 65 = .ok (.ifCond .eq 15, 3) := by decide +kernel
theorem dX11_pour_68 : decode cX11_pour 68 = .ok (.aload 5, 2) := by decide +kernel
theorem dX11_pour_70 : decode cX11_pour 70 = .ok (.getfield 101, 3) := by decide +kernel
theorem dX11_pour_73 : decode cX11_pour 73 = .ok (.iconst 1, 1) := by decide +kernel
theorem dX11_pour_74 : decode cX11_pour 74 = .ok (.if_icmp .eq 6, 3) := by decide +kernel
theorem dX11_pour_77 : decode cX11_pour 77 = .ok (.bipush (-2), 2) := by decide +kernel
theorem dX11_pour_79 : decode cX11_pour 79 = .ok (.ireturn, 1) := by decide +kernel
theorem dX11_pour_80 : decode cX11_pour 80 = .ok (.aload 4, 2) := by decide +kernel
theorem dX11_pour_82 : decode cX11_pour 82 = .ok (.getfield 73, 3) := by decide +kernel
theorem dX11_pour_85 : decode cX11_pour 85 = .ok (.invokevirtual 79, 3) := by decide +kernel
theorem dX11_pour_88 : decode cX11_pour 88 = .ok (.iload_n 3, 1) := by decide +kernel
theorem dX11_pour_89 : decode cX11_pour 89 = .ok (.if_icmp .ge 6, 3) := by decide +kernel
theorem dX11_pour_92 : decode cX11_pour 92 = .ok (.bipush (-3), 2) := by decide +kernel
theorem dX11_pour_94 : decode cX11_pour 94 = .ok (.ireturn, 1) := by decide +kernel
theorem dX11_pour_95 : decode cX11_pour 95 = .ok (.iload_n 3, 1) := by decide +kernel
theorem dX11_pour_96 : decode cX11_pour 96 = .ok (.aload_n 0, 1) := by decide +kernel
theorem dX11_pour_97 : decode cX11_pour 97 = .ok (.getfield 10, 3) := by decide +kernel
theorem dX11_pour_100 : decode cX11_pour 100 = .ok (.getfield 129, 3) := by decide +kernel
theorem dX11_pour_103 : decode cX11_pour 103 = .ok (.imul, 1) := by decide +kernel
theorem dX11_pour_104 : decode cX11_pour 104 = .ok (.sipush 1000, 3) := by decide +kernel
theorem dX11_pour_107 : decode cX11_pour 107 = .ok (.idiv, 1) := by decide +kernel
theorem dX11_pour_108 : decode cX11_pour 108 = .ok (.istore 6, 2) := by decide +kernel
theorem dX11_pour_110 : decode cX11_pour 110 = .ok (.iload_n 3, 1) := by decide +kernel
theorem dX11_pour_111 : decode cX11_pour 111 = .ok (.iload 6, 2) := by decide +kernel
theorem dX11_pour_113 : decode cX11_pour 113 = .ok (.isub, 1) := by decide +kernel
theorem dX11_pour_114 : decode cX11_pour 114 = .ok (.istore 7, 2) := by decide +kernel
theorem dX11_pour_116 : decode cX11_pour 116 = .ok (.iload 7, 2) := by decide +kernel
theorem dX11_pour_118 : decode cX11_pour 118 = .ok (.aload 5, 2) := by decide +kernel
theorem dX11_pour_120 : decode cX11_pour 120 = .ok (.invokevirtual 104, 3) := by decide +kernel
theorem dX11_pour_123 : decode cX11_pour 123 = .ok (.if_icmp .le 6, 3) := by decide +kernel
theorem dX11_pour_126 : decode cX11_pour 126 = .ok (.bipush (-4), 2) := by decide +kernel
theorem dX11_pour_128 : decode cX11_pour 128 = .ok (.ireturn, 1) := by decide +kernel
theorem dX11_pour_129 : decode cX11_pour 129 = .ok (.aload_n 0, 1) := by decide +kernel
theorem dX11_pour_130 : decode cX11_pour 130 = .ok (.getfield 55, 3) := by decide +kernel
theorem dX11_pour_133 : decode cX11_pour 133 = .ok (.aload 4, 2) := by decide +kernel
theorem dX11_pour_135 : decode cX11_pour 135 = .ok (.getfield 73, 3) := by decide +kernel
theorem dX11_pour_138 : decode cX11_pour 138 = .ok (.iload_n 3, 1) := by decide +kernel
theorem dX11_pour_139 : decode cX11_pour 139 = .ok (.invokevirtual 339, 3) := by decide +kernel
theorem dX11_pour_142 : decode cX11_pour 142 = .ok (.aload 4, 2) := by decide +kernel
theorem dX11_pour_144 : decode cX11_pour 144 = .ok (.aload_n 0, 1) := by decide +kernel
theorem dX11_pour_145 : decode cX11_pour 145 = .ok (.getfield 55, 3) := by decide +kernel
theorem dX11_pour_148 : decode cX11_pour 148 = .ok (.getfield 343, 3) := by decide +kernel
theorem dX11_pour_151 : decode cX11_pour 151 = .ok (.invokevirtual 346, 3) := by decide +kernel
theorem dX11_pour_154 : decode cX11_pour 154 = .ok (.aload_n 0, 1) := by decide +kernel
theorem dX11_pour_155 : decode cX11_pour 155 = .ok (.getfield 10, 3) := by decide +kernel
theorem dX11_pour_158 : decode cX11_pour 158 = .ok (.iconst 1, 1) := by decide +kernel
theorem dX11_pour_159 : decode cX11_pour 159 = .ok (.iload_n 1, 1) := by decide +kernel
theorem dX11_pour_160 : decode cX11_pour 160 = .ok (.iload_n 3, 1) := by decide +kernel
theorem dX11_pour_161 : decode cX11_pour 161 = .ok (.invokevirtual 115, 3) := by decide +kernel
theorem dX11_pour_164 : decode cX11_pour 164 = .ok (.iload 6, 2) := by decide +kernel
theorem dX11_pour_166 : decode cX11_pour 166 = .ok (.ifCond .le 54, 3) := by decide +kernel
theorem dX11_pour_169 : decode cX11_pour 169 = .ok (.aload_n 0, 1) := by decide +kernel
theorem dX11_pour_170 : decode cX11_pour 170 = .ok (.getfield 59, 3) := by decide +kernel
theorem dX11_pour_173 : decode cX11_pour 173 = .ok (.aload_n 0, 1) := by decide +kernel
theorem dX11_pour_174 : decode cX11_pour 174 = .ok (.getfield 55, 3) := by decide +kernel
theorem dX11_pour_177 : decode cX11_pour 177 = .ok (.getfield 343, 3) := by decide +kernel
theorem dX11_pour_180 : decode cX11_pour 180 = .ok (.iload 6, 2) := by decide +kernel
theorem dX11_pour_182 : decode cX11_pour 182 = .ok (.invokevirtual 339, 3) := by decide +kernel
theorem dX11_pour_185 : decode cX11_pour 185 = .ok (.aload_n 0, 1) := by decide +kernel
theorem dX11_pour_186 : decode cX11_pour 186 = .ok (.getfield 55, 3) := by decide +kernel
theorem dX11_pour_189 : decode cX11_pour 189 = .ok (.getfield 343, 3) := by decide +kernel
theorem dX11_pour_192 : decode cX11_pour 192 = .ok (.aload_n 0, 1) := by decide +kernel
theorem dX11_pour_193 : decode cX11_pour 193 = .ok (.getfield 59, 3) := by decide +kernel
theorem dX11_pour_196 : decode cX11_pour 196 = .ok (.getfield 343, 3) := by decide +kernel
theorem dX11_pour_199 : decode cX11_pour 199 = .ok (.invokevirtual 350, 3) := by decide +kernel
theorem dX11_pour_202 : decode cX11_pour 202 = .ok (.aload_n 0, 1) := by decide +kernel
theorem dX11_pour_203 : decode cX11_pour 203 = .ok (.getfield 10, 3) := by decide +kernel
theorem dX11_pour_206 : decode cX11_pour 206 = .ok (.iload_n 1, 1) := by decide +kernel
theorem dX11_pour_207 : decode cX11_pour 207 = .ok (.aload_n 0, 1) := by decide +kernel
theorem dX11_pour_208 : decode cX11_pour 208 = .ok (.getfield 59, 3) := by decide +kernel
theorem dX11_pour_211 : decode cX11_pour 211 = .ok (.getfield 343, 3) := by decide +kernel
theorem dX11_pour_214 : decode cX11_pour 214 = .ok (.iload 6, 2) := by decide +kernel
theorem dX11_pour_216 : decode cX11_pour 216 = .ok (.iconst 0, 1) := by decide +kernel
theorem dX11_pour_217 : decode cX11_pour 217 = .ok (.invokevirtual 353, 3) := by decide +kernel
theorem dX11_pour_220 : decode cX11_pour 220 = .ok (.aload 5, 2) := by decide +kernel
theorem dX11_pour_222 : decode cX11_pour 222 = .ok (.aload_n 0, 1) := by decide +kernel
theorem dX11_pour_223 : decode cX11_pour 223 = .ok (.getfield 55, 3) := by decide +kernel
theorem dX11_pour_226 : decode cX11_pour 226 = .ok (.getfield 343, 3) := by decide +kernel
theorem dX11_pour_229 : decode cX11_pour 229 = .ok (.invokevirtual 357, 3) := by decide +kernel
theorem dX11_pour_232 : decode cX11_pour 232 = .ok (.aload_n 0, 1) := by decide +kernel
theorem dX11_pour_233 : decode cX11_pour 233 = .ok (.getfield 10, 3) := by decide +kernel
theorem dX11_pour_236 : decode cX11_pour 236 = .ok (.iconst 2, 1) := by decide +kernel
theorem dX11_pour_237 : decode cX11_pour 237 = .ok (.iload_n 2, 1) := by decide +kernel
theorem dX11_pour_238 : decode cX11_pour 238 = .ok (.iload 7, 2) := by decide +kernel
theorem dX11_pour_240 : decode cX11_pour 240 = .ok (.invokevirtual 115, 3) := by decide +kernel
theorem dX11_pour_243 : decode cX11_pour 243 = .ok (.iload 7, 2) := by decide +kernel
theorem dX11_pour_245 : decode cX11_pour 245 = .ok (.ireturn, 1) := by decide +kernel
theorem dX11_spill_0 : decode cX11_spill 0 = .ok (.aload_n 0, 1) := by decide +kernel
theorem dX11_spill_1 : decode cX11_spill 1 = .ok (.getfield 10, 3) := by decide +kernel
theorem dX11_spill_4 : decode cX11_spill 4 = .ok (.iload_n 1, 1) := by decide +kernel
theorem dX11_spill_5 : decode cX11_spill 5 = .ok (.invokevirtual 65, 3) := by decide +kernel
theorem dX11_spill_8 : decode cX11_spill 8 = .ok (.astore 4, 2) := by decide +kernel
theorem dX11_spill_10 : decode cX11_spill 10 = .ok (.aload 4, 2) := by decide +kernel
theorem dX11_spill_12 : decode cX11_spill 12 = .ok (.ifnonnull 5, 3) := by decide +kernel
theorem dX11_spill_15 : decode cX11_spill 15 = .ok (.iconst (-1), 1) := by decide +kernel
theorem dX11_spill_16 : decode cX11_spill 16 = .ok (.ireturn, 1) := by decide +kernel
theorem dX11_spill_17 : decode cX11_spill 17 = .ok (.iload_n 2, 1) := by decide +kernel
theorem dX11_spill_18 : decode cX11_spill 18 = .ok (.iconst 1, 1) := by decide +kernel
theorem dX11_spill_19 : decode cX11_spill 19 = .ok (.sipush 9999, 3) := by decide +kernel
theorem dX11_spill_22 : decode cX11_spill 22 = .ok (.invokestatic 69, 3) := by decide +kernel
theorem dX11_spill_25 : decode cX11_spill 25 = .ok (.ifCond .ne 12, 3) := by decide +kernel
theorem dX11_spill_28 : decode cX11_spill 28 = .ok (.iload_n 3, 1) := by decide +kernel
theorem dX11_spill_29 : decode cX11_spill 29 = .ok (.iconst 1, 1) := by decide +kernel
theorem dX11_spill_30 : decode cX11_spill 30 = .ok (.iconst 3, 1) := by decide +kernel
theorem dX11_spill_31 : decode cX11_spill 31 = .ok (.invokestatic 69, 3) := by decide +kernel
theorem dX11_spill_34 : decode cX11_spill 34 = .ok (.ifCond .eq 6, 3) := by decide +kernel
theorem dX11_spill_37 : decode cX11_spill 37 = .ok (.bipush (-8), 2) := by decide +kernel
theorem dX11_spill_39 : decode cX11_spill 39 = .ok (.ireturn, 1) := by decide +kernel
theorem dX11_spill_40 : decode cX11_spill 40 = .ok (.aload 4, 2) := by decide +kernel
theorem dX11_spill_42 : decode cX11_spill 42 = .ok (.getfield 101, 3) := by decide +kernel
theorem dX11_spill_45 : decode cX11_spill 45 = .ok (.iconst 1, 1) := by decide +kernel
theorem dX11_spill_46 : decode cX11_spill 46 = .ok (.if_icmp .eq 6, 3) := by decide +kernel
theorem dX11_spill_49 : decode cX11_spill 49 = .ok (.bipush (-2), 2) := by decide +kernel
theorem dX11_spill_51 : decode cX11_spill 51 = .ok (.ireturn, 1) := by decide +kernel
theorem dX11_spill_52 : decode cX11_spill 52 = .ok (.aload 4, 2) := by decide +kernel
theorem dX11_spill_54 : decode cX11_spill 54 = .ok (.getfield 73, 3) := by decide +kernel
theorem dX11_spill_57 : decode cX11_spill 57 = .ok (.invokevirtual 79, 3) := by decide +kernel
theorem dX11_spill_60 : decode cX11_spill 60 = .ok (.iload_n 2, 1) := by decide +kernel
theorem dX11_spill_61 : decode cX11_spill 61 = .ok (.if_icmp .ge 6, 3) := by decide +kernel
theorem dX11_spill_64 : decode cX11_spill 64 = .ok (.bipush (-3), 2) := by decide +kernel
theorem dX11_spill_66 : decode cX11_spill 66 = .ok (.ireturn, 1) := by decide +kernel
theorem dX11_spill_67 : decode cX11_spill 67 = .ok (.aload_n 0, 1) := by decide +kernel
theorem dX11_spill_68 : decode cX11_spill 68 = .ok (.getfield 55, 3) := by decide +kernel
theorem dX11_spill_71 : decode cX11_spill 71 = .ok (.aload 4, 2) := by decide +kernel
theorem dX11_spill_73 : decode cX11_spill 73 = .ok (.getfield 73, 3) := by decide +kernel
theorem dX11_spill_76 : decode cX11_spill 76 = .ok (.iload_n 2, 1) := by decide +kernel
theorem dX11_spill_77 : decode cX11_spill 77 = .ok (.invokevirtual 339, 3) := by decide +kernel
theorem dX11_spill_80 : decode cX11_spill 80 = .ok (.aload 4, 2) := by decide +kernel
theorem dX11_spill_82 : decode cX11_spill 82 = .ok (.aload_n 0, 1) := by decide +kernel
theorem dX11_spill_83 : decode cX11_spill 83 = .ok (.getfield 55, 3) := by decide +kernel
theorem dX11_spill_86 : decode cX11_spill 86 = .ok (.getfield 343, 3) := by decide +kernel
theorem dX11_spill_89 : decode cX11_spill 89 = .ok (.invokevirtual 346, 3) := by decide +kernel
theorem dX11_spill_92 : decode cX11_spill 92 = .ok (.aload_n 0, 1) := by decide +kernel
theorem dX11_spill_93 : decode cX11_spill 93 = .ok (.getfield 10, 3) := by decide +kernel
theorem dX11_spill_96 : decode cX11_spill 96 = .ok (.iload_n 1, 1) := by decide +kernel
theorem dX11_spill_97 : decode cX11_spill 97 = .ok (.aload_n 0, 1) := by decide +kernel
theorem dX11_spill_98 : decode cX11_spill 98 = .ok (.getfield 55, 3) := by decide +kernel
theorem dX11_spill_101 : decode cX11_spill 101 = .ok (.getfield 343, 3) := by decide +kernel
theorem dX11_spill_104 : decode cX11_spill 104 = .ok (.iload_n 2, 1) := by decide +kernel
theorem dX11_spill_105 : decode cX11_spill 105 = .ok (.iload_n 3, 1) := by decide +kernel
theorem dX11_spill_106 : decode cX11_spill 106 = .ok (.invokevirtual 353, 3) := by decide +kernel
theorem dX11_spill_109 : decode cX11_spill 109 = .ok (.aload 4, 2) := by decide +kernel
theorem dX11_spill_111 : decode cX11_spill 111 = .ok (.getfield 73, 3) := by decide +kernel
theorem dX11_spill_114 : decode cX11_spill 114 = .ok (.invokevirtual 79, 3) := by decide +kernel
theorem dX11_spill_117 : decode cX11_spill 117 = .ok (.ireturn, 1) := by decide +kernel
theorem dX11_deliver_0 : decode cX11_deliver 0 = .ok (.aload_n 0, 1) := by decide +kernel
theorem dX11_deliver_1 : decode cX11_deliver 1 = .ok (.getfield 10, 3) := by decide +kernel
theorem dX11_deliver_4 : decode cX11_deliver 4 = .ok (.iload_n 1, 1) := by decide +kernel
theorem dX11_deliver_5 : decode cX11_deliver 5 = .ok (.invokevirtual 65, 3) := by decide +kernel
theorem dX11_deliver_8 : decode cX11_deliver 8 = .ok (.astore_n 3, 1) := by decide +kernel
theorem dX11_deliver_9 : decode cX11_deliver 9 = .ok (.aload_n 3, 1) := by decide +kernel
theorem dX11_deliver_10 : decode cX11_deliver 10 = .ok (.ifnonnull 5, 3) := by decide +kernel
theorem dX11_deliver_13 : decode cX11_deliver 13 = .ok (.iconst (-1), 1) := by decide +kernel
theorem dX11_deliver_14 : decode cX11_deliver 14 = .ok (.ireturn, 1) := by decide +kernel
theorem dX11_deliver_15 : decode cX11_deliver 15 = .ok (.aload_n 0, 1) := by decide +kernel
theorem dX11_deliver_16 : decode cX11_deliver 16 = .ok (.getfield 10, 3) := by decide +kernel
theorem dX11_deliver_19 : decode cX11_deliver 19 = .ok (.iload_n 2, 1) := by decide +kernel
theorem dX11_deliver_20 : decode cX11_deliver 20 = .ok (.invokevirtual 175, 3) := by decide +kernel
theorem dX11_deliver_23 : decode cX11_deliver 23 = .ok (.astore 4, 2) := by decide +kernel
theorem dX11_deliver_25 : decode cX11_deliver 25 = .ok (.aload 4, 2) := by decide +kernel
theorem dX11_deliver_27 : decode cX11_deliver 27 = .ok (.ifnull 11, 3) := by decide +kernel
theorem dX11_deliver_30 : decode cX11_deliver 30 = .ok (.aload 4, 2) := by decide +kernel
theorem dX11_deliver_32 : decode cX11_deliver 32 = .ok (.getfield 172, 3) := by decide +kernel
theorem dX11_deliver_35 : decode cX11_deliver 35 = .ok (.ifCond .eq 6, 3) := by decide +kernel
theorem dX11_deliver_38 : decode cX11_deliver 38 = .ok (.bipush (-5), 2) := by decide +kernel
theorem dX11_deliver_40 : decode cX11_deliver 40 = .ok (.ireturn, 1) := by decide +kernel
theorem dX11_deliver_41 : decode cX11_deliver 41 = .ok (.aload_n 3, 1) := by decide +kernel
theorem dX11_deliver_42 : decode cX11_deliver 42 = .ok (.getfield 101, 3) := by decide +kernel
theorem dX11_deliver_45 : decode cX11_deliver 45 = .ok (.iconst 1, 1) := by decide +kernel
theorem dX11_deliver_46 : decode cX11_deliver 46 = .ok (.if_icmp .eq 6, 3) := by decide +kernel
theorem dX11_deliver_49 : decode cX11_deliver 49 = .ok (.bipush (-2), 2) := by decide +kernel
theorem dX11_deliver_51 : decode cX11_deliver 51 = .ok (.ireturn, 1) := by decide +kernel
theorem dX11_deliver_52 : decode cX11_deliver 52 = .ok (.aload_n 3, 1) := by decide +kernel
theorem dX11_deliver_53 : decode cX11_deliver 53 = .ok (.getfield 73, 3) := by decide +kernel
theorem dX11_deliver_56 : decode cX11_deliver 56 = .ok (.invokevirtual 79, 3) := by decide +kernel
theorem dX11_deliver_59 : decode cX11_deliver 59 = .ok (.aload 4, 2) := by decide +kernel
theorem dX11_deliver_61 : decode cX11_deliver 61 = .ok (.getfield 163, 3) := by decide +kernel
theorem dX11_deliver_64 : decode cX11_deliver 64 = .ok (.if_icmp .ge 6, 3) := by decide +kernel
theorem dX11_deliver_67 : decode cX11_deliver 67 = .ok (.bipush (-3), 2) := by decide +kernel
theorem dX11_deliver_69 : decode cX11_deliver 69 = .ok (.ireturn, 1) := by decide +kernel
theorem dX11_deliver_70 : decode cX11_deliver 70 = .ok (.aload 4, 2) := by decide +kernel
theorem dX11_deliver_72 : decode cX11_deliver 72 = .ok (.aload_n 3, 1) := by decide +kernel
theorem dX11_deliver_73 : decode cX11_deliver 73 = .ok (.getfield 73, 3) := by decide +kernel
theorem dX11_deliver_76 : decode cX11_deliver 76 = .ok (.aload_n 0, 1) := by decide +kernel
theorem dX11_deliver_77 : decode cX11_deliver 77 = .ok (.getfield 10, 3) := by decide +kernel
theorem dX11_deliver_80 : decode cX11_deliver 80 = .ok (.getfield 233, 3) := by decide +kernel
theorem dX11_deliver_83 : decode cX11_deliver 83 = .ok (.invokevirtual 236, 3) := by decide +kernel
theorem dX11_deliver_86 : decode cX11_deliver 86 = .ok (.invokevirtual 360, 3) := by decide +kernel
theorem dX11_deliver_89 : decode cX11_deliver 89 = .ok (.ifCond .ne 6, 3) := by decide +kernel
theorem dX11_deliver_92 : decode cX11_deliver 92 = .ok (.bipush (-6), 2) := by decide +kernel
theorem dX11_deliver_94 : decode cX11_deliver 94 = .ok (.ireturn, 1) := by decide +kernel
theorem dX11_deliver_95 : decode cX11_deliver 95 = .ok (.aload_n 0, 1) := by decide +kernel
theorem dX11_deliver_96 : decode cX11_deliver 96 = .ok (.getfield 55, 3) := by decide +kernel
theorem dX11_deliver_99 : decode cX11_deliver 99 = .ok (.aload_n 3, 1) := by decide +kernel
theorem dX11_deliver_100 : decode cX11_deliver 100 = .ok (.getfield 73, 3) := by decide +kernel
theorem dX11_deliver_103 : decode cX11_deliver 103 = .ok (.aload 4, 2) := by decide +kernel
theorem dX11_deliver_105 : decode cX11_deliver 105 = .ok (.getfield 163, 3) := by decide +kernel
theorem dX11_deliver_108 : decode cX11_deliver 108 = .ok (.invokevirtual 339, 3) := by decide +kernel
theorem dX11_deliver_111 : decode cX11_deliver 111 = .ok (.aload_n 3, 1) := by decide +kernel
theorem dX11_deliver_112 : decode cX11_deliver 112 = .ok (.aload_n 0, 1) := by decide +kernel
theorem dX11_deliver_113 : decode cX11_deliver 113 = .ok (.getfield 55, 3) := by decide +kernel
theorem dX11_deliver_116 : decode cX11_deliver 116 = .ok (.getfield 343, 3) := by decide +kernel
theorem dX11_deliver_119 : decode cX11_deliver 119 = .ok (.invokevirtual 346, 3) := by decide +kernel
theorem dX11_deliver_122 : decode cX11_deliver 122 = .ok (.aload_n 0, 1) := by decide +kernel
theorem dX11_deliver_123 : decode cX11_deliver 123 = .ok (.getfield 10, 3) := by decide +kernel
theorem dX11_deliver_126 : decode cX11_deliver 126 = .ok (.getfield 251, 3) := by decide +kernel
theorem dX11_deliver_129 : decode cX11_deliver 129 = .ok (.aload_n 0, 1) := by decide +kernel
theorem dX11_deliver_130 : decode cX11_deliver 130 = .ok (.getfield 55, 3) := by decide +kernel
theorem dX11_deliver_133 : decode cX11_deliver 133 = .ok (.getfield 343, 3) := by decide +kernel
theorem dX11_deliver_136 : decode cX11_deliver 136 = .ok (.invokevirtual 363, 3) := by decide +kernel
theorem dX11_deliver_139 : decode cX11_deliver 139 = .ok (.aload 4, 2) := by decide +kernel
theorem dX11_deliver_141 : decode cX11_deliver 141 = .ok (.iconst 1, 1) := by decide +kernel
theorem dX11_deliver_142 : decode cX11_deliver 142 = .ok (.putfield 172, 3) := by decide +kernel
theorem dX11_deliver_145 : decode cX11_deliver 145 = .ok (.aload 4, 2) := by decide +kernel
theorem dX11_deliver_147 : decode cX11_deliver 147 = .ok (.aload_n 0, 1) := by decide +kernel
theorem dX11_deliver_148 : decode cX11_deliver 148 = .ok (.getfield 10, 3) := by decide +kernel
theorem dX11_deliver_151 : decode cX11_deliver 151 = .ok (.getfield 157, 3) := by decide +kernel
theorem dX11_deliver_154 : decode cX11_deliver 154 = .ok (.putfield 366, 3) := by decide +kernel
theorem dX11_deliver_157 : decode cX11_deliver 157 = .ok (.aload 4, 2) := by decide +kernel
theorem dX11_deliver_159 : decode cX11_deliver 159 = .ok (.aload_n 0, 1) := by decide +kernel
theorem dX11_deliver_160 : decode cX11_deliver 160 = .ok (.getfield 55, 3) := by decide +kernel
theorem dX11_deliver_163 : decode cX11_deliver 163 = .ok (.getfield 343, 3) := by decide +kernel
theorem dX11_deliver_166 : decode cX11_deliver 166 = .ok (.aload_n 0, 1) := by decide +kernel
theorem dX11_deliver_167 : decode cX11_deliver 167 = .ok (.getfield 10, 3) := by decide +kernel
theorem dX11_deliver_170 : decode cX11_deliver 170 = .ok (.getfield 233, 3) := by decide +kernel
theorem dX11_deliver_173 : decode cX11_deliver 173 = .ok (.invokevirtual 236, 3) := by decide +kernel
theorem dX11_deliver_176 : decode cX11_deliver 176 = .ok (.putfield 369, 3) := by decide +kernel
theorem dX11_deliver_179 : decode cX11_deliver 179 = .ok (.aload 4, 2) := by decide +kernel
theorem dX11_deliver_181 : decode cX11_deliver 181 = .ok (.aload_n 0, 1) := by decide +kernel
theorem dX11_deliver_182 : decode cX11_deliver 182 = .ok (.getfield 55, 3) := by decide +kernel
theorem dX11_deliver_185 : decode cX11_deliver 185 = .ok (.getfield 343, 3) := by decide +kernel
theorem dX11_deliver_188 : decode cX11_deliver 188 = .ok (.aload_n 0, 1) := by decide +kernel
theorem dX11_deliver_189 : decode cX11_deliver 189 = .ok (.getfield 10, 3) := by decide +kernel
theorem dX11_deliver_192 : decode cX11_deliver 192 = .ok (.getfield 233, 3) := by decide +kernel
theorem dX11_deliver_195 : decode cX11_deliver 195 = .ok (.invokevirtual 312, 3) := by decide +kernel
theorem dX11_deliver_198 : decode cX11_deliver 198 = .ok (.putfield 372, 3) := by decide +kernel
theorem dX11_deliver_201 : decode cX11_deliver 201 = .ok (.aload 4, 2) := by decide +kernel
theorem dX11_deliver_203 : decode cX11_deliver 203 = .ok (.aload_n 0, 1) := by decide +kernel
theorem dX11_deliver_204 : decode cX11_deliver 204 = .ok (.getfield 10, 3) := by decide +kernel
theorem dX11_deliver_207 : decode cX11_deliver 207 = .ok (.aload 4, 2) := by decide +kernel
theorem dX11_deliver_209 : decode cX11_deliver 209 = .ok (.invokevirtual 375, 3) := by decide +kernel
theorem dX11_deliver_212 : decode cX11_deliver 212 = .ok (.putfield 270, 3) := by decide +kernel
theorem dX11_deliver_215 : decode cX11_deliver 215 = .ok (.aload_n 0, 1) := by decide +kernel
theorem dX11_deliver_216 : decode cX11_deliver 216 = .ok (.getfield 10, 3) := by decide +kernel
theorem dX11_deliver_219 : decode cX11_deliver 219 = .ok (.dup, 1) := by decide +kernel
theorem dX11_deliver_220 : decode cX11_deliver 220 = .ok (.getfield 276, 3) := by decide +kernel
theorem dX11_deliver_223 : decode cX11_deliver 223 = .ok (.aload 4, 2) := by decide +kernel
theorem dX11_deliver_225 : decode cX11_deliver 225 = .ok (.getfield 270, 3) := by decide +kernel
theorem dX11_deliver_228 : decode cX11_deliver 228 = .ok (.i2l, 1) := by decide +kernel
theorem dX11_deliver_229 : decode cX11_deliver 229 = .ok (.ladd, 1) := by decide +kernel
theorem dX11_deliver_230 : decode cX11_deliver 230 = .ok (.putfield 276, 3) := by decide +kernel
theorem dX11_deliver_233 : decode cX11_deliver 233 = .ok (.aload_n 0, 1) := by decide +kernel
theorem dX11_deliver_234 : decode cX11_deliver 234 = .ok (.getfield 10, 3) := by decide +kernel
theorem dX11_deliver_237 : decode cX11_deliver 237 = .ok (.iconst 4, 1) := by decide +kernel
theorem dX11_deliver_238 : decode cX11_deliver 238 = .ok (.iload_n 1, 1) := by decide +kernel
theorem dX11_deliver_239 : decode cX11_deliver 239 = .ok (.aload 4, 2) := by decide +kernel
theorem dX11_deliver_241 : decode cX11_deliver 241 = .ok (.getfield 163, 3) := by decide +kernel
theorem dX11_deliver_244 : decode cX11_deliver 244 = .ok (.invokevirtual 115, 3) := by decide +kernel
theorem dX11_deliver_247 : decode cX11_deliver 247 = .ok (.aload 4, 2) := by decide +kernel
theorem dX11_deliver_249 : decode cX11_deliver 249 = .ok (.getfield 270, 3) := by decide +kernel
theorem dX11_deliver_252 : decode cX11_deliver 252 = .ok (.ireturn, 1) := by decide +kernel
theorem dX11_scrub_0 : decode cX11_scrub 0 = .ok (.aload_n 0, 1) := by decide +kernel
theorem dX11_scrub_1 : decode cX11_scrub 1 = .ok (.getfield 10, 3) := by decide +kernel
theorem dX11_scrub_4 : decode cX11_scrub 4 = .ok (.iload_n 1, 1) := by decide +kernel
theorem dX11_scrub_5 : decode cX11_scrub 5 = .ok (.invokevirtual 65, 3) := by decide +kernel
theorem dX11_scrub_8 : decode cX11_scrub 8 = .ok (.astore_n 2, 1) := by decide +kernel
theorem dX11_scrub_9 : decode cX11_scrub 9 = .ok (.aload_n 2, 1) := by decide +kernel
theorem dX11_scrub_10 : decode cX11_scrub 10 = .ok (.ifnonnull 5, 3) := by decide +kernel
theorem dX11_scrub_13 : decode cX11_scrub 13 = .ok (.iconst (-1), 1) := by decide +kernel
theorem dX11_scrub_14 : decode cX11_scrub 14 = .ok (.ireturn, 1) := by decide +kernel
theorem dX11_scrub_15 : decode cX11_scrub 15 = .ok (.aload_n 2, 1) := by decide +kernel
theorem dX11_scrub_16 : decode cX11_scrub 16 = .ok (.getfield 101, 3) := by decide +kernel
theorem dX11_scrub_19 : decode cX11_scrub 19 = .ok (.iconst 2, 1) := by decide +kernel
theorem dX11_scrub_20 : decode cX11_scrub 20 = .ok (.if_icmp .eq 6, 3) := by decide +kernel
theorem dX11_scrub_23 : decode cX11_scrub 23 = .ok (.bipush (-7), 2) := by decide +kernel
theorem dX11_scrub_25 : decode cX11_scrub 25 = .ok (.ireturn, 1) := by decide +kernel
theorem dX11_scrub_26 : decode cX11_scrub 26 = .ok (.aload_n 2, 1) := by decide +kernel
theorem dX11_scrub_27 : decode cX11_scrub 27 = .ok (.iconst 3, 1) := by decide +kernel
theorem dX11_scrub_28 : decode cX11_scrub 28 = .ok (.putfield 101, 3) := by decide +kernel
theorem dX11_scrub_31 : decode cX11_scrub 31 = .ok (.aload_n 2, 1) := by decide +kernel
theorem dX11_scrub_32 : decode cX11_scrub 32 = .ok (.aload_n 0, 1) := by decide +kernel
theorem dX11_scrub_33 : decode cX11_scrub 33 = .ok (.getfield 10, 3) := by decide +kernel
theorem dX11_scrub_36 : decode cX11_scrub 36 = .ok (.getfield 157, 3) := by decide +kernel
theorem dX11_scrub_39 : decode cX11_scrub 39 = .ok (.iconst 2, 1) := by decide +kernel
theorem dX11_scrub_40 : decode cX11_scrub 40 = .ok (.iadd, 1) := by decide +kernel
theorem dX11_scrub_41 : decode cX11_scrub 41 = .ok (.putfield 239, 3) := by decide +kernel
theorem dX11_scrub_44 : decode cX11_scrub 44 = .ok (.aload_n 2, 1) := by decide +kernel
theorem dX11_scrub_45 : decode cX11_scrub 45 = .ok (.getfield 239, 3) := by decide +kernel
theorem dX11_scrub_48 : decode cX11_scrub 48 = .ok (.ireturn, 1) := by decide +kernel
theorem dX11_letPass_0 : decode cX11_letPass 0 = .ok (.iload_n 1, 1) := by decide +kernel
theorem dX11_letPass_1 : decode cX11_letPass 1 = .ok (.iconst 1, 1) := by decide +kernel
theorem dX11_letPass_2 : decode cX11_letPass 2 = .ok (.sipush 999, 3) := by decide +kernel
theorem dX11_letPass_5 : decode cX11_letPass 5 = .ok (.invokestatic 69, 3) := by decide +kernel
theorem dX11_letPass_8 : decode cX11_letPass 8 = .ok (.ifCond .ne 18, 3) := by decide +kernel
theorem dX11_letPass_11 : decode cX11_letPass 11 = .ok (.aload_n 0, 1) := by decide +kernel
theorem dX11_letPass_12 : decode cX11_letPass 12 = .ok (.getfield 10, 3) := by decide +kernel
theorem dX11_letPass_15 : decode cX11_letPass 15 = .ok (.getfield 157, 3) := by decide +kernel
theorem dX11_letPass_18 : decode cX11_letPass 18 = .ok (.iload_n 1, 1) := by decide +kernel
theorem dX11_letPass_19 : decode cX11_letPass 19 = .ok (.iadd, 1) := by decide +kernel
theorem dX11_letPass_20 : decode cX11_letPass 20 = .ok (.sipush 9999, 3) := by decide +kernel
theorem dX11_letPass_23 : decode cX11_letPass 23 = .ok (.if_icmp .le 6, 3) := by decide +kernel
theorem dX11_letPass_26 : decode cX11_letPass 26 = .ok (.bipush (-8), 2) := by decide +kernel
theorem dX11_letPass_28 : decode cX11_letPass 28 = .ok (.ireturn, 1) := by decide +kernel
theorem dX11_letPass_29 : decode cX11_letPass 29 = .ok (.aload_n 0, 1) := by decide +kernel
theorem dX11_letPass_30 : decode cX11_letPass 30 = .ok (.getfield 10, 3) := by decide +kernel
theorem dX11_letPass_33 : decode cX11_letPass 33 = .ok (.dup, 1) := by decide +kernel
theorem dX11_letPass_34 : decode cX11_letPass 34 = .ok (.getfield 157, 3) := by decide +kernel
theorem dX11_letPass_37 : decode cX11_letPass 37 = .ok (.iload_n 1, 1) := by decide +kernel
theorem dX11_letPass_38 : decode cX11_letPass 38 = .ok (.iadd, 1) := by decide +kernel
theorem dX11_letPass_39 : decode cX11_letPass 39 = .ok (.putfield 157, 3) := by decide +kernel
theorem dX11_letPass_42 : decode cX11_letPass 42 = .ok (.iconst 0, 1) := by decide +kernel
theorem dX11_letPass_43 : decode cX11_letPass 43 = .ok (.istore_n 2, 1) := by decide +kernel
theorem dX11_letPass_44 : decode cX11_letPass 44 = .ok (.iconst 0, 1) := by decide +kernel
theorem dX11_letPass_45 : decode cX11_letPass 45 = .ok (.istore_n 3, 1) := by decide +kernel
theorem dX11_letPass_46 : decode cX11_letPass 46 = .ok (.iload_n 3, 1) := by decide +kernel
theorem dX11_letPass_47 : decode cX11_letPass 47 = .ok (.bipush 6, 2) := by decide +kernel
theorem dX11_letPass_49 : decode cX11_letPass 49 = .ok (.if_icmp .ge 53, 3) := by decide +kernel
theorem dX11_letPass_52 : decode cX11_letPass 52 = .ok (.aload_n 0, 1) := by decide +kernel
theorem dX11_letPass_53 : decode cX11_letPass 53 = .ok (.getfield 10, 3) := by decide +kernel
theorem dX11_letPass_56 : decode cX11_letPass 56 = .ok (.getfield 379, 3) := by decide +kernel
theorem dX11_letPass_59 : decode cX11_letPass 59 = .ok (.iload_n 3, 1) := by decide +kernel
theorem dX11_letPass_60 : decode cX11_letPass 60 = .ok (.aaload, 1) := by decide +kernel
theorem dX11_letPass_61 : decode cX11_letPass 61 = .ok (.astore 4, 2) := by decide +kernel
theorem dX11_letPass_63 : decode cX11_letPass 63 = .ok (.aload 4, 2) := by decide +kernel
theorem dX11_letPass_65 : decode cX11_letPass 65 = .ok (.getfield 101, 3) := by decide +kernel
theorem dX11_letPass_68 : decode cX11_letPass 68 = .ok (.iconst 3, 1) := by decide +kernel
theorem dX11_letPass_69 : decode cX11_letPass 69 = .ok (.if_icmp .ne 27, 3) := by decide +kernel
theorem dX11_letPass_72 : decode cX11_letPass 72 = .ok (.aload 4, 2) := by decide +kernel
theorem dX11_letPass_74 : decode cX11_letPass 74 = .ok (.getfield 239, 3) := by decide +kernel
theorem dX11_letPass_77 : decode cX11_letPass 77 = .ok (.aload_n 0, 1) := by decide +kernel
theorem dX11_letPass_78 : decode cX11_letPass 78 = .ok (.getfield 10, 3) := by decide +kernel
theorem dX11_letPass_81 : decode cX11_letPass 81 = .ok (.getfield 157, 3) := by decide +kernel
theorem dX11_letPass_84 : decode cX11_letPass 84 = .ok (.if_icmp .gt 12, 3) := by decide +kernel
theorem dX11_letPass_87 : decode cX11_letPass 87 = .ok (.aload 4, 2) := by decide +kernel
theorem dX11_letPass_89 : decode cX11_letPass 89 = .ok (.iconst 0, 1) := by decide +kernel
theorem dX11_letPass_90 : decode cX11_letPass 90 = .ok (.putfield 101, 3) := by decide +kernel
theorem dX11_letPass_93 : decode cX11_letPass 93 = .ok (.iinc 2 1, 3) := by decide +kernel
theorem dX11_letPass_96 : decode cX11_letPass 96 = .ok (.iinc 3 1, 3) := by decide +kernel
theorem dX11_letPass_99 : decode cX11_letPass 99 = .ok (.goto (-53), 3) := by decide +kernel
theorem dX11_letPass_102 : decode cX11_letPass 102 = .ok (.iload_n 2, 1) := by decide +kernel
theorem dX11_letPass_103 : decode cX11_letPass 103 = .ok (.ireturn, 1) := by decide +kernel
theorem dX12_init_0 : decode cX12_init 0 = .ok (.aload_n 0, 1) := by decide +kernel
theorem dX12_init_1 : decode cX12_init 1 = .ok (.invokespecial 1, 3) := by decide +kernel
theorem dX12_init_4 : decode cX12_init 4 = .ok (.aload_n 0, 1) := by decide +kernel
theorem dX12_init_5 : decode cX12_init 5 = .ok (.sipush 650, 3) := by decide +kernel
theorem dX12_init_8 : decode cX12_init 8 = .ok (.newarray .int, 2) := by decide +kernel
theorem dX12_init_10 : decode cX12_init 10 = .ok (.putfield 9, 3) := by decide +kernel
theorem dX12_init_13 : decode cX12_init 13 = .ok (.aload_n 0, 1) := by decide +kernel
theorem dX12_init_14 : decode cX12_init 14 = .ok (.sipush 3900, 3) := by decide +kernel
theorem dX12_init_17 : decode cX12_init 17 = .ok (.newarray .int, 2) := by decide +kernel
theorem dX12_init_19 : decode cX12_init 19 = .ok (.putfield 13, 3) := by decide +kernel
theorem dX12_init_22 : decode cX12_init 22 = .ok (.aload_n 0, 1) := by decide +kernel
theorem dX12_init_23 : decode cX12_init 23 = .ok (.sipush 650, 3) := by decide +kernel
theorem dX12_init_26 : decode cX12_init 26 = .ok (.newarray .int, 2) := by decide +kernel
theorem dX12_init_28 : decode cX12_init 28 = .ok (.putfield 16, 3) := by decide +kernel
theorem dX12_init_31 : decode cX12_init 31 = .ok (.aload_n 0, 1) := by decide +kernel
theorem dX12_init_32 : decode cX12_init 32 = .ok (.sipush 650, 3) := by decide +kernel
theorem dX12_init_35 : decode cX12_init 35 = .ok (.newarray .int, 2) := by decide +kernel
theorem dX12_init_37 : decode cX12_init 37 = .ok (.putfield 19, 3) := by decide +kernel
theorem dX12_init_40 : decode cX12_init 40 = .ok (.aload_n 0, 1) := by decide +kernel
theorem dX12_init_41 : decode cX12_init 41 = .ok (.bipush 60, 2) := by decide +kernel
theorem dX12_init_43 : decode cX12_init 43 = .ok (.newarray .int, 2) := by decide +kernel
theorem dX12_init_45 : decode cX12_init 45 = .ok (.putfield 22, 3) := by decide +kernel
theorem dX12_init_48 : decode cX12_init 48 = .ok (.aload_n 0, 1) := by decide +kernel
theorem dX12_init_49 : decode cX12_init 49 = .ok (.bipush 16, 2) := by decide +kernel
theorem dX12_init_51 : decode cX12_init 51 = .ok (.newarray .int, 2) := by decide +kernel
theorem dX12_init_53 : decode cX12_init 53 = .ok (.putfield 25, 3) := by decide +kernel
theorem dX12_init_56 : decode cX12_init 56 = .ok (.aload_n 0, 1) := by decide +kernel
theorem dX12_init_57 : decode cX12_init 57 = .ok (.bipush 16, 2) := by decide +kernel
theorem dX12_init_59 : decode cX12_init 59 = .ok (.newarray .int, 2) := by decide +kernel
theorem dX12_init_61 : decode cX12_init 61 = .ok (.putfield 28, 3) := by decide +kernel
theorem dX12_init_64 : decode cX12_init 64 = .ok (.aload_n 0, 1) := by decide +kernel
theorem dX12_init_65 : decode cX12_init 65 = .ok (.bipush 16, 2) := by decide +kernel
theorem dX12_init_67 : decode cX12_init 67 = .ok (.newarray .int, 2) := by decide +kernel
theorem dX12_init_69 : decode cX12_init 69 = .ok (.putfield 31, 3) := by decide +kernel
theorem dX12_init_72 : decode cX12_init 72 = .ok (.aload_n 0, 1) := by decide +kernel
theorem dX12_init_73 : decode cX12_init 73 = .ok (.bipush 10, 2) := by decide +kernel
theorem dX12_init_75 : decode cX12_init 75 = .ok (.newarray .int, 2) := by decide +kernel
theorem dX12_init_77 : decode cX12_init 77 = .ok (.putfield 34, 3) := by decide +kernel
theorem dX12_init_80 : decode cX12_init 80 = .ok (.aload_n 0, 1) := by decide +kernel
theorem dX12_init_81 : decode cX12_init 81 = .ok (.bipush 10, 2) := by decide +kernel
theorem dX12_init_83 : decode cX12_init 83 = .ok (.newarray .int, 2) := by decide +kernel
theorem dX12_init_85 : decode cX12_init 85 = .ok (.putfield 37, 3) := by decide +kernel
theorem dX12_init_88 : decode cX12_init 88 = .ok (.aload_n 0, 1) := by decide +kernel
theorem dX12_init_89 : decode cX12_init 89 = .ok (.bipush 10, 2) := by decide +kernel
theorem dX12_init_91 : decode cX12_init 91 = .ok (.newarray .boolean, 2) := by decide +kernel
theorem dX12_init_93 : decode cX12_init 93 = .ok (.putfield 40, 3) := by decide +kernel
theorem dX12_init_96 : decode cX12_init 96 = .ok (.aload_n 0, 1) := by decide +kernel
theorem dX12_init_97 : decode cX12_init 97 = .ok (.bipush 96, 2) := by decide +kernel
theorem dX12_init_99 : decode cX12_init 99 = .ok (.newarray .int, 2) := by decide +kernel
theorem dX12_init_101 : decode cX12_init 101 = .ok (.putfield 44, 3) := by decide +kernel
theorem dX12_init_104 : decode cX12_init 104 = .ok (.aload_n 0, 1) := by decide +kernel
theorem dX12_init_105 : decode cX12_init 105 = .ok (.sipush 240, 3) := by decide +kernel
theorem dX12_init_108 : decode cX12_init 108 = .ok (.newarray .int, 2) := by decide +kernel
theorem dX12_init_110 : decode cX12_init 110 = .ok (.putfield 47, 3) := by decide +kernel
theorem dX12_init_113 : decode cX12_init 113 = .ok (.iconst 0, 1) := by decide +kernel
theorem dX12_init_114 : decode cX12_init 114 = .ok (.istore_n 1, 1) := by decide +kernel
theorem dX12_init_115 : decode cX12_init 115 = .ok (.iload_n 1, 1) := by decide +kernel
theorem dX12_init_116 : decode cX12_init 116 = .ok (.bipush 6, 2) := by decide +kernel
theorem dX12_init_118 : decode cX12_init 118 = .ok (.if_icmp .ge 24, 3) := by decide +kernel
theorem dX12_init_121 : decode cX12_init 121 = .ok (.aload_n 0, 1) := by decide +kernel
theorem dX12_init_122 : decode cX12_init 122 = .ok (.getfield 9, 3) := by decide +kernel
theorem dX12_init_125 : decode cX12_init 125 = .ok (.bipush 10, 2) := by decide +kernel
theorem dX12_init_127 : decode cX12_init 127 = .ok (.bipush 19, 2) := by decide +kernel
theorem dX12_init_129 : decode cX12_init 129 = .ok (.iload_n 1, 1) := by decide +kernel
theorem dX12_init_130 : decode cX12_init 130 = .ok (.imul, 1) := by decide +kernel
theorem dX12_init_131 : decode cX12_init 131 = .ok (.iadd, 1) := by decide +kernel
theorem dX12_init_132 : decode cX12_init 132 = .ok (.sipush 1000, 3) := by decide +kernel
theorem dX12_init_135 : decode cX12_init 135 = .ok (.iastore, 1) := by decide +kernel
theorem dX12_init_136 : decode cX12_init 136 = .ok (.iinc 1 1, 3) := by decide +kernel
theorem dX12_init_139 : decode cX12_init 139 = .ok (.goto (-24), 3) := by decide +kernel
theorem dX12_init_142 : decode cX12_init 142 = .ok (.aload_n 0, 1) := by decide +kernel
theorem dX12_init_143 : decode cX12_init 143 = .ok (.getfield 9, 3) := by decide +kernel
theorem dX12_init_146 : decode cX12_init 146 = .ok (.iconst 4, 1) := by decide +kernel
theorem dX12_init_147 : decode cX12_init 147 = .ok (.iconst 5, 1) := by decide +kernel
theorem dX12_init_148 : decode cX12_init 148 = .ok (.iastore, 1) := by decide +kernel
theorem dX12_init_149 : decode cX12_init 149 = .ok (.return_, 1) := by decide +kernel
theorem dX12_in_0 : decode cX12_in 0 = .ok (.iload_n 0, 1) := by decide +kernel
theorem dX12_in_1 : decode cX12_in 1 = .ok (.iload_n 1, 1) := by decide +kernel
theorem dX12_in_2 : decode cX12_in 2 = .ok (.if_icmp .lt 12, 3) := by decide +kernel
theorem dX12_in_5 : decode cX12_in 5 = .ok (.iload_n 0, 1) := by decide +kernel
theorem dX12_in_6 : decode cX12_in 6 = .ok (.iload_n 2, 1) := by decide +kernel
theorem dX12_in_7 : decode cX12_in 7 = .ok (.if_icmp .gt 7, 3) := by decide +kernel
theorem dX12_in_10 : decode cX12_in 10 = .ok (.iconst 1, 1) := by decide +kernel
theorem dX12_in_11 : decode cX12_in 11 = .ok (.goto 4, 3) := by decide +kernel
theorem dX12_in_14 : decode cX12_in 14 = .ok (.iconst 0, 1) := by decide +kernel
theorem dX12_in_15 : decode cX12_in 15 = .ok (.ireturn, 1) := by decide +kernel
theorem dX12_refuses_0 : decode cX12_refuses 0 = .ok (.aload_n 0, 1) := by decide +kernel
theorem dX12_refuses_1 : decode cX12_refuses 1 = .ok (.iload_n 1, 1) := by decide +kernel
theorem dX12_refuses_2 : decode cX12_refuses 2 = .ok (.putfield 50, 3) := by decide +kernel
theorem dX12_refuses_5 : decode cX12_refuses 5 = .ok (.bipush (-3), 2) := by decide +kernel
theorem dX12_refuses_7 : decode cX12_refuses 7 = .ok (.ireturn, 1) := by decide +kernel
theorem dX12_copy_0 : decode cX12_copy 0 = .ok (.iconst 0, 1) := by decide +kernel
theorem dX12_copy_1 : decode cX12_copy 1 = .ok (.istore 4, 2) := by decide +kernel
theorem dX12_copy_3 : decode cX12_copy 3 = .ok (.iload 4, 2) := by decide +kernel
theorem dX12_copy_5 : decode cX12_copy 5 = .ok (.sipush 650, 3) := by decide +kernel
theorem dX12_copy_8 : decode cX12_copy 8 = .ok (.if_icmp .ge 21, 3) := by decide +kernel
theorem dX12_copy_11 : decode cX12_copy 11 = .ok (.aload_n 2, 1) := by decide +kernel
theorem dX12_copy_12 : decode cX12_copy 12 = .ok (.iload_n 3, 1) := by decide +kernel
theorem dX12_copy_13 : decode cX12_copy 13 = .ok (.iload 4, 2) := by decide +kernel
theorem dX12_copy_15 : decode cX12_copy 15 = .ok (.iadd, 1) := by decide +kernel
theorem dX12_copy_16 : decode cX12_copy 16 = .ok (.aload_n 0, 1) := by decide +kernel
theorem dX12_copy_17 : decode cX12_copy 17 = .ok (.iload_n 1, 1) := by decide +kernel
theorem dX12_copy_18 : decode cX12_copy 18 = .ok (.iload 4, 2) := by decide +kernel
theorem dX12_copy_20 : decode cX12_copy 20 = .ok (.iadd, 1) := by decide +kernel
theorem dX12_copy_21 : decode cX12_copy 21 = .ok (.iaload, 1) := by decide +kernel
theorem dX12_copy_22 : decode cX12_copy 22 = .ok (.iastore, 1) := by decide +kernel
theorem dX12_copy_23 : decode cX12_copy 23 = .ok (.iinc 4 1, 3) := by decide +kernel
theorem dX12_copy_26 : decode cX12_copy 26 = .ok (.goto (-23), 3) := by decide +kernel
theorem dX12_copy_29 : decode cX12_copy 29 = .ok (.return_, 1) := by decide +kernel
theorem dX12_remembersRow_0 : decode cX12_remembersRow 0 = .ok (.aload_n 0, 1) := by decide +kernel
theorem dX12_remembersRow_1 : decode cX12_remembersRow 1 = .ok (.getfield 54, 3) := by decide +kernel
theorem dX12_remembersRow_4 : decode cX12_remembersRow 4 = .ok (.bipush 6, 2) := by decide +kernel
theorem dX12_remembersRow_6 : decode cX12_remembersRow 6 = .ok (.if_icmp .ne 44, 3) := by decide +kernel
theorem dX12_remembersRow_9 : decode cX12_remembersRow 9 = .ok (.iconst 0, 1) := by decide +kernel
theorem dX12_remembersRow_10 : decode cX12_remembersRow 10 = .ok (.istore_n 2, 1) := by decide +kernel
theorem dX12_remembersRow_11 : decode cX12_remembersRow 11 = .ok (.iload_n 2, 1) := by decide +kernel
theorem dX12_remembersRow_12 : decode cX12_remembersRow 12 = .ok (.sipush 3250, 3) := by decide +kernel
theorem dX12_remembersRow_15 : decode cX12_remembersRow 15 = .ok (.if_icmp .ge 25, 3) := by decide +kernel
theorem dX12_remembersRow_18 : decode cX12_remembersRow 18 = .ok (.aload_n 0, 1) := by decide +kernel
theorem dX12_remembersRow_19 : decode cX12_remembersRow 19 = .ok (.getfield 13, 3) := by decide +kernel
theorem dX12_remembersRow_22 : decode cX12_remembersRow 22 = .ok (.iload_n 2, 1) := by decide +kernel
theorem dX12_remembersRow_23 : decode cX12_remembersRow 23 = .ok (.aload_n 0, 1) := by decide +kernel
theorem dX12_remembersRow_24 : decode cX12_remembersRow 24 = .ok (.getfield 13, 3) := by decide +kernel
theorem dX12_remembersRow_27 : decode cX12_remembersRow 27 = .ok (.iload_n 2, 1) := by decide +kernel
theorem dX12_remembersRow_28 : decode cX12_remembersRow 28 = .ok (.sipush 650, 3) := by decide +kernel
theorem dX12_remembersRow_31 : decode cX12_remembersRow 31 = .ok (.iadd, 1) := by decide +kernel
theorem dX12_remembersRow_32 : decode cX12_remembersRow 32 = .ok (.iaload, 1) := by decide +kernel
theorem dX12_remembersRow_33 : decode cX12_remembersRow 33 = .ok (.iastore, 1) := by decide +kernel
theorem dX12_remembersRow_34 : decode cX12_remembersRow 34 = .ok (.iinc 2 1, 3) := by decide +kernel
theorem dX12_remembersRow_37 : decode cX12_remembersRow 37 = .ok (.goto (-26), 3) := by decide +kernel
theorem dX12_remembersRow_40 : decode cX12_remembersRow 40 = .ok (.aload_n 0, 1) := by decide +kernel
theorem dX12_remembersRow_41 : decode cX12_remembersRow 41 = .ok (.dup, 1) := by decide +kernel
theorem dX12_remembersRow_42 : decode cX12_remembersRow 42 = .ok (.getfield 54, 3) := by decide +kernel
theorem dX12_remembersRow_45 : decode cX12_remembersRow 45 = .ok (.iconst 1, 1) := by decide +kernel
theorem dX12_remembersRow_46 : decode cX12_remembersRow 46 = .ok (.isub, 1) := by decide +kernel
theorem dX12_remembersRow_47 : decode cX12_remembersRow 47 = .ok (.putfield 54, 3) := by decide +kernel
theorem dX12_remembersRow_50 : decode cX12_remembersRow 50 = .ok (.aload_n 1, 1) := by decide +kernel
theorem dX12_remembersRow_51 : decode cX12_remembersRow 51 = .ok (.iconst 0, 1) := by decide +kernel
theorem dX12_remembersRow_52 : decode cX12_remembersRow 52 = .ok (.aload_n 0, 1) := by decide +kernel
theorem dX12_remembersRow_53 : decode cX12_remembersRow 53 = .ok (.getfield 13, 3) := by decide +kernel
theorem dX12_remembersRow_56 : decode cX12_remembersRow 56 = .ok (.aload_n 0, 1) := by decide +kernel
theorem dX12_remembersRow_57 : decode cX12_remembersRow 57 = .ok (.getfield 54, 3) := by decide +kernel
theorem dX12_remembersRow_60 : decode cX12_remembersRow 60 = .ok (.sipush 650, 3) := by decide +kernel
theorem dX12_remembersRow_63 : decode cX12_remembersRow 63 = .ok (.imul, 1) := by decide +kernel
theorem dX12_remembersRow_64 : decode cX12_remembersRow 64 = .ok (.invokestatic 57, 3) := by decide +kernel
theorem dX12_remembersRow_67 : decode cX12_remembersRow 67 = .ok (.aload_n 0, 1) := by decide +kernel
theorem dX12_remembersRow_68 : decode cX12_remembersRow 68 = .ok (.dup, 1) := by decide +kernel
theorem dX12_remembersRow_69 : decode cX12_remembersRow 69 = .ok (.getfield 54, 3) := by decide +kernel
theorem dX12_remembersRow_72 : decode cX12_remembersRow 72 = .ok (.iconst 1, 1) := by decide +kernel
theorem dX12_remembersRow_73 : decode cX12_remembersRow 73 = .ok (.iadd, 1) := by decide +kernel
theorem dX12_remembersRow_74 : decode cX12_remembersRow 74 = .ok (.putfield 54, 3) := by decide +kernel
theorem dX12_remembersRow_77 : decode cX12_remembersRow 77 = .ok (.return_, 1) := by decide +kernel
theorem dX12_remembers_0 : decode cX12_remembers 0 = .ok (.aload_n 0, 1) := by decide +kernel
theorem dX12_remembers_1 : decode cX12_remembers 1 = .ok (.getfield 61, 3) := by decide +kernel
theorem dX12_remembers_4 : decode cX12_remembers 4 = .ok (.ifCond .ne 11, 3) := by decide +kernel
theorem dX12_remembers_7 : decode cX12_remembers 7 = .ok (.aload_n 0, 1) := by decide +kernel
theorem dX12_remembers_8 : decode cX12_remembers 8 = .ok (.aload_n 0, 1) := by decide +kernel
theorem dX12_remembers_9 : decode cX12_remembers 9 = .ok (.getfield 9, 3) := by decide +kernel
theorem dX12_remembers_12 : decode cX12_remembers 12 = .ok (.invokevirtual 65, 3) := by decide +kernel
theorem dX12_remembers_15 : decode cX12_remembers 15 = .ok (.return_, 1) := by decide +kernel
theorem dX12_isTank_0 : decode cX12_isTank 0 = .ok (.iload_n 0, 1) := by decide +kernel
theorem dX12_isTank_1 : decode cX12_isTank 1 = .ok (.iconst 0, 1) := by decide +kernel
theorem dX12_isTank_2 : decode cX12_isTank 2 = .ok (.iconst 5, 1) := by decide +kernel
theorem dX12_isTank_3 : decode cX12_isTank 3 = .ok (.invokestatic 69, 3) := by decide +kernel
theorem dX12_isTank_6 : decode cX12_isTank 6 = .ok (.ireturn, 1) := by decide +kernel
theorem dX12_tankAt_0 : decode cX12_tankAt 0 = .ok (.aload_n 0, 1) := by decide +kernel
theorem dX12_tankAt_1 : decode cX12_tankAt 1 = .ok (.getfield 9, 3) := by decide +kernel
theorem dX12_tankAt_4 : decode cX12_tankAt 4 = .ok (.bipush 10, 2) := by decide +kernel
theorem dX12_tankAt_6 : decode cX12_tankAt 6 = .ok (.bipush 19, 2) := by decide +kernel
theorem dX12_tankAt_8 : decode cX12_tankAt 8 = .ok (.iload_n 1, 1) := by decide +kernel
theorem dX12_tankAt_9 : decode cX12_tankAt 9 = .ok (.imul, 1) := by decide +kernel
theorem dX12_tankAt_10 : decode cX12_tankAt 10 = .ok (.iadd, 1) := by decide +kernel
theorem dX12_tankAt_11 : decode cX12_tankAt 11 = .ok (.iload_n 2, 1) := by decide +kernel
theorem dX12_tankAt_12 : decode cX12_tankAt 12 = .ok (.iadd, 1) := by decide +kernel
theorem dX12_tankAt_13 : decode cX12_tankAt 13 = .ok (.iaload, 1) := by decide +kernel
theorem dX12_tankAt_14 : decode cX12_tankAt 14 = .ok (.ireturn, 1) := by decide +kernel
theorem dX12_partAt_0 : decode cX12_partAt 0 = .ok (.aload_n 0, 1) := by decide +kernel
theorem dX12_partAt_1 : decode cX12_partAt 1 = .ok (.iload_n 1, 1) := by decide +kernel
theorem dX12_partAt_2 : decode cX12_partAt 2 = .ok (.iconst 3, 1) := by decide +kernel
theorem dX12_partAt_3 : decode cX12_partAt 3 = .ok (.iload_n 2, 1) := by decide +kernel
theorem dX12_partAt_4 : decode cX12_partAt 4 = .ok (.iadd, 1) := by decide +kernel
theorem dX12_partAt_5 : decode cX12_partAt 5 = .ok (.invokevirtual 73, 3) := by decide +kernel
theorem dX12_partAt_8 : decode cX12_partAt 8 = .ok (.ireturn, 1) := by decide +kernel
theorem dX12_orderAt_0 : decode cX12_orderAt 0 = .ok (.aload_n 0, 1) := by decide +kernel
theorem dX12_orderAt_1 : decode cX12_orderAt 1 = .ok (.getfield 9, 3) := by decide +kernel
theorem dX12_orderAt_4 : decode cX12_orderAt 4 = .ok (.sipush 204, 3) := by decide +kernel
theorem dX12_orderAt_7 : decode cX12_orderAt 7 = .ok (.bipush 9, 2) := by decide +kernel
theorem dX12_orderAt_9 : decode cX12_orderAt 9 = .ok (.iload_n 1, 1) := by decide +kernel
theorem dX12_orderAt_10 : decode cX12_orderAt 10 = .ok (.imul, 1) := by decide +kernel
theorem dX12_orderAt_11 : decode cX12_orderAt 11 = .ok (.iadd, 1) := by decide +kernel
theorem dX12_orderAt_12 : decode cX12_orderAt 12 = .ok (.iload_n 2, 1) := by decide +kernel
theorem dX12_orderAt_13 : decode cX12_orderAt 13 = .ok (.iadd, 1) := by decide +kernel
theorem dX12_orderAt_14 : decode cX12_orderAt 14 = .ok (.iaload, 1) := by decide +kernel
theorem dX12_orderAt_15 : decode cX12_orderAt 15 = .ok (.ireturn, 1) := by decide +kernel
theorem dX12_strengthOf_0 : decode cX12_strengthOf 0 = .ok (.aload_n 0, 1) := by decide +kernel
theorem dX12_strengthOf_1 : decode cX12_strengthOf 1 = .ok (.getfield 9, 3) := by decide +kernel
theorem dX12_strengthOf_4 : decode cX12_strengthOf 4 = .ok (.bipush 124, 2) := by decide +kernel
theorem dX12_strengthOf_6 : decode cX12_strengthOf 6 = .ok (.iconst 5, 1) := by decide +kernel
theorem dX12_strengthOf_7 : decode cX12_strengthOf 7 = .ok (.iload_n 1, 1) := by decide +kernel
theorem dX12_strengthOf_8 : decode cX12_strengthOf 8 = .ok (.imul, 1) := by decide +kernel
theorem dX12_strengthOf_9 : decode cX12_strengthOf 9 = .ok (.iadd, 1) := by decide +kernel
theorem dX12_strengthOf_10 : decode cX12_strengthOf 10 = .ok (.iaload, 1) := by decide +kernel
theorem dX12_strengthOf_11 : decode cX12_strengthOf 11 = .ok (.ireturn, 1) := by decide +kernel
theorem dX12_litresIn_0 : decode cX12_litresIn 0 = .ok (.iconst 0, 1) := by decide +kernel
theorem dX12_litresIn_1 : decode cX12_litresIn 1 = .ok (.istore_n 2, 1) := by decide +kernel
theorem dX12_litresIn_2 : decode cX12_litresIn 2 = .ok (.iconst 0, 1) := by decide +kernel
theorem dX12_litresIn_3 : decode cX12_litresIn 3 = .ok (.istore_n 3, 1) := by decide +kernel
theorem dX12_litresIn_4 : decode cX12_litresIn 4 = .ok (.iload_n 3, 1) := by decide +kernel
theorem dX12_litresIn_5 : decode cX12_litresIn 5 = .ok (.bipush 16, 2) := by decide +kernel
theorem dX12_litresIn_7 : decode cX12_litresIn 7 = .ok (.if_icmp .ge 18, 3) := by decide +kernel
theorem dX12_litresIn_10 : decode cX12_litresIn 10 = .ok (.iload_n 2, 1) := by decide +kernel
theorem dX12_litresIn_11 : decode cX12_litresIn 11 = .ok (.aload_n 0, 1) := by decide +kernel
theorem dX12_litresIn_12 : decode cX12_litresIn 12 = .ok (.iload_n 1, 1) := by decide +kernel
theorem dX12_litresIn_13 : decode cX12_litresIn 13 = .ok (.iload_n 3, 1) := by decide +kernel
theorem dX12_litresIn_14 : decode cX12_litresIn 14 = .ok (.invokevirtual 77, 3) := by decide +kernel
theorem dX12_litresIn_17 : decode cX12_litresIn 17 = .ok (.iadd, 1) := by decide +kernel
theorem dX12_litresIn_18 : decode cX12_litresIn 18 = .ok (.istore_n 2, 1) := by decide +kernel
theorem dX12_litresIn_19 : decode cX12_litresIn 19 = .ok (.iinc 3 1, 3) := by decide +kernel
theorem dX12_litresIn_22 : decode cX12_litresIn 22 = .ok (.goto (-18), 3) := by decide +kernel
theorem dX12_litresIn_25 : decode cX12_litresIn 25 = .ok (.iload_n 2, 1) := by decide +kernel
theorem dX12_litresIn_26 : decode cX12_litresIn 26 = .ok (.ireturn, 1) := by decide +kernel
theorem dX12_sumOf_0 : decode cX12_sumOf 0 = .ok (.iconst 0, 1) := by decide +kernel
theorem dX12_sumOf_1 : decode cX12_sumOf 1 = .ok (.istore_n 1, 1) := by decide +kernel
theorem dX12_sumOf_2 : decode cX12_sumOf 2 = .ok (.iconst 0, 1) := by decide +kernel
theorem dX12_sumOf_3 : decode cX12_sumOf 3 = .ok (.istore_n 2, 1) := by decide +kernel
theorem dX12_sumOf_4 : decode cX12_sumOf 4 = .ok (.iload_n 2, 1) := by decide +kernel
theorem dX12_sumOf_5 : decode cX12_sumOf 5 = .ok (.bipush 16, 2) := by decide +kernel
theorem dX12_sumOf_7 : decode cX12_sumOf 7 = .ok (.if_icmp .ge 15, 3) := by decide +kernel
theorem dX12_sumOf_10 : decode cX12_sumOf 10 = .ok (.iload_n 1, 1) := by decide +kernel
theorem dX12_sumOf_11 : decode cX12_sumOf 11 = .ok (.aload_n 0, 1) := by decide +kernel
theorem dX12_sumOf_12 : decode cX12_sumOf 12 = .ok (.iload_n 2, 1) := by decide +kernel
theorem dX12_sumOf_13 : decode cX12_sumOf 13 = .ok (.iaload, 1) := by decide +kernel
theorem dX12_sumOf_14 : decode cX12_sumOf 14 = .ok (.iadd, 1) := by decide +kernel
theorem dX12_sumOf_15 : decode cX12_sumOf 15 = .ok (.istore_n 1, 1) := by decide +kernel
theorem dX12_sumOf_16 : decode cX12_sumOf 16 = .ok (.iinc 2 1, 3) := by decide +kernel
theorem dX12_sumOf_19 : decode cX12_sumOf 19 = .ok (.goto (-15), 3) := by decide +kernel
theorem dX12_sumOf_22 : decode cX12_sumOf 22 = .ok (.iload_n 1, 1) := by decide +kernel
theorem dX12_sumOf_23 : decode cX12_sumOf 23 = .ok (.ireturn, 1) := by decide +kernel
theorem dX12_alcoholOf_0 : decode cX12_alcoholOf 0 = .ok (.lconst 0, 1) := by decide +kernel
theorem dX12_alcoholOf_1 : decode cX12_alcoholOf 1 = .ok (.lstore_n 2, 1) := by decide +kernel
theorem dX12_alcoholOf_2 : decode cX12_alcoholOf 2 = .ok (.iconst 0, 1) := by decide +kernel
theorem dX12_alcoholOf_3 : decode cX12_alcoholOf 3 = .ok (.istore 4, 2) := by decide +kernel
theorem dX12_alcoholOf_5 : decode cX12_alcoholOf 5 = .ok (.iload 4, 2) := by decide +kernel
theorem dX12_alcoholOf_7 : decode cX12_alcoholOf 7 = .ok (.bipush 16, 2) := by decide +kernel
theorem dX12_alcoholOf_9 : decode cX12_alcoholOf 9 = .ok (.if_icmp .ge 25, 3) := by decide +kernel
theorem dX12_alcoholOf_12 : decode cX12_alcoholOf 12 = .ok (.lload_n 2, 1) := by decide +kernel
theorem dX12_alcoholOf_13 : decode cX12_alcoholOf 13 = .ok (.aload_n 1, 1) := by decide +kernel
theorem dX12_alcoholOf_14 : decode cX12_alcoholOf 14 = .ok (.iload 4, 2) := by decide +kernel
theorem dX12_alcoholOf_16 : decode cX12_alcoholOf 16 = .ok (.iaload, 1) := by decide +kernel
theorem dX12_alcoholOf_17 : decode cX12_alcoholOf 17 = .ok (.i2l, 1) := by decide +kernel
theorem dX12_alcoholOf_18 : decode cX12_alcoholOf 18 = .ok (.aload_n 0, 1) := by decide +kernel
theorem dX12_alcoholOf_19 : decode cX12_alcoholOf 19 = .ok (.iload 4, 2) := by decide +kernel
theorem dX12_alcoholOf_21 : decode cX12_alcoholOf 21 = .ok (.invokevirtual 80, 3) := by decide +kernel
theorem dX12_alcoholOf_24 : decode cX12_alcoholOf 24 = .ok (.i2l, 1) := by decide +kernel
theorem dX12_alcoholOf_25 : decode cX12_alcoholOf 25 = .ok (.lmul, 1) := by decide +kernel
theorem dX12_alcoholOf_26 : decode cX12_alcoholOf 26 = .ok (.ladd, 1) := by decide +kernel
theorem dX12_alcoholOf_27 : decode cX12_alcoholOf 27 = .ok (.lstore_n 2, 1) := by decide +kernel
theorem dX12_alcoholOf_28 : decode cX12_alcoholOf 28 = .ok (.iinc 4 1, 3) := by decide +kernel
theorem dX12_alcoholOf_31 : decode cX12_alcoholOf 31 = .ok (.goto (-26), 3) := by decide +kernel
theorem dX12_alcoholOf_34 : decode cX12_alcoholOf 34 = .ok (.lload_n 2, 1) := by decide +kernel
theorem dX12_alcoholOf_35 : decode cX12_alcoholOf 35 = .ok (.lreturn, 1) := by decide +kernel
theorem dX12_looksAt_0 : decode cX12_looksAt 0 = .ok (.iconst 0, 1) := by decide +kernel
theorem dX12_looksAt_1 : decode cX12_looksAt 1 = .ok (.istore_n 2, 1) := by decide +kernel
theorem dX12_looksAt_2 : decode cX12_looksAt 2 = .ok (.iload_n 2, 1) := by decide +kernel
theorem dX12_looksAt_3 : decode cX12_looksAt 3 = .ok (.bipush 16, 2) := by decide +kernel
theorem dX12_looksAt_5 : decode cX12_looksAt 5 = .ok (.if_icmp .ge 21, 3) := by decide +kernel
theorem dX12_looksAt_8 : decode cX12_looksAt 8 = .ok (.aload_n 0, 1) := by decide +kernel
theorem dX12_looksAt_9 : decode cX12_looksAt 9 = .ok (.getfield 25, 3) := by decide +kernel
theorem dX12_looksAt_12 : decode cX12_looksAt 12 = .ok (.iload_n 2, 1) := by decide +kernel
theorem dX12_looksAt_13 : decode cX12_looksAt 13 = .ok (.aload_n 0, 1) := by decide +kernel
theorem dX12_looksAt_14 : decode cX12_looksAt 14 = .ok (.iload_n 1, 1) := by decide +kernel
theorem dX12_looksAt_15 : decode cX12_looksAt 15 = .ok (.iload_n 2, 1) := by decide +kernel
theorem dX12_looksAt_16 : decode cX12_looksAt 16 = .ok (.invokevirtual 77, 3) := by decide +kernel
theorem dX12_looksAt_19 : decode cX12_looksAt 19 = .ok (.iastore, 1) := by decide +kernel
theorem dX12_looksAt_20 : decode cX12_looksAt 20 = .ok (.iinc 2 1, 3) := by decide +kernel
theorem dX12_looksAt_23 : decode cX12_looksAt 23 = .ok (.goto (-21), 3) := by decide +kernel
theorem dX12_looksAt_26 : decode cX12_looksAt 26 = .ok (.return_, 1) := by decide +kernel
theorem dX12_takes_0 : decode cX12_takes 0 = .ok (.aload_n 0, 1) := by decide +kernel
theorem dX12_takes_1 : decode cX12_takes 1 = .ok (.getfield 25, 3) := by decide +kernel
theorem dX12_takes_4 : decode cX12_takes 4 = .ok (.invokestatic 84, 3) := by decide +kernel
theorem dX12_takes_7 : decode cX12_takes 7 = .ok (.istore_n 2, 1) := by decide +kernel
theorem dX12_takes_8 : decode cX12_takes 8 = .ok (.iload_n 1, 1) := by decide +kernel
theorem dX12_takes_9 : decode cX12_takes 9 = .ok (.istore_n 3, 1) := by decide +kernel
theorem dX12_takes_10 : decode cX12_takes 10 = .ok (.iconst 0, 1) := by decide +kernel
theorem dX12_takes_11 : decode cX12_takes 11 = .ok (.istore 4, 2) := by decide +kernel
theorem dX12_takes_13 : decode cX12_takes 13 = .ok (.iload 4, 2) := by decide +kernel
theorem dX12_takes_15 : decode cX12_takes 15 = .ok (.bipush 16, 2) := by decide +kernel
theorem dX12_takes_17 : decode cX12_takes 17 = .ok (.if_icmp .ge 71, 3) := by decide +kernel
theorem dX12_takes_20 : decode cX12_takes 20 = .ok (.aload_n 0, 1) := by decide +kernel
theorem dX12_takes_21 : decode cX12_takes 21 = .ok (.getfield 28, 3) := by decide +kernel
theorem dX12_takes_24 : decode cX12_takes 24 = .ok (.iload 4, 2) := by decide +kernel
theorem dX12_takes_26 : decode cX12_takes 26 = .ok (.iload_n 2, 1) := by decide +kernel
theorem dX12_takes_27 : decode cX12_takes 27 = .ok (.ifCond .ne 7, 3) := by decide +kernel
theorem dX12_takes_30 : decode cX12_takes 30 = .ok (.iconst 0, 1) := by decide +kernel
theorem dX12_takes_31 : decode cX12_takes 31 = .ok (.goto 14, 3) := by decide +kernel
theorem dX12_takes_34 : decode cX12_takes 34 = .ok (.aload_n 0, 1) := by decide +kernel
theorem dX12_takes_35 : decode cX12_takes 35 = .ok (.getfield 25, 3) := by decide +kernel
theorem dX12_takes_38 : decode cX12_takes 38 = .ok (.iload 4, 2) := by decide +kernel
theorem dX12_takes_40 : decode cX12_takes 40 = .ok (.iaload, 1) := by decide +kernel
theorem dX12_takes_41 : decode cX12_takes 41 = .ok (.iload_n 1, 1) := by decide +kernel
theorem dX12_takes_42 : decode cX12_takes 42 = .ok (.imul, 1) := by decide +kernel
theorem dX12_takes_43 : decode cX12_takes 43 = .ok (.iload_n 2, 1) := by decide +kernel
theorem dX12_takes_44 : decode cX12_takes 44 = .ok (.idiv, 1) := by decide +kernel
theorem dX12_takes_45 : decode cX12_takes 45 = .ok (.iastore, 1) := by decide +kernel
theorem dX12_takes_46 : decode cX12_takes 46 = .ok (.aload_n 0, 1) := by decide +kernel
theorem dX12_takes_47 : decode cX12_takes 47 = .ok (.getfield 31, 3) := by decide +kernel
theorem dX12_takes_50 : decode cX12_takes 50 = .ok (.iload 4, 2) := by decide +kernel
theorem dX12_takes_52 : decode cX12_takes 52 = .ok (.iload_n 2, 1) := by decide +kernel
theorem dX12_takes_53 : decode cX12_takes 53 = .ok (.ifCond .ne 7, 3) := by decide +kernel
theorem dX12_takes_56 : decode cX12_takes 56 = .ok (.iconst 0, 1) := by decide +kernel
theorem dX12_takes_57 : decode cX12_takes 57 = .ok (.goto 14, 3) := by decide +kernel
theorem dX12_takes_60 : decode cX12_takes 60 = .ok (.aload_n 0, 1) := by decide +kernel
theorem dX12_takes_61 : decode cX12_takes 61 = .ok (.getfield 25, 3) := by decide +kernel
theorem dX12_takes_64 : decode cX12_takes 64 = .ok (.iload 4, 2) := by decide +kernel
theorem dX12_takes_66 : decode cX12_takes 66 = .ok (.iaload, 1) := by decide +kernel
theorem dX12_takes_67 : decode cX12_takes 67 = .ok (.iload_n 1, 1) := by decide +kernel
theorem dX12_takes_68 : decode cX12_takes 68 = .ok (.imul, 1) := by decide +kernel
theorem dX12_takes_69 : decode cX12_takes 69 = .ok (.iload_n 2, 1) := by decide +kernel
theorem dX12_takes_70 : decode cX12_takes 70 = .ok (.irem, 1) := by decide +kernel
theorem dX12_takes_71 : decode cX12_takes 71 = .ok (.iastore, 1) := by decide +kernel
theorem dX12_takes_72 : decode cX12_takes 72 = .ok (.iload_n 3, 1) := by decide +kernel
theorem dX12_takes_73 : decode cX12_takes 73 = .ok (.aload_n 0, 1) := by decide +kernel
theorem dX12_takes_74 : decode cX12_takes 74 = .ok (.getfield 28, 3) := by decide +kernel
theorem dX12_takes_77 : decode cX12_takes 77 = .ok (.iload 4, 2) := by decide +kernel
theorem dX12_takes_79 : decode cX12_takes 79 = .ok (.iaload, 1) := by decide +kernel
theorem dX12_takes_80 : decode cX12_takes 80 = .ok (.isub, 1) := by decide +kernel
theorem dX12_takes_81 : decode cX12_takes 81 = .ok (.istore_n 3, 1) := by decide +kernel
theorem dX12_takes_82 : decode cX12_takes 82 = .ok (.iinc 4 1, 3) := by decide +kernel
theorem dX12_takes_85 : decode cX12_takes 85 = .ok (.goto (-72), 3) := by decide +kernel
theorem dX12_takes_88 : decode cX12_takes 88 = .ok (.iconst 0, 1) := by decide +kernel
theorem dX12_takes_89 : decode cX12_takes 89 = .ok (.istore 4, 2) := by decide +kernel
theorem dX12_takes_91 : decode cX12_takes 91 = .ok (.iload 4, 2) := by decide +kernel
theorem dX12_takes_93 : decode cX12_takes 93 = .ok (.iload_n 3, 1) := by decide +kernel
theorem dX12_takes_94 : decode cX12_takes 94 = .ok (.if_icmp .ge 73, 3) := by decide +kernel
theorem dX12_takes_97 : decode cX12_takes 97 = .ok (.iconst 0, 1) := by decide +kernel
theorem dX12_takes_98 : decode cX12_takes 98 = .ok (.istore 5, 2) := by decide +kernel
theorem dX12_takes_100 : decode cX12_takes 100 = .ok (.iconst 1, 1) := by decide +kernel
theorem dX12_takes_101 : decode cX12_takes 101 = .ok (.istore 6, 2) := by decide +kernel
theorem dX12_takes_103 : decode cX12_takes 103 = .ok (.iload 6, 2) := by decide +kernel
theorem dX12_takes_105 : decode cX12_takes 105 = .ok (.bipush 16, 2) := by decide +kernel
theorem dX12_takes_107 : decode cX12_takes 107 = .ok (.if_icmp .ge 35, 3) := by decide +kernel
theorem dX12_takes_110 : decode cX12_takes 110 = .ok (.aload_n 0, 1) := by decide +kernel
theorem dX12_takes_111 : decode cX12_takes 111 = .ok (.getfield 31, 3) := by decide +kernel
theorem dX12_takes_114 : decode cX12_takes 114 = .ok (.iload 6, 2) := by decide +kernel
theorem dX12_takes_116 : decode cX12_takes 116 = .ok (.iaload, 1) := by decide +kernel
theorem dX12_takes_117 : decode cX12_takes 117 = .ok (.aload_n 0, 1) := by decide +kernel
theorem dX12_takes_118 : decode cX12_takes 118 = .ok (.getfield 31, 3) := by decide +kernel
theorem dX12_takes_121 : decode cX12_takes 121 = .ok (.iload 5, 2) := by decide +kernel
theorem dX12_takes_123 : decode cX12_takes 123 = .ok (.iaload, 1) := by decide +kernel
theorem dX12_takes_124 : decode cX12_takes 124 = .ok (.if_icmp .le 8, 3) := by decide +kernel
theorem dX12_takes_127 : decode cX12_takes 127 = .ok (.iload 6, 2) := by decide +kernel
theorem dX12_takes_129 : decode cX12_takes 129 = .ok (.goto 5, 3) := by decide +kernel
theorem dX12_takes_132 : decode cX12_takes 132 = .ok (.iload 5, 2) := by decide +kernel
theorem dX12_takes_134 : decode cX12_takes 134 = .ok (.istore 5, 2) := by decide +kernel
theorem dX12_takes_136 : decode cX12_takes 136 = .ok (.iinc 6 1, 3) := by decide +kernel
theorem dX12_takes_139 : decode cX12_takes 139 = .ok (.goto (-36), 3) := by decide +kernel
theorem dX12_takes_142 : decode cX12_takes 142 = .ok (.aload_n 0, 1) := by decide +kernel
theorem dX12_takes_143 : decode cX12_takes 143 = .ok (.getfield 28, 3) := by decide +kernel
theorem dX12_takes_146 : decode cX12_takes 146 = .ok (.iload 5, 2) := by decide +kernel
theorem dX12_takes_148 : decode cX12_takes 148 = .ok (.dup2, 1) := by decide +kernel
theorem dX12_takes_149 : decode cX12_takes 149 = .ok (.iaload, 1) := by decide +kernel
theorem dX12_takes_150 : decode cX12_takes 150 = .ok (.iconst 1, 1) := by decide +kernel
theorem dX12_takes_151 : decode cX12_takes 151 = .ok (.iadd, 1) := by decide +kernel
theorem dX12_takes_152 : decode cX12_takes 152 = .ok (.iastore, 1) := by decide +kernel
theorem dX12_takes_153 : decode cX12_takes 153 = .ok (.aload_n 0, 1) := by decide +kernel
theorem dX12_takes_154 : decode cX12_takes 154 = .ok (.getfield 31, 3) := by decide +kernel
theorem dX12_takes_157 : decode cX12_takes 157 = .ok (.iload 5, 2) := by decide +kernel
theorem dX12_takes_159 : decode cX12_takes 159 = .ok (.iconst (-1), 1) := by decide +kernel
theorem dX12_takes_160 : decode cX12_takes 160 = .ok (.iastore, 1) := by decide +kernel
theorem dX12_takes_161 : decode cX12_takes 161 = .ok (.iinc 4 1, 3) := by decide +kernel
theorem dX12_takes_164 : decode cX12_takes 164 = .ok (.goto (-73), 3) := by decide +kernel
theorem dX12_takes_167 : decode cX12_takes 167 = .ok (.return_, 1) := by decide +kernel
theorem dX12_leaves_0 : decode cX12_leaves 0 = .ok (.iconst 0, 1) := by decide +kernel
theorem dX12_leaves_1 : decode cX12_leaves 1 = .ok (.istore_n 2, 1) := by decide +kernel
theorem dX12_leaves_2 : decode cX12_leaves 2 = .ok (.iload_n 2, 1) := by decide +kernel
theorem dX12_leaves_3 : decode cX12_leaves 3 = .ok (.bipush 16, 2) := by decide +kernel
theorem dX12_leaves_5 : decode cX12_leaves 5 = .ok (.if_icmp .ge 34, 3) := by decide +kernel
theorem dX12_leaves_8 : decode cX12_leaves 8 = .ok (.aload_n 0, 1) := by decide +kernel
theorem dX12_leaves_9 : decode cX12_leaves 9 = .ok (.getfield 9, 3) := by decide +kernel
theorem dX12_leaves_12 : decode cX12_leaves 12 = .ok (.bipush 10, 2) := by decide +kernel
theorem dX12_leaves_14 : decode cX12_leaves 14 = .ok (.bipush 19, 2) := by decide +kernel
theorem dX12_leaves_16 : decode cX12_leaves 16 = .ok (.iload_n 1, 1) := by decide +kernel
theorem dX12_leaves_17 : decode cX12_leaves 17 = .ok (.imul, 1) := by decide +kernel
theorem dX12_leaves_18 : decode cX12_leaves 18 = .ok (.iadd, 1) := by decide +kernel
theorem dX12_leaves_19 : decode cX12_leaves 19 = .ok (.iconst 3, 1) := by decide +kernel
theorem dX12_leaves_20 : decode cX12_leaves 20 = .ok (.iadd, 1) := by decide +kernel
theorem dX12_leaves_21 : decode cX12_leaves 21 = .ok (.iload_n 2, 1) := by decide +kernel
theorem dX12_leaves_22 : decode cX12_leaves 22 = .ok (.iadd, 1) := by decide +kernel
theorem dX12_leaves_23 : decode cX12_leaves 23 = .ok (.dup2, 1) := by decide +kernel
theorem dX12_leaves_24 : decode cX12_leaves 24 = .ok (.iaload, 1) := by decide +kernel
theorem dX12_leaves_25 : decode cX12_leaves 25 = .ok (.aload_n 0, 1) := by decide +kernel
theorem dX12_leaves_26 : decode cX12_leaves 26 = .ok (.getfield 28, 3) := by decide +kernel
theorem dX12_leaves_29 : decode cX12_leaves 29 = .ok (.iload_n 2, 1) := by decide +kernel
theorem dX12_leaves_30 : decode cX12_leaves 30 = .ok (.iaload, 1) := by decide +kernel
theorem dX12_leaves_31 : decode cX12_leaves 31 = .ok (.isub, 1) := by decide +kernel
theorem dX12_leaves_32 : decode cX12_leaves 32 = .ok (.iastore, 1) := by decide +kernel
theorem dX12_leaves_33 : decode cX12_leaves 33 = .ok (.iinc 2 1, 3) := by decide +kernel
theorem dX12_leaves_36 : decode cX12_leaves 36 = .ok (.goto (-34), 3) := by decide +kernel
theorem dX12_leaves_39 : decode cX12_leaves 39 = .ok (.aload_n 0, 1) := by decide +kernel
theorem dX12_leaves_40 : decode cX12_leaves 40 = .ok (.iload_n 1, 1) := by decide +kernel
theorem dX12_leaves_41 : decode cX12_leaves 41 = .ok (.invokevirtual 88, 3) := by decide +kernel
theorem dX12_leaves_44 : decode cX12_leaves 44 = .ok (.ifCond .ne 18, 3) := by decide +kernel
theorem dX12_leaves_47 : decode cX12_leaves 47 = .ok (.aload_n 0, 1) := by decide +kernel
theorem dX12_leaves_48 : decode cX12_leaves 48 = .ok (.getfield 9, 3) := by decide +kernel
theorem dX12_leaves_51 : decode cX12_leaves 51 = .ok (.bipush 10, 2) := by decide +kernel
theorem dX12_leaves_53 : decode cX12_leaves 53 = .ok (.bipush 19, 2) := by decide +kernel
theorem dX12_leaves_55 : decode cX12_leaves 55 = .ok (.iload_n 1, 1) := by decide +kernel
theorem dX12_leaves_56 : decode cX12_leaves 56 = .ok (.imul, 1) := by decide +kernel
theorem dX12_leaves_57 : decode cX12_leaves 57 = .ok (.iadd, 1) := by decide +kernel
theorem dX12_leaves_58 : decode cX12_leaves 58 = .ok (.iconst 1, 1) := by decide +kernel
theorem dX12_leaves_59 : decode cX12_leaves 59 = .ok (.iadd, 1) := by decide +kernel
theorem dX12_leaves_60 : decode cX12_leaves 60 = .ok (.iconst 2, 1) := by decide +kernel
theorem dX12_leaves_61 : decode cX12_leaves 61 = .ok (.iastore, 1) := by decide +kernel
theorem dX12_leaves_62 : decode cX12_leaves 62 = .ok (.return_, 1) := by decide +kernel
theorem dX12_notes_0 : decode cX12_notes 0 = .ok (.aload_n 0, 1) := by decide +kernel
theorem dX12_notes_1 : decode cX12_notes 1 = .ok (.getfield 9, 3) := by decide +kernel
theorem dX12_notes_4 : decode cX12_notes 4 = .ok (.iconst 5, 1) := by decide +kernel
theorem dX12_notes_5 : decode cX12_notes 5 = .ok (.iaload, 1) := by decide +kernel
theorem dX12_notes_6 : decode cX12_notes 6 = .ok (.bipush 80, 2) := by decide +kernel
theorem dX12_notes_8 : decode cX12_notes 8 = .ok (.if_icmp .ge 60, 3) := by decide +kernel
theorem dX12_notes_11 : decode cX12_notes 11 = .ok (.sipush 330, 3) := by decide +kernel
theorem dX12_notes_14 : decode cX12_notes 14 = .ok (.iconst 4, 1) := by decide +kernel
theorem dX12_notes_15 : decode cX12_notes 15 = .ok (.aload_n 0, 1) := by decide +kernel
theorem dX12_notes_16 : decode cX12_notes 16 = .ok (.getfield 9, 3) := by decide +kernel
theorem dX12_notes_19 : decode cX12_notes 19 = .ok (.iconst 5, 1) := by decide +kernel
theorem dX12_notes_20 : decode cX12_notes 20 = .ok (.iaload, 1) := by decide +kernel
theorem dX12_notes_21 : decode cX12_notes 21 = .ok (.imul, 1) := by decide +kernel
theorem dX12_notes_22 : decode cX12_notes 22 = .ok (.iadd, 1) := by decide +kernel
theorem dX12_notes_23 : decode cX12_notes 23 = .ok (.istore 4, 2) := by decide +kernel
theorem dX12_notes_25 : decode cX12_notes 25 = .ok (.aload_n 0, 1) := by decide +kernel
theorem dX12_notes_26 : decode cX12_notes 26 = .ok (.getfield 9, 3) := by decide +kernel
theorem dX12_notes_29 : decode cX12_notes 29 = .ok (.iload 4, 2) := by decide +kernel
theorem dX12_notes_31 : decode cX12_notes 31 = .ok (.aload_n 0, 1) := by decide +kernel
theorem dX12_notes_32 : decode cX12_notes 32 = .ok (.getfield 9, 3) := by decide +kernel
theorem dX12_notes_35 : decode cX12_notes 35 = .ok (.iconst 0, 1) := by decide +kernel
theorem dX12_notes_36 : decode cX12_notes 36 = .ok (.iaload, 1) := by decide +kernel
theorem dX12_notes_37 : decode cX12_notes 37 = .ok (.iastore, 1) := by decide +kernel
theorem dX12_notes_38 : decode cX12_notes 38 = .ok (.aload_n 0, 1) := by decide +kernel
theorem dX12_notes_39 : decode cX12_notes 39 = .ok (.getfield 9, 3) := by decide +kernel
theorem dX12_notes_42 : decode cX12_notes 42 = .ok (.iload 4, 2) := by decide +kernel
theorem dX12_notes_44 : decode cX12_notes 44 = .ok (.iconst 1, 1) := by decide +kernel
theorem dX12_notes_45 : decode cX12_notes 45 = .ok (.iadd, 1) := by decide +kernel
theorem dX12_notes_46 : decode cX12_notes 46 = .ok (.iload_n 1, 1) := by decide +kernel
theorem dX12_notes_47 : decode cX12_notes 47 = .ok (.iastore, 1) := by decide +kernel
theorem dX12_notes_48 : decode cX12_notes 48 = .ok (.aload_n 0, 1) := by decide +kernel
theorem dX12_notes_49 : decode cX12_notes 49 = .ok (.getfield 9, 3) := by decide +kernel
theorem dX12_notes_52 : decode cX12_notes 52 = .ok (.iload 4, 2) := by decide +kernel
theorem dX12_notes_54 : decode cX12_notes 54 = .ok (.iconst 2, 1) := by decide +kernel
theorem dX12_notes_55 : decode cX12_notes 55 = .ok (.iadd, 1) := by decide +kernel
theorem dX12_notes_56 : decode cX12_notes 56 = .ok (.iload_n 2, 1) := by decide +kernel
theorem dX12_notes_57 : decode cX12_notes 57 = .ok (.iastore, 1) := by decide +kernel
theorem dX12_notes_58 : decode cX12_notes 58 = .ok (.aload_n 0, 1) := by decide +kernel
theorem dX12_notes_59 : decode cX12_notes 59 = .ok (.getfield 9, 3) := by decide +kernel
theorem dX12_notes_62 : decode cX12_notes 62 = .ok (.iload 4, 2) := by decide +kernel
theorem dX12_notes_64 : decode cX12_notes 64 = .ok (.iconst 3, 1) := by decide +kernel
theorem dX12_notes_65 : decode cX12_notes 65 = .ok (.iadd, 1) := by decide +kernel
theorem dX12_notes_66 : decode cX12_notes 66 = .ok (.iload_n 3, 1) := by decide +kernel
theorem dX12_notes_67 : decode cX12_notes 67 = .ok (.iastore, 1) := by decide +kernel
theorem dX12_notes_68 : decode cX12_notes 68 = .ok (.aload_n 0, 1) := by decide +kernel
theorem dX12_notes_69 : decode cX12_notes 69 = .ok (.getfield 9, 3) := by decide +kernel
theorem dX12_notes_72 : decode cX12_notes 72 = .ok (.iconst 5, 1) := by decide +kernel
theorem dX12_notes_73 : decode cX12_notes 73 = .ok (.dup2, 1) := by decide +kernel
theorem dX12_notes_74 : decode cX12_notes 74 = .ok (.iaload, 1) := by decide +kernel
theorem dX12_notes_75 : decode cX12_notes 75 = .ok (.iconst 1, 1) := by decide +kernel
theorem dX12_notes_76 : decode cX12_notes 76 = .ok (.iadd, 1) := by decide +kernel
theorem dX12_notes_77 : decode cX12_notes 77 = .ok (.iastore, 1) := by decide +kernel
theorem dX12_notes_78 : decode cX12_notes 78 = .ok (.return_, 1) := by decide +kernel
theorem dX12_loses_0 : decode cX12_loses 0 = .ok (.iconst 0, 1) := by decide +kernel
theorem dX12_loses_1 : decode cX12_loses 1 = .ok (.istore 4, 2) := by decide +kernel
theorem dX12_loses_3 : decode cX12_loses 3 = .ok (.iload 4, 2) := by decide +kernel
theorem dX12_loses_5 : decode cX12_loses 5 = .ok (.bipush 16, 2) := by decide +kernel
theorem dX12_loses_7 : decode cX12_loses 7 = .ok (.if_icmp .ge 33, 3) := by decide +kernel
theorem dX12_loses_10 : decode cX12_loses 10 = .ok (.aload_n 0, 1) := by decide +kernel
theorem dX12_loses_11 : decode cX12_loses 11 = .ok (.getfield 9, 3) := by decide +kernel
theorem dX12_loses_14 : decode cX12_loses 14 = .ok (.bipush 124, 2) := by decide +kernel
theorem dX12_loses_16 : decode cX12_loses 16 = .ok (.iconst 5, 1) := by decide +kernel
theorem dX12_loses_17 : decode cX12_loses 17 = .ok (.iload 4, 2) := by decide +kernel
theorem dX12_loses_19 : decode cX12_loses 19 = .ok (.imul, 1) := by decide +kernel
theorem dX12_loses_20 : decode cX12_loses 20 = .ok (.iadd, 1) := by decide +kernel
theorem dX12_loses_21 : decode cX12_loses 21 = .ok (.iconst 3, 1) := by decide +kernel
theorem dX12_loses_22 : decode cX12_loses 22 = .ok (.iadd, 1) := by decide +kernel
theorem dX12_loses_23 : decode cX12_loses 23 = .ok (.dup2, 1) := by decide +kernel
theorem dX12_loses_24 : decode cX12_loses 24 = .ok (.iaload, 1) := by decide +kernel
theorem dX12_loses_25 : decode cX12_loses 25 = .ok (.aload_n 0, 1) := by decide +kernel
theorem dX12_loses_26 : decode cX12_loses 26 = .ok (.getfield 28, 3) := by decide +kernel
theorem dX12_loses_29 : decode cX12_loses 29 = .ok (.iload 4, 2) := by decide +kernel
theorem dX12_loses_31 : decode cX12_loses 31 = .ok (.iaload, 1) := by decide +kernel
theorem dX12_loses_32 : decode cX12_loses 32 = .ok (.iadd, 1) := by decide +kernel
theorem dX12_loses_33 : decode cX12_loses 33 = .ok (.iastore, 1) := by decide +kernel
theorem dX12_loses_34 : decode cX12_loses 34 = .ok (.iinc 4 1, 3) := by decide +kernel
theorem dX12_loses_37 : decode cX12_loses 37 = .ok (.goto (-34), 3) := by decide +kernel
theorem dX12_loses_40 : decode cX12_loses 40 = .ok (.aload_n 0, 1) := by decide +kernel
theorem dX12_loses_41 : decode cX12_loses 41 = .ok (.getfield 9, 3) := by decide +kernel
theorem dX12_loses_44 : decode cX12_loses 44 = .ok (.sipush 324, 3) := by decide +kernel
theorem dX12_loses_47 : decode cX12_loses 47 = .ok (.iload_n 3, 1) := by decide +kernel
theorem dX12_loses_48 : decode cX12_loses 48 = .ok (.iadd, 1) := by decide +kernel
theorem dX12_loses_49 : decode cX12_loses 49 = .ok (.dup2, 1) := by decide +kernel
theorem dX12_loses_50 : decode cX12_loses 50 = .ok (.iaload, 1) := by decide +kernel
theorem dX12_loses_51 : decode cX12_loses 51 = .ok (.iload_n 2, 1) := by decide +kernel
theorem dX12_loses_52 : decode cX12_loses 52 = .ok (.iadd, 1) := by decide +kernel
theorem dX12_loses_53 : decode cX12_loses 53 = .ok (.iastore, 1) := by decide +kernel
theorem dX12_loses_54 : decode cX12_loses 54 = .ok (.aload_n 0, 1) := by decide +kernel
theorem dX12_loses_55 : decode cX12_loses 55 = .ok (.iconst 3, 1) := by decide +kernel
theorem dX12_loses_56 : decode cX12_loses 56 = .ok (.iload_n 1, 1) := by decide +kernel
theorem dX12_loses_57 : decode cX12_loses 57 = .ok (.iload_n 2, 1) := by decide +kernel
theorem dX12_loses_58 : decode cX12_loses 58 = .ok (.invokevirtual 91, 3) := by decide +kernel
theorem dX12_loses_61 : decode cX12_loses 61 = .ok (.return_, 1) := by decide +kernel
theorem dX12_size_0 : decode cX12_size 0 = .ok (.iload_n 1, 1) := by decide +kernel
theorem dX12_size_1 : decode cX12_size 1 = .ok (.invokestatic 95, 3) := by decide +kernel
theorem dX12_size_4 : decode cX12_size 4 = .ok (.ifCond .ne 5, 3) := by decide +kernel
theorem dX12_size_7 : decode cX12_size 7 = .ok (.iconst (-1), 1) := by decide +kernel
theorem dX12_size_8 : decode cX12_size 8 = .ok (.ireturn, 1) := by decide +kernel
theorem dX12_size_9 : decode cX12_size 9 = .ok (.iload_n 2, 1) := by decide +kernel
theorem dX12_size_10 : decode cX12_size 10 = .ok (.iconst 1, 1) := by decide +kernel
theorem dX12_size_11 : decode cX12_size 11 = .ok (.sipush 9999, 3) := by decide +kernel
theorem dX12_size_14 : decode cX12_size 14 = .ok (.invokestatic 69, 3) := by decide +kernel
theorem dX12_size_17 : decode cX12_size 17 = .ok (.ifCond .ne 6, 3) := by decide +kernel
theorem dX12_size_20 : decode cX12_size 20 = .ok (.bipush (-2), 2) := by decide +kernel
theorem dX12_size_22 : decode cX12_size 22 = .ok (.ireturn, 1) := by decide +kernel
theorem dX12_size_23 : decode cX12_size 23 = .ok (.aload_n 0, 1) := by decide +kernel
theorem dX12_size_24 : decode cX12_size 24 = .ok (.iload_n 1, 1) := by decide +kernel
theorem dX12_size_25 : decode cX12_size 25 = .ok (.invokevirtual 88, 3) := by decide +kernel
theorem dX12_size_28 : decode cX12_size 28 = .ok (.iload_n 2, 1) := by decide +kernel
theorem dX12_size_29 : decode cX12_size 29 = .ok (.if_icmp .le 9, 3) := by decide +kernel
theorem dX12_size_32 : decode cX12_size 32 = .ok (.aload_n 0, 1) := by decide +kernel
theorem dX12_size_33 : decode cX12_size 33 = .ok (.iconst 4, 1) := by decide +kernel
theorem dX12_size_34 : decode cX12_size 34 = .ok (.invokevirtual 99, 3) := by decide +kernel
theorem dX12_size_37 : decode cX12_size 37 = .ok (.ireturn, 1) := by decide +kernel
theorem dX12_size_38 : decode cX12_size 38 = .ok (.aload_n 0, 1) := by decide +kernel
theorem dX12_size_39 : decode cX12_size 39 = .ok (.invokevirtual 102, 3) := by decide +kernel
theorem dX12_size_42 : decode cX12_size 42 = .ok (.aload_n 0, 1) := by decide +kernel
theorem dX12_size_43 : decode cX12_size 43 = .ok (.iload_n 1, 1) := by decide +kernel
theorem dX12_size_44 : decode cX12_size 44 = .ok (.iconst 0, 1) := by decide +kernel
theorem dX12_size_45 : decode cX12_size 45 = .ok (.invokevirtual 73, 3) := by decide +kernel
theorem dX12_size_48 : decode cX12_size 48 = .ok (.istore_n 3, 1) := by decide +kernel
theorem dX12_size_49 : decode cX12_size 49 = .ok (.aload_n 0, 1) := by decide +kernel
theorem dX12_size_50 : decode cX12_size 50 = .ok (.getfield 9, 3) := by decide +kernel
theorem dX12_size_53 : decode cX12_size 53 = .ok (.bipush 10, 2) := by decide +kernel
theorem dX12_size_55 : decode cX12_size 55 = .ok (.bipush 19, 2) := by decide +kernel
theorem dX12_size_57 : decode cX12_size 57 = .ok (.iload_n 1, 1) := by decide +kernel
theorem dX12_size_58 : decode cX12_size 58 = .ok (.imul, 1) := by decide +kernel
theorem dX12_size_59 : decode cX12_size 59 = .ok (.iadd, 1) := by decide +kernel
theorem dX12_size_60 : decode cX12_size 60 = .ok (.iload_n 2, 1) := by decide +kernel
theorem dX12_size_61 : decode cX12_size 61 = .ok (.iastore, 1) := by decide +kernel
theorem dX12_size_62 : decode cX12_size 62 = .ok (.iload_n 3, 1) := by decide +kernel
theorem dX12_size_63 : decode cX12_size 63 = .ok (.ireturn, 1) := by decide +kernel
theorem dX12_brew_0 : decode cX12_brew 0 = .ok (.iload_n 1, 1) := by decide +kernel
theorem dX12_brew_1 : decode cX12_brew 1 = .ok (.invokestatic 95, 3) := by decide +kernel
theorem dX12_brew_4 : decode cX12_brew 4 = .ok (.ifCond .ne 5, 3) := by decide +kernel
theorem dX12_brew_7 : decode cX12_brew 7 = .ok (.iconst (-1), 1) := by decide +kernel
theorem dX12_brew_8 : decode cX12_brew 8 = .ok (.ireturn, 1) := by decide +kernel
theorem dX12_brew_9 : decode cX12_brew 9 = .ok (.iload_n 2, 1) := by decide +kernel
theorem dX12_brew_10 : decode cX12_brew 10 = .ok (.iconst 1, 1) := by decide +kernel
theorem dX12_brew_11 : decode cX12_brew 11 = .ok (.sipush 9999, 3) := by decide +kernel
theorem dX12_brew_14 : decode cX12_brew 14 = .ok (.invokestatic 69, 3) := by decide +kernel
theorem dX12_brew_17 : decode cX12_brew 17 = .ok (.ifCond .eq 14, 3) := by decide +kernel
theorem dX12_brew_20 : decode cX12_brew 20 = .ok (.iload_n 3, 1) := by decide +kernel
theorem dX12_brew_21 : decode cX12_brew 21 = .ok (.iconst 0, 1) := by decide +kernel
theorem dX12_brew_22 : decode cX12_brew 22 = .ok (.sipush 2000, 3) := by decide +kernel
theorem dX12_brew_25 : decode cX12_brew 25 = .ok (.invokestatic 69, 3) := by decide +kernel
theorem dX12_brew_28 : decode cX12_brew 28 = .ok (.ifCond .ne 6, 3) := by decide +kernel
theorem dX12_brew_31 : decode cX12_brew 31 = .ok (.bipush (-2), 2) := by decide +kernel
theorem dX12_brew_33 : decode cX12_brew 33 = .ok (.ireturn, 1) := by decide +kernel
theorem dX12_brew_34 : decode cX12_brew 34 = .ok (.aload_n 0, 1) := by decide +kernel
theorem dX12_brew_35 : decode cX12_brew 35 = .ok (.getfield 9, 3) := by decide +kernel
theorem dX12_brew_38 : decode cX12_brew 38 = .ok (.iconst 1, 1) := by decide +kernel
theorem dX12_brew_39 : decode cX12_brew 39 = .ok (.iaload, 1) := by decide +kernel
theorem dX12_brew_40 : decode cX12_brew 40 = .ok (.bipush 16, 2) := by decide +kernel
theorem dX12_brew_42 : decode cX12_brew 42 = .ok (.if_icmp .ne 6, 3) := by decide +kernel
theorem dX12_brew_45 : decode cX12_brew 45 = .ok (.bipush (-4), 2) := by decide +kernel
theorem dX12_brew_47 : decode cX12_brew 47 = .ok (.ireturn, 1) := by decide +kernel
theorem dX12_brew_48 : decode cX12_brew 48 = .ok (.aload_n 0, 1) := by decide +kernel
theorem dX12_brew_49 : decode cX12_brew 49 = .ok (.iload_n 1, 1) := by decide +kernel
theorem dX12_brew_50 : decode cX12_brew 50 = .ok (.iconst 1, 1) := by decide +kernel
theorem dX12_brew_51 : decode cX12_brew 51 = .ok (.invokevirtual 73, 3) := by decide +kernel
theorem dX12_brew_54 : decode cX12_brew 54 = .ok (.ifCond .eq 9, 3) := by decide +kernel
theorem dX12_brew_57 : decode cX12_brew 57 = .ok (.aload_n 0, 1) := by decide +kernel
theorem dX12_brew_58 : decode cX12_brew 58 = .ok (.iconst 2, 1) := by decide +kernel
theorem dX12_brew_59 : decode cX12_brew 59 = .ok (.invokevirtual 99, 3) := by decide +kernel
theorem dX12_brew_62 : decode cX12_brew 62 = .ok (.ireturn, 1) := by decide +kernel
theorem dX12_brew_63 : decode cX12_brew 63 = .ok (.iload_n 2, 1) := by decide +kernel
theorem dX12_brew_64 : decode cX12_brew 64 = .ok (.aload_n 0, 1) := by decide +kernel
theorem dX12_brew_65 : decode cX12_brew 65 = .ok (.iload_n 1, 1) := by decide +kernel
theorem dX12_brew_66 : decode cX12_brew 66 = .ok (.iconst 0, 1) := by decide +kernel
theorem dX12_brew_67 : decode cX12_brew 67 = .ok (.invokevirtual 73, 3) := by decide +kernel
theorem dX12_brew_70 : decode cX12_brew 70 = .ok (.if_icmp .le 9, 3) := by decide +kernel
theorem dX12_brew_73 : decode cX12_brew 73 = .ok (.aload_n 0, 1) := by decide +kernel
theorem dX12_brew_74 : decode cX12_brew 74 = .ok (.iconst 4, 1) := by decide +kernel
theorem dX12_brew_75 : decode cX12_brew 75 = .ok (.invokevirtual 99, 3) := by decide +kernel
theorem dX12_brew_78 : decode cX12_brew 78 = .ok (.ireturn, 1) := by decide +kernel
theorem dX12_brew_79 : decode cX12_brew 79 = .ok (.aload_n 0, 1) := by decide +kernel
theorem dX12_brew_80 : decode cX12_brew 80 = .ok (.invokevirtual 102, 3) := by decide +kernel
theorem dX12_brew_83 : decode cX12_brew 83 = .ok (.aload_n 0, 1) := by decide +kernel
theorem dX12_brew_84 : decode cX12_brew 84 = .ok (.getfield 9, 3) := by decide +kernel
theorem dX12_brew_87 : decode cX12_brew 87 = .ok (.iconst 1, 1) := by decide +kernel
theorem dX12_brew_88 : decode cX12_brew 88 = .ok (.iaload, 1) := by decide +kernel
theorem dX12_brew_89 : decode cX12_brew 89 = .ok (.istore 4, 2) := by decide +kernel
theorem dX12_brew_91 : decode cX12_brew 91 = .ok (.aload_n 0, 1) := by decide +kernel
theorem dX12_brew_92 : decode cX12_brew 92 = .ok (.getfield 9, 3) := by decide +kernel
theorem dX12_brew_95 : decode cX12_brew 95 = .ok (.bipush 124, 2) := by decide +kernel
theorem dX12_brew_97 : decode cX12_brew 97 = .ok (.iconst 5, 1) := by decide +kernel
theorem dX12_brew_98 : decode cX12_brew 98 = .ok (.iload 4, 2) := by decide +kernel
theorem dX12_brew_100 : decode cX12_brew 100 = .ok (.imul, 1) := by decide +kernel
theorem dX12_brew_101 : decode cX12_brew 101 = .ok (.iadd, 1) := by decide +kernel
theorem dX12_brew_102 : decode cX12_brew 102 = .ok (.iload_n 3, 1) := by decide +kernel
theorem dX12_brew_103 : decode cX12_brew 103 = .ok (.iastore, 1) := by decide +kernel
theorem dX12_brew_104 : decode cX12_brew 104 = .ok (.aload_n 0, 1) := by decide +kernel
theorem dX12_brew_105 : decode cX12_brew 105 = .ok (.getfield 9, 3) := by decide +kernel
theorem dX12_brew_108 : decode cX12_brew 108 = .ok (.bipush 124, 2) := by decide +kernel
theorem dX12_brew_110 : decode cX12_brew 110 = .ok (.iconst 5, 1) := by decide +kernel
theorem dX12_brew_111 : decode cX12_brew 111 = .ok (.iload 4, 2) := by decide +kernel
theorem dX12_brew_113 : decode cX12_brew 113 = .ok (.imul, 1) := by decide +kernel
theorem dX12_brew_114 : decode cX12_brew 114 = .ok (.iadd, 1) := by decide +kernel
theorem dX12_brew_115 : decode cX12_brew 115 = .ok (.iconst 1, 1) := by decide +kernel
theorem dX12_brew_116 : decode cX12_brew 116 = .ok (.iadd, 1) := by decide +kernel
theorem dX12_brew_117 : decode cX12_brew 117 = .ok (.iload_n 2, 1) := by decide +kernel
theorem dX12_brew_118 : decode cX12_brew 118 = .ok (.iastore, 1) := by decide +kernel
theorem dX12_brew_119 : decode cX12_brew 119 = .ok (.aload_n 0, 1) := by decide +kernel
theorem dX12_brew_120 : decode cX12_brew 120 = .ok (.getfield 9, 3) := by decide +kernel
theorem dX12_brew_123 : decode cX12_brew 123 = .ok (.bipush 124, 2) := by decide +kernel
theorem dX12_brew_125 : decode cX12_brew 125 = .ok (.iconst 5, 1) := by decide +kernel
theorem dX12_brew_126 : decode cX12_brew 126 = .ok (.iload 4, 2) := by decide +kernel
theorem dX12_brew_128 : decode cX12_brew 128 = .ok (.imul, 1) := by decide +kernel
theorem dX12_brew_129 : decode cX12_brew 129 = .ok (.iadd, 1) := by decide +kernel
theorem dX12_brew_130 : decode cX12_brew 130 = .ok (.iconst 4, 1) := by decide +kernel
theorem dX12_brew_131 : decode cX12_brew 131 = .ok (.iadd, 1) := by decide +kernel
theorem dX12_brew_132 : decode cX12_brew 132 = .ok (.aload_n 0, 1) := by decide +kernel
theorem dX12_brew_133 : decode cX12_brew 133 = .ok (.getfield 9, 3) := by decide +kernel
theorem dX12_brew_136 : decode cX12_brew 136 = .ok (.iconst 0, 1) := by decide +kernel
theorem dX12_brew_137 : decode cX12_brew 137 = .ok (.iaload, 1) := by decide +kernel
theorem dX12_brew_138 : decode cX12_brew 138 = .ok (.iastore, 1) := by decide +kernel
theorem dX12_brew_139 : decode cX12_brew 139 = .ok (.aload_n 0, 1) := by decide +kernel
theorem dX12_brew_140 : decode cX12_brew 140 = .ok (.getfield 9, 3) := by decide +kernel
theorem dX12_brew_143 : decode cX12_brew 143 = .ok (.iconst 1, 1) := by decide +kernel
theorem dX12_brew_144 : decode cX12_brew 144 = .ok (.dup2, 1) := by decide +kernel
theorem dX12_brew_145 : decode cX12_brew 145 = .ok (.iaload, 1) := by decide +kernel
theorem dX12_brew_146 : decode cX12_brew 146 = .ok (.iconst 1, 1) := by decide +kernel
theorem dX12_brew_147 : decode cX12_brew 147 = .ok (.iadd, 1) := by decide +kernel
theorem dX12_brew_148 : decode cX12_brew 148 = .ok (.iastore, 1) := by decide +kernel
theorem dX12_brew_149 : decode cX12_brew 149 = .ok (.aload_n 0, 1) := by decide +kernel
theorem dX12_brew_150 : decode cX12_brew 150 = .ok (.getfield 9, 3) := by decide +kernel
theorem dX12_brew_153 : decode cX12_brew 153 = .ok (.bipush 10, 2) := by decide +kernel
theorem dX12_brew_155 : decode cX12_brew 155 = .ok (.bipush 19, 2) := by decide +kernel
theorem dX12_brew_157 : decode cX12_brew 157 = .ok (.iload_n 1, 1) := by decide +kernel
theorem dX12_brew_158 : decode cX12_brew 158 = .ok (.imul, 1) := by decide +kernel
theorem dX12_brew_159 : decode cX12_brew 159 = .ok (.iadd, 1) := by decide +kernel
theorem dX12_brew_160 : decode cX12_brew 160 = .ok (.iconst 1, 1) := by decide +kernel
theorem dX12_brew_161 : decode cX12_brew 161 = .ok (.iadd, 1) := by decide +kernel
theorem dX12_brew_162 : decode cX12_brew 162 = .ok (.iconst 1, 1) := by decide +kernel
theorem dX12_brew_163 : decode cX12_brew 163 = .ok (.iastore, 1) := by decide +kernel
theorem dX12_brew_164 : decode cX12_brew 164 = .ok (.aload_n 0, 1) := by decide +kernel
theorem dX12_brew_165 : decode cX12_brew 165 = .ok (.getfield 9, 3) := by decide +kernel
theorem dX12_brew_168 : decode cX12_brew 168 = .ok (.bipush 10, 2) := by decide +kernel
theorem dX12_brew_170 : decode cX12_brew 170 = .ok (.bipush 19, 2) := by decide +kernel
theorem dX12_brew_172 : decode cX12_brew 172 = .ok (.iload_n 1, 1) := by decide +kernel
theorem dX12_brew_173 : decode cX12_brew 173 = .ok (.imul, 1) := by decide +kernel
theorem dX12_brew_174 : decode cX12_brew 174 = .ok (.iadd, 1) := by decide +kernel
theorem dX12_brew_175 : decode cX12_brew 175 = .ok (.iconst 3, 1) := by decide +kernel
theorem dX12_brew_176 : decode cX12_brew 176 = .ok (.iadd, 1) := by decide +kernel
theorem dX12_brew_177 : decode cX12_brew 177 = .ok (.iload 4, 2) := by decide +kernel
theorem dX12_brew_179 : decode cX12_brew 179 = .ok (.iadd, 1) := by decide +kernel
theorem dX12_brew_180 : decode cX12_brew 180 = .ok (.iload_n 2, 1) := by decide +kernel
theorem dX12_brew_181 : decode cX12_brew 181 = .ok (.iastore, 1) := by decide +kernel
theorem dX12_brew_182 : decode cX12_brew 182 = .ok (.aload_n 0, 1) := by decide +kernel
theorem dX12_brew_183 : decode cX12_brew 183 = .ok (.iconst 0, 1) := by decide +kernel
theorem dX12_brew_184 : decode cX12_brew 184 = .ok (.iload_n 1, 1) := by decide +kernel
theorem dX12_brew_185 : decode cX12_brew 185 = .ok (.iload_n 2, 1) := by decide +kernel
theorem dX12_brew_186 : decode cX12_brew 186 = .ok (.invokevirtual 91, 3) := by decide +kernel
theorem dX12_brew_189 : decode cX12_brew 189 = .ok (.iload 4, 2) := by decide +kernel
theorem dX12_brew_191 : decode cX12_brew 191 = .ok (.ireturn, 1) := by decide +kernel
theorem dX12_transfer_0 : decode cX12_transfer 0 = .ok (.iload_n 1, 1) := by decide +kernel
theorem dX12_transfer_1 : decode cX12_transfer 1 = .ok (.invokestatic 95, 3) := by decide +kernel
theorem dX12_transfer_4 : decode cX12_transfer 4 = .ok (.ifCond .eq 15, 3) := by decide +kernel
theorem dX12_transfer_7 : decode cX12_transfer 7 = .ok (.iload_n 2, 1) := by decide +kernel
theorem dX12_transfer_8 : decode cX12_transfer 8 = .ok (.invokestatic 95, 3) := by decide +kernel
theorem dX12_transfer_11 : decode cX12_transfer 11 = .ok (.ifCond .eq 8, 3) := by decide +kernel
theorem dX12_transfer_14 : decode cX12_transfer 14 = .ok (.iload_n 1, 1) := by decide +kernel
theorem dX12_transfer_15 : decode cX12_transfer 15 = .ok (.iload_n 2, 1) := by decide +kernel
theorem dX12_transfer_16 : decode cX12_transfer 16 = .ok (.if_icmp .ne 9, 3) := by decide +kernel
theorem dX12_transfer_19 : decode cX12_transfer 19 = .ok (.aload_n 0, 1) := by decide +kernel
theorem dX12_transfer_20 : decode cX12_transfer 20 = .ok (.iconst 1, 1) := by decide +kernel
theorem dX12_transfer_21 : decode cX12_transfer 21 = .ok (.invokevirtual 99, 3) := by decide +kernel
theorem dX12_transfer_24 : decode cX12_transfer 24 = .ok (.ireturn, 1) := by decide +kernel
theorem dX12_transfer_25 : decode cX12_transfer 25 = .ok (.iload_n 3, 1) := by decide +kernel
theorem dX12_transfer_26 : decode cX12_transfer 26 = .ok (.iconst 1, 1) := by decide +kernel
theorem dX12_transfer_27 : decode cX12_transfer 27 = .ok (.sipush 9999, 3) := by decide +kernel
theorem dX12_transfer_30 : decode cX12_transfer 30 = .ok (.invokestatic 69, 3) := by decide +kernel
theorem dX12_transfer_33 : decode cX12_transfer 33 = .ok (.ifCond .ne 10, 3) := by decide +kernel
theorem dX12_transfer_36 : decode cX12_transfer 36 = .ok (.aload_n 0, 1) := by decide +kernel
theorem dX12_transfer_37 : decode cX12_transfer 37 = .ok (.bipush 8, 2) := by decide +kernel
theorem dX12_transfer_39 : decode cX12_transfer 39 = .ok (.invokevirtual 99, 3) := by decide +kernel
theorem dX12_transfer_42 : decode cX12_transfer 42 = .ok (.ireturn, 1) := by decide +kernel
theorem dX12_transfer_43 : decode cX12_transfer 43 = .ok (.aload_n 0, 1) := by decide +kernel
theorem dX12_transfer_44 : decode cX12_transfer 44 = .ok (.iload_n 1, 1) := by decide +kernel
theorem dX12_transfer_45 : decode cX12_transfer 45 = .ok (.iconst 1, 1) := by decide +kernel
theorem dX12_transfer_46 : decode cX12_transfer 46 = .ok (.invokevirtual 73, 3) := by decide +kernel
theorem dX12_transfer_49 : decode cX12_transfer 49 = .ok (.iconst 1, 1) := by decide +kernel
theorem dX12_transfer_50 : decode cX12_transfer 50 = .ok (.if_icmp .ne 13, 3) := by decide +kernel
theorem dX12_transfer_53 : decode cX12_transfer 53 = .ok (.aload_n 0, 1) := by decide +kernel
theorem dX12_transfer_54 : decode cX12_transfer 54 = .ok (.iload_n 2, 1) := by decide +kernel
theorem dX12_transfer_55 : decode cX12_transfer 55 = .ok (.iconst 1, 1) := by decide +kernel
theorem dX12_transfer_56 : decode cX12_transfer 56 = .ok (.invokevirtual 73, 3) := by decide +kernel
theorem dX12_transfer_59 : decode cX12_transfer 59 = .ok (.iconst 1, 1) := by decide +kernel
theorem dX12_transfer_60 : decode cX12_transfer 60 = .ok (.if_icmp .le 9, 3) := by decide +kernel
theorem dX12_transfer_63 : decode cX12_transfer 63 = .ok (.aload_n 0, 1) := by decide +kernel
theorem dX12_transfer_64 : decode cX12_transfer 64 = .ok (.iconst 2, 1) := by decide +kernel
theorem dX12_transfer_65 : decode cX12_transfer 65 = .ok (.invokevirtual 99, 3) := by decide +kernel
theorem dX12_transfer_68 : decode cX12_transfer 68 = .ok (.ireturn, 1) := by decide +kernel
theorem dX12_transfer_69 : decode cX12_transfer 69 = .ok (.aload_n 0, 1) := by decide +kernel
theorem dX12_transfer_70 : decode cX12_transfer 70 = .ok (.iload_n 1, 1) := by decide +kernel
theorem dX12_transfer_71 : decode cX12_transfer 71 = .ok (.invokevirtual 88, 3) := by decide +kernel
theorem dX12_transfer_74 : decode cX12_transfer 74 = .ok (.iload_n 3, 1) := by decide +kernel
theorem dX12_transfer_75 : decode cX12_transfer 75 = .ok (.if_icmp .ge 9, 3) := by decide +kernel
theorem dX12_transfer_78 : decode cX12_transfer 78 = .ok (.aload_n 0, 1) := by decide +kernel
theorem dX12_transfer_79 : decode cX12_transfer 79 = .ok (.iconst 3, 1) := by decide +kernel
theorem dX12_transfer_80 : decode cX12_transfer 80 = .ok (.invokevirtual 99, 3) := by decide +kernel
theorem dX12_transfer_83 : decode cX12_transfer 83 = .ok (.ireturn, 1) := by decide +kernel
theorem dX12_transfer_84 : decode cX12_transfer 84 = .ok (.iload_n 3, 1) := by decide +kernel
theorem dX12_transfer_85 : decode cX12_transfer 85 = .ok (.aload_n 0, 1) := by decide +kernel
theorem dX12_transfer_86 : decode cX12_transfer 86 = .ok (.getfield 9, 3) := by decide +kernel
theorem dX12_transfer_89 : decode cX12_transfer 89 = .ok (.iconst 4, 1) := by decide +kernel
theorem dX12_transfer_90 : decode cX12_transfer 90 = .ok (.iaload, 1) := by decide +kernel
theorem dX12_transfer_91 : decode cX12_transfer 91 = .ok (.imul, 1) := by decide +kernel
theorem dX12_transfer_92 : decode cX12_transfer 92 = .ok (.sipush 1000, 3) := by decide +kernel
theorem dX12_transfer_95 : decode cX12_transfer 95 = .ok (.idiv, 1) := by decide +kernel
theorem dX12_transfer_96 : decode cX12_transfer 96 = .ok (.istore 4, 2) := by decide +kernel
theorem dX12_transfer_98 : decode cX12_transfer 98 = .ok (.aload_n 0, 1) := by decide +kernel
theorem dX12_transfer_99 : decode cX12_transfer 99 = .ok (.iload_n 2, 1) := by decide +kernel
theorem dX12_transfer_100 : decode cX12_transfer 100 = .ok (.invokevirtual 88, 3) := by decide +kernel
theorem dX12_transfer_103 : decode cX12_transfer 103 = .ok (.iload_n 3, 1) := by decide +kernel
theorem dX12_transfer_104 : decode cX12_transfer 104 = .ok (.iadd, 1) := by decide +kernel
theorem dX12_transfer_105 : decode cX12_transfer 105 = .ok (.iload 4, 2) := by decide +kernel
theorem dX12_transfer_107 : decode cX12_transfer 107 = .ok (.isub, 1) := by decide +kernel
theorem dX12_transfer_108 : decode cX12_transfer 108 = .ok (.aload_n 0, 1) := by decide +kernel
theorem dX12_transfer_109 : decode cX12_transfer 109 = .ok (.iload_n 2, 1) := by decide +kernel
theorem dX12_transfer_110 : decode cX12_transfer 110 = .ok (.iconst 0, 1) := by decide +kernel
theorem dX12_transfer_111 : decode cX12_transfer 111 = .ok (.invokevirtual 73, 3) := by decide +kernel
theorem dX12_transfer_114 : decode cX12_transfer 114 = .ok (.if_icmp .le 9, 3) := by decide +kernel
theorem dX12_transfer_117 : decode cX12_transfer 117 = .ok (.aload_n 0, 1) := by decide +kernel
theorem dX12_transfer_118 : decode cX12_transfer 118 = .ok (.iconst 4, 1) := by decide +kernel
theorem dX12_transfer_119 : decode cX12_transfer 119 = .ok (.invokevirtual 99, 3) := by decide +kernel
theorem dX12_transfer_122 : decode cX12_transfer 122 = .ok (.ireturn, 1) := by decide +kernel
theorem dX12_transfer_123 : decode cX12_transfer 123 = .ok (.aload_n 0, 1) := by decide +kernel
theorem dX12_transfer_124 : decode cX12_transfer 124 = .ok (.invokevirtual 102, 3) := by decide +kernel
theorem dX12_transfer_127 : decode cX12_transfer 127 = .ok (.aload_n 0, 1) := by decide +kernel
theorem dX12_transfer_128 : decode cX12_transfer 128 = .ok (.iload_n 1, 1) := by decide +kernel
theorem dX12_transfer_129 : decode cX12_transfer 129 = .ok (.invokevirtual 105, 3) := by decide +kernel
theorem dX12_transfer_132 : decode cX12_transfer 132 = .ok (.aload_n 0, 1) := by decide +kernel
theorem dX12_transfer_133 : decode cX12_transfer 133 = .ok (.iload_n 3, 1) := by decide +kernel
theorem dX12_transfer_134 : decode cX12_transfer 134 = .ok (.invokevirtual 109, 3) := by decide +kernel
theorem dX12_transfer_137 : decode cX12_transfer 137 = .ok (.aload_n 0, 1) := by decide +kernel
theorem dX12_transfer_138 : decode cX12_transfer 138 = .ok (.iload_n 1, 1) := by decide +kernel
theorem dX12_transfer_139 : decode cX12_transfer 139 = .ok (.invokevirtual 112, 3) := by decide +kernel
theorem dX12_transfer_142 : decode cX12_transfer 142 = .ok (.aload_n 0, 1) := by decide +kernel
theorem dX12_transfer_143 : decode cX12_transfer 143 = .ok (.iconst 1, 1) := by decide +kernel
theorem dX12_transfer_144 : decode cX12_transfer 144 = .ok (.iload_n 1, 1) := by decide +kernel
theorem dX12_transfer_145 : decode cX12_transfer 145 = .ok (.iload_n 3, 1) := by decide +kernel
theorem dX12_transfer_146 : decode cX12_transfer 146 = .ok (.invokevirtual 91, 3) := by decide +kernel
theorem dX12_transfer_149 : decode cX12_transfer 149 = .ok (.iconst 0, 1) := by decide +kernel
theorem dX12_transfer_150 : decode cX12_transfer 150 = .ok (.istore 5, 2) := by decide +kernel
theorem dX12_transfer_152 : decode cX12_transfer 152 = .ok (.iload 5, 2) := by decide +kernel
theorem dX12_transfer_154 : decode cX12_transfer 154 = .ok (.bipush 16, 2) := by decide +kernel
theorem dX12_transfer_156 : decode cX12_transfer 156 = .ok (.if_icmp .ge 23, 3) := by decide +kernel
theorem dX12_transfer_159 : decode cX12_transfer 159 = .ok (.aload_n 0, 1) := by decide +kernel
theorem dX12_transfer_160 : decode cX12_transfer 160 = .ok (.getfield 25, 3) := by decide +kernel
theorem dX12_transfer_163 : decode cX12_transfer 163 = .ok (.iload 5, 2) := by decide +kernel
theorem dX12_transfer_165 : decode cX12_transfer 165 = .ok (.aload_n 0, 1) := by decide +kernel
theorem dX12_transfer_166 : decode cX12_transfer 166 = .ok (.getfield 28, 3) := by decide +kernel
theorem dX12_transfer_169 : decode cX12_transfer 169 = .ok (.iload 5, 2) := by decide +kernel
theorem dX12_transfer_171 : decode cX12_transfer 171 = .ok (.iaload, 1) := by decide +kernel
theorem dX12_transfer_172 : decode cX12_transfer 172 = .ok (.iastore, 1) := by decide +kernel
theorem dX12_transfer_173 : decode cX12_transfer 173 = .ok (.iinc 5 1, 3) := by decide +kernel
theorem dX12_transfer_176 : decode cX12_transfer 176 = .ok (.goto (-24), 3) := by decide +kernel
theorem dX12_transfer_179 : decode cX12_transfer 179 = .ok (.aload_n 0, 1) := by decide +kernel
theorem dX12_transfer_180 : decode cX12_transfer 180 = .ok (.iload 4, 2) := by decide +kernel
theorem dX12_transfer_182 : decode cX12_transfer 182 = .ok (.invokevirtual 109, 3) := by decide +kernel
theorem dX12_transfer_185 : decode cX12_transfer 185 = .ok (.iconst 0, 1) := by decide +kernel
theorem dX12_transfer_186 : decode cX12_transfer 186 = .ok (.istore 5, 2) := by decide +kernel
theorem dX12_transfer_188 : decode cX12_transfer 188 = .ok (.iload 5, 2) := by decide +kernel
theorem dX12_transfer_190 : decode cX12_transfer 190 = .ok (.bipush 16, 2) := by decide +kernel
theorem dX12_transfer_192 : decode cX12_transfer 192 = .ok (.if_icmp .ge 44, 3) := by decide +kernel
theorem dX12_transfer_195 : decode cX12_transfer 195 = .ok (.aload_n 0, 1) := by decide +kernel
theorem dX12_transfer_196 : decode cX12_transfer 196 = .ok (.getfield 9, 3) := by decide +kernel
theorem dX12_transfer_199 : decode cX12_transfer 199 = .ok (.bipush 10, 2) := by decide +kernel
theorem dX12_transfer_201 : decode cX12_transfer 201 = .ok (.bipush 19, 2) := by decide +kernel
theorem dX12_transfer_203 : decode cX12_transfer 203 = .ok (.iload_n 2, 1) := by decide +kernel
theorem dX12_transfer_204 : decode cX12_transfer 204 = .ok (.imul, 1) := by decide +kernel
theorem dX12_transfer_205 : decode cX12_transfer 205 = .ok (.iadd, 1) := by decide +kernel
theorem dX12_transfer_206 : decode cX12_transfer 206 = .ok (.iconst 3, 1) := by decide +kernel
theorem dX12_transfer_207 : decode cX12_transfer 207 = .ok (.iadd, 1) := by decide +kernel
theorem dX12_transfer_208 : decode cX12_transfer 208 = .ok (.iload 5, 2) := by decide +kernel
theorem dX12_transfer_210 : decode cX12_transfer 210 = .ok (.iadd, 1) := by decide +kernel
theorem dX12_transfer_211 : decode cX12_transfer 211 = .ok (.dup2, 1) := by decide +kernel
theorem dX12_transfer_212 : decode cX12_transfer 212 = .ok (.iaload, 1) := by decide +kernel
theorem dX12_transfer_213 : decode cX12_transfer 213 = .ok (.aload_n 0, 1) := by decide +kernel
theorem dX12_transfer_214 : decode cX12_transfer 214 = .ok (.getfield 25, 3) := by decide +kernel
theorem dX12_transfer_217 : decode cX12_transfer 217 = .ok (.iload 5, 2) := by decide +kernel
theorem dX12_transfer_219 : decode cX12_transfer 219 = .ok (.iaload, 1) := by decide +kernel
theorem dX12_transfer_220 : decode cX12_transfer 220 = .ok (.aload_n 0, 1) := by decide +kernel
theorem dX12_transfer_221 : decode cX12_transfer 221 = .ok (.getfield 28, 3) := by decide +kernel
theorem dX12_transfer_224 : decode cX12_transfer 224 = .ok (.iload 5, 2) := by decide +kernel
theorem dX12_transfer_226 : decode cX12_transfer 226 = .ok (.iaload, 1) := by decide +kernel
theorem dX12_transfer_227 : decode cX12_transfer 227 = .ok (.isub, 1) := by decide +kernel
theorem dX12_transfer_228 : decode cX12_transfer 228 = .ok (.iadd, 1) := by decide +kernel
theorem dX12_transfer_229 : decode cX12_transfer 229 = .ok (.iastore, 1) := by decide +kernel
theorem dX12_transfer_230 : decode cX12_transfer 230 = .ok (.iinc 5 1, 3) := by decide +kernel
theorem dX12_transfer_233 : decode cX12_transfer 233 = .ok (.goto (-45), 3) := by decide +kernel
theorem dX12_transfer_236 : decode cX12_transfer 236 = .ok (.aload_n 0, 1) := by decide +kernel
theorem dX12_transfer_237 : decode cX12_transfer 237 = .ok (.getfield 9, 3) := by decide +kernel
theorem dX12_transfer_240 : decode cX12_transfer 240 = .ok (.bipush 10, 2) := by decide +kernel
theorem dX12_transfer_242 : decode cX12_transfer 242 = .ok (.bipush 19, 2) := by decide +kernel
theorem dX12_transfer_244 : decode cX12_transfer 244 = .ok (.iload_n 2, 1) := by decide +kernel
theorem dX12_transfer_245 : decode cX12_transfer 245 = .ok (.imul, 1) := by decide +kernel
theorem dX12_transfer_246 : decode cX12_transfer 246 = .ok (.iadd, 1) := by decide +kernel
theorem dX12_transfer_247 : decode cX12_transfer 247 = .ok (.iconst 1, 1) := by decide +kernel
theorem dX12_transfer_248 : decode cX12_transfer 248 = .ok (.iadd, 1) := by decide +kernel
theorem dX12_transfer_249 : decode cX12_transfer 249 = .ok (.iconst 1, 1) := by decide +kernel
theorem dX12_transfer_250 : decode cX12_transfer 250 = .ok (.iastore, 1) := by decide +kernel
theorem dX12_transfer_251 : decode cX12_transfer 251 = .ok (.iload 4, 2) := by decide +kernel
theorem dX12_transfer_253 : decode cX12_transfer 253 = .ok (.ifCond .le 11, 3) := by decide +kernel
theorem dX12_transfer_256 : decode cX12_transfer 256 = .ok (.aload_n 0, 1) := by decide +kernel
theorem dX12_transfer_257 : decode cX12_transfer 257 = .ok (.iload_n 1, 1) := by decide +kernel
theorem dX12_transfer_258 : decode cX12_transfer 258 = .ok (.iload 4, 2) := by decide +kernel
theorem dX12_transfer_260 : decode cX12_transfer 260 = .ok (.iconst 0, 1) := by decide +kernel
theorem dX12_transfer_261 : decode cX12_transfer 261 = .ok (.invokevirtual 115, 3) := by decide +kernel
theorem dX12_transfer_264 : decode cX12_transfer 264 = .ok (.aload_n 0, 1) := by decide +kernel
theorem dX12_transfer_265 : decode cX12_transfer 265 = .ok (.iconst 2, 1) := by decide +kernel
theorem dX12_transfer_266 : decode cX12_transfer 266 = .ok (.iload_n 2, 1) := by decide +kernel
theorem dX12_transfer_267 : decode cX12_transfer 267 = .ok (.iload_n 3, 1) := by decide +kernel
theorem dX12_transfer_268 : decode cX12_transfer 268 = .ok (.iload 4, 2) := by decide +kernel
theorem dX12_transfer_270 : decode cX12_transfer 270 = .ok (.isub, 1) := by decide +kernel
theorem dX12_transfer_271 : decode cX12_transfer 271 = .ok (.invokevirtual 91, 3) := by decide +kernel
theorem dX12_transfer_274 : decode cX12_transfer 274 = .ok (.iload_n 3, 1) := by decide +kernel
theorem dX12_transfer_275 : decode cX12_transfer 275 = .ok (.iload 4, 2) := by decide +kernel
theorem dX12_transfer_277 : decode cX12_transfer 277 = .ok (.isub, 1) := by decide +kernel
theorem dX12_transfer_278 : decode cX12_transfer 278 = .ok (.ireturn, 1) := by decide +kernel
theorem dX12_lose_0 : decode cX12_lose 0 = .ok (.iload_n 1, 1) := by decide +kernel
theorem dX12_lose_1 : decode cX12_lose 1 = .ok (.invokestatic 95, 3) := by decide +kernel
theorem dX12_lose_4 : decode cX12_lose 4 = .ok (.ifCond .ne 9, 3) := by decide +kernel
theorem dX12_lose_7 : decode cX12_lose 7 = .ok (.aload_n 0, 1) := by decide +kernel
theorem dX12_lose_8 : decode cX12_lose 8 = .ok (.iconst 1, 1) := by decide +kernel
theorem dX12_lose_9 : decode cX12_lose 9 = .ok (.invokevirtual 99, 3) := by decide +kernel
theorem dX12_lose_12 : decode cX12_lose 12 = .ok (.ireturn, 1) := by decide +kernel
theorem dX12_lose_13 : decode cX12_lose 13 = .ok (.iload_n 2, 1) := by decide +kernel
theorem dX12_lose_14 : decode cX12_lose 14 = .ok (.iconst 1, 1) := by decide +kernel
theorem dX12_lose_15 : decode cX12_lose 15 = .ok (.sipush 9999, 3) := by decide +kernel
theorem dX12_lose_18 : decode cX12_lose 18 = .ok (.invokestatic 69, 3) := by decide +kernel
theorem dX12_lose_21 : decode cX12_lose 21 = .ok (.ifCond .eq 12, 3) := by decide +kernel
theorem dX12_lose_24 : decode cX12_lose 24 = .ok (.iload_n 3, 1) := by decide +kernel
theorem dX12_lose_25 : decode cX12_lose 25 = .ok (.iconst 1, 1) := by decide +kernel
theorem dX12_lose_26 : decode cX12_lose 26 = .ok (.iconst 3, 1) := by decide +kernel
theorem dX12_lose_27 : decode cX12_lose 27 = .ok (.invokestatic 69, 3) := by decide +kernel
theorem dX12_lose_30 : decode cX12_lose 30 = .ok (.ifCond .ne 10, 3) := by decide +kernel
theorem dX12_lose_33 : decode cX12_lose 33 = .ok (.aload_n 0, 1) := by decide +kernel
theorem dX12_lose_34 : decode cX12_lose 34 = .ok (.bipush 8, 2) := by decide +kernel
theorem dX12_lose_36 : decode cX12_lose 36 = .ok (.invokevirtual 99, 3) := by decide +kernel
theorem dX12_lose_39 : decode cX12_lose 39 = .ok (.ireturn, 1) := by decide +kernel
theorem dX12_lose_40 : decode cX12_lose 40 = .ok (.aload_n 0, 1) := by decide +kernel
theorem dX12_lose_41 : decode cX12_lose 41 = .ok (.iload_n 1, 1) := by decide +kernel
theorem dX12_lose_42 : decode cX12_lose 42 = .ok (.iconst 1, 1) := by decide +kernel
theorem dX12_lose_43 : decode cX12_lose 43 = .ok (.invokevirtual 73, 3) := by decide +kernel
theorem dX12_lose_46 : decode cX12_lose 46 = .ok (.iconst 1, 1) := by decide +kernel
theorem dX12_lose_47 : decode cX12_lose 47 = .ok (.if_icmp .eq 9, 3) := by decide +kernel
theorem dX12_lose_50 : decode cX12_lose 50 = .ok (.aload_n 0, 1) := by decide +kernel
theorem dX12_lose_51 : decode cX12_lose 51 = .ok (.iconst 2, 1) := by decide +kernel
theorem dX12_lose_52 : decode cX12_lose 52 = .ok (.invokevirtual 99, 3) := by decide +kernel
theorem dX12_lose_55 : decode cX12_lose 55 = .ok (.ireturn, 1) := by decide +kernel
theorem dX12_lose_56 : decode cX12_lose 56 = .ok (.aload_n 0, 1) := by decide +kernel
theorem dX12_lose_57 : decode cX12_lose 57 = .ok (.iload_n 1, 1) := by decide +kernel
theorem dX12_lose_58 : decode cX12_lose 58 = .ok (.invokevirtual 88, 3) := by decide +kernel
theorem dX12_lose_61 : decode cX12_lose 61 = .ok (.iload_n 2, 1) := by decide +kernel
theorem dX12_lose_62 : decode cX12_lose 62 = .ok (.if_icmp .ge 9, 3) := by decide +kernel
theorem dX12_lose_65 : decode cX12_lose 65 = .ok (.aload_n 0, 1) := by decide +kernel
theorem dX12_lose_66 : decode cX12_lose 66 = .ok (.iconst 3, 1) := by decide +kernel
theorem dX12_lose_67 : decode cX12_lose 67 = .ok (.invokevirtual 99, 3) := by decide +kernel
theorem dX12_lose_70 : decode cX12_lose 70 = .ok (.ireturn, 1) := by decide +kernel
theorem dX12_lose_71 : decode cX12_lose 71 = .ok (.aload_n 0, 1) := by decide +kernel
theorem dX12_lose_72 : decode cX12_lose 72 = .ok (.invokevirtual 102, 3) := by decide +kernel
theorem dX12_lose_75 : decode cX12_lose 75 = .ok (.aload_n 0, 1) := by decide +kernel
theorem dX12_lose_76 : decode cX12_lose 76 = .ok (.iload_n 1, 1) := by decide +kernel
theorem dX12_lose_77 : decode cX12_lose 77 = .ok (.invokevirtual 105, 3) := by decide +kernel
theorem dX12_lose_80 : decode cX12_lose 80 = .ok (.aload_n 0, 1) := by decide +kernel
theorem dX12_lose_81 : decode cX12_lose 81 = .ok (.iload_n 2, 1) := by decide +kernel
theorem dX12_lose_82 : decode cX12_lose 82 = .ok (.invokevirtual 109, 3) := by decide +kernel
theorem dX12_lose_85 : decode cX12_lose 85 = .ok (.aload_n 0, 1) := by decide +kernel
theorem dX12_lose_86 : decode cX12_lose 86 = .ok (.iload_n 1, 1) := by decide +kernel
theorem dX12_lose_87 : decode cX12_lose 87 = .ok (.invokevirtual 112, 3) := by decide +kernel
theorem dX12_lose_90 : decode cX12_lose 90 = .ok (.aload_n 0, 1) := by decide +kernel
theorem dX12_lose_91 : decode cX12_lose 91 = .ok (.iload_n 1, 1) := by decide +kernel
theorem dX12_lose_92 : decode cX12_lose 92 = .ok (.iload_n 2, 1) := by decide +kernel
theorem dX12_lose_93 : decode cX12_lose 93 = .ok (.iload_n 3, 1) := by decide +kernel
theorem dX12_lose_94 : decode cX12_lose 94 = .ok (.invokevirtual 115, 3) := by decide +kernel
theorem dX12_lose_97 : decode cX12_lose 97 = .ok (.aload_n 0, 1) := by decide +kernel
theorem dX12_lose_98 : decode cX12_lose 98 = .ok (.iload_n 1, 1) := by decide +kernel
theorem dX12_lose_99 : decode cX12_lose 99 = .ok (.invokevirtual 88, 3) := by decide +kernel
theorem dX12_lose_102 : decode cX12_lose 102 = .ok (.ireturn, 1) := by decide +kernel
theorem dX12_setLoss_0 : decode cX12_setLoss 0 = .ok (.iload_n 1, 1) := by decide +kernel
theorem dX12_setLoss_1 : decode cX12_setLoss 1 = .ok (.iconst 0, 1) := by decide +kernel
theorem dX12_setLoss_2 : decode cX12_setLoss 2 = .ok (.bipush 100, 2) := by decide +kernel
theorem dX12_setLoss_4 : decode cX12_setLoss 4 = .ok (.invokestatic 69, 3) := by decide +kernel
theorem dX12_setLoss_7 : decode cX12_setLoss 7 = .ok (.ifCond .ne 6, 3) := by decide +kernel
theorem dX12_setLoss_10 : decode cX12_setLoss 10 = .ok (.bipush (-2), 2) := by decide +kernel
theorem dX12_setLoss_12 : decode cX12_setLoss 12 = .ok (.ireturn, 1) := by decide +kernel
theorem dX12_setLoss_13 : decode cX12_setLoss 13 = .ok (.aload_n 0, 1) := by decide +kernel
theorem dX12_setLoss_14 : decode cX12_setLoss 14 = .ok (.invokevirtual 102, 3) := by decide +kernel
theorem dX12_setLoss_17 : decode cX12_setLoss 17 = .ok (.aload_n 0, 1) := by decide +kernel
theorem dX12_setLoss_18 : decode cX12_setLoss 18 = .ok (.getfield 9, 3) := by decide +kernel
theorem dX12_setLoss_21 : decode cX12_setLoss 21 = .ok (.iconst 4, 1) := by decide +kernel
theorem dX12_setLoss_22 : decode cX12_setLoss 22 = .ok (.iaload, 1) := by decide +kernel
theorem dX12_setLoss_23 : decode cX12_setLoss 23 = .ok (.istore_n 2, 1) := by decide +kernel
theorem dX12_setLoss_24 : decode cX12_setLoss 24 = .ok (.aload_n 0, 1) := by decide +kernel
theorem dX12_setLoss_25 : decode cX12_setLoss 25 = .ok (.getfield 9, 3) := by decide +kernel
theorem dX12_setLoss_28 : decode cX12_setLoss 28 = .ok (.iconst 4, 1) := by decide +kernel
theorem dX12_setLoss_29 : decode cX12_setLoss 29 = .ok (.iload_n 1, 1) := by decide +kernel
theorem dX12_setLoss_30 : decode cX12_setLoss 30 = .ok (.iastore, 1) := by decide +kernel
theorem dX12_setLoss_31 : decode cX12_setLoss 31 = .ok (.iload_n 2, 1) := by decide +kernel
theorem dX12_setLoss_32 : decode cX12_setLoss 32 = .ok (.ireturn, 1) := by decide +kernel
theorem dX12_rate_0 : decode cX12_rate 0 = .ok (.iload_n 1, 1) := by decide +kernel
theorem dX12_rate_1 : decode cX12_rate 1 = .ok (.iconst 0, 1) := by decide +kernel
theorem dX12_rate_2 : decode cX12_rate 2 = .ok (.sipush 9999, 3) := by decide +kernel
theorem dX12_rate_5 : decode cX12_rate 5 = .ok (.invokestatic 69, 3) := by decide +kernel
theorem dX12_rate_8 : decode cX12_rate 8 = .ok (.ifCond .eq 25, 3) := by decide +kernel
theorem dX12_rate_11 : decode cX12_rate 11 = .ok (.iload_n 2, 1) := by decide +kernel
theorem dX12_rate_12 : decode cX12_rate 12 = .ok (.iconst 0, 1) := by decide +kernel
theorem dX12_rate_13 : decode cX12_rate 13 = .ok (.sipush 2000, 3) := by decide +kernel
theorem dX12_rate_16 : decode cX12_rate 16 = .ok (.invokestatic 69, 3) := by decide +kernel
theorem dX12_rate_19 : decode cX12_rate 19 = .ok (.ifCond .eq 14, 3) := by decide +kernel
theorem dX12_rate_22 : decode cX12_rate 22 = .ok (.iload_n 3, 1) := by decide +kernel
theorem dX12_rate_23 : decode cX12_rate 23 = .ok (.iconst 0, 1) := by decide +kernel
theorem dX12_rate_24 : decode cX12_rate 24 = .ok (.sipush 9999, 3) := by decide +kernel
theorem dX12_rate_27 : decode cX12_rate 27 = .ok (.invokestatic 69, 3) := by decide +kernel
theorem dX12_rate_30 : decode cX12_rate 30 = .ok (.ifCond .ne 6, 3) := by decide +kernel
theorem dX12_rate_33 : decode cX12_rate 33 = .ok (.bipush (-2), 2) := by decide +kernel
theorem dX12_rate_35 : decode cX12_rate 35 = .ok (.ireturn, 1) := by decide +kernel
theorem dX12_rate_36 : decode cX12_rate 36 = .ok (.aload_n 0, 1) := by decide +kernel
theorem dX12_rate_37 : decode cX12_rate 37 = .ok (.getfield 9, 3) := by decide +kernel
theorem dX12_rate_40 : decode cX12_rate 40 = .ok (.iconst 3, 1) := by decide +kernel
theorem dX12_rate_41 : decode cX12_rate 41 = .ok (.iaload, 1) := by decide +kernel
theorem dX12_rate_42 : decode cX12_rate 42 = .ok (.bipush 10, 2) := by decide +kernel
theorem dX12_rate_44 : decode cX12_rate 44 = .ok (.if_icmp .ne 6, 3) := by decide +kernel
theorem dX12_rate_47 : decode cX12_rate 47 = .ok (.bipush (-4), 2) := by decide +kernel
theorem dX12_rate_49 : decode cX12_rate 49 = .ok (.ireturn, 1) := by decide +kernel
theorem dX12_rate_50 : decode cX12_rate 50 = .ok (.aload_n 0, 1) := by decide +kernel
theorem dX12_rate_51 : decode cX12_rate 51 = .ok (.invokevirtual 102, 3) := by decide +kernel
theorem dX12_rate_54 : decode cX12_rate 54 = .ok (.sipush 294, 3) := by decide +kernel
theorem dX12_rate_57 : decode cX12_rate 57 = .ok (.iconst 3, 1) := by decide +kernel
theorem dX12_rate_58 : decode cX12_rate 58 = .ok (.aload_n 0, 1) := by decide +kernel
theorem dX12_rate_59 : decode cX12_rate 59 = .ok (.getfield 9, 3) := by decide +kernel
theorem dX12_rate_62 : decode cX12_rate 62 = .ok (.iconst 3, 1) := by decide +kernel
theorem dX12_rate_63 : decode cX12_rate 63 = .ok (.iaload, 1) := by decide +kernel
theorem dX12_rate_64 : decode cX12_rate 64 = .ok (.imul, 1) := by decide +kernel
theorem dX12_rate_65 : decode cX12_rate 65 = .ok (.iadd, 1) := by decide +kernel
theorem dX12_rate_66 : decode cX12_rate 66 = .ok (.istore 4, 2) := by decide +kernel
theorem dX12_rate_68 : decode cX12_rate 68 = .ok (.aload_n 0, 1) := by decide +kernel
theorem dX12_rate_69 : decode cX12_rate 69 = .ok (.getfield 9, 3) := by decide +kernel
theorem dX12_rate_72 : decode cX12_rate 72 = .ok (.iload 4, 2) := by decide +kernel
theorem dX12_rate_74 : decode cX12_rate 74 = .ok (.iload_n 1, 1) := by decide +kernel
theorem dX12_rate_75 : decode cX12_rate 75 = .ok (.iastore, 1) := by decide +kernel
theorem dX12_rate_76 : decode cX12_rate 76 = .ok (.aload_n 0, 1) := by decide +kernel
theorem dX12_rate_77 : decode cX12_rate 77 = .ok (.getfield 9, 3) := by decide +kernel
theorem dX12_rate_80 : decode cX12_rate 80 = .ok (.iload 4, 2) := by decide +kernel
theorem dX12_rate_82 : decode cX12_rate 82 = .ok (.iconst 1, 1) := by decide +kernel
theorem dX12_rate_83 : decode cX12_rate 83 = .ok (.iadd, 1) := by decide +kernel
theorem dX12_rate_84 : decode cX12_rate 84 = .ok (.iload_n 2, 1) := by decide +kernel
theorem dX12_rate_85 : decode cX12_rate 85 = .ok (.iastore, 1) := by decide +kernel
theorem dX12_rate_86 : decode cX12_rate 86 = .ok (.aload_n 0, 1) := by decide +kernel
theorem dX12_rate_87 : decode cX12_rate 87 = .ok (.getfield 9, 3) := by decide +kernel
theorem dX12_rate_90 : decode cX12_rate 90 = .ok (.iload 4, 2) := by decide +kernel
theorem dX12_rate_92 : decode cX12_rate 92 = .ok (.iconst 2, 1) := by decide +kernel
theorem dX12_rate_93 : decode cX12_rate 93 = .ok (.iadd, 1) := by decide +kernel
theorem dX12_rate_94 : decode cX12_rate 94 = .ok (.iload_n 3, 1) := by decide +kernel
theorem dX12_rate_95 : decode cX12_rate 95 = .ok (.iastore, 1) := by decide +kernel
theorem dX12_rate_96 : decode cX12_rate 96 = .ok (.aload_n 0, 1) := by decide +kernel
theorem dX12_rate_97 : decode cX12_rate 97 = .ok (.getfield 9, 3) := by decide +kernel
theorem dX12_rate_100 : decode cX12_rate 100 = .ok (.iconst 3, 1) := by decide +kernel
theorem dX12_rate_101 : decode cX12_rate 101 = .ok (.dup2, 1) := by decide +kernel
theorem dX12_rate_102 : decode cX12_rate 102 = .ok (.iaload, 1) := by decide +kernel
theorem dX12_rate_103 : decode cX12_rate 103 = .ok (.iconst 1, 1) := by decide +kernel
theorem dX12_rate_104 : decode cX12_rate 104 = .ok (.iadd, 1) := by decide +kernel
theorem dX12_rate_105 : decode cX12_rate 105 = .ok (.iastore, 1) := by decide +kernel
theorem dX12_rate_106 : decode cX12_rate 106 = .ok (.aload_n 0, 1) := by decide +kernel
theorem dX12_rate_107 : decode cX12_rate 107 = .ok (.getfield 9, 3) := by decide +kernel
theorem dX12_rate_110 : decode cX12_rate 110 = .ok (.iconst 3, 1) := by decide +kernel
theorem dX12_rate_111 : decode cX12_rate 111 = .ok (.iaload, 1) := by decide +kernel
theorem dX12_rate_112 : decode cX12_rate 112 = .ok (.iconst 1, 1) := by decide +kernel
theorem dX12_rate_113 : decode cX12_rate 113 = .ok (.isub, 1) := by decide +kernel
theorem dX12_rate_114 : decode cX12_rate 114 = .ok (.ireturn, 1) := by decide +kernel
theorem dX12_order_0 : decode cX12_order 0 = .ok (.iload_n 1, 1) := by decide +kernel
theorem dX12_order_1 : decode cX12_order 1 = .ok (.iconst 0, 1) := by decide +kernel
theorem dX12_order_2 : decode cX12_order 2 = .ok (.bipush 99, 2) := by decide +kernel
theorem dX12_order_4 : decode cX12_order 4 = .ok (.invokestatic 69, 3) := by decide +kernel
theorem dX12_order_7 : decode cX12_order 7 = .ok (.ifCond .eq 37, 3) := by decide +kernel
theorem dX12_order_10 : decode cX12_order 10 = .ok (.iload_n 2, 1) := by decide +kernel
theorem dX12_order_11 : decode cX12_order 11 = .ok (.iconst 1, 1) := by decide +kernel
theorem dX12_order_12 : decode cX12_order 12 = .ok (.sipush 9999, 3) := by decide +kernel
theorem dX12_order_15 : decode cX12_order 15 = .ok (.invokestatic 69, 3) := by decide +kernel
theorem dX12_order_18 : decode cX12_order 18 = .ok (.ifCond .eq 26, 3) := by decide +kernel
theorem dX12_order_21 : decode cX12_order 21 = .ok (.iload_n 3, 1) := by decide +kernel
theorem dX12_order_22 : decode cX12_order 22 = .ok (.iconst 0, 1) := by decide +kernel
theorem dX12_order_23 : decode cX12_order 23 = .ok (.sipush 2000, 3) := by decide +kernel
theorem dX12_order_26 : decode cX12_order 26 = .ok (.invokestatic 69, 3) := by decide +kernel
theorem dX12_order_29 : decode cX12_order 29 = .ok (.ifCond .eq 15, 3) := by decide +kernel
theorem dX12_order_32 : decode cX12_order 32 = .ok (.iload 4, 2) := by decide +kernel
theorem dX12_order_34 : decode cX12_order 34 = .ok (.iload_n 3, 1) := by decide +kernel
theorem dX12_order_35 : decode cX12_order 35 = .ok (.sipush 2000, 3) := by decide +kernel
theorem dX12_order_38 : decode cX12_order 38 = .ok (.invokestatic 69, 3) := by decide +kernel
theorem dX12_order_41 : decode cX12_order 41 = .ok (.ifCond .ne 6, 3) := by decide +kernel
theorem dX12_order_44 : decode cX12_order 44 = .ok (.bipush (-2), 2) := by decide +kernel
theorem dX12_order_46 : decode cX12_order 46 = .ok (.ireturn, 1) := by decide +kernel
theorem dX12_order_47 : decode cX12_order 47 = .ok (.aload_n 0, 1) := by decide +kernel
theorem dX12_order_48 : decode cX12_order 48 = .ok (.getfield 9, 3) := by decide +kernel
theorem dX12_order_51 : decode cX12_order 51 = .ok (.iconst 2, 1) := by decide +kernel
theorem dX12_order_52 : decode cX12_order 52 = .ok (.iaload, 1) := by decide +kernel
theorem dX12_order_53 : decode cX12_order 53 = .ok (.bipush 10, 2) := by decide +kernel
theorem dX12_order_55 : decode cX12_order 55 = .ok (.if_icmp .ne 6, 3) := by decide +kernel
theorem dX12_order_58 : decode cX12_order 58 = .ok (.bipush (-4), 2) := by decide +kernel
theorem dX12_order_60 : decode cX12_order 60 = .ok (.ireturn, 1) := by decide +kernel
theorem dX12_order_61 : decode cX12_order 61 = .ok (.aload_n 0, 1) := by decide +kernel
theorem dX12_order_62 : decode cX12_order 62 = .ok (.invokevirtual 102, 3) := by decide +kernel
theorem dX12_order_65 : decode cX12_order 65 = .ok (.sipush 204, 3) := by decide +kernel
theorem dX12_order_68 : decode cX12_order 68 = .ok (.bipush 9, 2) := by decide +kernel
theorem dX12_order_70 : decode cX12_order 70 = .ok (.aload_n 0, 1) := by decide +kernel
theorem dX12_order_71 : decode cX12_order 71 = .ok (.getfield 9, 3) := by decide +kernel
theorem dX12_order_74 : decode cX12_order 74 = .ok (.iconst 2, 1) := by decide +kernel
theorem dX12_order_75 : decode cX12_order 75 = .ok (.iaload, 1) := by decide +kernel
theorem dX12_order_76 : decode cX12_order 76 = .ok (.imul, 1) := by decide +kernel
theorem dX12_order_77 : decode cX12_order 77 = .ok (.iadd, 1) := by decide +kernel
theorem dX12_order_78 : decode cX12_order 78 = .ok (.istore 5, 2) := by decide +kernel
theorem dX12_order_80 : decode cX12_order 80 = .ok (.aload_n 0, 1) := by decide +kernel
theorem dX12_order_81 : decode cX12_order 81 = .ok (.getfield 9, 3) := by decide +kernel
theorem dX12_order_84 : decode cX12_order 84 = .ok (.iload 5, 2) := by decide +kernel
theorem dX12_order_86 : decode cX12_order 86 = .ok (.iconst 0, 1) := by decide +kernel
theorem dX12_order_87 : decode cX12_order 87 = .ok (.iadd, 1) := by decide +kernel
theorem dX12_order_88 : decode cX12_order 88 = .ok (.aload_n 0, 1) := by decide +kernel
theorem dX12_order_89 : decode cX12_order 89 = .ok (.getfield 9, 3) := by decide +kernel
theorem dX12_order_92 : decode cX12_order 92 = .ok (.iconst 0, 1) := by decide +kernel
theorem dX12_order_93 : decode cX12_order 93 = .ok (.iaload, 1) := by decide +kernel
theorem dX12_order_94 : decode cX12_order 94 = .ok (.iload_n 1, 1) := by decide +kernel
theorem dX12_order_95 : decode cX12_order 95 = .ok (.iadd, 1) := by decide +kernel
theorem dX12_order_96 : decode cX12_order 96 = .ok (.iastore, 1) := by decide +kernel
theorem dX12_order_97 : decode cX12_order 97 = .ok (.aload_n 0, 1) := by decide +kernel
theorem dX12_order_98 : decode cX12_order 98 = .ok (.getfield 9, 3) := by decide +kernel
theorem dX12_order_101 : decode cX12_order 101 = .ok (.iload 5, 2) := by decide +kernel
theorem dX12_order_103 : decode cX12_order 103 = .ok (.iconst 1, 1) := by decide +kernel
theorem dX12_order_104 : decode cX12_order 104 = .ok (.iadd, 1) := by decide +kernel
theorem dX12_order_105 : decode cX12_order 105 = .ok (.iload_n 2, 1) := by decide +kernel
theorem dX12_order_106 : decode cX12_order 106 = .ok (.iastore, 1) := by decide +kernel
theorem dX12_order_107 : decode cX12_order 107 = .ok (.aload_n 0, 1) := by decide +kernel
theorem dX12_order_108 : decode cX12_order 108 = .ok (.getfield 9, 3) := by decide +kernel
theorem dX12_order_111 : decode cX12_order 111 = .ok (.iload 5, 2) := by decide +kernel
theorem dX12_order_113 : decode cX12_order 113 = .ok (.iconst 2, 1) := by decide +kernel
theorem dX12_order_114 : decode cX12_order 114 = .ok (.iadd, 1) := by decide +kernel
theorem dX12_order_115 : decode cX12_order 115 = .ok (.iload_n 3, 1) := by decide +kernel
theorem dX12_order_116 : decode cX12_order 116 = .ok (.iastore, 1) := by decide +kernel
theorem dX12_order_117 : decode cX12_order 117 = .ok (.aload_n 0, 1) := by decide +kernel
theorem dX12_order_118 : decode cX12_order 118 = .ok (.getfield 9, 3) := by decide +kernel
theorem dX12_order_121 : decode cX12_order 121 = .ok (.iload 5, 2) := by decide +kernel
theorem dX12_order_123 : decode cX12_order 123 = .ok (.iconst 3, 1) := by decide +kernel
theorem dX12_order_124 : decode cX12_order 124 = .ok (.iadd, 1) := by decide +kernel
theorem dX12_order_125 : decode cX12_order 125 = .ok (.iload 4, 2) := by decide +kernel
theorem dX12_order_127 : decode cX12_order 127 = .ok (.iastore, 1) := by decide +kernel
theorem dX12_order_128 : decode cX12_order 128 = .ok (.aload_n 0, 1) := by decide +kernel
theorem dX12_order_129 : decode cX12_order 129 = .ok (.getfield 9, 3) := by decide +kernel
theorem dX12_order_132 : decode cX12_order 132 = .ok (.iload 5, 2) := by decide +kernel
theorem dX12_order_134 : decode cX12_order 134 = .ok (.iconst 4, 1) := by decide +kernel
theorem dX12_order_135 : decode cX12_order 135 = .ok (.iadd, 1) := by decide +kernel
theorem dX12_order_136 : decode cX12_order 136 = .ok (.iconst 0, 1) := by decide +kernel
theorem dX12_order_137 : decode cX12_order 137 = .ok (.iastore, 1) := by decide +kernel
theorem dX12_order_138 : decode cX12_order 138 = .ok (.aload_n 0, 1) := by decide +kernel
theorem dX12_order_139 : decode cX12_order 139 = .ok (.getfield 9, 3) := by decide +kernel
theorem dX12_order_142 : decode cX12_order 142 = .ok (.iconst 2, 1) := by decide +kernel
theorem dX12_order_143 : decode cX12_order 143 = .ok (.dup2, 1) := by decide +kernel
theorem dX12_order_144 : decode cX12_order 144 = .ok (.iaload, 1) := by decide +kernel
theorem dX12_order_145 : decode cX12_order 145 = .ok (.iconst 1, 1) := by decide +kernel
theorem dX12_order_146 : decode cX12_order 146 = .ok (.iadd, 1) := by decide +kernel
theorem dX12_order_147 : decode cX12_order 147 = .ok (.iastore, 1) := by decide +kernel
theorem dX12_order_148 : decode cX12_order 148 = .ok (.aload_n 0, 1) := by decide +kernel
theorem dX12_order_149 : decode cX12_order 149 = .ok (.getfield 9, 3) := by decide +kernel
theorem dX12_order_152 : decode cX12_order 152 = .ok (.iconst 2, 1) := by decide +kernel
theorem dX12_order_153 : decode cX12_order 153 = .ok (.iaload, 1) := by decide +kernel
theorem dX12_order_154 : decode cX12_order 154 = .ok (.iconst 1, 1) := by decide +kernel
theorem dX12_order_155 : decode cX12_order 155 = .ok (.isub, 1) := by decide +kernel
theorem dX12_order_156 : decode cX12_order 156 = .ok (.ireturn, 1) := by decide +kernel
theorem dX12_isOpen_0 : decode cX12_isOpen 0 = .ok (.iload_n 1, 1) := by decide +kernel
theorem dX12_isOpen_1 : decode cX12_isOpen 1 = .ok (.iconst 0, 1) := by decide +kernel
theorem dX12_isOpen_2 : decode cX12_isOpen 2 = .ok (.aload_n 0, 1) := by decide +kernel
theorem dX12_isOpen_3 : decode cX12_isOpen 3 = .ok (.getfield 9, 3) := by decide +kernel
theorem dX12_isOpen_6 : decode cX12_isOpen 6 = .ok (.iconst 2, 1) := by decide +kernel
theorem dX12_isOpen_7 : decode cX12_isOpen 7 = .ok (.iaload, 1) := by decide +kernel
theorem dX12_isOpen_8 : decode cX12_isOpen 8 = .ok (.iconst 1, 1) := by decide +kernel
theorem dX12_isOpen_9 : decode cX12_isOpen 9 = .ok (.isub, 1) := by decide +kernel
theorem dX12_isOpen_10 : decode cX12_isOpen 10 = .ok (.invokestatic 69, 3) := by decide +kernel
theorem dX12_isOpen_13 : decode cX12_isOpen 13 = .ok (.ifCond .eq 16, 3) := by decide +kernel
theorem dX12_isOpen_16 : decode cX12_isOpen 16 = .ok (.aload_n 0, 1) := by decide +kernel
theorem dX12_isOpen_17 : decode cX12_isOpen 17 = .ok (.iload_n 1, 1) := by decide +kernel
theorem dX12_isOpen_18 : decode cX12_isOpen 18 = .ok (.iconst 4, 1) := by decide +kernel
theorem dX12_isOpen_19 : decode cX12_isOpen 19 = .ok (.invokevirtual 118, 3) := by decide +kernel
theorem dX12_isOpen_22 : decode cX12_isOpen 22 = .ok (.ifCond .ne 7, 3) := by decide +kernel
theorem dX12_isOpen_25 : decode cX12_isOpen 25 = .ok (.iconst 1, 1) := by decide +kernel
theorem dX12_isOpen_26 : decode cX12_isOpen 26 = .ok (.goto 4, 3) := by decide +kernel
theorem dX12_isOpen_29 : decode cX12_isOpen 29 = .ok (.iconst 0, 1) := by decide +kernel
theorem dX12_isOpen_30 : decode cX12_isOpen 30 = .ok (.ireturn, 1) := by decide +kernel
theorem dX12_openMany_0 : decode cX12_openMany 0 = .ok (.iconst 0, 1) := by decide +kernel
theorem dX12_openMany_1 : decode cX12_openMany 1 = .ok (.istore_n 1, 1) := by decide +kernel
theorem dX12_openMany_2 : decode cX12_openMany 2 = .ok (.iconst 0, 1) := by decide +kernel
theorem dX12_openMany_3 : decode cX12_openMany 3 = .ok (.istore_n 2, 1) := by decide +kernel
theorem dX12_openMany_4 : decode cX12_openMany 4 = .ok (.iload_n 2, 1) := by decide +kernel
theorem dX12_openMany_5 : decode cX12_openMany 5 = .ok (.aload_n 0, 1) := by decide +kernel
theorem dX12_openMany_6 : decode cX12_openMany 6 = .ok (.getfield 9, 3) := by decide +kernel
theorem dX12_openMany_9 : decode cX12_openMany 9 = .ok (.iconst 2, 1) := by decide +kernel
theorem dX12_openMany_10 : decode cX12_openMany 10 = .ok (.iaload, 1) := by decide +kernel
theorem dX12_openMany_11 : decode cX12_openMany 11 = .ok (.if_icmp .ge 25, 3) := by decide +kernel
theorem dX12_openMany_14 : decode cX12_openMany 14 = .ok (.iload_n 1, 1) := by decide +kernel
theorem dX12_openMany_15 : decode cX12_openMany 15 = .ok (.aload_n 0, 1) := by decide +kernel
theorem dX12_openMany_16 : decode cX12_openMany 16 = .ok (.iload_n 2, 1) := by decide +kernel
theorem dX12_openMany_17 : decode cX12_openMany 17 = .ok (.invokevirtual 121, 3) := by decide +kernel
theorem dX12_openMany_20 : decode cX12_openMany 20 = .ok (.ifCond .eq 7, 3) := by decide +kernel
theorem dX12_openMany_23 : decode cX12_openMany 23 = .ok (.iconst 1, 1) := by decide +kernel
theorem dX12_openMany_24 : decode cX12_openMany 24 = .ok (.goto 4, 3) := by decide +kernel
theorem dX12_openMany_27 : decode cX12_openMany 27 = .ok (.iconst 0, 1) := by decide +kernel
theorem dX12_openMany_28 : decode cX12_openMany 28 = .ok (.iadd, 1) := by decide +kernel
theorem dX12_openMany_29 : decode cX12_openMany 29 = .ok (.istore_n 1, 1) := by decide +kernel
theorem dX12_openMany_30 : decode cX12_openMany 30 = .ok (.iinc 2 1, 3) := by decide +kernel
theorem dX12_openMany_33 : decode cX12_openMany 33 = .ok (.goto (-29), 3) := by decide +kernel
theorem dX12_openMany_36 : decode cX12_openMany 36 = .ok (.iload_n 1, 1) := by decide +kernel
theorem dX12_openMany_37 : decode cX12_openMany 37 = .ok (.ireturn, 1) := by decide +kernel
theorem dX12_drop_0 : decode cX12_drop 0 = .ok (.aload_n 0, 1) := by decide +kernel
theorem dX12_drop_1 : decode cX12_drop 1 = .ok (.iload_n 1, 1) := by decide +kernel
theorem dX12_drop_2 : decode cX12_drop 2 = .ok (.invokevirtual 121, 3) := by decide +kernel
theorem dX12_drop_5 : decode cX12_drop 5 = .ok (.ifCond .ne 9, 3) := by decide +kernel
theorem dX12_drop_8 : decode cX12_drop 8 = .ok (.aload_n 0, 1) := by decide +kernel
theorem dX12_drop_9 : decode cX12_drop 9 = .ok (.iconst 5, 1) := by decide +kernel
theorem dX12_drop_10 : decode cX12_drop 10 = .ok (.invokevirtual 99, 3) := by decide +kernel
theorem dX12_drop_13 : decode cX12_drop 13 = .ok (.ireturn, 1) := by decide +kernel
theorem dX12_drop_14 : decode cX12_drop 14 = .ok (.aload_n 0, 1) := by decide +kernel
theorem dX12_drop_15 : decode cX12_drop 15 = .ok (.invokevirtual 102, 3) := by decide +kernel
theorem dX12_drop_18 : decode cX12_drop 18 = .ok (.aload_n 0, 1) := by decide +kernel
theorem dX12_drop_19 : decode cX12_drop 19 = .ok (.getfield 9, 3) := by decide +kernel
theorem dX12_drop_22 : decode cX12_drop 22 = .ok (.sipush 204, 3) := by decide +kernel
theorem dX12_drop_25 : decode cX12_drop 25 = .ok (.bipush 9, 2) := by decide +kernel
theorem dX12_drop_27 : decode cX12_drop 27 = .ok (.iload_n 1, 1) := by decide +kernel
theorem dX12_drop_28 : decode cX12_drop 28 = .ok (.imul, 1) := by decide +kernel
theorem dX12_drop_29 : decode cX12_drop 29 = .ok (.iadd, 1) := by decide +kernel
theorem dX12_drop_30 : decode cX12_drop 30 = .ok (.iconst 4, 1) := by decide +kernel
theorem dX12_drop_31 : decode cX12_drop 31 = .ok (.iadd, 1) := by decide +kernel
theorem dX12_drop_32 : decode cX12_drop 32 = .ok (.iconst 2, 1) := by decide +kernel
theorem dX12_drop_33 : decode cX12_drop 33 = .ok (.iastore, 1) := by decide +kernel
theorem dX12_drop_34 : decode cX12_drop 34 = .ok (.aload_n 0, 1) := by decide +kernel
theorem dX12_drop_35 : decode cX12_drop 35 = .ok (.invokevirtual 124, 3) := by decide +kernel
theorem dX12_drop_38 : decode cX12_drop 38 = .ok (.ireturn, 1) := by decide +kernel
theorem dX12_rateFor_0 : decode cX12_rateFor 0 = .ok (.bipush (-5), 2) := by decide +kernel
theorem dX12_rateFor_2 : decode cX12_rateFor 2 = .ok (.istore_n 3, 1) := by decide +kernel
theorem dX12_rateFor_3 : decode cX12_rateFor 3 = .ok (.iconst 0, 1) := by decide +kernel
theorem dX12_rateFor_4 : decode cX12_rateFor 4 = .ok (.istore 4, 2) := by decide +kernel
theorem dX12_rateFor_6 : decode cX12_rateFor 6 = .ok (.iload 4, 2) := by decide +kernel
theorem dX12_rateFor_8 : decode cX12_rateFor 8 = .ok (.aload_n 0, 1) := by decide +kernel
theorem dX12_rateFor_9 : decode cX12_rateFor 9 = .ok (.getfield 9, 3) := by decide +kernel
theorem dX12_rateFor_12 : decode cX12_rateFor 12 = .ok (.iconst 3, 1) := by decide +kernel
theorem dX12_rateFor_13 : decode cX12_rateFor 13 = .ok (.iaload, 1) := by decide +kernel
theorem dX12_rateFor_14 : decode cX12_rateFor 14 = .ok (.if_icmp .ge 134, 3) := by decide +kernel
theorem dX12_rateFor_17 : decode cX12_rateFor 17 = .ok (.sipush 294, 3) := by decide +kernel
theorem dX12_rateFor_20 : decode cX12_rateFor 20 = .ok (.iconst 3, 1) := by decide +kernel
theorem dX12_rateFor_21 : decode cX12_rateFor 21 = .ok (.iload 4, 2) := by decide +kernel
theorem dX12_rateFor_23 : decode cX12_rateFor 23 = .ok (.imul, 1) := by decide +kernel
theorem dX12_rateFor_24 : decode cX12_rateFor 24 = .ok (.iadd, 1) := by decide +kernel
theorem dX12_rateFor_25 : decode cX12_rateFor 25 = .ok (.istore 5, 2) := by decide +kernel
theorem dX12_rateFor_27 : decode cX12_rateFor 27 = .ok (.aload_n 0, 1) := by decide +kernel
theorem dX12_rateFor_28 : decode cX12_rateFor 28 = .ok (.getfield 9, 3) := by decide +kernel
theorem dX12_rateFor_31 : decode cX12_rateFor 31 = .ok (.iload 5, 2) := by decide +kernel
theorem dX12_rateFor_33 : decode cX12_rateFor 33 = .ok (.iaload, 1) := by decide +kernel
theorem dX12_rateFor_34 : decode cX12_rateFor 34 = .ok (.iload_n 1, 1) := by decide +kernel
theorem dX12_rateFor_35 : decode cX12_rateFor 35 = .ok (.if_icmp .gt 107, 3) := by decide +kernel
theorem dX12_rateFor_38 : decode cX12_rateFor 38 = .ok (.aload_n 0, 1) := by decide +kernel
theorem dX12_rateFor_39 : decode cX12_rateFor 39 = .ok (.getfield 9, 3) := by decide +kernel
theorem dX12_rateFor_42 : decode cX12_rateFor 42 = .ok (.iload 5, 2) := by decide +kernel
theorem dX12_rateFor_44 : decode cX12_rateFor 44 = .ok (.iconst 1, 1) := by decide +kernel
theorem dX12_rateFor_45 : decode cX12_rateFor 45 = .ok (.iadd, 1) := by decide +kernel
theorem dX12_rateFor_46 : decode cX12_rateFor 46 = .ok (.iaload, 1) := by decide +kernel
theorem dX12_rateFor_47 : decode cX12_rateFor 47 = .ok (.iload_n 2, 1) := by decide +kernel
theorem dX12_rateFor_48 : decode cX12_rateFor 48 = .ok (.if_icmp .gt 94, 3) := by decide +kernel
theorem dX12_rateFor_51 : decode cX12_rateFor 51 = .ok (.sipush 294, 3) := by decide +kernel
theorem dX12_rateFor_54 : decode cX12_rateFor 54 = .ok (.iconst 3, 1) := by decide +kernel
theorem dX12_rateFor_55 : decode cX12_rateFor 55 = .ok (.iload_n 3, 1) := by decide +kernel
theorem dX12_rateFor_56 : decode cX12_rateFor 56 = .ok (.imul, 1) := by decide +kernel
theorem dX12_rateFor_57 : decode cX12_rateFor 57 = .ok (.iadd, 1) := by decide +kernel
theorem dX12_rateFor_58 : decode cX12_rateFor 58 = .ok (.istore 6, 2) := by decide +kernel
theorem dX12_rateFor_60 : decode cX12_rateFor 60 = .ok (.iload_n 3, 1) := by decide +kernel
theorem dX12_rateFor_61 : decode cX12_rateFor 61 = .ok (.ifCond .lt 62, 3) := by decide +kernel
theorem dX12_rateFor_64 : decode cX12_rateFor 64 = .ok (.aload_n 0, 1) := by decide +kernel
theorem dX12_rateFor_65 : decode cX12_rateFor 65 = .ok (.getfield 9, 3) := by decide +kernel
theorem dX12_rateFor_68 : decode cX12_rateFor 68 = .ok (.iload 5, 2) := by decide +kernel
theorem dX12_rateFor_70 : decode cX12_rateFor 70 = .ok (.iconst 1, 1) := by decide +kernel
theorem dX12_rateFor_71 : decode cX12_rateFor 71 = .ok (.iadd, 1) := by decide +kernel
theorem dX12_rateFor_72 : decode cX12_rateFor 72 = .ok (.iaload, 1) := by decide +kernel
theorem dX12_rateFor_73 : decode cX12_rateFor 73 = .ok (.aload_n 0, 1) := by decide +kernel
theorem dX12_rateFor_74 : decode cX12_rateFor 74 = .ok (.getfield 9, 3) := by decide +kernel
theorem dX12_rateFor_77 : decode cX12_rateFor 77 = .ok (.iload 6, 2) := by decide +kernel
theorem dX12_rateFor_79 : decode cX12_rateFor 79 = .ok (.iconst 1, 1) := by decide +kernel
theorem dX12_rateFor_80 : decode cX12_rateFor 80 = .ok (.iadd, 1) := by decide +kernel
theorem dX12_rateFor_81 : decode cX12_rateFor 81 = .ok (.iaload, 1) := by decide +kernel
theorem dX12_rateFor_82 : decode cX12_rateFor 82 = .ok (.if_icmp .gt 41, 3) := by decide +kernel
theorem dX12_rateFor_85 : decode cX12_rateFor 85 = .ok (.aload_n 0, 1) := by decide +kernel
theorem dX12_rateFor_86 : decode cX12_rateFor 86 = .ok (.getfield 9, 3) := by decide +kernel
theorem dX12_rateFor_89 : decode cX12_rateFor 89 = .ok (.iload 5, 2) := by decide +kernel
theorem dX12_rateFor_91 : decode cX12_rateFor 91 = .ok (.iconst 1, 1) := by decide +kernel
theorem dX12_rateFor_92 : decode cX12_rateFor 92 = .ok (.iadd, 1) := by decide +kernel
theorem dX12_rateFor_93 : decode cX12_rateFor 93 = .ok (.iaload, 1) := by decide +kernel
theorem dX12_rateFor_94 : decode cX12_rateFor 94 = .ok (.aload_n 0, 1) := by decide +kernel
theorem dX12_rateFor_95 : decode cX12_rateFor 95 = .ok (.getfield 9, 3) := by decide +kernel
theorem dX12_rateFor_98 : decode cX12_rateFor 98 = .ok (.iload 6, 2) := by decide +kernel
theorem dX12_rateFor_100 : decode cX12_rateFor 100 = .ok (.iconst 1, 1) := by decide +kernel
theorem dX12_rateFor_101 : decode cX12_rateFor 101 = .ok (.iadd, 1) := by decide +kernel
theorem dX12_rateFor_102 : decode cX12_rateFor 102 = .ok (.iaload, 1) := by decide +kernel
theorem dX12_rateFor_103 : decode cX12_rateFor 103 = .ok (.if_icmp .ne 24, 3) := by decide +kernel
theorem dX12_rateFor_106 : decode cX12_rateFor 106 = .ok (.aload_n 0, 1) := by decide +kernel
theorem dX12_rateFor_107 : decode cX12_rateFor 107 = .ok (.getfield 9, 3) := by decide +kernel
theorem dX12_rateFor_110 : decode cX12_rateFor 110 = .ok (.iload 5, 2) := by decide +kernel
theorem dX12_rateFor_112 : decode cX12_rateFor 112 = .ok (.iaload, 1) := by decide +kernel
theorem dX12_rateFor_113 : decode cX12_rateFor 113 = .ok (.aload_n 0, 1) := by decide +kernel
theorem dX12_rateFor_114 : decode cX12_rateFor 114 = .ok (.getfield 9, 3) := by decide +kernel
theorem dX12_rateFor_117 : decode cX12_rateFor 117 = .ok (.iload 6, 2) := by decide +kernel
theorem dX12_rateFor_119 : decode cX12_rateFor 119 = .ok (.iaload, 1) := by decide +kernel
theorem dX12_rateFor_120 : decode cX12_rateFor 120 = .ok (.if_icmp .lt 7, 3) := by decide +kernel
theorem dX12_rateFor_123 : decode cX12_rateFor 123 = .ok (.iconst 1, 1) := by decide +kernel
theorem dX12_rateFor_124 : decode cX12_rateFor 124 = .ok (.goto 4, 3) := by decide +kernel
theorem dX12_rateFor_127 : decode cX12_rateFor 127 = .ok (.iconst 0, 1) := by decide +kernel
theorem dX12_rateFor_128 : decode cX12_rateFor 128 = .ok (.istore 7, 2) := by decide +kernel
theorem dX12_rateFor_130 : decode cX12_rateFor 130 = .ok (.iload 7, 2) := by decide +kernel
theorem dX12_rateFor_132 : decode cX12_rateFor 132 = .ok (.ifCond .eq 8, 3) := by decide +kernel
theorem dX12_rateFor_135 : decode cX12_rateFor 135 = .ok (.iload 4, 2) := by decide +kernel
theorem dX12_rateFor_137 : decode cX12_rateFor 137 = .ok (.goto 4, 3) := by decide +kernel
theorem dX12_rateFor_140 : decode cX12_rateFor 140 = .ok (.iload_n 3, 1) := by decide +kernel
theorem dX12_rateFor_141 : decode cX12_rateFor 141 = .ok (.istore_n 3, 1) := by decide +kernel
theorem dX12_rateFor_142 : decode cX12_rateFor 142 = .ok (.iinc 4 1, 3) := by decide +kernel
theorem dX12_rateFor_145 : decode cX12_rateFor 145 = .ok (.goto (-139), 3) := by decide +kernel
theorem dX12_rateFor_148 : decode cX12_rateFor 148 = .ok (.iload_n 3, 1) := by decide +kernel
theorem dX12_rateFor_149 : decode cX12_rateFor 149 = .ok (.ireturn, 1) := by decide +kernel
theorem dX12_dutyFor_0 : decode cX12_dutyFor 0 = .ok (.aload_n 0, 1) := by decide +kernel
theorem dX12_dutyFor_1 : decode cX12_dutyFor 1 = .ok (.iload_n 1, 1) := by decide +kernel
theorem dX12_dutyFor_2 : decode cX12_dutyFor 2 = .ok (.iload_n 2, 1) := by decide +kernel
theorem dX12_dutyFor_3 : decode cX12_dutyFor 3 = .ok (.invokevirtual 128, 3) := by decide +kernel
theorem dX12_dutyFor_6 : decode cX12_dutyFor 6 = .ok (.istore 4, 2) := by decide +kernel
theorem dX12_dutyFor_8 : decode cX12_dutyFor 8 = .ok (.iload 4, 2) := by decide +kernel
theorem dX12_dutyFor_10 : decode cX12_dutyFor 10 = .ok (.ifCond .ge 7, 3) := by decide +kernel
theorem dX12_dutyFor_13 : decode cX12_dutyFor 13 = .ok (.iconst 0, 1) := by decide +kernel
theorem dX12_dutyFor_14 : decode cX12_dutyFor 14 = .ok (.goto 31, 3) := by decide +kernel
theorem dX12_dutyFor_17 : decode cX12_dutyFor 17 = .ok (.iload_n 3, 1) := by decide +kernel
theorem dX12_dutyFor_18 : decode cX12_dutyFor 18 = .ok (.i2l, 1) := by decide +kernel
theorem dX12_dutyFor_19 : decode cX12_dutyFor 19 = .ok (.aload_n 0, 1) := by decide +kernel
theorem dX12_dutyFor_20 : decode cX12_dutyFor 20 = .ok (.getfield 9, 3) := by decide +kernel
theorem dX12_dutyFor_23 : decode cX12_dutyFor 23 = .ok (.sipush 294, 3) := by decide +kernel
theorem dX12_dutyFor_26 : decode cX12_dutyFor 26 = .ok (.iconst 3, 1) := by decide +kernel
theorem dX12_dutyFor_27 : decode cX12_dutyFor 27 = .ok (.iload 4, 2) := by decide +kernel
theorem dX12_dutyFor_29 : decode cX12_dutyFor 29 = .ok (.imul, 1) := by decide +kernel
theorem dX12_dutyFor_30 : decode cX12_dutyFor 30 = .ok (.iadd, 1) := by decide +kernel
theorem dX12_dutyFor_31 : decode cX12_dutyFor 31 = .ok (.iconst 2, 1) := by decide +kernel
theorem dX12_dutyFor_32 : decode cX12_dutyFor 32 = .ok (.iadd, 1) := by decide +kernel
theorem dX12_dutyFor_33 : decode cX12_dutyFor 33 = .ok (.iaload, 1) := by decide +kernel
theorem dX12_dutyFor_34 : decode cX12_dutyFor 34 = .ok (.i2l, 1) := by decide +kernel
theorem dX12_dutyFor_35 : decode cX12_dutyFor 35 = .ok (.lmul, 1) := by decide +kernel
theorem dX12_dutyFor_36 : decode cX12_dutyFor 36 = .ok (.ldc2_w 131, 3) := by decide +kernel
theorem dX12_dutyFor_39 : decode cX12_dutyFor 39 = .ok (.ladd, 1) := by decide +kernel
theorem dX12_dutyFor_40 : decode cX12_dutyFor 40 = .ok (.ldc2_w 133, 3) := by decide +kernel
theorem dX12_dutyFor_43 : decode cX12_dutyFor 43 = .ok (.ldiv, 1) := by decide +kernel
theorem dX12_dutyFor_44 : decode cX12_dutyFor 44 = .ok (.l2i, 1) := by decide +kernel
theorem dX12_dutyFor_45 : decode cX12_dutyFor 45 = .ok (.ireturn, 1) := by decide +kernel
theorem dX12_blend_0 : decode cX12_blend 0 = .ok (.aload_n 0, 1) := by decide +kernel
theorem dX12_blend_1 : decode cX12_blend 1 = .ok (.aload_n 0, 1) := by decide +kernel
theorem dX12_blend_2 : decode cX12_blend 2 = .ok (.getfield 25, 3) := by decide +kernel
theorem dX12_blend_5 : decode cX12_blend 5 = .ok (.invokevirtual 135, 3) := by decide +kernel
theorem dX12_blend_8 : decode cX12_blend 8 = .ok (.aload_n 0, 1) := by decide +kernel
theorem dX12_blend_9 : decode cX12_blend 9 = .ok (.getfield 25, 3) := by decide +kernel
theorem dX12_blend_12 : decode cX12_blend 12 = .ok (.invokestatic 84, 3) := by decide +kernel
theorem dX12_blend_15 : decode cX12_blend 15 = .ok (.i2l, 1) := by decide +kernel
theorem dX12_blend_16 : decode cX12_blend 16 = .ok (.ldiv, 1) := by decide +kernel
theorem dX12_blend_17 : decode cX12_blend 17 = .ok (.l2i, 1) := by decide +kernel
theorem dX12_blend_18 : decode cX12_blend 18 = .ok (.ireturn, 1) := by decide +kernel
theorem dX12_hinders_0 : decode cX12_hinders 0 = .ok (.aload_n 0, 1) := by decide +kernel
theorem dX12_hinders_1 : decode cX12_hinders 1 = .ok (.getfield 25, 3) := by decide +kernel
theorem dX12_hinders_4 : decode cX12_hinders 4 = .ok (.invokestatic 84, 3) := by decide +kernel
theorem dX12_hinders_7 : decode cX12_hinders 7 = .ok (.aload_n 0, 1) := by decide +kernel
theorem dX12_hinders_8 : decode cX12_hinders 8 = .ok (.iload_n 1, 1) := by decide +kernel
theorem dX12_hinders_9 : decode cX12_hinders 9 = .ok (.iconst 1, 1) := by decide +kernel
theorem dX12_hinders_10 : decode cX12_hinders 10 = .ok (.invokevirtual 118, 3) := by decide +kernel
theorem dX12_hinders_13 : decode cX12_hinders 13 = .ok (.if_icmp .ge 5, 3) := by decide +kernel
theorem dX12_hinders_16 : decode cX12_hinders 16 = .ok (.iconst 3, 1) := by decide +kernel
theorem dX12_hinders_17 : decode cX12_hinders 17 = .ok (.ireturn, 1) := by decide +kernel
theorem dX12_hinders_18 : decode cX12_hinders 18 = .ok (.aload_n 0, 1) := by decide +kernel
theorem dX12_hinders_19 : decode cX12_hinders 19 = .ok (.invokevirtual 139, 3) := by decide +kernel
theorem dX12_hinders_22 : decode cX12_hinders 22 = .ok (.aload_n 0, 1) := by decide +kernel
theorem dX12_hinders_23 : decode cX12_hinders 23 = .ok (.iload_n 1, 1) := by decide +kernel
theorem dX12_hinders_24 : decode cX12_hinders 24 = .ok (.iconst 2, 1) := by decide +kernel
theorem dX12_hinders_25 : decode cX12_hinders 25 = .ok (.invokevirtual 118, 3) := by decide +kernel
theorem dX12_hinders_28 : decode cX12_hinders 28 = .ok (.aload_n 0, 1) := by decide +kernel
theorem dX12_hinders_29 : decode cX12_hinders 29 = .ok (.iload_n 1, 1) := by decide +kernel
theorem dX12_hinders_30 : decode cX12_hinders 30 = .ok (.iconst 3, 1) := by decide +kernel
theorem dX12_hinders_31 : decode cX12_hinders 31 = .ok (.invokevirtual 118, 3) := by decide +kernel
theorem dX12_hinders_34 : decode cX12_hinders 34 = .ok (.invokestatic 69, 3) := by decide +kernel
theorem dX12_hinders_37 : decode cX12_hinders 37 = .ok (.ifCond .eq 7, 3) := by decide +kernel
theorem dX12_hinders_40 : decode cX12_hinders 40 = .ok (.iconst 0, 1) := by decide +kernel
theorem dX12_hinders_41 : decode cX12_hinders 41 = .ok (.goto 5, 3) := by decide +kernel
theorem dX12_hinders_44 : decode cX12_hinders 44 = .ok (.bipush 6, 2) := by decide +kernel
theorem dX12_hinders_46 : decode cX12_hinders 46 = .ok (.ireturn, 1) := by decide +kernel
theorem dX12_fills_0 : decode cX12_fills 0 = .ok (.aload_n 0, 1) := by decide +kernel
theorem dX12_fills_1 : decode cX12_fills 1 = .ok (.iload_n 1, 1) := by decide +kernel
theorem dX12_fills_2 : decode cX12_fills 2 = .ok (.invokevirtual 105, 3) := by decide +kernel
theorem dX12_fills_5 : decode cX12_fills 5 = .ok (.aload_n 0, 1) := by decide +kernel
theorem dX12_fills_6 : decode cX12_fills 6 = .ok (.aload_n 0, 1) := by decide +kernel
theorem dX12_fills_7 : decode cX12_fills 7 = .ok (.iload_n 2, 1) := by decide +kernel
theorem dX12_fills_8 : decode cX12_fills 8 = .ok (.iconst 1, 1) := by decide +kernel
theorem dX12_fills_9 : decode cX12_fills 9 = .ok (.invokevirtual 118, 3) := by decide +kernel
theorem dX12_fills_12 : decode cX12_fills 12 = .ok (.invokevirtual 109, 3) := by decide +kernel
theorem dX12_fills_15 : decode cX12_fills 15 = .ok (.sipush 204, 3) := by decide +kernel
theorem dX12_fills_18 : decode cX12_fills 18 = .ok (.bipush 9, 2) := by decide +kernel
theorem dX12_fills_20 : decode cX12_fills 20 = .ok (.iload_n 2, 1) := by decide +kernel
theorem dX12_fills_21 : decode cX12_fills 21 = .ok (.imul, 1) := by decide +kernel
theorem dX12_fills_22 : decode cX12_fills 22 = .ok (.iadd, 1) := by decide +kernel
theorem dX12_fills_23 : decode cX12_fills 23 = .ok (.istore_n 3, 1) := by decide +kernel
theorem dX12_fills_24 : decode cX12_fills 24 = .ok (.aload_n 0, 1) := by decide +kernel
theorem dX12_fills_25 : decode cX12_fills 25 = .ok (.getfield 9, 3) := by decide +kernel
theorem dX12_fills_28 : decode cX12_fills 28 = .ok (.iload_n 3, 1) := by decide +kernel
theorem dX12_fills_29 : decode cX12_fills 29 = .ok (.iconst 4, 1) := by decide +kernel
theorem dX12_fills_30 : decode cX12_fills 30 = .ok (.iadd, 1) := by decide +kernel
theorem dX12_fills_31 : decode cX12_fills 31 = .ok (.iconst 1, 1) := by decide +kernel
theorem dX12_fills_32 : decode cX12_fills 32 = .ok (.iastore, 1) := by decide +kernel
theorem dX12_fills_33 : decode cX12_fills 33 = .ok (.aload_n 0, 1) := by decide +kernel
theorem dX12_fills_34 : decode cX12_fills 34 = .ok (.getfield 9, 3) := by decide +kernel
theorem dX12_fills_37 : decode cX12_fills 37 = .ok (.iload_n 3, 1) := by decide +kernel
theorem dX12_fills_38 : decode cX12_fills 38 = .ok (.bipush 6, 2) := by decide +kernel
theorem dX12_fills_40 : decode cX12_fills 40 = .ok (.iadd, 1) := by decide +kernel
theorem dX12_fills_41 : decode cX12_fills 41 = .ok (.aload_n 0, 1) := by decide +kernel
theorem dX12_fills_42 : decode cX12_fills 42 = .ok (.getfield 9, 3) := by decide +kernel
theorem dX12_fills_45 : decode cX12_fills 45 = .ok (.iconst 0, 1) := by decide +kernel
theorem dX12_fills_46 : decode cX12_fills 46 = .ok (.iaload, 1) := by decide +kernel
theorem dX12_fills_47 : decode cX12_fills 47 = .ok (.iastore, 1) := by decide +kernel
theorem dX12_fills_48 : decode cX12_fills 48 = .ok (.aload_n 0, 1) := by decide +kernel
theorem dX12_fills_49 : decode cX12_fills 49 = .ok (.getfield 9, 3) := by decide +kernel
theorem dX12_fills_52 : decode cX12_fills 52 = .ok (.iload_n 3, 1) := by decide +kernel
theorem dX12_fills_53 : decode cX12_fills 53 = .ok (.bipush 8, 2) := by decide +kernel
theorem dX12_fills_55 : decode cX12_fills 55 = .ok (.iadd, 1) := by decide +kernel
theorem dX12_fills_56 : decode cX12_fills 56 = .ok (.aload_n 0, 1) := by decide +kernel
theorem dX12_fills_57 : decode cX12_fills 57 = .ok (.aload_n 0, 1) := by decide +kernel
theorem dX12_fills_58 : decode cX12_fills 58 = .ok (.getfield 28, 3) := by decide +kernel
theorem dX12_fills_61 : decode cX12_fills 61 = .ok (.invokevirtual 135, 3) := by decide +kernel
theorem dX12_fills_64 : decode cX12_fills 64 = .ok (.l2i, 1) := by decide +kernel
theorem dX12_fills_65 : decode cX12_fills 65 = .ok (.iastore, 1) := by decide +kernel
theorem dX12_fills_66 : decode cX12_fills 66 = .ok (.aload_n 0, 1) := by decide +kernel
theorem dX12_fills_67 : decode cX12_fills 67 = .ok (.getfield 9, 3) := by decide +kernel
theorem dX12_fills_70 : decode cX12_fills 70 = .ok (.iload_n 3, 1) := by decide +kernel
theorem dX12_fills_71 : decode cX12_fills 71 = .ok (.bipush 7, 2) := by decide +kernel
theorem dX12_fills_73 : decode cX12_fills 73 = .ok (.iadd, 1) := by decide +kernel
theorem dX12_fills_74 : decode cX12_fills 74 = .ok (.aload_n 0, 1) := by decide +kernel
theorem dX12_fills_75 : decode cX12_fills 75 = .ok (.getfield 9, 3) := by decide +kernel
theorem dX12_fills_78 : decode cX12_fills 78 = .ok (.iload_n 3, 1) := by decide +kernel
theorem dX12_fills_79 : decode cX12_fills 79 = .ok (.bipush 8, 2) := by decide +kernel
theorem dX12_fills_81 : decode cX12_fills 81 = .ok (.iadd, 1) := by decide +kernel
theorem dX12_fills_82 : decode cX12_fills 82 = .ok (.iaload, 1) := by decide +kernel
theorem dX12_fills_83 : decode cX12_fills 83 = .ok (.aload_n 0, 1) := by decide +kernel
theorem dX12_fills_84 : decode cX12_fills 84 = .ok (.getfield 9, 3) := by decide +kernel
theorem dX12_fills_87 : decode cX12_fills 87 = .ok (.iload_n 3, 1) := by decide +kernel
theorem dX12_fills_88 : decode cX12_fills 88 = .ok (.iconst 1, 1) := by decide +kernel
theorem dX12_fills_89 : decode cX12_fills 89 = .ok (.iadd, 1) := by decide +kernel
theorem dX12_fills_90 : decode cX12_fills 90 = .ok (.iaload, 1) := by decide +kernel
theorem dX12_fills_91 : decode cX12_fills 91 = .ok (.idiv, 1) := by decide +kernel
theorem dX12_fills_92 : decode cX12_fills 92 = .ok (.iastore, 1) := by decide +kernel
theorem dX12_fills_93 : decode cX12_fills 93 = .ok (.aload_n 0, 1) := by decide +kernel
theorem dX12_fills_94 : decode cX12_fills 94 = .ok (.getfield 9, 3) := by decide +kernel
theorem dX12_fills_97 : decode cX12_fills 97 = .ok (.iload_n 3, 1) := by decide +kernel
theorem dX12_fills_98 : decode cX12_fills 98 = .ok (.iconst 5, 1) := by decide +kernel
theorem dX12_fills_99 : decode cX12_fills 99 = .ok (.iadd, 1) := by decide +kernel
theorem dX12_fills_100 : decode cX12_fills 100 = .ok (.aload_n 0, 1) := by decide +kernel
theorem dX12_fills_101 : decode cX12_fills 101 = .ok (.aload_n 0, 1) := by decide +kernel
theorem dX12_fills_102 : decode cX12_fills 102 = .ok (.getfield 9, 3) := by decide +kernel
theorem dX12_fills_105 : decode cX12_fills 105 = .ok (.iconst 0, 1) := by decide +kernel
theorem dX12_fills_106 : decode cX12_fills 106 = .ok (.iaload, 1) := by decide +kernel
theorem dX12_fills_107 : decode cX12_fills 107 = .ok (.aload_n 0, 1) := by decide +kernel
theorem dX12_fills_108 : decode cX12_fills 108 = .ok (.getfield 9, 3) := by decide +kernel
theorem dX12_fills_111 : decode cX12_fills 111 = .ok (.iload_n 3, 1) := by decide +kernel
theorem dX12_fills_112 : decode cX12_fills 112 = .ok (.bipush 7, 2) := by decide +kernel
theorem dX12_fills_114 : decode cX12_fills 114 = .ok (.iadd, 1) := by decide +kernel
theorem dX12_fills_115 : decode cX12_fills 115 = .ok (.iaload, 1) := by decide +kernel
theorem dX12_fills_116 : decode cX12_fills 116 = .ok (.aload_n 0, 1) := by decide +kernel
theorem dX12_fills_117 : decode cX12_fills 117 = .ok (.getfield 9, 3) := by decide +kernel
theorem dX12_fills_120 : decode cX12_fills 120 = .ok (.iload_n 3, 1) := by decide +kernel
theorem dX12_fills_121 : decode cX12_fills 121 = .ok (.bipush 8, 2) := by decide +kernel
theorem dX12_fills_123 : decode cX12_fills 123 = .ok (.iadd, 1) := by decide +kernel
theorem dX12_fills_124 : decode cX12_fills 124 = .ok (.iaload, 1) := by decide +kernel
theorem dX12_fills_125 : decode cX12_fills 125 = .ok (.invokevirtual 142, 3) := by decide +kernel
theorem dX12_fills_128 : decode cX12_fills 128 = .ok (.iastore, 1) := by decide +kernel
theorem dX12_fills_129 : decode cX12_fills 129 = .ok (.iconst 0, 1) := by decide +kernel
theorem dX12_fills_130 : decode cX12_fills 130 = .ok (.istore 4, 2) := by decide +kernel
theorem dX12_fills_132 : decode cX12_fills 132 = .ok (.iload 4, 2) := by decide +kernel
theorem dX12_fills_134 : decode cX12_fills 134 = .ok (.bipush 16, 2) := by decide +kernel
theorem dX12_fills_136 : decode cX12_fills 136 = .ok (.if_icmp .ge 33, 3) := by decide +kernel
theorem dX12_fills_139 : decode cX12_fills 139 = .ok (.aload_n 0, 1) := by decide +kernel
theorem dX12_fills_140 : decode cX12_fills 140 = .ok (.getfield 9, 3) := by decide +kernel
theorem dX12_fills_143 : decode cX12_fills 143 = .ok (.bipush 124, 2) := by decide +kernel
theorem dX12_fills_145 : decode cX12_fills 145 = .ok (.iconst 5, 1) := by decide +kernel
theorem dX12_fills_146 : decode cX12_fills 146 = .ok (.iload 4, 2) := by decide +kernel
theorem dX12_fills_148 : decode cX12_fills 148 = .ok (.imul, 1) := by decide +kernel
theorem dX12_fills_149 : decode cX12_fills 149 = .ok (.iadd, 1) := by decide +kernel
theorem dX12_fills_150 : decode cX12_fills 150 = .ok (.iconst 2, 1) := by decide +kernel
theorem dX12_fills_151 : decode cX12_fills 151 = .ok (.iadd, 1) := by decide +kernel
theorem dX12_fills_152 : decode cX12_fills 152 = .ok (.dup2, 1) := by decide +kernel
theorem dX12_fills_153 : decode cX12_fills 153 = .ok (.iaload, 1) := by decide +kernel
theorem dX12_fills_154 : decode cX12_fills 154 = .ok (.aload_n 0, 1) := by decide +kernel
theorem dX12_fills_155 : decode cX12_fills 155 = .ok (.getfield 28, 3) := by decide +kernel
theorem dX12_fills_158 : decode cX12_fills 158 = .ok (.iload 4, 2) := by decide +kernel
theorem dX12_fills_160 : decode cX12_fills 160 = .ok (.iaload, 1) := by decide +kernel
theorem dX12_fills_161 : decode cX12_fills 161 = .ok (.iadd, 1) := by decide +kernel
theorem dX12_fills_162 : decode cX12_fills 162 = .ok (.iastore, 1) := by decide +kernel
theorem dX12_fills_163 : decode cX12_fills 163 = .ok (.iinc 4 1, 3) := by decide +kernel
theorem dX12_fills_166 : decode cX12_fills 166 = .ok (.goto (-34), 3) := by decide +kernel
theorem dX12_fills_169 : decode cX12_fills 169 = .ok (.aload_n 0, 1) := by decide +kernel
theorem dX12_fills_170 : decode cX12_fills 170 = .ok (.iload_n 1, 1) := by decide +kernel
theorem dX12_fills_171 : decode cX12_fills 171 = .ok (.invokevirtual 112, 3) := by decide +kernel
theorem dX12_fills_174 : decode cX12_fills 174 = .ok (.aload_n 0, 1) := by decide +kernel
theorem dX12_fills_175 : decode cX12_fills 175 = .ok (.iconst 4, 1) := by decide +kernel
theorem dX12_fills_176 : decode cX12_fills 176 = .ok (.iload_n 1, 1) := by decide +kernel
theorem dX12_fills_177 : decode cX12_fills 177 = .ok (.aload_n 0, 1) := by decide +kernel
theorem dX12_fills_178 : decode cX12_fills 178 = .ok (.getfield 9, 3) := by decide +kernel
theorem dX12_fills_181 : decode cX12_fills 181 = .ok (.iload_n 3, 1) := by decide +kernel
theorem dX12_fills_182 : decode cX12_fills 182 = .ok (.iconst 1, 1) := by decide +kernel
theorem dX12_fills_183 : decode cX12_fills 183 = .ok (.iadd, 1) := by decide +kernel
theorem dX12_fills_184 : decode cX12_fills 184 = .ok (.iaload, 1) := by decide +kernel
theorem dX12_fills_185 : decode cX12_fills 185 = .ok (.invokevirtual 91, 3) := by decide +kernel
theorem dX12_fills_188 : decode cX12_fills 188 = .ok (.return_, 1) := by decide +kernel
theorem dX12_fill_0 : decode cX12_fill 0 = .ok (.iload_n 1, 1) := by decide +kernel
theorem dX12_fill_1 : decode cX12_fill 1 = .ok (.invokestatic 95, 3) := by decide +kernel
theorem dX12_fill_4 : decode cX12_fill 4 = .ok (.ifCond .ne 9, 3) := by decide +kernel
theorem dX12_fill_7 : decode cX12_fill 7 = .ok (.aload_n 0, 1) := by decide +kernel
theorem dX12_fill_8 : decode cX12_fill 8 = .ok (.iconst 1, 1) := by decide +kernel
theorem dX12_fill_9 : decode cX12_fill 9 = .ok (.invokevirtual 99, 3) := by decide +kernel
theorem dX12_fill_12 : decode cX12_fill 12 = .ok (.ireturn, 1) := by decide +kernel
theorem dX12_fill_13 : decode cX12_fill 13 = .ok (.aload_n 0, 1) := by decide +kernel
theorem dX12_fill_14 : decode cX12_fill 14 = .ok (.iload_n 2, 1) := by decide +kernel
theorem dX12_fill_15 : decode cX12_fill 15 = .ok (.invokevirtual 121, 3) := by decide +kernel
theorem dX12_fill_18 : decode cX12_fill 18 = .ok (.ifCond .ne 9, 3) := by decide +kernel
theorem dX12_fill_21 : decode cX12_fill 21 = .ok (.aload_n 0, 1) := by decide +kernel
theorem dX12_fill_22 : decode cX12_fill 22 = .ok (.iconst 5, 1) := by decide +kernel
theorem dX12_fill_23 : decode cX12_fill 23 = .ok (.invokevirtual 99, 3) := by decide +kernel
theorem dX12_fill_26 : decode cX12_fill 26 = .ok (.ireturn, 1) := by decide +kernel
theorem dX12_fill_27 : decode cX12_fill 27 = .ok (.aload_n 0, 1) := by decide +kernel
theorem dX12_fill_28 : decode cX12_fill 28 = .ok (.iload_n 1, 1) := by decide +kernel
theorem dX12_fill_29 : decode cX12_fill 29 = .ok (.iconst 1, 1) := by decide +kernel
theorem dX12_fill_30 : decode cX12_fill 30 = .ok (.invokevirtual 73, 3) := by decide +kernel
theorem dX12_fill_33 : decode cX12_fill 33 = .ok (.iconst 1, 1) := by decide +kernel
theorem dX12_fill_34 : decode cX12_fill 34 = .ok (.if_icmp .eq 9, 3) := by decide +kernel
theorem dX12_fill_37 : decode cX12_fill 37 = .ok (.aload_n 0, 1) := by decide +kernel
theorem dX12_fill_38 : decode cX12_fill 38 = .ok (.iconst 2, 1) := by decide +kernel
theorem dX12_fill_39 : decode cX12_fill 39 = .ok (.invokevirtual 99, 3) := by decide +kernel
theorem dX12_fill_42 : decode cX12_fill 42 = .ok (.ireturn, 1) := by decide +kernel
theorem dX12_fill_43 : decode cX12_fill 43 = .ok (.aload_n 0, 1) := by decide +kernel
theorem dX12_fill_44 : decode cX12_fill 44 = .ok (.iload_n 1, 1) := by decide +kernel
theorem dX12_fill_45 : decode cX12_fill 45 = .ok (.invokevirtual 105, 3) := by decide +kernel
theorem dX12_fill_48 : decode cX12_fill 48 = .ok (.aload_n 0, 1) := by decide +kernel
theorem dX12_fill_49 : decode cX12_fill 49 = .ok (.iload_n 2, 1) := by decide +kernel
theorem dX12_fill_50 : decode cX12_fill 50 = .ok (.invokevirtual 146, 3) := by decide +kernel
theorem dX12_fill_53 : decode cX12_fill 53 = .ok (.istore_n 3, 1) := by decide +kernel
theorem dX12_fill_54 : decode cX12_fill 54 = .ok (.iload_n 3, 1) := by decide +kernel
theorem dX12_fill_55 : decode cX12_fill 55 = .ok (.ifCond .eq 9, 3) := by decide +kernel
theorem dX12_fill_58 : decode cX12_fill 58 = .ok (.aload_n 0, 1) := by decide +kernel
theorem dX12_fill_59 : decode cX12_fill 59 = .ok (.iload_n 3, 1) := by decide +kernel
theorem dX12_fill_60 : decode cX12_fill 60 = .ok (.invokevirtual 99, 3) := by decide +kernel
theorem dX12_fill_63 : decode cX12_fill 63 = .ok (.ireturn, 1) := by decide +kernel
theorem dX12_fill_64 : decode cX12_fill 64 = .ok (.aload_n 0, 1) := by decide +kernel
theorem dX12_fill_65 : decode cX12_fill 65 = .ok (.invokevirtual 102, 3) := by decide +kernel
theorem dX12_fill_68 : decode cX12_fill 68 = .ok (.aload_n 0, 1) := by decide +kernel
theorem dX12_fill_69 : decode cX12_fill 69 = .ok (.iload_n 1, 1) := by decide +kernel
theorem dX12_fill_70 : decode cX12_fill 70 = .ok (.iload_n 2, 1) := by decide +kernel
theorem dX12_fill_71 : decode cX12_fill 71 = .ok (.invokevirtual 149, 3) := by decide +kernel
theorem dX12_fill_74 : decode cX12_fill 74 = .ok (.aload_n 0, 1) := by decide +kernel
theorem dX12_fill_75 : decode cX12_fill 75 = .ok (.iload_n 2, 1) := by decide +kernel
theorem dX12_fill_76 : decode cX12_fill 76 = .ok (.iconst 5, 1) := by decide +kernel
theorem dX12_fill_77 : decode cX12_fill 77 = .ok (.invokevirtual 118, 3) := by decide +kernel
theorem dX12_fill_80 : decode cX12_fill 80 = .ok (.ireturn, 1) := by decide +kernel
theorem dX12_isAhead_0 : decode cX12_isAhead 0 = .ok (.aload_n 0, 1) := by decide +kernel
theorem dX12_isAhead_1 : decode cX12_isAhead 1 = .ok (.iload_n 1, 1) := by decide +kernel
theorem dX12_isAhead_2 : decode cX12_isAhead 2 = .ok (.iconst 0, 1) := by decide +kernel
theorem dX12_isAhead_3 : decode cX12_isAhead 3 = .ok (.invokevirtual 118, 3) := by decide +kernel
theorem dX12_isAhead_6 : decode cX12_isAhead 6 = .ok (.aload_n 0, 1) := by decide +kernel
theorem dX12_isAhead_7 : decode cX12_isAhead 7 = .ok (.iload_n 2, 1) := by decide +kernel
theorem dX12_isAhead_8 : decode cX12_isAhead 8 = .ok (.iconst 0, 1) := by decide +kernel
theorem dX12_isAhead_9 : decode cX12_isAhead 9 = .ok (.invokevirtual 118, 3) := by decide +kernel
theorem dX12_isAhead_12 : decode cX12_isAhead 12 = .ok (.if_icmp .eq 24, 3) := by decide +kernel
theorem dX12_isAhead_15 : decode cX12_isAhead 15 = .ok (.aload_n 0, 1) := by decide +kernel
theorem dX12_isAhead_16 : decode cX12_isAhead 16 = .ok (.iload_n 1, 1) := by decide +kernel
theorem dX12_isAhead_17 : decode cX12_isAhead 17 = .ok (.iconst 0, 1) := by decide +kernel
theorem dX12_isAhead_18 : decode cX12_isAhead 18 = .ok (.invokevirtual 118, 3) := by decide +kernel
theorem dX12_isAhead_21 : decode cX12_isAhead 21 = .ok (.aload_n 0, 1) := by decide +kernel
theorem dX12_isAhead_22 : decode cX12_isAhead 22 = .ok (.iload_n 2, 1) := by decide +kernel
theorem dX12_isAhead_23 : decode cX12_isAhead 23 = .ok (.iconst 0, 1) := by decide +kernel
theorem dX12_isAhead_24 : decode cX12_isAhead 24 = .ok (.invokevirtual 118, 3) := by decide +kernel
theorem dX12_isAhead_27 : decode cX12_isAhead 27 = .ok (.if_icmp .ge 7, 3) := by decide +kernel
theorem dX12_isAhead_30 : decode cX12_isAhead 30 = .ok (.iconst 1, 1) := by decide +kernel
theorem dX12_isAhead_31 : decode cX12_isAhead 31 = .ok (.goto 4, 3) := by decide +kernel
theorem dX12_isAhead_34 : decode cX12_isAhead 34 = .ok (.iconst 0, 1) := by decide +kernel
theorem dX12_isAhead_35 : decode cX12_isAhead 35 = .ok (.ireturn, 1) := by decide +kernel
theorem dX12_isAhead_36 : decode cX12_isAhead 36 = .ok (.aload_n 0, 1) := by decide +kernel
theorem dX12_isAhead_37 : decode cX12_isAhead 37 = .ok (.iload_n 1, 1) := by decide +kernel
theorem dX12_isAhead_38 : decode cX12_isAhead 38 = .ok (.iconst 1, 1) := by decide +kernel
theorem dX12_isAhead_39 : decode cX12_isAhead 39 = .ok (.invokevirtual 118, 3) := by decide +kernel
theorem dX12_isAhead_42 : decode cX12_isAhead 42 = .ok (.aload_n 0, 1) := by decide +kernel
theorem dX12_isAhead_43 : decode cX12_isAhead 43 = .ok (.iload_n 2, 1) := by decide +kernel
theorem dX12_isAhead_44 : decode cX12_isAhead 44 = .ok (.iconst 1, 1) := by decide +kernel
theorem dX12_isAhead_45 : decode cX12_isAhead 45 = .ok (.invokevirtual 118, 3) := by decide +kernel
theorem dX12_isAhead_48 : decode cX12_isAhead 48 = .ok (.if_icmp .le 7, 3) := by decide +kernel
theorem dX12_isAhead_51 : decode cX12_isAhead 51 = .ok (.iconst 1, 1) := by decide +kernel
theorem dX12_isAhead_52 : decode cX12_isAhead 52 = .ok (.goto 4, 3) := by decide +kernel
theorem dX12_isAhead_55 : decode cX12_isAhead 55 = .ok (.iconst 0, 1) := by decide +kernel
theorem dX12_isAhead_56 : decode cX12_isAhead 56 = .ok (.ireturn, 1) := by decide +kernel
theorem dX12_nextOrder_0 : decode cX12_nextOrder 0 = .ok (.iconst (-1), 1) := by decide +kernel
theorem dX12_nextOrder_1 : decode cX12_nextOrder 1 = .ok (.istore_n 1, 1) := by decide +kernel
theorem dX12_nextOrder_2 : decode cX12_nextOrder 2 = .ok (.iconst 0, 1) := by decide +kernel
theorem dX12_nextOrder_3 : decode cX12_nextOrder 3 = .ok (.istore_n 2, 1) := by decide +kernel
theorem dX12_nextOrder_4 : decode cX12_nextOrder 4 = .ok (.iload_n 2, 1) := by decide +kernel
theorem dX12_nextOrder_5 : decode cX12_nextOrder 5 = .ok (.aload_n 0, 1) := by decide +kernel
theorem dX12_nextOrder_6 : decode cX12_nextOrder 6 = .ok (.getfield 9, 3) := by decide +kernel
theorem dX12_nextOrder_9 : decode cX12_nextOrder 9 = .ok (.iconst 2, 1) := by decide +kernel
theorem dX12_nextOrder_10 : decode cX12_nextOrder 10 = .ok (.iaload, 1) := by decide +kernel
theorem dX12_nextOrder_11 : decode cX12_nextOrder 11 = .ok (.if_icmp .ge 46, 3) := by decide +kernel
theorem dX12_nextOrder_14 : decode cX12_nextOrder 14 = .ok (.aload_n 0, 1) := by decide +kernel
theorem dX12_nextOrder_15 : decode cX12_nextOrder 15 = .ok (.iload_n 2, 1) := by decide +kernel
theorem dX12_nextOrder_16 : decode cX12_nextOrder 16 = .ok (.invokevirtual 121, 3) := by decide +kernel
theorem dX12_nextOrder_19 : decode cX12_nextOrder 19 = .ok (.ifCond .eq 30, 3) := by decide +kernel
theorem dX12_nextOrder_22 : decode cX12_nextOrder 22 = .ok (.aload_n 0, 1) := by decide +kernel
theorem dX12_nextOrder_23 : decode cX12_nextOrder 23 = .ok (.getfield 40, 3) := by decide +kernel
theorem dX12_nextOrder_26 : decode cX12_nextOrder 26 = .ok (.iload_n 2, 1) := by decide +kernel
theorem dX12_nextOrder_27 : decode cX12_nextOrder 27 = .ok (.baload, 1) := by decide +kernel
theorem dX12_nextOrder_28 : decode cX12_nextOrder 28 = .ok (.ifCond .ne 21, 3) := by decide +kernel
theorem dX12_nextOrder_31 : decode cX12_nextOrder 31 = .ok (.iload_n 1, 1) := by decide +kernel
theorem dX12_nextOrder_32 : decode cX12_nextOrder 32 = .ok (.iconst (-1), 1) := by decide +kernel
theorem dX12_nextOrder_33 : decode cX12_nextOrder 33 = .ok (.if_icmp .eq 12, 3) := by decide +kernel
theorem dX12_nextOrder_36 : decode cX12_nextOrder 36 = .ok (.aload_n 0, 1) := by decide +kernel
theorem dX12_nextOrder_37 : decode cX12_nextOrder 37 = .ok (.iload_n 2, 1) := by decide +kernel
theorem dX12_nextOrder_38 : decode cX12_nextOrder 38 = .ok (.iload_n 1, 1) := by decide +kernel
theorem dX12_nextOrder_39 : decode cX12_nextOrder 39 = .ok (.invokevirtual 153, 3) := by decide +kernel
theorem dX12_nextOrder_42 : decode cX12_nextOrder 42 = .ok (.ifCond .eq 7, 3) := by decide +kernel
theorem dX12_nextOrder_45 : decode cX12_nextOrder 45 = .ok (.iload_n 2, 1) := by decide +kernel
theorem dX12_nextOrder_46 : decode cX12_nextOrder 46 = .ok (.goto 4, 3) := by decide +kernel
theorem dX12_nextOrder_49 : decode cX12_nextOrder 49 = .ok (.iload_n 1, 1) := by decide +kernel
theorem dX12_nextOrder_50 : decode cX12_nextOrder 50 = .ok (.istore_n 1, 1) := by decide +kernel
theorem dX12_nextOrder_51 : decode cX12_nextOrder 51 = .ok (.iinc 2 1, 3) := by decide +kernel
theorem dX12_nextOrder_54 : decode cX12_nextOrder 54 = .ok (.goto (-50), 3) := by decide +kernel
theorem dX12_nextOrder_57 : decode cX12_nextOrder 57 = .ok (.iload_n 1, 1) := by decide +kernel
theorem dX12_nextOrder_58 : decode cX12_nextOrder 58 = .ok (.ireturn, 1) := by decide +kernel
theorem dX12_looksAtPlan_0 : decode cX12_looksAtPlan 0 = .ok (.iconst 0, 1) := by decide +kernel
theorem dX12_looksAtPlan_1 : decode cX12_looksAtPlan 1 = .ok (.istore_n 2, 1) := by decide +kernel
theorem dX12_looksAtPlan_2 : decode cX12_looksAtPlan 2 = .ok (.iload_n 2, 1) := by decide +kernel
theorem dX12_looksAtPlan_3 : decode cX12_looksAtPlan 3 = .ok (.bipush 16, 2) := by decide +kernel
theorem dX12_looksAtPlan_5 : decode cX12_looksAtPlan 5 = .ok (.if_icmp .ge 26, 3) := by decide +kernel
theorem dX12_looksAtPlan_8 : decode cX12_looksAtPlan 8 = .ok (.aload_n 0, 1) := by decide +kernel
theorem dX12_looksAtPlan_9 : decode cX12_looksAtPlan 9 = .ok (.getfield 25, 3) := by decide +kernel
theorem dX12_looksAtPlan_12 : decode cX12_looksAtPlan 12 = .ok (.iload_n 2, 1) := by decide +kernel
theorem dX12_looksAtPlan_13 : decode cX12_looksAtPlan 13 = .ok (.aload_n 0, 1) := by decide +kernel
theorem dX12_looksAtPlan_14 : decode cX12_looksAtPlan 14 = .ok (.getfield 44, 3) := by decide +kernel
theorem dX12_looksAtPlan_17 : decode cX12_looksAtPlan 17 = .ok (.bipush 16, 2) := by decide +kernel
theorem dX12_looksAtPlan_19 : decode cX12_looksAtPlan 19 = .ok (.iload_n 1, 1) := by decide +kernel
theorem dX12_looksAtPlan_20 : decode cX12_looksAtPlan 20 = .ok (.imul, 1) := by decide +kernel
theorem dX12_looksAtPlan_21 : decode cX12_looksAtPlan 21 = .ok (.iload_n 2, 1) := by decide +kernel
theorem dX12_looksAtPlan_22 : decode cX12_looksAtPlan 22 = .ok (.iadd, 1) := by decide +kernel
theorem dX12_looksAtPlan_23 : decode cX12_looksAtPlan 23 = .ok (.iaload, 1) := by decide +kernel
theorem dX12_looksAtPlan_24 : decode cX12_looksAtPlan 24 = .ok (.iastore, 1) := by decide +kernel
theorem dX12_looksAtPlan_25 : decode cX12_looksAtPlan 25 = .ok (.iinc 2 1, 3) := by decide +kernel
theorem dX12_looksAtPlan_28 : decode cX12_looksAtPlan 28 = .ok (.goto (-26), 3) := by decide +kernel
theorem dX12_looksAtPlan_31 : decode cX12_looksAtPlan 31 = .ok (.return_, 1) := by decide +kernel
theorem dX12_tankFor_0 : decode cX12_tankFor 0 = .ok (.iconst (-1), 1) := by decide +kernel
theorem dX12_tankFor_1 : decode cX12_tankFor 1 = .ok (.istore_n 2, 1) := by decide +kernel
theorem dX12_tankFor_2 : decode cX12_tankFor 2 = .ok (.iconst 0, 1) := by decide +kernel
theorem dX12_tankFor_3 : decode cX12_tankFor 3 = .ok (.istore_n 3, 1) := by decide +kernel
theorem dX12_tankFor_4 : decode cX12_tankFor 4 = .ok (.iconst 0, 1) := by decide +kernel
theorem dX12_tankFor_5 : decode cX12_tankFor 5 = .ok (.istore 4, 2) := by decide +kernel
theorem dX12_tankFor_7 : decode cX12_tankFor 7 = .ok (.iload 4, 2) := by decide +kernel
theorem dX12_tankFor_9 : decode cX12_tankFor 9 = .ok (.bipush 6, 2) := by decide +kernel
theorem dX12_tankFor_11 : decode cX12_tankFor 11 = .ok (.if_icmp .ge 60, 3) := by decide +kernel
theorem dX12_tankFor_14 : decode cX12_tankFor 14 = .ok (.aload_n 0, 1) := by decide +kernel
theorem dX12_tankFor_15 : decode cX12_tankFor 15 = .ok (.iload 4, 2) := by decide +kernel
theorem dX12_tankFor_17 : decode cX12_tankFor 17 = .ok (.invokevirtual 157, 3) := by decide +kernel
theorem dX12_tankFor_20 : decode cX12_tankFor 20 = .ok (.aload_n 0, 1) := by decide +kernel
theorem dX12_tankFor_21 : decode cX12_tankFor 21 = .ok (.getfield 25, 3) := by decide +kernel
theorem dX12_tankFor_24 : decode cX12_tankFor 24 = .ok (.invokestatic 84, 3) := by decide +kernel
theorem dX12_tankFor_27 : decode cX12_tankFor 27 = .ok (.ifCond .le 38, 3) := by decide +kernel
theorem dX12_tankFor_30 : decode cX12_tankFor 30 = .ok (.aload_n 0, 1) := by decide +kernel
theorem dX12_tankFor_31 : decode cX12_tankFor 31 = .ok (.iload_n 1, 1) := by decide +kernel
theorem dX12_tankFor_32 : decode cX12_tankFor 32 = .ok (.invokevirtual 146, 3) := by decide +kernel
theorem dX12_tankFor_35 : decode cX12_tankFor 35 = .ok (.ifCond .ne 30, 3) := by decide +kernel
theorem dX12_tankFor_38 : decode cX12_tankFor 38 = .ok (.iload_n 2, 1) := by decide +kernel
theorem dX12_tankFor_39 : decode cX12_tankFor 39 = .ok (.iconst (-1), 1) := by decide +kernel
theorem dX12_tankFor_40 : decode cX12_tankFor 40 = .ok (.if_icmp .eq 14, 3) := by decide +kernel
theorem dX12_tankFor_43 : decode cX12_tankFor 43 = .ok (.aload_n 0, 1) := by decide +kernel
theorem dX12_tankFor_44 : decode cX12_tankFor 44 = .ok (.getfield 25, 3) := by decide +kernel
theorem dX12_tankFor_47 : decode cX12_tankFor 47 = .ok (.invokestatic 84, 3) := by decide +kernel
theorem dX12_tankFor_50 : decode cX12_tankFor 50 = .ok (.iload_n 3, 1) := by decide +kernel
theorem dX12_tankFor_51 : decode cX12_tankFor 51 = .ok (.if_icmp .ge 14, 3) := by decide +kernel
theorem dX12_tankFor_54 : decode cX12_tankFor 54 = .ok (.iload 4, 2) := by decide +kernel
theorem dX12_tankFor_56 : decode cX12_tankFor 56 = .ok (.istore_n 2, 1) := by decide +kernel
theorem dX12_tankFor_57 : decode cX12_tankFor 57 = .ok (.aload_n 0, 1) := by decide +kernel
theorem dX12_tankFor_58 : decode cX12_tankFor 58 = .ok (.getfield 25, 3) := by decide +kernel
theorem dX12_tankFor_61 : decode cX12_tankFor 61 = .ok (.invokestatic 84, 3) := by decide +kernel
theorem dX12_tankFor_64 : decode cX12_tankFor 64 = .ok (.istore_n 3, 1) := by decide +kernel
theorem dX12_tankFor_65 : decode cX12_tankFor 65 = .ok (.iinc 4 1, 3) := by decide +kernel
theorem dX12_tankFor_68 : decode cX12_tankFor 68 = .ok (.goto (-61), 3) := by decide +kernel
theorem dX12_tankFor_71 : decode cX12_tankFor 71 = .ok (.iload_n 2, 1) := by decide +kernel
theorem dX12_tankFor_72 : decode cX12_tankFor 72 = .ok (.ireturn, 1) := by decide +kernel
theorem dX12_plans_0 : decode cX12_plans 0 = .ok (.aload_n 0, 1) := by decide +kernel
theorem dX12_plans_1 : decode cX12_plans 1 = .ok (.iconst 0, 1) := by decide +kernel
theorem dX12_plans_2 : decode cX12_plans 2 = .ok (.putfield 160, 3) := by decide +kernel
theorem dX12_plans_5 : decode cX12_plans 5 = .ok (.iconst 0, 1) := by decide +kernel
theorem dX12_plans_6 : decode cX12_plans 6 = .ok (.istore_n 1, 1) := by decide +kernel
theorem dX12_plans_7 : decode cX12_plans 7 = .ok (.iload_n 1, 1) := by decide +kernel
theorem dX12_plans_8 : decode cX12_plans 8 = .ok (.bipush 10, 2) := by decide +kernel
theorem dX12_plans_10 : decode cX12_plans 10 = .ok (.if_icmp .ge 24, 3) := by decide +kernel
theorem dX12_plans_13 : decode cX12_plans 13 = .ok (.aload_n 0, 1) := by decide +kernel
theorem dX12_plans_14 : decode cX12_plans 14 = .ok (.getfield 37, 3) := by decide +kernel
theorem dX12_plans_17 : decode cX12_plans 17 = .ok (.iload_n 1, 1) := by decide +kernel
theorem dX12_plans_18 : decode cX12_plans 18 = .ok (.bipush (-5), 2) := by decide +kernel
theorem dX12_plans_20 : decode cX12_plans 20 = .ok (.iastore, 1) := by decide +kernel
theorem dX12_plans_21 : decode cX12_plans 21 = .ok (.aload_n 0, 1) := by decide +kernel
theorem dX12_plans_22 : decode cX12_plans 22 = .ok (.getfield 40, 3) := by decide +kernel
theorem dX12_plans_25 : decode cX12_plans 25 = .ok (.iload_n 1, 1) := by decide +kernel
theorem dX12_plans_26 : decode cX12_plans 26 = .ok (.iconst 0, 1) := by decide +kernel
theorem dX12_plans_27 : decode cX12_plans 27 = .ok (.bastore, 1) := by decide +kernel
theorem dX12_plans_28 : decode cX12_plans 28 = .ok (.iinc 1 1, 3) := by decide +kernel
theorem dX12_plans_31 : decode cX12_plans 31 = .ok (.goto (-24), 3) := by decide +kernel
theorem dX12_plans_34 : decode cX12_plans 34 = .ok (.iconst 0, 1) := by decide +kernel
theorem dX12_plans_35 : decode cX12_plans 35 = .ok (.istore_n 1, 1) := by decide +kernel
theorem dX12_plans_36 : decode cX12_plans 36 = .ok (.iload_n 1, 1) := by decide +kernel
theorem dX12_plans_37 : decode cX12_plans 37 = .ok (.aload_n 0, 1) := by decide +kernel
theorem dX12_plans_38 : decode cX12_plans 38 = .ok (.getfield 44, 3) := by decide +kernel
theorem dX12_plans_41 : decode cX12_plans 41 = .ok (.arraylength, 1) := by decide +kernel
theorem dX12_plans_42 : decode cX12_plans 42 = .ok (.if_icmp .ge 27, 3) := by decide +kernel
theorem dX12_plans_45 : decode cX12_plans 45 = .ok (.aload_n 0, 1) := by decide +kernel
theorem dX12_plans_46 : decode cX12_plans 46 = .ok (.getfield 44, 3) := by decide +kernel
theorem dX12_plans_49 : decode cX12_plans 49 = .ok (.iload_n 1, 1) := by decide +kernel
theorem dX12_plans_50 : decode cX12_plans 50 = .ok (.aload_n 0, 1) := by decide +kernel
theorem dX12_plans_51 : decode cX12_plans 51 = .ok (.iload_n 1, 1) := by decide +kernel
theorem dX12_plans_52 : decode cX12_plans 52 = .ok (.bipush 16, 2) := by decide +kernel
theorem dX12_plans_54 : decode cX12_plans 54 = .ok (.idiv, 1) := by decide +kernel
theorem dX12_plans_55 : decode cX12_plans 55 = .ok (.iload_n 1, 1) := by decide +kernel
theorem dX12_plans_56 : decode cX12_plans 56 = .ok (.bipush 16, 2) := by decide +kernel
theorem dX12_plans_58 : decode cX12_plans 58 = .ok (.irem, 1) := by decide +kernel
theorem dX12_plans_59 : decode cX12_plans 59 = .ok (.invokevirtual 77, 3) := by decide +kernel
theorem dX12_plans_62 : decode cX12_plans 62 = .ok (.iastore, 1) := by decide +kernel
theorem dX12_plans_63 : decode cX12_plans 63 = .ok (.iinc 1 1, 3) := by decide +kernel
theorem dX12_plans_66 : decode cX12_plans 66 = .ok (.goto (-30), 3) := by decide +kernel
theorem dX12_plans_69 : decode cX12_plans 69 = .ok (.aload_n 0, 1) := by decide +kernel
theorem dX12_plans_70 : decode cX12_plans 70 = .ok (.invokevirtual 163, 3) := by decide +kernel
theorem dX12_plans_73 : decode cX12_plans 73 = .ok (.istore_n 1, 1) := by decide +kernel
theorem dX12_plans_74 : decode cX12_plans 74 = .ok (.iload_n 1, 1) := by decide +kernel
theorem dX12_plans_75 : decode cX12_plans 75 = .ok (.iconst (-1), 1) := by decide +kernel
theorem dX12_plans_76 : decode cX12_plans 76 = .ok (.if_icmp .eq 105, 3) := by decide +kernel
theorem dX12_plans_79 : decode cX12_plans 79 = .ok (.aload_n 0, 1) := by decide +kernel
theorem dX12_plans_80 : decode cX12_plans 80 = .ok (.getfield 40, 3) := by decide +kernel
theorem dX12_plans_83 : decode cX12_plans 83 = .ok (.iload_n 1, 1) := by decide +kernel
theorem dX12_plans_84 : decode cX12_plans 84 = .ok (.iconst 1, 1) := by decide +kernel
theorem dX12_plans_85 : decode cX12_plans 85 = .ok (.bastore, 1) := by decide +kernel
theorem dX12_plans_86 : decode cX12_plans 86 = .ok (.aload_n 0, 1) := by decide +kernel
theorem dX12_plans_87 : decode cX12_plans 87 = .ok (.iload_n 1, 1) := by decide +kernel
theorem dX12_plans_88 : decode cX12_plans 88 = .ok (.invokevirtual 166, 3) := by decide +kernel
theorem dX12_plans_91 : decode cX12_plans 91 = .ok (.istore_n 2, 1) := by decide +kernel
theorem dX12_plans_92 : decode cX12_plans 92 = .ok (.iload_n 2, 1) := by decide +kernel
theorem dX12_plans_93 : decode cX12_plans 93 = .ok (.iconst (-1), 1) := by decide +kernel
theorem dX12_plans_94 : decode cX12_plans 94 = .ok (.if_icmp .eq 79, 3) := by decide +kernel
theorem dX12_plans_97 : decode cX12_plans 97 = .ok (.aload_n 0, 1) := by decide +kernel
theorem dX12_plans_98 : decode cX12_plans 98 = .ok (.getfield 37, 3) := by decide +kernel
theorem dX12_plans_101 : decode cX12_plans 101 = .ok (.iload_n 1, 1) := by decide +kernel
theorem dX12_plans_102 : decode cX12_plans 102 = .ok (.iload_n 2, 1) := by decide +kernel
theorem dX12_plans_103 : decode cX12_plans 103 = .ok (.iastore, 1) := by decide +kernel
theorem dX12_plans_104 : decode cX12_plans 104 = .ok (.aload_n 0, 1) := by decide +kernel
theorem dX12_plans_105 : decode cX12_plans 105 = .ok (.getfield 34, 3) := by decide +kernel
theorem dX12_plans_108 : decode cX12_plans 108 = .ok (.aload_n 0, 1) := by decide +kernel
theorem dX12_plans_109 : decode cX12_plans 109 = .ok (.getfield 160, 3) := by decide +kernel
theorem dX12_plans_112 : decode cX12_plans 112 = .ok (.iload_n 1, 1) := by decide +kernel
theorem dX12_plans_113 : decode cX12_plans 113 = .ok (.iastore, 1) := by decide +kernel
theorem dX12_plans_114 : decode cX12_plans 114 = .ok (.aload_n 0, 1) := by decide +kernel
theorem dX12_plans_115 : decode cX12_plans 115 = .ok (.dup, 1) := by decide +kernel
theorem dX12_plans_116 : decode cX12_plans 116 = .ok (.getfield 160, 3) := by decide +kernel
theorem dX12_plans_119 : decode cX12_plans 119 = .ok (.iconst 1, 1) := by decide +kernel
theorem dX12_plans_120 : decode cX12_plans 120 = .ok (.iadd, 1) := by decide +kernel
theorem dX12_plans_121 : decode cX12_plans 121 = .ok (.putfield 160, 3) := by decide +kernel
theorem dX12_plans_124 : decode cX12_plans 124 = .ok (.aload_n 0, 1) := by decide +kernel
theorem dX12_plans_125 : decode cX12_plans 125 = .ok (.iload_n 2, 1) := by decide +kernel
theorem dX12_plans_126 : decode cX12_plans 126 = .ok (.invokevirtual 157, 3) := by decide +kernel
theorem dX12_plans_129 : decode cX12_plans 129 = .ok (.aload_n 0, 1) := by decide +kernel
theorem dX12_plans_130 : decode cX12_plans 130 = .ok (.aload_n 0, 1) := by decide +kernel
theorem dX12_plans_131 : decode cX12_plans 131 = .ok (.iload_n 1, 1) := by decide +kernel
theorem dX12_plans_132 : decode cX12_plans 132 = .ok (.iconst 1, 1) := by decide +kernel
theorem dX12_plans_133 : decode cX12_plans 133 = .ok (.invokevirtual 118, 3) := by decide +kernel
theorem dX12_plans_136 : decode cX12_plans 136 = .ok (.invokevirtual 109, 3) := by decide +kernel
theorem dX12_plans_139 : decode cX12_plans 139 = .ok (.iconst 0, 1) := by decide +kernel
theorem dX12_plans_140 : decode cX12_plans 140 = .ok (.istore_n 3, 1) := by decide +kernel
theorem dX12_plans_141 : decode cX12_plans 141 = .ok (.iload_n 3, 1) := by decide +kernel
theorem dX12_plans_142 : decode cX12_plans 142 = .ok (.bipush 16, 2) := by decide +kernel
theorem dX12_plans_144 : decode cX12_plans 144 = .ok (.if_icmp .ge 29, 3) := by decide +kernel
theorem dX12_plans_147 : decode cX12_plans 147 = .ok (.aload_n 0, 1) := by decide +kernel
theorem dX12_plans_148 : decode cX12_plans 148 = .ok (.getfield 44, 3) := by decide +kernel
theorem dX12_plans_151 : decode cX12_plans 151 = .ok (.bipush 16, 2) := by decide +kernel
theorem dX12_plans_153 : decode cX12_plans 153 = .ok (.iload_n 2, 1) := by decide +kernel
theorem dX12_plans_154 : decode cX12_plans 154 = .ok (.imul, 1) := by decide +kernel
theorem dX12_plans_155 : decode cX12_plans 155 = .ok (.iload_n 3, 1) := by decide +kernel
theorem dX12_plans_156 : decode cX12_plans 156 = .ok (.iadd, 1) := by decide +kernel
theorem dX12_plans_157 : decode cX12_plans 157 = .ok (.dup2, 1) := by decide +kernel
theorem dX12_plans_158 : decode cX12_plans 158 = .ok (.iaload, 1) := by decide +kernel
theorem dX12_plans_159 : decode cX12_plans 159 = .ok (.aload_n 0, 1) := by decide +kernel
theorem dX12_plans_160 : decode cX12_plans 160 = .ok (.getfield 28, 3) := by decide +kernel
theorem dX12_plans_163 : decode cX12_plans 163 = .ok (.iload_n 3, 1) := by decide +kernel
theorem dX12_plans_164 : decode cX12_plans 164 = .ok (.iaload, 1) := by decide +kernel
theorem dX12_plans_165 : decode cX12_plans 165 = .ok (.isub, 1) := by decide +kernel
theorem dX12_plans_166 : decode cX12_plans 166 = .ok (.iastore, 1) := by decide +kernel
theorem dX12_plans_167 : decode cX12_plans 167 = .ok (.iinc 3 1, 3) := by decide +kernel
theorem dX12_plans_170 : decode cX12_plans 170 = .ok (.goto (-29), 3) := by decide +kernel
theorem dX12_plans_173 : decode cX12_plans 173 = .ok (.aload_n 0, 1) := by decide +kernel
theorem dX12_plans_174 : decode cX12_plans 174 = .ok (.invokevirtual 163, 3) := by decide +kernel
theorem dX12_plans_177 : decode cX12_plans 177 = .ok (.istore_n 1, 1) := by decide +kernel
theorem dX12_plans_178 : decode cX12_plans 178 = .ok (.goto (-104), 3) := by decide +kernel
theorem dX12_plans_181 : decode cX12_plans 181 = .ok (.return_, 1) := by decide +kernel
theorem dX12_fillAll_0 : decode cX12_fillAll 0 = .ok (.aload_n 0, 1) := by decide +kernel
theorem dX12_fillAll_1 : decode cX12_fillAll 1 = .ok (.invokevirtual 169, 3) := by decide +kernel
theorem dX12_fillAll_4 : decode cX12_fillAll 4 = .ok (.aload_n 0, 1) := by decide +kernel
theorem dX12_fillAll_5 : decode cX12_fillAll 5 = .ok (.invokevirtual 102, 3) := by decide +kernel
theorem dX12_fillAll_8 : decode cX12_fillAll 8 = .ok (.iconst 0, 1) := by decide +kernel
theorem dX12_fillAll_9 : decode cX12_fillAll 9 = .ok (.istore_n 1, 1) := by decide +kernel
theorem dX12_fillAll_10 : decode cX12_fillAll 10 = .ok (.iload_n 1, 1) := by decide +kernel
theorem dX12_fillAll_11 : decode cX12_fillAll 11 = .ok (.aload_n 0, 1) := by decide +kernel
theorem dX12_fillAll_12 : decode cX12_fillAll 12 = .ok (.getfield 160, 3) := by decide +kernel
theorem dX12_fillAll_15 : decode cX12_fillAll 15 = .ok (.if_icmp .ge 30, 3) := by decide +kernel
theorem dX12_fillAll_18 : decode cX12_fillAll 18 = .ok (.aload_n 0, 1) := by decide +kernel
theorem dX12_fillAll_19 : decode cX12_fillAll 19 = .ok (.aload_n 0, 1) := by decide +kernel
theorem dX12_fillAll_20 : decode cX12_fillAll 20 = .ok (.getfield 37, 3) := by decide +kernel
theorem dX12_fillAll_23 : decode cX12_fillAll 23 = .ok (.aload_n 0, 1) := by decide +kernel
theorem dX12_fillAll_24 : decode cX12_fillAll 24 = .ok (.getfield 34, 3) := by decide +kernel
theorem dX12_fillAll_27 : decode cX12_fillAll 27 = .ok (.iload_n 1, 1) := by decide +kernel
theorem dX12_fillAll_28 : decode cX12_fillAll 28 = .ok (.iaload, 1) := by decide +kernel
theorem dX12_fillAll_29 : decode cX12_fillAll 29 = .ok (.iaload, 1) := by decide +kernel
theorem dX12_fillAll_30 : decode cX12_fillAll 30 = .ok (.aload_n 0, 1) := by decide +kernel
theorem dX12_fillAll_31 : decode cX12_fillAll 31 = .ok (.getfield 34, 3) := by decide +kernel
theorem dX12_fillAll_34 : decode cX12_fillAll 34 = .ok (.iload_n 1, 1) := by decide +kernel
theorem dX12_fillAll_35 : decode cX12_fillAll 35 = .ok (.iaload, 1) := by decide +kernel
theorem dX12_fillAll_36 : decode cX12_fillAll 36 = .ok (.invokevirtual 149, 3) := by decide +kernel
theorem dX12_fillAll_39 : decode cX12_fillAll 39 = .ok (.iinc 1 1, 3) := by decide +kernel
theorem dX12_fillAll_42 : decode cX12_fillAll 42 = .ok (.goto (-32), 3) := by decide +kernel
theorem dX12_fillAll_45 : decode cX12_fillAll 45 = .ok (.aload_n 0, 1) := by decide +kernel
theorem dX12_fillAll_46 : decode cX12_fillAll 46 = .ok (.getfield 160, 3) := by decide +kernel
theorem dX12_fillAll_49 : decode cX12_fillAll 49 = .ok (.ireturn, 1) := by decide +kernel
theorem dX12_clean_0 : decode cX12_clean 0 = .ok (.iload_n 1, 1) := by decide +kernel
theorem dX12_clean_1 : decode cX12_clean 1 = .ok (.invokestatic 95, 3) := by decide +kernel
theorem dX12_clean_4 : decode cX12_clean 4 = .ok (.ifCond .ne 9, 3) := by decide +kernel
theorem dX12_clean_7 : decode cX12_clean 7 = .ok (.aload_n 0, 1) := by decide +kernel
theorem dX12_clean_8 : decode cX12_clean 8 = .ok (.iconst 1, 1) := by decide +kernel
theorem dX12_clean_9 : decode cX12_clean 9 = .ok (.invokevirtual 99, 3) := by decide +kernel
theorem dX12_clean_12 : decode cX12_clean 12 = .ok (.ireturn, 1) := by decide +kernel
theorem dX12_clean_13 : decode cX12_clean 13 = .ok (.aload_n 0, 1) := by decide +kernel
theorem dX12_clean_14 : decode cX12_clean 14 = .ok (.iload_n 1, 1) := by decide +kernel
theorem dX12_clean_15 : decode cX12_clean 15 = .ok (.iconst 1, 1) := by decide +kernel
theorem dX12_clean_16 : decode cX12_clean 16 = .ok (.invokevirtual 73, 3) := by decide +kernel
theorem dX12_clean_19 : decode cX12_clean 19 = .ok (.iconst 2, 1) := by decide +kernel
theorem dX12_clean_20 : decode cX12_clean 20 = .ok (.if_icmp .eq 10, 3) := by decide +kernel
theorem dX12_clean_23 : decode cX12_clean 23 = .ok (.aload_n 0, 1) := by decide +kernel
theorem dX12_clean_24 : decode cX12_clean 24 = .ok (.bipush 7, 2) := by decide +kernel
theorem dX12_clean_26 : decode cX12_clean 26 = .ok (.invokevirtual 99, 3) := by decide +kernel
theorem dX12_clean_29 : decode cX12_clean 29 = .ok (.ireturn, 1) := by decide +kernel
theorem dX12_clean_30 : decode cX12_clean 30 = .ok (.aload_n 0, 1) := by decide +kernel
theorem dX12_clean_31 : decode cX12_clean 31 = .ok (.invokevirtual 102, 3) := by decide +kernel
theorem dX12_clean_34 : decode cX12_clean 34 = .ok (.aload_n 0, 1) := by decide +kernel
theorem dX12_clean_35 : decode cX12_clean 35 = .ok (.getfield 9, 3) := by decide +kernel
theorem dX12_clean_38 : decode cX12_clean 38 = .ok (.bipush 10, 2) := by decide +kernel
theorem dX12_clean_40 : decode cX12_clean 40 = .ok (.bipush 19, 2) := by decide +kernel
theorem dX12_clean_42 : decode cX12_clean 42 = .ok (.iload_n 1, 1) := by decide +kernel
theorem dX12_clean_43 : decode cX12_clean 43 = .ok (.imul, 1) := by decide +kernel
theorem dX12_clean_44 : decode cX12_clean 44 = .ok (.iadd, 1) := by decide +kernel
theorem dX12_clean_45 : decode cX12_clean 45 = .ok (.iconst 1, 1) := by decide +kernel
theorem dX12_clean_46 : decode cX12_clean 46 = .ok (.iadd, 1) := by decide +kernel
theorem dX12_clean_47 : decode cX12_clean 47 = .ok (.iconst 3, 1) := by decide +kernel
theorem dX12_clean_48 : decode cX12_clean 48 = .ok (.iastore, 1) := by decide +kernel
theorem dX12_clean_49 : decode cX12_clean 49 = .ok (.aload_n 0, 1) := by decide +kernel
theorem dX12_clean_50 : decode cX12_clean 50 = .ok (.getfield 9, 3) := by decide +kernel
theorem dX12_clean_53 : decode cX12_clean 53 = .ok (.bipush 10, 2) := by decide +kernel
theorem dX12_clean_55 : decode cX12_clean 55 = .ok (.bipush 19, 2) := by decide +kernel
theorem dX12_clean_57 : decode cX12_clean 57 = .ok (.iload_n 1, 1) := by decide +kernel
theorem dX12_clean_58 : decode cX12_clean 58 = .ok (.imul, 1) := by decide +kernel
theorem dX12_clean_59 : decode cX12_clean 59 = .ok (.iadd, 1) := by decide +kernel
theorem dX12_clean_60 : decode cX12_clean 60 = .ok (.iconst 2, 1) := by decide +kernel
theorem dX12_clean_61 : decode cX12_clean 61 = .ok (.iadd, 1) := by decide +kernel
theorem dX12_clean_62 : decode cX12_clean 62 = .ok (.aload_n 0, 1) := by decide +kernel
theorem dX12_clean_63 : decode cX12_clean 63 = .ok (.getfield 9, 3) := by decide +kernel
theorem dX12_clean_66 : decode cX12_clean 66 = .ok (.iconst 0, 1) := by decide +kernel
theorem dX12_clean_67 : decode cX12_clean 67 = .ok (.iaload, 1) := by decide +kernel
theorem dX12_clean_68 : decode cX12_clean 68 = .ok (.iconst 2, 1) := by decide +kernel
theorem dX12_clean_69 : decode cX12_clean 69 = .ok (.iadd, 1) := by decide +kernel
theorem dX12_clean_70 : decode cX12_clean 70 = .ok (.iastore, 1) := by decide +kernel
theorem dX12_clean_71 : decode cX12_clean 71 = .ok (.aload_n 0, 1) := by decide +kernel
theorem dX12_clean_72 : decode cX12_clean 72 = .ok (.getfield 9, 3) := by decide +kernel
theorem dX12_clean_75 : decode cX12_clean 75 = .ok (.iconst 0, 1) := by decide +kernel
theorem dX12_clean_76 : decode cX12_clean 76 = .ok (.iaload, 1) := by decide +kernel
theorem dX12_clean_77 : decode cX12_clean 77 = .ok (.iconst 2, 1) := by decide +kernel
theorem dX12_clean_78 : decode cX12_clean 78 = .ok (.iadd, 1) := by decide +kernel
theorem dX12_clean_79 : decode cX12_clean 79 = .ok (.ireturn, 1) := by decide +kernel
theorem dX12_pass_0 : decode cX12_pass 0 = .ok (.iload_n 1, 1) := by decide +kernel
theorem dX12_pass_1 : decode cX12_pass 1 = .ok (.iconst 1, 1) := by decide +kernel
theorem dX12_pass_2 : decode cX12_pass 2 = .ok (.sipush 999, 3) := by decide +kernel
theorem dX12_pass_5 : decode cX12_pass 5 = .ok (.invokestatic 69, 3) := by decide +kernel
theorem dX12_pass_8 : decode cX12_pass 8 = .ok (.ifCond .eq 17, 3) := by decide +kernel
theorem dX12_pass_11 : decode cX12_pass 11 = .ok (.aload_n 0, 1) := by decide +kernel
theorem dX12_pass_12 : decode cX12_pass 12 = .ok (.getfield 9, 3) := by decide +kernel
theorem dX12_pass_15 : decode cX12_pass 15 = .ok (.iconst 0, 1) := by decide +kernel
theorem dX12_pass_16 : decode cX12_pass 16 = .ok (.iaload, 1) := by decide +kernel
theorem dX12_pass_17 : decode cX12_pass 17 = .ok (.iload_n 1, 1) := by decide +kernel
theorem dX12_pass_18 : decode cX12_pass 18 = .ok (.iadd, 1) := by decide +kernel
theorem dX12_pass_19 : decode cX12_pass 19 = .ok (.sipush 9999, 3) := by decide +kernel
theorem dX12_pass_22 : decode cX12_pass 22 = .ok (.if_icmp .le 10, 3) := by decide +kernel
theorem dX12_pass_25 : decode cX12_pass 25 = .ok (.aload_n 0, 1) := by decide +kernel
theorem dX12_pass_26 : decode cX12_pass 26 = .ok (.bipush 8, 2) := by decide +kernel
theorem dX12_pass_28 : decode cX12_pass 28 = .ok (.invokevirtual 99, 3) := by decide +kernel
theorem dX12_pass_31 : decode cX12_pass 31 = .ok (.ireturn, 1) := by decide +kernel
theorem dX12_pass_32 : decode cX12_pass 32 = .ok (.aload_n 0, 1) := by decide +kernel
theorem dX12_pass_33 : decode cX12_pass 33 = .ok (.invokevirtual 102, 3) := by decide +kernel
theorem dX12_pass_36 : decode cX12_pass 36 = .ok (.aload_n 0, 1) := by decide +kernel
theorem dX12_pass_37 : decode cX12_pass 37 = .ok (.getfield 9, 3) := by decide +kernel
theorem dX12_pass_40 : decode cX12_pass 40 = .ok (.iconst 0, 1) := by decide +kernel
theorem dX12_pass_41 : decode cX12_pass 41 = .ok (.dup2, 1) := by decide +kernel
theorem dX12_pass_42 : decode cX12_pass 42 = .ok (.iaload, 1) := by decide +kernel
theorem dX12_pass_43 : decode cX12_pass 43 = .ok (.iload_n 1, 1) := by decide +kernel
theorem dX12_pass_44 : decode cX12_pass 44 = .ok (.iadd, 1) := by decide +kernel
theorem dX12_pass_45 : decode cX12_pass 45 = .ok (.iastore, 1) := by decide +kernel
theorem dX12_pass_46 : decode cX12_pass 46 = .ok (.iconst 0, 1) := by decide +kernel
theorem dX12_pass_47 : decode cX12_pass 47 = .ok (.istore_n 2, 1) := by decide +kernel
theorem dX12_pass_48 : decode cX12_pass 48 = .ok (.iconst 0, 1) := by decide +kernel
theorem dX12_pass_49 : decode cX12_pass 49 = .ok (.istore_n 3, 1) := by decide +kernel
theorem dX12_pass_50 : decode cX12_pass 50 = .ok (.iload_n 3, 1) := by decide +kernel
theorem dX12_pass_51 : decode cX12_pass 51 = .ok (.bipush 6, 2) := by decide +kernel
theorem dX12_pass_53 : decode cX12_pass 53 = .ok (.if_icmp .ge 52, 3) := by decide +kernel
theorem dX12_pass_56 : decode cX12_pass 56 = .ok (.aload_n 0, 1) := by decide +kernel
theorem dX12_pass_57 : decode cX12_pass 57 = .ok (.iload_n 3, 1) := by decide +kernel
theorem dX12_pass_58 : decode cX12_pass 58 = .ok (.iconst 1, 1) := by decide +kernel
theorem dX12_pass_59 : decode cX12_pass 59 = .ok (.invokevirtual 73, 3) := by decide +kernel
theorem dX12_pass_62 : decode cX12_pass 62 = .ok (.iconst 3, 1) := by decide +kernel
theorem dX12_pass_63 : decode cX12_pass 63 = .ok (.if_icmp .ne 36, 3) := by decide +kernel
theorem dX12_pass_66 : decode cX12_pass 66 = .ok (.aload_n 0, 1) := by decide +kernel
theorem dX12_pass_67 : decode cX12_pass 67 = .ok (.iload_n 3, 1) := by decide +kernel
theorem dX12_pass_68 : decode cX12_pass 68 = .ok (.iconst 2, 1) := by decide +kernel
theorem dX12_pass_69 : decode cX12_pass 69 = .ok (.invokevirtual 73, 3) := by decide +kernel
theorem dX12_pass_72 : decode cX12_pass 72 = .ok (.aload_n 0, 1) := by decide +kernel
theorem dX12_pass_73 : decode cX12_pass 73 = .ok (.getfield 9, 3) := by decide +kernel
theorem dX12_pass_76 : decode cX12_pass 76 = .ok (.iconst 0, 1) := by decide +kernel
theorem dX12_pass_77 : decode cX12_pass 77 = .ok (.iaload, 1) := by decide +kernel
theorem dX12_pass_78 : decode cX12_pass 78 = .ok (.if_icmp .gt 21, 3) := by decide +kernel
theorem dX12_pass_81 : decode cX12_pass 81 = .ok (.aload_n 0, 1) := by decide +kernel
theorem dX12_pass_82 : decode cX12_pass 82 = .ok (.getfield 9, 3) := by decide +kernel
theorem dX12_pass_85 : decode cX12_pass 85 = .ok (.bipush 10, 2) := by decide +kernel
theorem dX12_pass_87 : decode cX12_pass 87 = .ok (.bipush 19, 2) := by decide +kernel
theorem dX12_pass_89 : decode cX12_pass 89 = .ok (.iload_n 3, 1) := by decide +kernel
theorem dX12_pass_90 : decode cX12_pass 90 = .ok (.imul, 1) := by decide +kernel
theorem dX12_pass_91 : decode cX12_pass 91 = .ok (.iadd, 1) := by decide +kernel
theorem dX12_pass_92 : decode cX12_pass 92 = .ok (.iconst 1, 1) := by decide +kernel
theorem dX12_pass_93 : decode cX12_pass 93 = .ok (.iadd, 1) := by decide +kernel
theorem dX12_pass_94 : decode cX12_pass 94 = .ok (.iconst 0, 1) := by decide +kernel
theorem dX12_pass_95 : decode cX12_pass 95 = .ok (.iastore, 1) := by decide +kernel
theorem dX12_pass_96 : decode cX12_pass 96 = .ok (.iinc 2 1, 3) := by decide +kernel
theorem dX12_pass_99 : decode cX12_pass 99 = .ok (.iinc 3 1, 3) := by decide +kernel
theorem dX12_pass_102 : decode cX12_pass 102 = .ok (.goto (-52), 3) := by decide +kernel
theorem dX12_pass_105 : decode cX12_pass 105 = .ok (.iload_n 2, 1) := by decide +kernel
theorem dX12_pass_106 : decode cX12_pass 106 = .ok (.ireturn, 1) := by decide +kernel
theorem dX12_isByte_0 : decode cX12_isByte 0 = .ok (.iload_n 0, 1) := by decide +kernel
theorem dX12_isByte_1 : decode cX12_isByte 1 = .ok (.iconst 0, 1) := by decide +kernel
theorem dX12_isByte_2 : decode cX12_isByte 2 = .ok (.bipush 127, 2) := by decide +kernel
theorem dX12_isByte_4 : decode cX12_isByte 4 = .ok (.invokestatic 69, 3) := by decide +kernel
theorem dX12_isByte_7 : decode cX12_isByte 7 = .ok (.ireturn, 1) := by decide +kernel
theorem dX12_feed_0 : decode cX12_feed 0 = .ok (.iload_n 1, 1) := by decide +kernel
theorem dX12_feed_1 : decode cX12_feed 1 = .ok (.iconst 1, 1) := by decide +kernel
theorem dX12_feed_2 : decode cX12_feed 2 = .ok (.iconst 5, 1) := by decide +kernel
theorem dX12_feed_3 : decode cX12_feed 3 = .ok (.invokestatic 69, 3) := by decide +kernel
theorem dX12_feed_6 : decode cX12_feed 6 = .ok (.ifCond .eq 41, 3) := by decide +kernel
theorem dX12_feed_9 : decode cX12_feed 9 = .ok (.iload_n 2, 1) := by decide +kernel
theorem dX12_feed_10 : decode cX12_feed 10 = .ok (.invokestatic 172, 3) := by decide +kernel
theorem dX12_feed_13 : decode cX12_feed 13 = .ok (.ifCond .eq 34, 3) := by decide +kernel
theorem dX12_feed_16 : decode cX12_feed 16 = .ok (.iload_n 3, 1) := by decide +kernel
theorem dX12_feed_17 : decode cX12_feed 17 = .ok (.invokestatic 172, 3) := by decide +kernel
theorem dX12_feed_20 : decode cX12_feed 20 = .ok (.ifCond .eq 27, 3) := by decide +kernel
theorem dX12_feed_23 : decode cX12_feed 23 = .ok (.iload 4, 2) := by decide +kernel
theorem dX12_feed_25 : decode cX12_feed 25 = .ok (.invokestatic 172, 3) := by decide +kernel
theorem dX12_feed_28 : decode cX12_feed 28 = .ok (.ifCond .eq 19, 3) := by decide +kernel
theorem dX12_feed_31 : decode cX12_feed 31 = .ok (.iload 5, 2) := by decide +kernel
theorem dX12_feed_33 : decode cX12_feed 33 = .ok (.invokestatic 172, 3) := by decide +kernel
theorem dX12_feed_36 : decode cX12_feed 36 = .ok (.ifCond .eq 11, 3) := by decide +kernel
theorem dX12_feed_39 : decode cX12_feed 39 = .ok (.iload 6, 2) := by decide +kernel
theorem dX12_feed_41 : decode cX12_feed 41 = .ok (.invokestatic 172, 3) := by decide +kernel
theorem dX12_feed_44 : decode cX12_feed 44 = .ok (.ifCond .ne 6, 3) := by decide +kernel
theorem dX12_feed_47 : decode cX12_feed 47 = .ok (.bipush (-2), 2) := by decide +kernel
theorem dX12_feed_49 : decode cX12_feed 49 = .ok (.ireturn, 1) := by decide +kernel
theorem dX12_feed_50 : decode cX12_feed 50 = .ok (.aload_n 0, 1) := by decide +kernel
theorem dX12_feed_51 : decode cX12_feed 51 = .ok (.getfield 175, 3) := by decide +kernel
theorem dX12_feed_54 : decode cX12_feed 54 = .ok (.iload_n 1, 1) := by decide +kernel
theorem dX12_feed_55 : decode cX12_feed 55 = .ok (.iadd, 1) := by decide +kernel
theorem dX12_feed_56 : decode cX12_feed 56 = .ok (.bipush 60, 2) := by decide +kernel
theorem dX12_feed_58 : decode cX12_feed 58 = .ok (.if_icmp .le 6, 3) := by decide +kernel
theorem dX12_feed_61 : decode cX12_feed 61 = .ok (.bipush (-4), 2) := by decide +kernel
theorem dX12_feed_63 : decode cX12_feed 63 = .ok (.ireturn, 1) := by decide +kernel
theorem dX12_feed_64 : decode cX12_feed 64 = .ok (.iconst 0, 1) := by decide +kernel
theorem dX12_feed_65 : decode cX12_feed 65 = .ok (.istore 7, 2) := by decide +kernel
theorem dX12_feed_67 : decode cX12_feed 67 = .ok (.iload 7, 2) := by decide +kernel
theorem dX12_feed_69 : decode cX12_feed 69 = .ok (.iload_n 1, 1) := by decide +kernel
theorem dX12_feed_70 : decode cX12_feed 70 = .ok (.if_icmp .ge 71, 3) := by decide +kernel
theorem dX12_feed_73 : decode cX12_feed 73 = .ok (.aload_n 0, 1) := by decide +kernel
theorem dX12_feed_74 : decode cX12_feed 74 = .ok (.getfield 22, 3) := by decide +kernel
theorem dX12_feed_77 : decode cX12_feed 77 = .ok (.aload_n 0, 1) := by decide +kernel
theorem dX12_feed_78 : decode cX12_feed 78 = .ok (.getfield 175, 3) := by decide +kernel
theorem dX12_feed_81 : decode cX12_feed 81 = .ok (.iload 7, 2) := by decide +kernel
theorem dX12_feed_83 : decode cX12_feed 83 = .ok (.ifCond .ne 7, 3) := by decide +kernel
theorem dX12_feed_86 : decode cX12_feed 86 = .ok (.iload_n 2, 1) := by decide +kernel
theorem dX12_feed_87 : decode cX12_feed 87 = .ok (.goto 37, 3) := by decide +kernel
theorem dX12_feed_90 : decode cX12_feed 90 = .ok (.iload 7, 2) := by decide +kernel
theorem dX12_feed_92 : decode cX12_feed 92 = .ok (.iconst 1, 1) := by decide +kernel
theorem dX12_feed_93 : decode cX12_feed 93 = .ok (.if_icmp .ne 7, 3) := by decide +kernel
theorem dX12_feed_96 : decode cX12_feed 96 = .ok (.iload_n 3, 1) := by decide +kernel
theorem dX12_feed_97 : decode cX12_feed 97 = .ok (.goto 27, 3) := by decide +kernel
theorem dX12_feed_100 : decode cX12_feed 100 = .ok (.iload 7, 2) := by decide +kernel
theorem dX12_feed_102 : decode cX12_feed 102 = .ok (.iconst 2, 1) := by decide +kernel
theorem dX12_feed_103 : decode cX12_feed 103 = .ok (.if_icmp .ne 8, 3) := by decide +kernel
theorem dX12_feed_106 : decode cX12_feed 106 = .ok (.iload 4, 2) := by decide +kernel
theorem dX12_feed_108 : decode cX12_feed 108 = .ok (.goto 16, 3) := by decide +kernel
theorem dX12_feed_111 : decode cX12_feed 111 = .ok (.iload 7, 2) := by decide +kernel
theorem dX12_feed_113 : decode cX12_feed 113 = .ok (.iconst 3, 1) := by decide +kernel
theorem dX12_feed_114 : decode cX12_feed 114 = .ok (.if_icmp .ne 8, 3) := by decide +kernel
theorem dX12_feed_117 : decode cX12_feed 117 = .ok (.iload 5, 2) := by decide +kernel
theorem dX12_feed_119 : decode cX12_feed 119 = .ok (.goto 5, 3) := by decide +kernel
theorem dX12_feed_122 : decode cX12_feed 122 = .ok (.iload 6, 2) := by decide +kernel
theorem dX12_feed_124 : decode cX12_feed 124 = .ok (.iastore, 1) := by decide +kernel
theorem dX12_feed_125 : decode cX12_feed 125 = .ok (.aload_n 0, 1) := by decide +kernel
theorem dX12_feed_126 : decode cX12_feed 126 = .ok (.dup, 1) := by decide +kernel
theorem dX12_feed_127 : decode cX12_feed 127 = .ok (.getfield 175, 3) := by decide +kernel
theorem dX12_feed_130 : decode cX12_feed 130 = .ok (.iconst 1, 1) := by decide +kernel
theorem dX12_feed_131 : decode cX12_feed 131 = .ok (.iadd, 1) := by decide +kernel
theorem dX12_feed_132 : decode cX12_feed 132 = .ok (.putfield 175, 3) := by decide +kernel
theorem dX12_feed_135 : decode cX12_feed 135 = .ok (.iinc 7 1, 3) := by decide +kernel
theorem dX12_feed_138 : decode cX12_feed 138 = .ok (.goto (-71), 3) := by decide +kernel
theorem dX12_feed_141 : decode cX12_feed 141 = .ok (.aload_n 0, 1) := by decide +kernel
theorem dX12_feed_142 : decode cX12_feed 142 = .ok (.getfield 175, 3) := by decide +kernel
theorem dX12_feed_145 : decode cX12_feed 145 = .ok (.ireturn, 1) := by decide +kernel
theorem dX12_here_0 : decode cX12_here 0 = .ok (.aload_n 0, 1) := by decide +kernel
theorem dX12_here_1 : decode cX12_here 1 = .ok (.getfield 178, 3) := by decide +kernel
theorem dX12_here_4 : decode cX12_here 4 = .ok (.aload_n 0, 1) := by decide +kernel
theorem dX12_here_5 : decode cX12_here 5 = .ok (.getfield 175, 3) := by decide +kernel
theorem dX12_here_8 : decode cX12_here 8 = .ok (.if_icmp .ge 15, 3) := by decide +kernel
theorem dX12_here_11 : decode cX12_here 11 = .ok (.aload_n 0, 1) := by decide +kernel
theorem dX12_here_12 : decode cX12_here 12 = .ok (.getfield 22, 3) := by decide +kernel
theorem dX12_here_15 : decode cX12_here 15 = .ok (.aload_n 0, 1) := by decide +kernel
theorem dX12_here_16 : decode cX12_here 16 = .ok (.getfield 178, 3) := by decide +kernel
theorem dX12_here_19 : decode cX12_here 19 = .ok (.iaload, 1) := by decide +kernel
theorem dX12_here_20 : decode cX12_here 20 = .ok (.goto 4, 3) := by decide +kernel
theorem dX12_here_23 : decode cX12_here 23 = .ok (.iconst (-1), 1) := by decide +kernel
theorem dX12_here_24 : decode cX12_here 24 = .ok (.ireturn, 1) := by decide +kernel
theorem dX12_reads_0 : decode cX12_reads 0 = .ok (.aload_n 0, 1) := by decide +kernel
theorem dX12_reads_1 : decode cX12_reads 1 = .ok (.dup, 1) := by decide +kernel
theorem dX12_reads_2 : decode cX12_reads 2 = .ok (.getfield 181, 3) := by decide +kernel
theorem dX12_reads_5 : decode cX12_reads 5 = .ok (.aload_n 0, 1) := by decide +kernel
theorem dX12_reads_6 : decode cX12_reads 6 = .ok (.invokevirtual 184, 3) := by decide +kernel
theorem dX12_reads_9 : decode cX12_reads 9 = .ok (.iload_n 1, 1) := by decide +kernel
theorem dX12_reads_10 : decode cX12_reads 10 = .ok (.if_icmp .eq 7, 3) := by decide +kernel
theorem dX12_reads_13 : decode cX12_reads 13 = .ok (.iconst 1, 1) := by decide +kernel
theorem dX12_reads_14 : decode cX12_reads 14 = .ok (.goto 4, 3) := by decide +kernel
theorem dX12_reads_17 : decode cX12_reads 17 = .ok (.iconst 0, 1) := by decide +kernel
theorem dX12_reads_18 : decode cX12_reads 18 = .ok (.ior, 1) := by decide +kernel
theorem dX12_reads_19 : decode cX12_reads 19 = .ok (.putfield 181, 3) := by decide +kernel
theorem dX12_reads_22 : decode cX12_reads 22 = .ok (.aload_n 0, 1) := by decide +kernel
theorem dX12_reads_23 : decode cX12_reads 23 = .ok (.dup, 1) := by decide +kernel
theorem dX12_reads_24 : decode cX12_reads 24 = .ok (.getfield 178, 3) := by decide +kernel
theorem dX12_reads_27 : decode cX12_reads 27 = .ok (.aload_n 0, 1) := by decide +kernel
theorem dX12_reads_28 : decode cX12_reads 28 = .ok (.getfield 181, 3) := by decide +kernel
theorem dX12_reads_31 : decode cX12_reads 31 = .ok (.ifCond .eq 7, 3) := by decide +kernel
theorem dX12_reads_34 : decode cX12_reads 34 = .ok (.iconst 0, 1) := by decide +kernel
theorem dX12_reads_35 : decode cX12_reads 35 = .ok (.goto 4, 3) := by decide +kernel
theorem dX12_reads_38 : decode cX12_reads 38 = .ok (.iconst 1, 1) := by decide +kernel
theorem dX12_reads_39 : decode cX12_reads 39 = .ok (.iadd, 1) := by decide +kernel
theorem dX12_reads_40 : decode cX12_reads 40 = .ok (.putfield 178, 3) := by decide +kernel
theorem dX12_reads_43 : decode cX12_reads 43 = .ok (.return_, 1) := by decide +kernel
theorem dX12_readsDigits_0 : decode cX12_readsDigits 0 = .ok (.aload_n 0, 1) := by decide +kernel
theorem dX12_readsDigits_1 : decode cX12_readsDigits 1 = .ok (.dup, 1) := by decide +kernel
theorem dX12_readsDigits_2 : decode cX12_readsDigits 2 = .ok (.getfield 181, 3) := by decide +kernel
theorem dX12_readsDigits_5 : decode cX12_readsDigits 5 = .ok (.aload_n 0, 1) := by decide +kernel
theorem dX12_readsDigits_6 : decode cX12_readsDigits 6 = .ok (.invokevirtual 184, 3) := by decide +kernel
theorem dX12_readsDigits_9 : decode cX12_readsDigits 9 = .ok (.bipush 48, 2) := by decide +kernel
theorem dX12_readsDigits_11 : decode cX12_readsDigits 11 = .ok (.bipush 57, 2) := by decide +kernel
theorem dX12_readsDigits_13 : decode cX12_readsDigits 13 = .ok (.invokestatic 69, 3) := by decide +kernel
theorem dX12_readsDigits_16 : decode cX12_readsDigits 16 = .ok (.ifCond .ne 7, 3) := by decide +kernel
theorem dX12_readsDigits_19 : decode cX12_readsDigits 19 = .ok (.iconst 1, 1) := by decide +kernel
theorem dX12_readsDigits_20 : decode cX12_readsDigits 20 = .ok (.goto 4, 3) := by decide +kernel
theorem dX12_readsDigits_23 : decode cX12_readsDigits 23 = .ok (.iconst 0, 1) := by decide +kernel
theorem dX12_readsDigits_24 : decode cX12_readsDigits 24 = .ok (.ior, 1) := by decide +kernel
theorem dX12_readsDigits_25 : decode cX12_readsDigits 25 = .ok (.putfield 181, 3) := by decide +kernel
theorem dX12_readsDigits_28 : decode cX12_readsDigits 28 = .ok (.iconst 0, 1) := by decide +kernel
theorem dX12_readsDigits_29 : decode cX12_readsDigits 29 = .ok (.istore_n 2, 1) := by decide +kernel
theorem dX12_readsDigits_30 : decode cX12_readsDigits 30 = .ok (.iconst 0, 1) := by decide +kernel
theorem dX12_readsDigits_31 : decode cX12_readsDigits 31 = .ok (.istore_n 3, 1) := by decide +kernel
theorem dX12_readsDigits_32 : decode cX12_readsDigits 32 = .ok (.aload_n 0, 1) := by decide +kernel
theorem dX12_readsDigits_33 : decode cX12_readsDigits 33 = .ok (.getfield 181, 3) := by decide +kernel
theorem dX12_readsDigits_36 : decode cX12_readsDigits 36 = .ok (.ifCond .ne 51, 3) := by decide +kernel
theorem dX12_readsDigits_39 : decode cX12_readsDigits 39 = .ok (.iload_n 3, 1) := by decide +kernel
theorem dX12_readsDigits_40 : decode cX12_readsDigits 40 = .ok (.iload_n 1, 1) := by decide +kernel
theorem dX12_readsDigits_41 : decode cX12_readsDigits 41 = .ok (.if_icmp .ge 46, 3) := by decide +kernel
theorem dX12_readsDigits_44 : decode cX12_readsDigits 44 = .ok (.aload_n 0, 1) := by decide +kernel
theorem dX12_readsDigits_45 : decode cX12_readsDigits 45 = .ok (.invokevirtual 184, 3) := by decide +kernel
theorem dX12_readsDigits_48 : decode cX12_readsDigits 48 = .ok (.bipush 48, 2) := by decide +kernel
theorem dX12_readsDigits_50 : decode cX12_readsDigits 50 = .ok (.bipush 57, 2) := by decide +kernel
theorem dX12_readsDigits_52 : decode cX12_readsDigits 52 = .ok (.invokestatic 69, 3) := by decide +kernel
theorem dX12_readsDigits_55 : decode cX12_readsDigits 55 = .ok (.ifCond .eq 32, 3) := by decide +kernel
theorem dX12_readsDigits_58 : decode cX12_readsDigits 58 = .ok (.bipush 10, 2) := by decide +kernel
theorem dX12_readsDigits_60 : decode cX12_readsDigits 60 = .ok (.iload_n 2, 1) := by decide +kernel
theorem dX12_readsDigits_61 : decode cX12_readsDigits 61 = .ok (.imul, 1) := by decide +kernel
theorem dX12_readsDigits_62 : decode cX12_readsDigits 62 = .ok (.aload_n 0, 1) := by decide +kernel
theorem dX12_readsDigits_63 : decode cX12_readsDigits 63 = .ok (.invokevirtual 184, 3) := by decide +kernel
theorem dX12_readsDigits_66 : decode cX12_readsDigits 66 = .ok (.iadd, 1) := by decide +kernel
theorem dX12_readsDigits_67 : decode cX12_readsDigits 67 = .ok (.bipush 48, 2) := by decide +kernel
theorem dX12_readsDigits_69 : decode cX12_readsDigits 69 = .ok (.isub, 1) := by decide +kernel
theorem dX12_readsDigits_70 : decode cX12_readsDigits 70 = .ok (.istore_n 2, 1) := by decide +kernel
theorem dX12_readsDigits_71 : decode cX12_readsDigits 71 = .ok (.aload_n 0, 1) := by decide +kernel
theorem dX12_readsDigits_72 : decode cX12_readsDigits 72 = .ok (.dup, 1) := by decide +kernel
theorem dX12_readsDigits_73 : decode cX12_readsDigits 73 = .ok (.getfield 178, 3) := by decide +kernel
theorem dX12_readsDigits_76 : decode cX12_readsDigits 76 = .ok (.iconst 1, 1) := by decide +kernel
theorem dX12_readsDigits_77 : decode cX12_readsDigits 77 = .ok (.iadd, 1) := by decide +kernel
theorem dX12_readsDigits_78 : decode cX12_readsDigits 78 = .ok (.putfield 178, 3) := by decide +kernel
theorem dX12_readsDigits_81 : decode cX12_readsDigits 81 = .ok (.iinc 3 1, 3) := by decide +kernel
theorem dX12_readsDigits_84 : decode cX12_readsDigits 84 = .ok (.goto (-52), 3) := by decide +kernel
theorem dX12_readsDigits_87 : decode cX12_readsDigits 87 = .ok (.iload_n 2, 1) := by decide +kernel
theorem dX12_readsDigits_88 : decode cX12_readsDigits 88 = .ok (.ireturn, 1) := by decide +kernel
theorem dX12_readsCommand_0 : decode cX12_readsCommand 0 = .ok (.aload_n 0, 1) := by decide +kernel
theorem dX12_readsCommand_1 : decode cX12_readsCommand 1 = .ok (.invokevirtual 184, 3) := by decide +kernel
theorem dX12_readsCommand_4 : decode cX12_readsCommand 4 = .ok (.istore_n 2, 1) := by decide +kernel
theorem dX12_readsCommand_5 : decode cX12_readsCommand 5 = .ok (.aload_n 0, 1) := by decide +kernel
theorem dX12_readsCommand_6 : decode cX12_readsCommand 6 = .ok (.iload_n 2, 1) := by decide +kernel
theorem dX12_readsCommand_7 : decode cX12_readsCommand 7 = .ok (.bipush 116, 2) := by decide +kernel
theorem dX12_readsCommand_9 : decode cX12_readsCommand 9 = .ok (.if_icmp .eq 31, 3) := by decide +kernel
theorem dX12_readsCommand_12 : decode cX12_readsCommand 12 = .ok (.iload_n 2, 1) := by decide +kernel
theorem dX12_readsCommand_13 : decode cX12_readsCommand 13 = .ok (.bipush 108, 2) := by decide +kernel
theorem dX12_readsCommand_15 : decode cX12_readsCommand 15 = .ok (.if_icmp .eq 25, 3) := by decide +kernel
theorem dX12_readsCommand_18 : decode cX12_readsCommand 18 = .ok (.iload_n 2, 1) := by decide +kernel
theorem dX12_readsCommand_19 : decode cX12_readsCommand 19 = .ok (.bipush 102, 2) := by decide +kernel
theorem dX12_readsCommand_21 : decode cX12_readsCommand 21 = .ok (.if_icmp .eq 19, 3) := by decide +kernel
theorem dX12_readsCommand_24 : decode cX12_readsCommand 24 = .ok (.iload_n 2, 1) := by decide +kernel
theorem dX12_readsCommand_25 : decode cX12_readsCommand 25 = .ok (.bipush 99, 2) := by decide +kernel
theorem dX12_readsCommand_27 : decode cX12_readsCommand 27 = .ok (.if_icmp .eq 13, 3) := by decide +kernel
theorem dX12_readsCommand_30 : decode cX12_readsCommand 30 = .ok (.iload_n 2, 1) := by decide +kernel
theorem dX12_readsCommand_31 : decode cX12_readsCommand 31 = .ok (.bipush 100, 2) := by decide +kernel
theorem dX12_readsCommand_33 : decode cX12_readsCommand 33 = .ok (.if_icmp .eq 7, 3) := by decide +kernel
theorem dX12_readsCommand_36 : decode cX12_readsCommand 36 = .ok (.iconst 1, 1) := by decide +kernel
theorem dX12_readsCommand_37 : decode cX12_readsCommand 37 = .ok (.goto 4, 3) := by decide +kernel
theorem dX12_readsCommand_40 : decode cX12_readsCommand 40 = .ok (.iconst 0, 1) := by decide +kernel
theorem dX12_readsCommand_41 : decode cX12_readsCommand 41 = .ok (.putfield 181, 3) := by decide +kernel
theorem dX12_readsCommand_44 : decode cX12_readsCommand 44 = .ok (.aload_n 0, 1) := by decide +kernel
theorem dX12_readsCommand_45 : decode cX12_readsCommand 45 = .ok (.getfield 181, 3) := by decide +kernel
theorem dX12_readsCommand_48 : decode cX12_readsCommand 48 = .ok (.ifCond .eq 4, 3) := by decide +kernel
theorem dX12_readsCommand_51 : decode cX12_readsCommand 51 = .ok (.return_, 1) := by decide +kernel
theorem dX12_readsCommand_52 : decode cX12_readsCommand 52 = .ok (.aload_n 0, 1) := by decide +kernel
theorem dX12_readsCommand_53 : decode cX12_readsCommand 53 = .ok (.dup, 1) := by decide +kernel
theorem dX12_readsCommand_54 : decode cX12_readsCommand 54 = .ok (.getfield 178, 3) := by decide +kernel
theorem dX12_readsCommand_57 : decode cX12_readsCommand 57 = .ok (.iconst 1, 1) := by decide +kernel
theorem dX12_readsCommand_58 : decode cX12_readsCommand 58 = .ok (.iadd, 1) := by decide +kernel
theorem dX12_readsCommand_59 : decode cX12_readsCommand 59 = .ok (.putfield 178, 3) := by decide +kernel
theorem dX12_readsCommand_62 : decode cX12_readsCommand 62 = .ok (.aload_n 0, 1) := by decide +kernel
theorem dX12_readsCommand_63 : decode cX12_readsCommand 63 = .ok (.getfield 47, 3) := by decide +kernel
theorem dX12_readsCommand_66 : decode cX12_readsCommand 66 = .ok (.iload_n 1, 1) := by decide +kernel
theorem dX12_readsCommand_67 : decode cX12_readsCommand 67 = .ok (.iload_n 2, 1) := by decide +kernel
theorem dX12_readsCommand_68 : decode cX12_readsCommand 68 = .ok (.iastore, 1) := by decide +kernel
theorem dX12_readsCommand_69 : decode cX12_readsCommand 69 = .ok (.aload_n 0, 1) := by decide +kernel
theorem dX12_readsCommand_70 : decode cX12_readsCommand 70 = .ok (.getfield 47, 3) := by decide +kernel
theorem dX12_readsCommand_73 : decode cX12_readsCommand 73 = .ok (.iload_n 1, 1) := by decide +kernel
theorem dX12_readsCommand_74 : decode cX12_readsCommand 74 = .ok (.iconst 1, 1) := by decide +kernel
theorem dX12_readsCommand_75 : decode cX12_readsCommand 75 = .ok (.iadd, 1) := by decide +kernel
theorem dX12_readsCommand_76 : decode cX12_readsCommand 76 = .ok (.aload_n 0, 1) := by decide +kernel
theorem dX12_readsCommand_77 : decode cX12_readsCommand 77 = .ok (.iload_n 2, 1) := by decide +kernel
theorem dX12_readsCommand_78 : decode cX12_readsCommand 78 = .ok (.bipush 100, 2) := by decide +kernel
theorem dX12_readsCommand_80 : decode cX12_readsCommand 80 = .ok (.if_icmp .ne 7, 3) := by decide +kernel
theorem dX12_readsCommand_83 : decode cX12_readsCommand 83 = .ok (.iconst 4, 1) := by decide +kernel
theorem dX12_readsCommand_84 : decode cX12_readsCommand 84 = .ok (.goto 4, 3) := by decide +kernel
theorem dX12_readsCommand_87 : decode cX12_readsCommand 87 = .ok (.iconst 1, 1) := by decide +kernel
theorem dX12_readsCommand_88 : decode cX12_readsCommand 88 = .ok (.invokevirtual 187, 3) := by decide +kernel
theorem dX12_readsCommand_91 : decode cX12_readsCommand 91 = .ok (.iastore, 1) := by decide +kernel
theorem dX12_readsCommand_92 : decode cX12_readsCommand 92 = .ok (.iload_n 2, 1) := by decide +kernel
theorem dX12_readsCommand_93 : decode cX12_readsCommand 93 = .ok (.bipush 116, 2) := by decide +kernel
theorem dX12_readsCommand_95 : decode cX12_readsCommand 95 = .ok (.if_icmp .ne 44, 3) := by decide +kernel
theorem dX12_readsCommand_98 : decode cX12_readsCommand 98 = .ok (.aload_n 0, 1) := by decide +kernel
theorem dX12_readsCommand_99 : decode cX12_readsCommand 99 = .ok (.bipush 62, 2) := by decide +kernel
theorem dX12_readsCommand_101 : decode cX12_readsCommand 101 = .ok (.invokevirtual 190, 3) := by decide +kernel
theorem dX12_readsCommand_104 : decode cX12_readsCommand 104 = .ok (.aload_n 0, 1) := by decide +kernel
theorem dX12_readsCommand_105 : decode cX12_readsCommand 105 = .ok (.getfield 47, 3) := by decide +kernel
theorem dX12_readsCommand_108 : decode cX12_readsCommand 108 = .ok (.iload_n 1, 1) := by decide +kernel
theorem dX12_readsCommand_109 : decode cX12_readsCommand 109 = .ok (.iconst 2, 1) := by decide +kernel
theorem dX12_readsCommand_110 : decode cX12_readsCommand 110 = .ok (.iadd, 1) := by decide +kernel
theorem dX12_readsCommand_111 : decode cX12_readsCommand 111 = .ok (.aload_n 0, 1) := by decide +kernel
theorem dX12_readsCommand_112 : decode cX12_readsCommand 112 = .ok (.iconst 1, 1) := by decide +kernel
theorem dX12_readsCommand_113 : decode cX12_readsCommand 113 = .ok (.invokevirtual 187, 3) := by decide +kernel
theorem dX12_readsCommand_116 : decode cX12_readsCommand 116 = .ok (.iastore, 1) := by decide +kernel
theorem dX12_readsCommand_117 : decode cX12_readsCommand 117 = .ok (.aload_n 0, 1) := by decide +kernel
theorem dX12_readsCommand_118 : decode cX12_readsCommand 118 = .ok (.bipush 58, 2) := by decide +kernel
theorem dX12_readsCommand_120 : decode cX12_readsCommand 120 = .ok (.invokevirtual 190, 3) := by decide +kernel
theorem dX12_readsCommand_123 : decode cX12_readsCommand 123 = .ok (.aload_n 0, 1) := by decide +kernel
theorem dX12_readsCommand_124 : decode cX12_readsCommand 124 = .ok (.getfield 47, 3) := by decide +kernel
theorem dX12_readsCommand_127 : decode cX12_readsCommand 127 = .ok (.iload_n 1, 1) := by decide +kernel
theorem dX12_readsCommand_128 : decode cX12_readsCommand 128 = .ok (.iconst 3, 1) := by decide +kernel
theorem dX12_readsCommand_129 : decode cX12_readsCommand 129 = .ok (.iadd, 1) := by decide +kernel
theorem dX12_readsCommand_130 : decode cX12_readsCommand 130 = .ok (.aload_n 0, 1) := by decide +kernel
theorem dX12_readsCommand_131 : decode cX12_readsCommand 131 = .ok (.iconst 4, 1) := by decide +kernel
theorem dX12_readsCommand_132 : decode cX12_readsCommand 132 = .ok (.invokevirtual 187, 3) := by decide +kernel
theorem dX12_readsCommand_135 : decode cX12_readsCommand 135 = .ok (.iastore, 1) := by decide +kernel
theorem dX12_readsCommand_136 : decode cX12_readsCommand 136 = .ok (.goto 75, 3) := by decide +kernel
theorem dX12_readsCommand_139 : decode cX12_readsCommand 139 = .ok (.iload_n 2, 1) := by decide +kernel
theorem dX12_readsCommand_140 : decode cX12_readsCommand 140 = .ok (.bipush 108, 2) := by decide +kernel
theorem dX12_readsCommand_142 : decode cX12_readsCommand 142 = .ok (.if_icmp .ne 44, 3) := by decide +kernel
theorem dX12_readsCommand_145 : decode cX12_readsCommand 145 = .ok (.aload_n 0, 1) := by decide +kernel
theorem dX12_readsCommand_146 : decode cX12_readsCommand 146 = .ok (.bipush 58, 2) := by decide +kernel
theorem dX12_readsCommand_148 : decode cX12_readsCommand 148 = .ok (.invokevirtual 190, 3) := by decide +kernel
theorem dX12_readsCommand_151 : decode cX12_readsCommand 151 = .ok (.aload_n 0, 1) := by decide +kernel
theorem dX12_readsCommand_152 : decode cX12_readsCommand 152 = .ok (.getfield 47, 3) := by decide +kernel
theorem dX12_readsCommand_155 : decode cX12_readsCommand 155 = .ok (.iload_n 1, 1) := by decide +kernel
theorem dX12_readsCommand_156 : decode cX12_readsCommand 156 = .ok (.iconst 2, 1) := by decide +kernel
theorem dX12_readsCommand_157 : decode cX12_readsCommand 157 = .ok (.iadd, 1) := by decide +kernel
theorem dX12_readsCommand_158 : decode cX12_readsCommand 158 = .ok (.aload_n 0, 1) := by decide +kernel
theorem dX12_readsCommand_159 : decode cX12_readsCommand 159 = .ok (.iconst 4, 1) := by decide +kernel
theorem dX12_readsCommand_160 : decode cX12_readsCommand 160 = .ok (.invokevirtual 187, 3) := by decide +kernel
theorem dX12_readsCommand_163 : decode cX12_readsCommand 163 = .ok (.iastore, 1) := by decide +kernel
theorem dX12_readsCommand_164 : decode cX12_readsCommand 164 = .ok (.aload_n 0, 1) := by decide +kernel
theorem dX12_readsCommand_165 : decode cX12_readsCommand 165 = .ok (.bipush 47, 2) := by decide +kernel
theorem dX12_readsCommand_167 : decode cX12_readsCommand 167 = .ok (.invokevirtual 190, 3) := by decide +kernel
theorem dX12_readsCommand_170 : decode cX12_readsCommand 170 = .ok (.aload_n 0, 1) := by decide +kernel
theorem dX12_readsCommand_171 : decode cX12_readsCommand 171 = .ok (.getfield 47, 3) := by decide +kernel
theorem dX12_readsCommand_174 : decode cX12_readsCommand 174 = .ok (.iload_n 1, 1) := by decide +kernel
theorem dX12_readsCommand_175 : decode cX12_readsCommand 175 = .ok (.iconst 3, 1) := by decide +kernel
theorem dX12_readsCommand_176 : decode cX12_readsCommand 176 = .ok (.iadd, 1) := by decide +kernel
theorem dX12_readsCommand_177 : decode cX12_readsCommand 177 = .ok (.aload_n 0, 1) := by decide +kernel
theorem dX12_readsCommand_178 : decode cX12_readsCommand 178 = .ok (.iconst 1, 1) := by decide +kernel
theorem dX12_readsCommand_179 : decode cX12_readsCommand 179 = .ok (.invokevirtual 187, 3) := by decide +kernel
theorem dX12_readsCommand_182 : decode cX12_readsCommand 182 = .ok (.iastore, 1) := by decide +kernel
theorem dX12_readsCommand_183 : decode cX12_readsCommand 183 = .ok (.goto 28, 3) := by decide +kernel
theorem dX12_readsCommand_186 : decode cX12_readsCommand 186 = .ok (.iload_n 2, 1) := by decide +kernel
theorem dX12_readsCommand_187 : decode cX12_readsCommand 187 = .ok (.bipush 102, 2) := by decide +kernel
theorem dX12_readsCommand_189 : decode cX12_readsCommand 189 = .ok (.if_icmp .ne 22, 3) := by decide +kernel
theorem dX12_readsCommand_192 : decode cX12_readsCommand 192 = .ok (.aload_n 0, 1) := by decide +kernel
theorem dX12_readsCommand_193 : decode cX12_readsCommand 193 = .ok (.bipush 35, 2) := by decide +kernel
theorem dX12_readsCommand_195 : decode cX12_readsCommand 195 = .ok (.invokevirtual 190, 3) := by decide +kernel
theorem dX12_readsCommand_198 : decode cX12_readsCommand 198 = .ok (.aload_n 0, 1) := by decide +kernel
theorem dX12_readsCommand_199 : decode cX12_readsCommand 199 = .ok (.getfield 47, 3) := by decide +kernel
theorem dX12_readsCommand_202 : decode cX12_readsCommand 202 = .ok (.iload_n 1, 1) := by decide +kernel
theorem dX12_readsCommand_203 : decode cX12_readsCommand 203 = .ok (.iconst 2, 1) := by decide +kernel
theorem dX12_readsCommand_204 : decode cX12_readsCommand 204 = .ok (.iadd, 1) := by decide +kernel
theorem dX12_readsCommand_205 : decode cX12_readsCommand 205 = .ok (.aload_n 0, 1) := by decide +kernel
theorem dX12_readsCommand_206 : decode cX12_readsCommand 206 = .ok (.iconst 4, 1) := by decide +kernel
theorem dX12_readsCommand_207 : decode cX12_readsCommand 207 = .ok (.invokevirtual 187, 3) := by decide +kernel
theorem dX12_readsCommand_210 : decode cX12_readsCommand 210 = .ok (.iastore, 1) := by decide +kernel
theorem dX12_readsCommand_211 : decode cX12_readsCommand 211 = .ok (.return_, 1) := by decide +kernel
theorem dX12_does_0 : decode cX12_does 0 = .ok (.aload_n 0, 1) := by decide +kernel
theorem dX12_does_1 : decode cX12_does 1 = .ok (.getfield 47, 3) := by decide +kernel
theorem dX12_does_4 : decode cX12_does 4 = .ok (.iload_n 1, 1) := by decide +kernel
theorem dX12_does_5 : decode cX12_does 5 = .ok (.iconst 1, 1) := by decide +kernel
theorem dX12_does_6 : decode cX12_does 6 = .ok (.iadd, 1) := by decide +kernel
theorem dX12_does_7 : decode cX12_does 7 = .ok (.iaload, 1) := by decide +kernel
theorem dX12_does_8 : decode cX12_does 8 = .ok (.istore_n 2, 1) := by decide +kernel
theorem dX12_does_9 : decode cX12_does 9 = .ok (.aload_n 0, 1) := by decide +kernel
theorem dX12_does_10 : decode cX12_does 10 = .ok (.getfield 47, 3) := by decide +kernel
theorem dX12_does_13 : decode cX12_does 13 = .ok (.iload_n 1, 1) := by decide +kernel
theorem dX12_does_14 : decode cX12_does 14 = .ok (.iconst 2, 1) := by decide +kernel
theorem dX12_does_15 : decode cX12_does 15 = .ok (.iadd, 1) := by decide +kernel
theorem dX12_does_16 : decode cX12_does 16 = .ok (.iaload, 1) := by decide +kernel
theorem dX12_does_17 : decode cX12_does 17 = .ok (.istore_n 3, 1) := by decide +kernel
theorem dX12_does_18 : decode cX12_does 18 = .ok (.aload_n 0, 1) := by decide +kernel
theorem dX12_does_19 : decode cX12_does 19 = .ok (.getfield 47, 3) := by decide +kernel
theorem dX12_does_22 : decode cX12_does 22 = .ok (.iload_n 1, 1) := by decide +kernel
theorem dX12_does_23 : decode cX12_does 23 = .ok (.iconst 3, 1) := by decide +kernel
theorem dX12_does_24 : decode cX12_does 24 = .ok (.iadd, 1) := by decide +kernel
theorem dX12_does_25 : decode cX12_does 25 = .ok (.iaload, 1) := by decide +kernel
theorem dX12_does_26 : decode cX12_does 26 = .ok (.istore 4, 2) := by decide +kernel
theorem dX12_does_28 : decode cX12_does 28 = .ok (.aload_n 0, 1) := by decide +kernel
theorem dX12_does_29 : decode cX12_does 29 = .ok (.getfield 47, 3) := by decide +kernel
theorem dX12_does_32 : decode cX12_does 32 = .ok (.iload_n 1, 1) := by decide +kernel
theorem dX12_does_33 : decode cX12_does 33 = .ok (.iaload, 1) := by decide +kernel
theorem dX12_does_34 : decode cX12_does 34 = .ok (.lookupswitch 73 #[(99, 67), (102, 60), (108, 51), (116, 42)], 42) := by decide +kernel
theorem dX12_does_76 : decode cX12_does 76 = .ok (.aload_n 0, 1) := by decide +kernel
theorem dX12_does_77 : decode cX12_does 77 = .ok (.iload_n 2, 1) := by decide +kernel
theorem dX12_does_78 : decode cX12_does 78 = .ok (.iload_n 3, 1) := by decide +kernel
theorem dX12_does_79 : decode cX12_does 79 = .ok (.iload 4, 2) := by decide +kernel
theorem dX12_does_81 : decode cX12_does 81 = .ok (.invokevirtual 194, 3) := by decide +kernel
theorem dX12_does_84 : decode cX12_does 84 = .ok (.ireturn, 1) := by decide +kernel
theorem dX12_does_85 : decode cX12_does 85 = .ok (.aload_n 0, 1) := by decide +kernel
theorem dX12_does_86 : decode cX12_does 86 = .ok (.iload_n 2, 1) := by decide +kernel
theorem dX12_does_87 : decode cX12_does 87 = .ok (.iload_n 3, 1) := by decide +kernel
theorem dX12_does_88 : decode cX12_does 88 = .ok (.iload 4, 2) := by decide +kernel
theorem dX12_does_90 : decode cX12_does 90 = .ok (.invokevirtual 197, 3) := by decide +kernel
theorem dX12_does_93 : decode cX12_does 93 = .ok (.ireturn, 1) := by decide +kernel
theorem dX12_does_94 : decode cX12_does 94 = .ok (.aload_n 0, 1) := by decide +kernel
theorem dX12_does_95 : decode cX12_does 95 = .ok (.iload_n 2, 1) := by decide +kernel
theorem dX12_does_96 : decode cX12_does 96 = .ok (.iload_n 3, 1) := by decide +kernel
theorem dX12_does_97 : decode cX12_does 97 = .ok (.invokevirtual 200, 3) := by decide +kernel
theorem dX12_does_100 : decode cX12_does 100 = .ok (.ireturn, 1) := by decide +kernel
theorem dX12_does_101 : decode cX12_does 101 = .ok (.aload_n 0, 1) := by decide +kernel
theorem dX12_does_102 : decode cX12_does 102 = .ok (.iload_n 2, 1) := by decide +kernel
theorem dX12_does_103 : decode cX12_does 103 = .ok (.invokevirtual 203, 3) := by decide +kernel
theorem dX12_does_106 : decode cX12_does 106 = .ok (.ireturn, 1) := by decide +kernel
theorem dX12_does_107 : decode cX12_does 107 = .ok (.aload_n 0, 1) := by decide +kernel
theorem dX12_does_108 : decode cX12_does 108 = .ok (.iload_n 2, 1) := by decide +kernel
theorem dX12_does_109 : decode cX12_does 109 = .ok (.invokevirtual 206, 3) := by decide +kernel
theorem dX12_does_112 : decode cX12_does 112 = .ok (.ireturn, 1) := by decide +kernel
theorem dX12_run_0 : decode cX12_run 0 = .ok (.aload_n 0, 1) := by decide +kernel
theorem dX12_run_1 : decode cX12_run 1 = .ok (.iconst 0, 1) := by decide +kernel
theorem dX12_run_2 : decode cX12_run 2 = .ok (.putfield 178, 3) := by decide +kernel
theorem dX12_run_5 : decode cX12_run 5 = .ok (.aload_n 0, 1) := by decide +kernel
theorem dX12_run_6 : decode cX12_run 6 = .ok (.iconst 0, 1) := by decide +kernel
theorem dX12_run_7 : decode cX12_run 7 = .ok (.invokevirtual 209, 3) := by decide +kernel
theorem dX12_run_10 : decode cX12_run 10 = .ok (.iconst 1, 1) := by decide +kernel
theorem dX12_run_11 : decode cX12_run 11 = .ok (.istore_n 1, 1) := by decide +kernel
theorem dX12_run_12 : decode cX12_run 12 = .ok (.aload_n 0, 1) := by decide +kernel
theorem dX12_run_13 : decode cX12_run 13 = .ok (.getfield 181, 3) := by decide +kernel
theorem dX12_run_16 : decode cX12_run 16 = .ok (.ifCond .ne 35, 3) := by decide +kernel
theorem dX12_run_19 : decode cX12_run 19 = .ok (.aload_n 0, 1) := by decide +kernel
theorem dX12_run_20 : decode cX12_run 20 = .ok (.invokevirtual 184, 3) := by decide +kernel
theorem dX12_run_23 : decode cX12_run 23 = .ok (.bipush 59, 2) := by decide +kernel
theorem dX12_run_25 : decode cX12_run 25 = .ok (.if_icmp .ne 26, 3) := by decide +kernel
theorem dX12_run_28 : decode cX12_run 28 = .ok (.aload_n 0, 1) := by decide +kernel
theorem dX12_run_29 : decode cX12_run 29 = .ok (.dup, 1) := by decide +kernel
theorem dX12_run_30 : decode cX12_run 30 = .ok (.getfield 178, 3) := by decide +kernel
theorem dX12_run_33 : decode cX12_run 33 = .ok (.iconst 1, 1) := by decide +kernel
theorem dX12_run_34 : decode cX12_run 34 = .ok (.iadd, 1) := by decide +kernel
theorem dX12_run_35 : decode cX12_run 35 = .ok (.putfield 178, 3) := by decide +kernel
theorem dX12_run_38 : decode cX12_run 38 = .ok (.aload_n 0, 1) := by decide +kernel
theorem dX12_run_39 : decode cX12_run 39 = .ok (.iconst 4, 1) := by decide +kernel
theorem dX12_run_40 : decode cX12_run 40 = .ok (.iload_n 1, 1) := by decide +kernel
theorem dX12_run_41 : decode cX12_run 41 = .ok (.imul, 1) := by decide +kernel
theorem dX12_run_42 : decode cX12_run 42 = .ok (.invokevirtual 209, 3) := by decide +kernel
theorem dX12_run_45 : decode cX12_run 45 = .ok (.iinc 1 1, 3) := by decide +kernel
theorem dX12_run_48 : decode cX12_run 48 = .ok (.goto (-36), 3) := by decide +kernel
theorem dX12_run_51 : decode cX12_run 51 = .ok (.aload_n 0, 1) := by decide +kernel
theorem dX12_run_52 : decode cX12_run 52 = .ok (.dup, 1) := by decide +kernel
theorem dX12_run_53 : decode cX12_run 53 = .ok (.getfield 181, 3) := by decide +kernel
theorem dX12_run_56 : decode cX12_run 56 = .ok (.aload_n 0, 1) := by decide +kernel
theorem dX12_run_57 : decode cX12_run 57 = .ok (.getfield 178, 3) := by decide +kernel
theorem dX12_run_60 : decode cX12_run 60 = .ok (.aload_n 0, 1) := by decide +kernel
theorem dX12_run_61 : decode cX12_run 61 = .ok (.getfield 175, 3) := by decide +kernel
theorem dX12_run_64 : decode cX12_run 64 = .ok (.if_icmp .ge 7, 3) := by decide +kernel
theorem dX12_run_67 : decode cX12_run 67 = .ok (.iconst 1, 1) := by decide +kernel
theorem dX12_run_68 : decode cX12_run 68 = .ok (.goto 4, 3) := by decide +kernel
theorem dX12_run_71 : decode cX12_run 71 = .ok (.iconst 0, 1) := by decide +kernel
theorem dX12_run_72 : decode cX12_run 72 = .ok (.ior, 1) := by decide +kernel
theorem dX12_run_73 : decode cX12_run 73 = .ok (.putfield 181, 3) := by decide +kernel
theorem dX12_run_76 : decode cX12_run 76 = .ok (.aload_n 0, 1) := by decide +kernel
theorem dX12_run_77 : decode cX12_run 77 = .ok (.iconst 0, 1) := by decide +kernel
theorem dX12_run_78 : decode cX12_run 78 = .ok (.putfield 175, 3) := by decide +kernel
theorem dX12_run_81 : decode cX12_run 81 = .ok (.aload_n 0, 1) := by decide +kernel
theorem dX12_run_82 : decode cX12_run 82 = .ok (.getfield 181, 3) := by decide +kernel
theorem dX12_run_85 : decode cX12_run 85 = .ok (.ifCond .eq 11, 3) := by decide +kernel
theorem dX12_run_88 : decode cX12_run 88 = .ok (.bipush (-100), 2) := by decide +kernel
theorem dX12_run_90 : decode cX12_run 90 = .ok (.aload_n 0, 1) := by decide +kernel
theorem dX12_run_91 : decode cX12_run 91 = .ok (.getfield 178, 3) := by decide +kernel
theorem dX12_run_94 : decode cX12_run 94 = .ok (.isub, 1) := by decide +kernel
theorem dX12_run_95 : decode cX12_run 95 = .ok (.ireturn, 1) := by decide +kernel
theorem dX12_run_96 : decode cX12_run 96 = .ok (.aload_n 0, 1) := by decide +kernel
theorem dX12_run_97 : decode cX12_run 97 = .ok (.getfield 9, 3) := by decide +kernel
theorem dX12_run_100 : decode cX12_run 100 = .ok (.iconst 0, 1) := by decide +kernel
theorem dX12_run_101 : decode cX12_run 101 = .ok (.aload_n 0, 1) := by decide +kernel
theorem dX12_run_102 : decode cX12_run 102 = .ok (.getfield 19, 3) := by decide +kernel
theorem dX12_run_105 : decode cX12_run 105 = .ok (.iconst 0, 1) := by decide +kernel
theorem dX12_run_106 : decode cX12_run 106 = .ok (.invokestatic 57, 3) := by decide +kernel
theorem dX12_run_109 : decode cX12_run 109 = .ok (.aload_n 0, 1) := by decide +kernel
theorem dX12_run_110 : decode cX12_run 110 = .ok (.iconst 1, 1) := by decide +kernel
theorem dX12_run_111 : decode cX12_run 111 = .ok (.putfield 61, 3) := by decide +kernel
theorem dX12_run_114 : decode cX12_run 114 = .ok (.iconst (-1), 1) := by decide +kernel
theorem dX12_run_115 : decode cX12_run 115 = .ok (.istore_n 2, 1) := by decide +kernel
theorem dX12_run_116 : decode cX12_run 116 = .ok (.iconst 0, 1) := by decide +kernel
theorem dX12_run_117 : decode cX12_run 117 = .ok (.istore_n 3, 1) := by decide +kernel
theorem dX12_run_118 : decode cX12_run 118 = .ok (.iload_n 3, 1) := by decide +kernel
theorem dX12_run_119 : decode cX12_run 119 = .ok (.iload_n 1, 1) := by decide +kernel
theorem dX12_run_120 : decode cX12_run 120 = .ok (.if_icmp .ge 32, 3) := by decide +kernel
theorem dX12_run_123 : decode cX12_run 123 = .ok (.iload_n 2, 1) := by decide +kernel
theorem dX12_run_124 : decode cX12_run 124 = .ok (.iconst (-1), 1) := by decide +kernel
theorem dX12_run_125 : decode cX12_run 125 = .ok (.if_icmp .ne 27, 3) := by decide +kernel
theorem dX12_run_128 : decode cX12_run 128 = .ok (.aload_n 0, 1) := by decide +kernel
theorem dX12_run_129 : decode cX12_run 129 = .ok (.iconst 4, 1) := by decide +kernel
theorem dX12_run_130 : decode cX12_run 130 = .ok (.iload_n 3, 1) := by decide +kernel
theorem dX12_run_131 : decode cX12_run 131 = .ok (.imul, 1) := by decide +kernel
theorem dX12_run_132 : decode cX12_run 132 = .ok (.invokevirtual 212, 3) := by decide +kernel
theorem dX12_run_135 : decode cX12_run 135 = .ok (.bipush (-3), 2) := by decide +kernel
theorem dX12_run_137 : decode cX12_run 137 = .ok (.if_icmp .ne 7, 3) := by decide +kernel
theorem dX12_run_140 : decode cX12_run 140 = .ok (.iload_n 3, 1) := by decide +kernel
theorem dX12_run_141 : decode cX12_run 141 = .ok (.goto 4, 3) := by decide +kernel
theorem dX12_run_144 : decode cX12_run 144 = .ok (.iconst (-1), 1) := by decide +kernel
theorem dX12_run_145 : decode cX12_run 145 = .ok (.istore_n 2, 1) := by decide +kernel
theorem dX12_run_146 : decode cX12_run 146 = .ok (.iinc 3 1, 3) := by decide +kernel
theorem dX12_run_149 : decode cX12_run 149 = .ok (.goto (-31), 3) := by decide +kernel
theorem dX12_run_152 : decode cX12_run 152 = .ok (.aload_n 0, 1) := by decide +kernel
theorem dX12_run_153 : decode cX12_run 153 = .ok (.iconst 0, 1) := by decide +kernel
theorem dX12_run_154 : decode cX12_run 154 = .ok (.putfield 61, 3) := by decide +kernel
theorem dX12_run_157 : decode cX12_run 157 = .ok (.iload_n 2, 1) := by decide +kernel
theorem dX12_run_158 : decode cX12_run 158 = .ok (.iconst (-1), 1) := by decide +kernel
theorem dX12_run_159 : decode cX12_run 159 = .ok (.if_icmp .eq 22, 3) := by decide +kernel
theorem dX12_run_162 : decode cX12_run 162 = .ok (.aload_n 0, 1) := by decide +kernel
theorem dX12_run_163 : decode cX12_run 163 = .ok (.getfield 19, 3) := by decide +kernel
theorem dX12_run_166 : decode cX12_run 166 = .ok (.iconst 0, 1) := by decide +kernel
theorem dX12_run_167 : decode cX12_run 167 = .ok (.aload_n 0, 1) := by decide +kernel
theorem dX12_run_168 : decode cX12_run 168 = .ok (.getfield 9, 3) := by decide +kernel
theorem dX12_run_171 : decode cX12_run 171 = .ok (.iconst 0, 1) := by decide +kernel
theorem dX12_run_172 : decode cX12_run 172 = .ok (.invokestatic 57, 3) := by decide +kernel
theorem dX12_run_175 : decode cX12_run 175 = .ok (.sipush (-200), 3) := by decide +kernel
theorem dX12_run_178 : decode cX12_run 178 = .ok (.iload_n 2, 1) := by decide +kernel
theorem dX12_run_179 : decode cX12_run 179 = .ok (.isub, 1) := by decide +kernel
theorem dX12_run_180 : decode cX12_run 180 = .ok (.ireturn, 1) := by decide +kernel
theorem dX12_run_181 : decode cX12_run 181 = .ok (.aload_n 0, 1) := by decide +kernel
theorem dX12_run_182 : decode cX12_run 182 = .ok (.aload_n 0, 1) := by decide +kernel
theorem dX12_run_183 : decode cX12_run 183 = .ok (.getfield 19, 3) := by decide +kernel
theorem dX12_run_186 : decode cX12_run 186 = .ok (.invokevirtual 65, 3) := by decide +kernel
theorem dX12_run_189 : decode cX12_run 189 = .ok (.iload_n 1, 1) := by decide +kernel
theorem dX12_run_190 : decode cX12_run 190 = .ok (.ireturn, 1) := by decide +kernel
theorem dX12_reason_0 : decode cX12_reason 0 = .ok (.aload_n 0, 1) := by decide +kernel
theorem dX12_reason_1 : decode cX12_reason 1 = .ok (.getfield 50, 3) := by decide +kernel
theorem dX12_reason_4 : decode cX12_reason 4 = .ok (.ifCond .ne 8, 3) := by decide +kernel
theorem dX12_reason_7 : decode cX12_reason 7 = .ok (.bipush (-5), 2) := by decide +kernel
theorem dX12_reason_9 : decode cX12_reason 9 = .ok (.goto 7, 3) := by decide +kernel
theorem dX12_reason_12 : decode cX12_reason 12 = .ok (.aload_n 0, 1) := by decide +kernel
theorem dX12_reason_13 : decode cX12_reason 13 = .ok (.getfield 50, 3) := by decide +kernel
theorem dX12_reason_16 : decode cX12_reason 16 = .ok (.ireturn, 1) := by decide +kernel
theorem dX12_ofTank_0 : decode cX12_ofTank 0 = .ok (.iload_n 1, 1) := by decide +kernel
theorem dX12_ofTank_1 : decode cX12_ofTank 1 = .ok (.invokestatic 95, 3) := by decide +kernel
theorem dX12_ofTank_4 : decode cX12_ofTank 4 = .ok (.ifCond .eq 13, 3) := by decide +kernel
theorem dX12_ofTank_7 : decode cX12_ofTank 7 = .ok (.iload_n 2, 1) := by decide +kernel
theorem dX12_ofTank_8 : decode cX12_ofTank 8 = .ok (.iconst 0, 1) := by decide +kernel
theorem dX12_ofTank_9 : decode cX12_ofTank 9 = .ok (.bipush 6, 2) := by decide +kernel
theorem dX12_ofTank_11 : decode cX12_ofTank 11 = .ok (.invokestatic 69, 3) := by decide +kernel
theorem dX12_ofTank_14 : decode cX12_ofTank 14 = .ok (.ifCond .ne 5, 3) := by decide +kernel
theorem dX12_ofTank_17 : decode cX12_ofTank 17 = .ok (.iconst (-1), 1) := by decide +kernel
theorem dX12_ofTank_18 : decode cX12_ofTank 18 = .ok (.ireturn, 1) := by decide +kernel
theorem dX12_ofTank_19 : decode cX12_ofTank 19 = .ok (.aload_n 0, 1) := by decide +kernel
theorem dX12_ofTank_20 : decode cX12_ofTank 20 = .ok (.iload_n 1, 1) := by decide +kernel
theorem dX12_ofTank_21 : decode cX12_ofTank 21 = .ok (.invokevirtual 105, 3) := by decide +kernel
theorem dX12_ofTank_24 : decode cX12_ofTank 24 = .ok (.aload_n 0, 1) := by decide +kernel
theorem dX12_ofTank_25 : decode cX12_ofTank 25 = .ok (.getfield 25, 3) := by decide +kernel
theorem dX12_ofTank_28 : decode cX12_ofTank 28 = .ok (.invokestatic 84, 3) := by decide +kernel
theorem dX12_ofTank_31 : decode cX12_ofTank 31 = .ok (.istore_n 3, 1) := by decide +kernel
theorem dX12_ofTank_32 : decode cX12_ofTank 32 = .ok (.iload_n 2, 1) := by decide +kernel
theorem dX12_ofTank_33 : decode cX12_ofTank 33 = .ok (.tableswitch 133 0 5 #[39, 46, 48, 55, 69, 91], 39) := by decide +kernel
theorem dX12_ofTank_72 : decode cX12_ofTank 72 = .ok (.aload_n 0, 1) := by decide +kernel
theorem dX12_ofTank_73 : decode cX12_ofTank 73 = .ok (.iload_n 1, 1) := by decide +kernel
theorem dX12_ofTank_74 : decode cX12_ofTank 74 = .ok (.iconst 0, 1) := by decide +kernel
theorem dX12_ofTank_75 : decode cX12_ofTank 75 = .ok (.invokevirtual 73, 3) := by decide +kernel
theorem dX12_ofTank_78 : decode cX12_ofTank 78 = .ok (.ireturn, 1) := by decide +kernel
theorem dX12_ofTank_79 : decode cX12_ofTank 79 = .ok (.iload_n 3, 1) := by decide +kernel
theorem dX12_ofTank_80 : decode cX12_ofTank 80 = .ok (.ireturn, 1) := by decide +kernel
theorem dX12_ofTank_81 : decode cX12_ofTank 81 = .ok (.aload_n 0, 1) := by decide +kernel
theorem dX12_ofTank_82 : decode cX12_ofTank 82 = .ok (.iload_n 1, 1) := by decide +kernel
theorem dX12_ofTank_83 : decode cX12_ofTank 83 = .ok (.iconst 1, 1) := by decide +kernel
theorem dX12_ofTank_84 : decode cX12_ofTank 84 = .ok (.invokevirtual 73, 3) := by decide +kernel
theorem dX12_ofTank_87 : decode cX12_ofTank 87 = .ok (.ireturn, 1) := by decide +kernel
theorem dX12_ofTank_88 : decode cX12_ofTank 88 = .ok (.iload_n 3, 1) := by decide +kernel
theorem dX12_ofTank_89 : decode cX12_ofTank 89 = .ok (.ifCond .ne 8, 3) := by decide +kernel
theorem dX12_ofTank_92 : decode cX12_ofTank 92 = .ok (.bipush (-5), 2) := by decide +kernel
theorem dX12_ofTank_94 : decode cX12_ofTank 94 = .ok (.goto 7, 3) := by decide +kernel
theorem dX12_ofTank_97 : decode cX12_ofTank 97 = .ok (.aload_n 0, 1) := by decide +kernel
theorem dX12_ofTank_98 : decode cX12_ofTank 98 = .ok (.invokevirtual 139, 3) := by decide +kernel
theorem dX12_ofTank_101 : decode cX12_ofTank 101 = .ok (.ireturn, 1) := by decide +kernel
theorem dX12_ofTank_102 : decode cX12_ofTank 102 = .ok (.aload_n 0, 1) := by decide +kernel
theorem dX12_ofTank_103 : decode cX12_ofTank 103 = .ok (.iload_n 1, 1) := by decide +kernel
theorem dX12_ofTank_104 : decode cX12_ofTank 104 = .ok (.iconst 1, 1) := by decide +kernel
theorem dX12_ofTank_105 : decode cX12_ofTank 105 = .ok (.invokevirtual 73, 3) := by decide +kernel
theorem dX12_ofTank_108 : decode cX12_ofTank 108 = .ok (.iconst 3, 1) := by decide +kernel
theorem dX12_ofTank_109 : decode cX12_ofTank 109 = .ok (.if_icmp .ne 12, 3) := by decide +kernel
theorem dX12_ofTank_112 : decode cX12_ofTank 112 = .ok (.aload_n 0, 1) := by decide +kernel
theorem dX12_ofTank_113 : decode cX12_ofTank 113 = .ok (.iload_n 1, 1) := by decide +kernel
theorem dX12_ofTank_114 : decode cX12_ofTank 114 = .ok (.iconst 2, 1) := by decide +kernel
theorem dX12_ofTank_115 : decode cX12_ofTank 115 = .ok (.invokevirtual 73, 3) := by decide +kernel
theorem dX12_ofTank_118 : decode cX12_ofTank 118 = .ok (.goto 5, 3) := by decide +kernel
theorem dX12_ofTank_121 : decode cX12_ofTank 121 = .ok (.bipush (-5), 2) := by decide +kernel
theorem dX12_ofTank_123 : decode cX12_ofTank 123 = .ok (.ireturn, 1) := by decide +kernel
theorem dX12_ofTank_124 : decode cX12_ofTank 124 = .ok (.iconst 0, 1) := by decide +kernel
theorem dX12_ofTank_125 : decode cX12_ofTank 125 = .ok (.istore 4, 2) := by decide +kernel
theorem dX12_ofTank_127 : decode cX12_ofTank 127 = .ok (.iconst 0, 1) := by decide +kernel
theorem dX12_ofTank_128 : decode cX12_ofTank 128 = .ok (.istore 5, 2) := by decide +kernel
theorem dX12_ofTank_130 : decode cX12_ofTank 130 = .ok (.iload 5, 2) := by decide +kernel
theorem dX12_ofTank_132 : decode cX12_ofTank 132 = .ok (.bipush 16, 2) := by decide +kernel
theorem dX12_ofTank_134 : decode cX12_ofTank 134 = .ok (.if_icmp .ge 29, 3) := by decide +kernel
theorem dX12_ofTank_137 : decode cX12_ofTank 137 = .ok (.iload 4, 2) := by decide +kernel
theorem dX12_ofTank_139 : decode cX12_ofTank 139 = .ok (.aload_n 0, 1) := by decide +kernel
theorem dX12_ofTank_140 : decode cX12_ofTank 140 = .ok (.getfield 25, 3) := by decide +kernel
theorem dX12_ofTank_143 : decode cX12_ofTank 143 = .ok (.iload 5, 2) := by decide +kernel
theorem dX12_ofTank_145 : decode cX12_ofTank 145 = .ok (.iaload, 1) := by decide +kernel
theorem dX12_ofTank_146 : decode cX12_ofTank 146 = .ok (.ifCond .le 7, 3) := by decide +kernel
theorem dX12_ofTank_149 : decode cX12_ofTank 149 = .ok (.iconst 1, 1) := by decide +kernel
theorem dX12_ofTank_150 : decode cX12_ofTank 150 = .ok (.goto 4, 3) := by decide +kernel
theorem dX12_ofTank_153 : decode cX12_ofTank 153 = .ok (.iconst 0, 1) := by decide +kernel
theorem dX12_ofTank_154 : decode cX12_ofTank 154 = .ok (.iadd, 1) := by decide +kernel
theorem dX12_ofTank_155 : decode cX12_ofTank 155 = .ok (.istore 4, 2) := by decide +kernel
theorem dX12_ofTank_157 : decode cX12_ofTank 157 = .ok (.iinc 5 1, 3) := by decide +kernel
theorem dX12_ofTank_160 : decode cX12_ofTank 160 = .ok (.goto (-30), 3) := by decide +kernel
theorem dX12_ofTank_163 : decode cX12_ofTank 163 = .ok (.iload 4, 2) := by decide +kernel
theorem dX12_ofTank_165 : decode cX12_ofTank 165 = .ok (.ireturn, 1) := by decide +kernel
theorem dX12_ofTank_166 : decode cX12_ofTank 166 = .ok (.aload_n 0, 1) := by decide +kernel
theorem dX12_ofTank_167 : decode cX12_ofTank 167 = .ok (.iload_n 1, 1) := by decide +kernel
theorem dX12_ofTank_168 : decode cX12_ofTank 168 = .ok (.iconst 0, 1) := by decide +kernel
theorem dX12_ofTank_169 : decode cX12_ofTank 169 = .ok (.invokevirtual 73, 3) := by decide +kernel
theorem dX12_ofTank_172 : decode cX12_ofTank 172 = .ok (.iload_n 3, 1) := by decide +kernel
theorem dX12_ofTank_173 : decode cX12_ofTank 173 = .ok (.isub, 1) := by decide +kernel
theorem dX12_ofTank_174 : decode cX12_ofTank 174 = .ok (.ireturn, 1) := by decide +kernel
theorem dX12_litres_0 : decode cX12_litres 0 = .ok (.iload_n 1, 1) := by decide +kernel
theorem dX12_litres_1 : decode cX12_litres 1 = .ok (.invokestatic 95, 3) := by decide +kernel
theorem dX12_litres_4 : decode cX12_litres 4 = .ok (.ifCond .eq 28, 3) := by decide +kernel
theorem dX12_litres_7 : decode cX12_litres 7 = .ok (.iload_n 2, 1) := by decide +kernel
theorem dX12_litres_8 : decode cX12_litres 8 = .ok (.iconst 0, 1) := by decide +kernel
theorem dX12_litres_9 : decode cX12_litres 9 = .ok (.aload_n 0, 1) := by decide +kernel
theorem dX12_litres_10 : decode cX12_litres 10 = .ok (.getfield 9, 3) := by decide +kernel
theorem dX12_litres_13 : decode cX12_litres 13 = .ok (.iconst 1, 1) := by decide +kernel
theorem dX12_litres_14 : decode cX12_litres 14 = .ok (.iaload, 1) := by decide +kernel
theorem dX12_litres_15 : decode cX12_litres 15 = .ok (.iconst 1, 1) := by decide +kernel
theorem dX12_litres_16 : decode cX12_litres 16 = .ok (.isub, 1) := by decide +kernel
theorem dX12_litres_17 : decode cX12_litres 17 = .ok (.invokestatic 69, 3) := by decide +kernel
theorem dX12_litres_20 : decode cX12_litres 20 = .ok (.ifCond .eq 12, 3) := by decide +kernel
theorem dX12_litres_23 : decode cX12_litres 23 = .ok (.aload_n 0, 1) := by decide +kernel
theorem dX12_litres_24 : decode cX12_litres 24 = .ok (.iload_n 1, 1) := by decide +kernel
theorem dX12_litres_25 : decode cX12_litres 25 = .ok (.iload_n 2, 1) := by decide +kernel
theorem dX12_litres_26 : decode cX12_litres 26 = .ok (.invokevirtual 77, 3) := by decide +kernel
theorem dX12_litres_29 : decode cX12_litres 29 = .ok (.goto 4, 3) := by decide +kernel
theorem dX12_litres_32 : decode cX12_litres 32 = .ok (.iconst (-1), 1) := by decide +kernel
theorem dX12_litres_33 : decode cX12_litres 33 = .ok (.ireturn, 1) := by decide +kernel
theorem dX12_ofBatch_0 : decode cX12_ofBatch 0 = .ok (.iload_n 1, 1) := by decide +kernel
theorem dX12_ofBatch_1 : decode cX12_ofBatch 1 = .ok (.iconst 0, 1) := by decide +kernel
theorem dX12_ofBatch_2 : decode cX12_ofBatch 2 = .ok (.aload_n 0, 1) := by decide +kernel
theorem dX12_ofBatch_3 : decode cX12_ofBatch 3 = .ok (.getfield 9, 3) := by decide +kernel
theorem dX12_ofBatch_6 : decode cX12_ofBatch 6 = .ok (.iconst 1, 1) := by decide +kernel
theorem dX12_ofBatch_7 : decode cX12_ofBatch 7 = .ok (.iaload, 1) := by decide +kernel
theorem dX12_ofBatch_8 : decode cX12_ofBatch 8 = .ok (.iconst 1, 1) := by decide +kernel
theorem dX12_ofBatch_9 : decode cX12_ofBatch 9 = .ok (.isub, 1) := by decide +kernel
theorem dX12_ofBatch_10 : decode cX12_ofBatch 10 = .ok (.invokestatic 69, 3) := by decide +kernel
theorem dX12_ofBatch_13 : decode cX12_ofBatch 13 = .ok (.ifCond .eq 13, 3) := by decide +kernel
theorem dX12_ofBatch_16 : decode cX12_ofBatch 16 = .ok (.iload_n 2, 1) := by decide +kernel
theorem dX12_ofBatch_17 : decode cX12_ofBatch 17 = .ok (.iconst 0, 1) := by decide +kernel
theorem dX12_ofBatch_18 : decode cX12_ofBatch 18 = .ok (.bipush 6, 2) := by decide +kernel
theorem dX12_ofBatch_20 : decode cX12_ofBatch 20 = .ok (.invokestatic 69, 3) := by decide +kernel
theorem dX12_ofBatch_23 : decode cX12_ofBatch 23 = .ok (.ifCond .ne 5, 3) := by decide +kernel
theorem dX12_ofBatch_26 : decode cX12_ofBatch 26 = .ok (.iconst (-1), 1) := by decide +kernel
theorem dX12_ofBatch_27 : decode cX12_ofBatch 27 = .ok (.ireturn, 1) := by decide +kernel
theorem dX12_ofBatch_28 : decode cX12_ofBatch 28 = .ok (.iload_n 2, 1) := by decide +kernel
theorem dX12_ofBatch_29 : decode cX12_ofBatch 29 = .ok (.iconst 2, 1) := by decide +kernel
theorem dX12_ofBatch_30 : decode cX12_ofBatch 30 = .ok (.if_icmp .eq 9, 3) := by decide +kernel
theorem dX12_ofBatch_33 : decode cX12_ofBatch 33 = .ok (.iload_n 2, 1) := by decide +kernel
theorem dX12_ofBatch_34 : decode cX12_ofBatch 34 = .ok (.bipush 6, 2) := by decide +kernel
theorem dX12_ofBatch_36 : decode cX12_ofBatch 36 = .ok (.if_icmp .ne 69, 3) := by decide +kernel
theorem dX12_ofBatch_39 : decode cX12_ofBatch 39 = .ok (.iconst 0, 1) := by decide +kernel
theorem dX12_ofBatch_40 : decode cX12_ofBatch 40 = .ok (.istore_n 3, 1) := by decide +kernel
theorem dX12_ofBatch_41 : decode cX12_ofBatch 41 = .ok (.iconst 0, 1) := by decide +kernel
theorem dX12_ofBatch_42 : decode cX12_ofBatch 42 = .ok (.istore 4, 2) := by decide +kernel
theorem dX12_ofBatch_44 : decode cX12_ofBatch 44 = .ok (.iconst 0, 1) := by decide +kernel
theorem dX12_ofBatch_45 : decode cX12_ofBatch 45 = .ok (.istore 5, 2) := by decide +kernel
theorem dX12_ofBatch_47 : decode cX12_ofBatch 47 = .ok (.iload 5, 2) := by decide +kernel
theorem dX12_ofBatch_49 : decode cX12_ofBatch 49 = .ok (.bipush 6, 2) := by decide +kernel
theorem dX12_ofBatch_51 : decode cX12_ofBatch 51 = .ok (.if_icmp .ge 42, 3) := by decide +kernel
theorem dX12_ofBatch_54 : decode cX12_ofBatch 54 = .ok (.iload_n 3, 1) := by decide +kernel
theorem dX12_ofBatch_55 : decode cX12_ofBatch 55 = .ok (.aload_n 0, 1) := by decide +kernel
theorem dX12_ofBatch_56 : decode cX12_ofBatch 56 = .ok (.iload 5, 2) := by decide +kernel
theorem dX12_ofBatch_58 : decode cX12_ofBatch 58 = .ok (.iload_n 1, 1) := by decide +kernel
theorem dX12_ofBatch_59 : decode cX12_ofBatch 59 = .ok (.invokevirtual 77, 3) := by decide +kernel
theorem dX12_ofBatch_62 : decode cX12_ofBatch 62 = .ok (.iadd, 1) := by decide +kernel
theorem dX12_ofBatch_63 : decode cX12_ofBatch 63 = .ok (.istore_n 3, 1) := by decide +kernel
theorem dX12_ofBatch_64 : decode cX12_ofBatch 64 = .ok (.iload 4, 2) := by decide +kernel
theorem dX12_ofBatch_66 : decode cX12_ofBatch 66 = .ok (.aload_n 0, 1) := by decide +kernel
theorem dX12_ofBatch_67 : decode cX12_ofBatch 67 = .ok (.iload 5, 2) := by decide +kernel
theorem dX12_ofBatch_69 : decode cX12_ofBatch 69 = .ok (.iload_n 1, 1) := by decide +kernel
theorem dX12_ofBatch_70 : decode cX12_ofBatch 70 = .ok (.invokevirtual 77, 3) := by decide +kernel
theorem dX12_ofBatch_73 : decode cX12_ofBatch 73 = .ok (.ifCond .le 10, 3) := by decide +kernel
theorem dX12_ofBatch_76 : decode cX12_ofBatch 76 = .ok (.iconst 1, 1) := by decide +kernel
theorem dX12_ofBatch_77 : decode cX12_ofBatch 77 = .ok (.iload 5, 2) := by decide +kernel
theorem dX12_ofBatch_79 : decode cX12_ofBatch 79 = .ok (.ishl, 1) := by decide +kernel
theorem dX12_ofBatch_80 : decode cX12_ofBatch 80 = .ok (.goto 4, 3) := by decide +kernel
theorem dX12_ofBatch_83 : decode cX12_ofBatch 83 = .ok (.iconst 0, 1) := by decide +kernel
theorem dX12_ofBatch_84 : decode cX12_ofBatch 84 = .ok (.ior, 1) := by decide +kernel
theorem dX12_ofBatch_85 : decode cX12_ofBatch 85 = .ok (.istore 4, 2) := by decide +kernel
theorem dX12_ofBatch_87 : decode cX12_ofBatch 87 = .ok (.iinc 5 1, 3) := by decide +kernel
theorem dX12_ofBatch_90 : decode cX12_ofBatch 90 = .ok (.goto (-43), 3) := by decide +kernel
theorem dX12_ofBatch_93 : decode cX12_ofBatch 93 = .ok (.iload_n 2, 1) := by decide +kernel
theorem dX12_ofBatch_94 : decode cX12_ofBatch 94 = .ok (.iconst 2, 1) := by decide +kernel
theorem dX12_ofBatch_95 : decode cX12_ofBatch 95 = .ok (.if_icmp .ne 7, 3) := by decide +kernel
theorem dX12_ofBatch_98 : decode cX12_ofBatch 98 = .ok (.iload_n 3, 1) := by decide +kernel
theorem dX12_ofBatch_99 : decode cX12_ofBatch 99 = .ok (.goto 5, 3) := by decide +kernel
theorem dX12_ofBatch_102 : decode cX12_ofBatch 102 = .ok (.iload 4, 2) := by decide +kernel
theorem dX12_ofBatch_104 : decode cX12_ofBatch 104 = .ok (.ireturn, 1) := by decide +kernel
theorem dX12_ofBatch_105 : decode cX12_ofBatch 105 = .ok (.aload_n 0, 1) := by decide +kernel
theorem dX12_ofBatch_106 : decode cX12_ofBatch 106 = .ok (.getfield 9, 3) := by decide +kernel
theorem dX12_ofBatch_109 : decode cX12_ofBatch 109 = .ok (.bipush 124, 2) := by decide +kernel
theorem dX12_ofBatch_111 : decode cX12_ofBatch 111 = .ok (.iconst 5, 1) := by decide +kernel
theorem dX12_ofBatch_112 : decode cX12_ofBatch 112 = .ok (.iload_n 1, 1) := by decide +kernel
theorem dX12_ofBatch_113 : decode cX12_ofBatch 113 = .ok (.imul, 1) := by decide +kernel
theorem dX12_ofBatch_114 : decode cX12_ofBatch 114 = .ok (.iadd, 1) := by decide +kernel
theorem dX12_ofBatch_115 : decode cX12_ofBatch 115 = .ok (.iload_n 2, 1) := by decide +kernel
theorem dX12_ofBatch_116 : decode cX12_ofBatch 116 = .ok (.iconst 2, 1) := by decide +kernel
theorem dX12_ofBatch_117 : decode cX12_ofBatch 117 = .ok (.if_icmp .ge 7, 3) := by decide +kernel
theorem dX12_ofBatch_120 : decode cX12_ofBatch 120 = .ok (.iload_n 2, 1) := by decide +kernel
theorem dX12_ofBatch_121 : decode cX12_ofBatch 121 = .ok (.goto 6, 3) := by decide +kernel
theorem dX12_ofBatch_124 : decode cX12_ofBatch 124 = .ok (.iload_n 2, 1) := by decide +kernel
theorem dX12_ofBatch_125 : decode cX12_ofBatch 125 = .ok (.iconst 1, 1) := by decide +kernel
theorem dX12_ofBatch_126 : decode cX12_ofBatch 126 = .ok (.isub, 1) := by decide +kernel
theorem dX12_ofBatch_127 : decode cX12_ofBatch 127 = .ok (.iadd, 1) := by decide +kernel
theorem dX12_ofBatch_128 : decode cX12_ofBatch 128 = .ok (.iaload, 1) := by decide +kernel
theorem dX12_ofBatch_129 : decode cX12_ofBatch 129 = .ok (.ireturn, 1) := by decide +kernel
theorem dX12_alcoholBy_0 : decode cX12_alcoholBy 0 = .ok (.aload_n 0, 1) := by decide +kernel
theorem dX12_alcoholBy_1 : decode cX12_alcoholBy 1 = .ok (.iload_n 1, 1) := by decide +kernel
theorem dX12_alcoholBy_2 : decode cX12_alcoholBy 2 = .ok (.invokevirtual 105, 3) := by decide +kernel
theorem dX12_alcoholBy_5 : decode cX12_alcoholBy 5 = .ok (.aload_n 0, 1) := by decide +kernel
theorem dX12_alcoholBy_6 : decode cX12_alcoholBy 6 = .ok (.iload_n 2, 1) := by decide +kernel
theorem dX12_alcoholBy_7 : decode cX12_alcoholBy 7 = .ok (.invokevirtual 109, 3) := by decide +kernel
theorem dX12_alcoholBy_10 : decode cX12_alcoholBy 10 = .ok (.aload_n 0, 1) := by decide +kernel
theorem dX12_alcoholBy_11 : decode cX12_alcoholBy 11 = .ok (.aload_n 0, 1) := by decide +kernel
theorem dX12_alcoholBy_12 : decode cX12_alcoholBy 12 = .ok (.getfield 28, 3) := by decide +kernel
theorem dX12_alcoholBy_15 : decode cX12_alcoholBy 15 = .ok (.invokevirtual 135, 3) := by decide +kernel
theorem dX12_alcoholBy_18 : decode cX12_alcoholBy 18 = .ok (.lreturn, 1) := by decide +kernel
theorem dX12_mix_0 : decode cX12_mix 0 = .ok (.iload_n 1, 1) := by decide +kernel
theorem dX12_mix_1 : decode cX12_mix 1 = .ok (.invokestatic 95, 3) := by decide +kernel
theorem dX12_mix_4 : decode cX12_mix 4 = .ok (.ifCond .eq 15, 3) := by decide +kernel
theorem dX12_mix_7 : decode cX12_mix 7 = .ok (.iload_n 2, 1) := by decide +kernel
theorem dX12_mix_8 : decode cX12_mix 8 = .ok (.invokestatic 95, 3) := by decide +kernel
theorem dX12_mix_11 : decode cX12_mix 11 = .ok (.ifCond .eq 8, 3) := by decide +kernel
theorem dX12_mix_14 : decode cX12_mix 14 = .ok (.iload_n 1, 1) := by decide +kernel
theorem dX12_mix_15 : decode cX12_mix 15 = .ok (.iload_n 2, 1) := by decide +kernel
theorem dX12_mix_16 : decode cX12_mix 16 = .ok (.if_icmp .ne 9, 3) := by decide +kernel
theorem dX12_mix_19 : decode cX12_mix 19 = .ok (.aload_n 0, 1) := by decide +kernel
theorem dX12_mix_20 : decode cX12_mix 20 = .ok (.iconst 1, 1) := by decide +kernel
theorem dX12_mix_21 : decode cX12_mix 21 = .ok (.invokevirtual 99, 3) := by decide +kernel
theorem dX12_mix_24 : decode cX12_mix 24 = .ok (.ireturn, 1) := by decide +kernel
theorem dX12_mix_25 : decode cX12_mix 25 = .ok (.iload_n 3, 1) := by decide +kernel
theorem dX12_mix_26 : decode cX12_mix 26 = .ok (.iconst 1, 1) := by decide +kernel
theorem dX12_mix_27 : decode cX12_mix 27 = .ok (.sipush 9999, 3) := by decide +kernel
theorem dX12_mix_30 : decode cX12_mix 30 = .ok (.invokestatic 69, 3) := by decide +kernel
theorem dX12_mix_33 : decode cX12_mix 33 = .ok (.ifCond .eq 15, 3) := by decide +kernel
theorem dX12_mix_36 : decode cX12_mix 36 = .ok (.iload 4, 2) := by decide +kernel
theorem dX12_mix_38 : decode cX12_mix 38 = .ok (.iconst 0, 1) := by decide +kernel
theorem dX12_mix_39 : decode cX12_mix 39 = .ok (.sipush 2000, 3) := by decide +kernel
theorem dX12_mix_42 : decode cX12_mix 42 = .ok (.invokestatic 69, 3) := by decide +kernel
theorem dX12_mix_45 : decode cX12_mix 45 = .ok (.ifCond .ne 10, 3) := by decide +kernel
theorem dX12_mix_48 : decode cX12_mix 48 = .ok (.aload_n 0, 1) := by decide +kernel
theorem dX12_mix_49 : decode cX12_mix 49 = .ok (.bipush 8, 2) := by decide +kernel
theorem dX12_mix_51 : decode cX12_mix 51 = .ok (.invokevirtual 99, 3) := by decide +kernel
theorem dX12_mix_54 : decode cX12_mix 54 = .ok (.ireturn, 1) := by decide +kernel
theorem dX12_mix_55 : decode cX12_mix 55 = .ok (.aload_n 0, 1) := by decide +kernel
theorem dX12_mix_56 : decode cX12_mix 56 = .ok (.iload_n 1, 1) := by decide +kernel
theorem dX12_mix_57 : decode cX12_mix 57 = .ok (.iconst 1, 1) := by decide +kernel
theorem dX12_mix_58 : decode cX12_mix 58 = .ok (.invokevirtual 73, 3) := by decide +kernel
theorem dX12_mix_61 : decode cX12_mix 61 = .ok (.iconst 1, 1) := by decide +kernel
theorem dX12_mix_62 : decode cX12_mix 62 = .ok (.if_icmp .ne 13, 3) := by decide +kernel
theorem dX12_mix_65 : decode cX12_mix 65 = .ok (.aload_n 0, 1) := by decide +kernel
theorem dX12_mix_66 : decode cX12_mix 66 = .ok (.iload_n 2, 1) := by decide +kernel
theorem dX12_mix_67 : decode cX12_mix 67 = .ok (.iconst 1, 1) := by decide +kernel
theorem dX12_mix_68 : decode cX12_mix 68 = .ok (.invokevirtual 73, 3) := by decide +kernel
theorem dX12_mix_71 : decode cX12_mix 71 = .ok (.iconst 1, 1) := by decide +kernel
theorem dX12_mix_72 : decode cX12_mix 72 = .ok (.if_icmp .eq 9, 3) := by decide +kernel
theorem dX12_mix_75 : decode cX12_mix 75 = .ok (.aload_n 0, 1) := by decide +kernel
theorem dX12_mix_76 : decode cX12_mix 76 = .ok (.iconst 2, 1) := by decide +kernel
theorem dX12_mix_77 : decode cX12_mix 77 = .ok (.invokevirtual 99, 3) := by decide +kernel
theorem dX12_mix_80 : decode cX12_mix 80 = .ok (.ireturn, 1) := by decide +kernel
theorem dX12_mix_81 : decode cX12_mix 81 = .ok (.bipush (-5), 2) := by decide +kernel
theorem dX12_mix_83 : decode cX12_mix 83 = .ok (.istore 5, 2) := by decide +kernel
theorem dX12_mix_85 : decode cX12_mix 85 = .ok (.lconst 0, 1) := by decide +kernel
theorem dX12_mix_86 : decode cX12_mix 86 = .ok (.lstore 6, 2) := by decide +kernel
theorem dX12_mix_88 : decode cX12_mix 88 = .ok (.iconst 0, 1) := by decide +kernel
theorem dX12_mix_89 : decode cX12_mix 89 = .ok (.iload_n 3, 1) := by decide +kernel
theorem dX12_mix_90 : decode cX12_mix 90 = .ok (.aload_n 0, 1) := by decide +kernel
theorem dX12_mix_91 : decode cX12_mix 91 = .ok (.iload_n 2, 1) := by decide +kernel
theorem dX12_mix_92 : decode cX12_mix 92 = .ok (.invokevirtual 88, 3) := by decide +kernel
theorem dX12_mix_95 : decode cX12_mix 95 = .ok (.isub, 1) := by decide +kernel
theorem dX12_mix_96 : decode cX12_mix 96 = .ok (.invokestatic 215, 3) := by decide +kernel
theorem dX12_mix_99 : decode cX12_mix 99 = .ok (.istore 8, 2) := by decide +kernel
theorem dX12_mix_101 : decode cX12_mix 101 = .ok (.iload 8, 2) := by decide +kernel
theorem dX12_mix_103 : decode cX12_mix 103 = .ok (.iload_n 3, 1) := by decide +kernel
theorem dX12_mix_104 : decode cX12_mix 104 = .ok (.aload_n 0, 1) := by decide +kernel
theorem dX12_mix_105 : decode cX12_mix 105 = .ok (.iload_n 1, 1) := by decide +kernel
theorem dX12_mix_106 : decode cX12_mix 106 = .ok (.invokevirtual 88, 3) := by decide +kernel
theorem dX12_mix_109 : decode cX12_mix 109 = .ok (.invokestatic 220, 3) := by decide +kernel
theorem dX12_mix_112 : decode cX12_mix 112 = .ok (.if_icmp .gt 61, 3) := by decide +kernel
theorem dX12_mix_115 : decode cX12_mix 115 = .ok (.aload_n 0, 1) := by decide +kernel
theorem dX12_mix_116 : decode cX12_mix 116 = .ok (.iload_n 1, 1) := by decide +kernel
theorem dX12_mix_117 : decode cX12_mix 117 = .ok (.iload 8, 2) := by decide +kernel
theorem dX12_mix_119 : decode cX12_mix 119 = .ok (.invokevirtual 223, 3) := by decide +kernel
theorem dX12_mix_122 : decode cX12_mix 122 = .ok (.aload_n 0, 1) := by decide +kernel
theorem dX12_mix_123 : decode cX12_mix 123 = .ok (.iload_n 2, 1) := by decide +kernel
theorem dX12_mix_124 : decode cX12_mix 124 = .ok (.iload_n 3, 1) := by decide +kernel
theorem dX12_mix_125 : decode cX12_mix 125 = .ok (.iload 8, 2) := by decide +kernel
theorem dX12_mix_127 : decode cX12_mix 127 = .ok (.isub, 1) := by decide +kernel
theorem dX12_mix_128 : decode cX12_mix 128 = .ok (.invokevirtual 223, 3) := by decide +kernel
theorem dX12_mix_131 : decode cX12_mix 131 = .ok (.ladd, 1) := by decide +kernel
theorem dX12_mix_132 : decode cX12_mix 132 = .ok (.iload 4, 2) := by decide +kernel
theorem dX12_mix_134 : decode cX12_mix 134 = .ok (.i2l, 1) := by decide +kernel
theorem dX12_mix_135 : decode cX12_mix 135 = .ok (.iload_n 3, 1) := by decide +kernel
theorem dX12_mix_136 : decode cX12_mix 136 = .ok (.i2l, 1) := by decide +kernel
theorem dX12_mix_137 : decode cX12_mix 137 = .ok (.lmul, 1) := by decide +kernel
theorem dX12_mix_138 : decode cX12_mix 138 = .ok (.lsub, 1) := by decide +kernel
theorem dX12_mix_139 : decode cX12_mix 139 = .ok (.invokestatic 227, 3) := by decide +kernel
theorem dX12_mix_142 : decode cX12_mix 142 = .ok (.lstore 9, 2) := by decide +kernel
theorem dX12_mix_144 : decode cX12_mix 144 = .ok (.iload 5, 2) := by decide +kernel
theorem dX12_mix_146 : decode cX12_mix 146 = .ok (.bipush (-5), 2) := by decide +kernel
theorem dX12_mix_148 : decode cX12_mix 148 = .ok (.if_icmp .eq 11, 3) := by decide +kernel
theorem dX12_mix_151 : decode cX12_mix 151 = .ok (.lload 9, 2) := by decide +kernel
theorem dX12_mix_153 : decode cX12_mix 153 = .ok (.lload 6, 2) := by decide +kernel
theorem dX12_mix_155 : decode cX12_mix 155 = .ok (.lcmp, 1) := by decide +kernel
theorem dX12_mix_156 : decode cX12_mix 156 = .ok (.ifCond .ge 11, 3) := by decide +kernel
theorem dX12_mix_159 : decode cX12_mix 159 = .ok (.iload 8, 2) := by decide +kernel
theorem dX12_mix_161 : decode cX12_mix 161 = .ok (.istore 5, 2) := by decide +kernel
theorem dX12_mix_163 : decode cX12_mix 163 = .ok (.lload 9, 2) := by decide +kernel
theorem dX12_mix_165 : decode cX12_mix 165 = .ok (.lstore 6, 2) := by decide +kernel
theorem dX12_mix_167 : decode cX12_mix 167 = .ok (.iinc 8 1, 3) := by decide +kernel
theorem dX12_mix_170 : decode cX12_mix 170 = .ok (.goto (-69), 3) := by decide +kernel
theorem dX12_mix_173 : decode cX12_mix 173 = .ok (.iload 5, 2) := by decide +kernel
theorem dX12_mix_175 : decode cX12_mix 175 = .ok (.ireturn, 1) := by decide +kernel
theorem dX12_ofOrder_0 : decode cX12_ofOrder 0 = .ok (.iload_n 1, 1) := by decide +kernel
theorem dX12_ofOrder_1 : decode cX12_ofOrder 1 = .ok (.iconst 0, 1) := by decide +kernel
theorem dX12_ofOrder_2 : decode cX12_ofOrder 2 = .ok (.aload_n 0, 1) := by decide +kernel
theorem dX12_ofOrder_3 : decode cX12_ofOrder 3 = .ok (.getfield 9, 3) := by decide +kernel
theorem dX12_ofOrder_6 : decode cX12_ofOrder 6 = .ok (.iconst 2, 1) := by decide +kernel
theorem dX12_ofOrder_7 : decode cX12_ofOrder 7 = .ok (.iaload, 1) := by decide +kernel
theorem dX12_ofOrder_8 : decode cX12_ofOrder 8 = .ok (.iconst 1, 1) := by decide +kernel
theorem dX12_ofOrder_9 : decode cX12_ofOrder 9 = .ok (.isub, 1) := by decide +kernel
theorem dX12_ofOrder_10 : decode cX12_ofOrder 10 = .ok (.invokestatic 69, 3) := by decide +kernel
theorem dX12_ofOrder_13 : decode cX12_ofOrder 13 = .ok (.ifCond .eq 13, 3) := by decide +kernel
theorem dX12_ofOrder_16 : decode cX12_ofOrder 16 = .ok (.iload_n 2, 1) := by decide +kernel
theorem dX12_ofOrder_17 : decode cX12_ofOrder 17 = .ok (.iconst 0, 1) := by decide +kernel
theorem dX12_ofOrder_18 : decode cX12_ofOrder 18 = .ok (.bipush 6, 2) := by decide +kernel
theorem dX12_ofOrder_20 : decode cX12_ofOrder 20 = .ok (.invokestatic 69, 3) := by decide +kernel
theorem dX12_ofOrder_23 : decode cX12_ofOrder 23 = .ok (.ifCond .ne 5, 3) := by decide +kernel
theorem dX12_ofOrder_26 : decode cX12_ofOrder 26 = .ok (.iconst (-1), 1) := by decide +kernel
theorem dX12_ofOrder_27 : decode cX12_ofOrder 27 = .ok (.ireturn, 1) := by decide +kernel
theorem dX12_ofOrder_28 : decode cX12_ofOrder 28 = .ok (.iload_n 2, 1) := by decide +kernel
theorem dX12_ofOrder_29 : decode cX12_ofOrder 29 = .ok (.iconst 5, 1) := by decide +kernel
theorem dX12_ofOrder_30 : decode cX12_ofOrder 30 = .ok (.if_icmp .ne 14, 3) := by decide +kernel
theorem dX12_ofOrder_33 : decode cX12_ofOrder 33 = .ok (.aload_n 0, 1) := by decide +kernel
theorem dX12_ofOrder_34 : decode cX12_ofOrder 34 = .ok (.invokevirtual 169, 3) := by decide +kernel
theorem dX12_ofOrder_37 : decode cX12_ofOrder 37 = .ok (.aload_n 0, 1) := by decide +kernel
theorem dX12_ofOrder_38 : decode cX12_ofOrder 38 = .ok (.getfield 37, 3) := by decide +kernel
theorem dX12_ofOrder_41 : decode cX12_ofOrder 41 = .ok (.iload_n 1, 1) := by decide +kernel
theorem dX12_ofOrder_42 : decode cX12_ofOrder 42 = .ok (.iaload, 1) := by decide +kernel
theorem dX12_ofOrder_43 : decode cX12_ofOrder 43 = .ok (.ireturn, 1) := by decide +kernel
theorem dX12_ofOrder_44 : decode cX12_ofOrder 44 = .ok (.iload_n 2, 1) := by decide +kernel
theorem dX12_ofOrder_45 : decode cX12_ofOrder 45 = .ok (.bipush 6, 2) := by decide +kernel
theorem dX12_ofOrder_47 : decode cX12_ofOrder 47 = .ok (.if_icmp .ne 27, 3) := by decide +kernel
theorem dX12_ofOrder_50 : decode cX12_ofOrder 50 = .ok (.aload_n 0, 1) := by decide +kernel
theorem dX12_ofOrder_51 : decode cX12_ofOrder 51 = .ok (.iload_n 1, 1) := by decide +kernel
theorem dX12_ofOrder_52 : decode cX12_ofOrder 52 = .ok (.iconst 4, 1) := by decide +kernel
theorem dX12_ofOrder_53 : decode cX12_ofOrder 53 = .ok (.invokevirtual 118, 3) := by decide +kernel
theorem dX12_ofOrder_56 : decode cX12_ofOrder 56 = .ok (.iconst 1, 1) := by decide +kernel
theorem dX12_ofOrder_57 : decode cX12_ofOrder 57 = .ok (.if_icmp .ne 12, 3) := by decide +kernel
theorem dX12_ofOrder_60 : decode cX12_ofOrder 60 = .ok (.aload_n 0, 1) := by decide +kernel
theorem dX12_ofOrder_61 : decode cX12_ofOrder 61 = .ok (.iload_n 1, 1) := by decide +kernel
theorem dX12_ofOrder_62 : decode cX12_ofOrder 62 = .ok (.iconst 5, 1) := by decide +kernel
theorem dX12_ofOrder_63 : decode cX12_ofOrder 63 = .ok (.invokevirtual 118, 3) := by decide +kernel
theorem dX12_ofOrder_66 : decode cX12_ofOrder 66 = .ok (.goto 14, 3) := by decide +kernel
theorem dX12_ofOrder_69 : decode cX12_ofOrder 69 = .ok (.bipush (-5), 2) := by decide +kernel
theorem dX12_ofOrder_71 : decode cX12_ofOrder 71 = .ok (.goto 9, 3) := by decide +kernel
theorem dX12_ofOrder_74 : decode cX12_ofOrder 74 = .ok (.aload_n 0, 1) := by decide +kernel
theorem dX12_ofOrder_75 : decode cX12_ofOrder 75 = .ok (.iload_n 1, 1) := by decide +kernel
theorem dX12_ofOrder_76 : decode cX12_ofOrder 76 = .ok (.iload_n 2, 1) := by decide +kernel
theorem dX12_ofOrder_77 : decode cX12_ofOrder 77 = .ok (.invokevirtual 118, 3) := by decide +kernel
theorem dX12_ofOrder_80 : decode cX12_ofOrder 80 = .ok (.ireturn, 1) := by decide +kernel
theorem dX12_planned_0 : decode cX12_planned 0 = .ok (.iload_n 1, 1) := by decide +kernel
theorem dX12_planned_1 : decode cX12_planned 1 = .ok (.ifCond .ge 5, 3) := by decide +kernel
theorem dX12_planned_4 : decode cX12_planned 4 = .ok (.iconst (-1), 1) := by decide +kernel
theorem dX12_planned_5 : decode cX12_planned 5 = .ok (.ireturn, 1) := by decide +kernel
theorem dX12_planned_6 : decode cX12_planned 6 = .ok (.aload_n 0, 1) := by decide +kernel
theorem dX12_planned_7 : decode cX12_planned 7 = .ok (.invokevirtual 169, 3) := by decide +kernel
theorem dX12_planned_10 : decode cX12_planned 10 = .ok (.iload_n 1, 1) := by decide +kernel
theorem dX12_planned_11 : decode cX12_planned 11 = .ok (.aload_n 0, 1) := by decide +kernel
theorem dX12_planned_12 : decode cX12_planned 12 = .ok (.getfield 160, 3) := by decide +kernel
theorem dX12_planned_15 : decode cX12_planned 15 = .ok (.if_icmp .ge 12, 3) := by decide +kernel
theorem dX12_planned_18 : decode cX12_planned 18 = .ok (.aload_n 0, 1) := by decide +kernel
theorem dX12_planned_19 : decode cX12_planned 19 = .ok (.getfield 34, 3) := by decide +kernel
theorem dX12_planned_22 : decode cX12_planned 22 = .ok (.iload_n 1, 1) := by decide +kernel
theorem dX12_planned_23 : decode cX12_planned 23 = .ok (.iaload, 1) := by decide +kernel
theorem dX12_planned_24 : decode cX12_planned 24 = .ok (.goto 5, 3) := by decide +kernel
theorem dX12_planned_27 : decode cX12_planned 27 = .ok (.bipush (-5), 2) := by decide +kernel
theorem dX12_planned_29 : decode cX12_planned 29 = .ok (.ireturn, 1) := by decide +kernel
theorem dX12_holds_0 : decode cX12_holds 0 = .ok (.iload_n 1, 1) := by decide +kernel
theorem dX12_holds_1 : decode cX12_holds 1 = .ok (.iconst 0, 1) := by decide +kernel
theorem dX12_holds_2 : decode cX12_holds 2 = .ok (.sipush 9999, 3) := by decide +kernel
theorem dX12_holds_5 : decode cX12_holds 5 = .ok (.invokestatic 69, 3) := by decide +kernel
theorem dX12_holds_8 : decode cX12_holds 8 = .ok (.ifCond .eq 23, 3) := by decide +kernel
theorem dX12_holds_11 : decode cX12_holds 11 = .ok (.iload_n 2, 1) := by decide +kernel
theorem dX12_holds_12 : decode cX12_holds 12 = .ok (.iconst 0, 1) := by decide +kernel
theorem dX12_holds_13 : decode cX12_holds 13 = .ok (.sipush 2000, 3) := by decide +kernel
theorem dX12_holds_16 : decode cX12_holds 16 = .ok (.invokestatic 69, 3) := by decide +kernel
theorem dX12_holds_19 : decode cX12_holds 19 = .ok (.ifCond .eq 12, 3) := by decide +kernel
theorem dX12_holds_22 : decode cX12_holds 22 = .ok (.aload_n 0, 1) := by decide +kernel
theorem dX12_holds_23 : decode cX12_holds 23 = .ok (.iload_n 1, 1) := by decide +kernel
theorem dX12_holds_24 : decode cX12_holds 24 = .ok (.iload_n 2, 1) := by decide +kernel
theorem dX12_holds_25 : decode cX12_holds 25 = .ok (.invokevirtual 128, 3) := by decide +kernel
theorem dX12_holds_28 : decode cX12_holds 28 = .ok (.goto 5, 3) := by decide +kernel
theorem dX12_holds_31 : decode cX12_holds 31 = .ok (.bipush (-2), 2) := by decide +kernel
theorem dX12_holds_33 : decode cX12_holds 33 = .ok (.ireturn, 1) := by decide +kernel
theorem dX12_excised_0 : decode cX12_excised 0 = .ok (.lconst 0, 1) := by decide +kernel
theorem dX12_excised_1 : decode cX12_excised 1 = .ok (.lstore_n 2, 1) := by decide +kernel
theorem dX12_excised_2 : decode cX12_excised 2 = .ok (.iconst 0, 1) := by decide +kernel
theorem dX12_excised_3 : decode cX12_excised 3 = .ok (.istore 4, 2) := by decide +kernel
theorem dX12_excised_5 : decode cX12_excised 5 = .ok (.iload 4, 2) := by decide +kernel
theorem dX12_excised_7 : decode cX12_excised 7 = .ok (.aload_n 0, 1) := by decide +kernel
theorem dX12_excised_8 : decode cX12_excised 8 = .ok (.getfield 9, 3) := by decide +kernel
theorem dX12_excised_11 : decode cX12_excised 11 = .ok (.iconst 2, 1) := by decide +kernel
theorem dX12_excised_12 : decode cX12_excised 12 = .ok (.iaload, 1) := by decide +kernel
theorem dX12_excised_13 : decode cX12_excised 13 = .ok (.if_icmp .ge 67, 3) := by decide +kernel
theorem dX12_excised_16 : decode cX12_excised 16 = .ok (.aload_n 0, 1) := by decide +kernel
theorem dX12_excised_17 : decode cX12_excised 17 = .ok (.iload 4, 2) := by decide +kernel
theorem dX12_excised_19 : decode cX12_excised 19 = .ok (.iconst 4, 1) := by decide +kernel
theorem dX12_excised_20 : decode cX12_excised 20 = .ok (.invokevirtual 118, 3) := by decide +kernel
theorem dX12_excised_23 : decode cX12_excised 23 = .ok (.iconst 1, 1) := by decide +kernel
theorem dX12_excised_24 : decode cX12_excised 24 = .ok (.if_icmp .ne 50, 3) := by decide +kernel
theorem dX12_excised_27 : decode cX12_excised 27 = .ok (.lload_n 2, 1) := by decide +kernel
theorem dX12_excised_28 : decode cX12_excised 28 = .ok (.iload_n 1, 1) := by decide +kernel
theorem dX12_excised_29 : decode cX12_excised 29 = .ok (.ifCond .eq 35, 3) := by decide +kernel
theorem dX12_excised_32 : decode cX12_excised 32 = .ok (.aload_n 0, 1) := by decide +kernel
theorem dX12_excised_33 : decode cX12_excised 33 = .ok (.aload_n 0, 1) := by decide +kernel
theorem dX12_excised_34 : decode cX12_excised 34 = .ok (.iload 4, 2) := by decide +kernel
theorem dX12_excised_36 : decode cX12_excised 36 = .ok (.bipush 6, 2) := by decide +kernel
theorem dX12_excised_38 : decode cX12_excised 38 = .ok (.invokevirtual 118, 3) := by decide +kernel
theorem dX12_excised_41 : decode cX12_excised 41 = .ok (.aload_n 0, 1) := by decide +kernel
theorem dX12_excised_42 : decode cX12_excised 42 = .ok (.iload 4, 2) := by decide +kernel
theorem dX12_excised_44 : decode cX12_excised 44 = .ok (.bipush 7, 2) := by decide +kernel
theorem dX12_excised_46 : decode cX12_excised 46 = .ok (.invokevirtual 118, 3) := by decide +kernel
theorem dX12_excised_49 : decode cX12_excised 49 = .ok (.aload_n 0, 1) := by decide +kernel
theorem dX12_excised_50 : decode cX12_excised 50 = .ok (.iload 4, 2) := by decide +kernel
theorem dX12_excised_52 : decode cX12_excised 52 = .ok (.bipush 8, 2) := by decide +kernel
theorem dX12_excised_54 : decode cX12_excised 54 = .ok (.invokevirtual 118, 3) := by decide +kernel
theorem dX12_excised_57 : decode cX12_excised 57 = .ok (.invokevirtual 142, 3) := by decide +kernel
theorem dX12_excised_60 : decode cX12_excised 60 = .ok (.i2l, 1) := by decide +kernel
theorem dX12_excised_61 : decode cX12_excised 61 = .ok (.goto 11, 3) := by decide +kernel
theorem dX12_excised_64 : decode cX12_excised 64 = .ok (.aload_n 0, 1) := by decide +kernel
theorem dX12_excised_65 : decode cX12_excised 65 = .ok (.iload 4, 2) := by decide +kernel
theorem dX12_excised_67 : decode cX12_excised 67 = .ok (.iconst 5, 1) := by decide +kernel
theorem dX12_excised_68 : decode cX12_excised 68 = .ok (.invokevirtual 118, 3) := by decide +kernel
theorem dX12_excised_71 : decode cX12_excised 71 = .ok (.i2l, 1) := by decide +kernel
theorem dX12_excised_72 : decode cX12_excised 72 = .ok (.ladd, 1) := by decide +kernel
theorem dX12_excised_73 : decode cX12_excised 73 = .ok (.lstore_n 2, 1) := by decide +kernel
theorem dX12_excised_74 : decode cX12_excised 74 = .ok (.iinc 4 1, 3) := by decide +kernel
theorem dX12_excised_77 : decode cX12_excised 77 = .ok (.goto (-72), 3) := by decide +kernel
theorem dX12_excised_80 : decode cX12_excised 80 = .ok (.lload_n 2, 1) := by decide +kernel
theorem dX12_excised_81 : decode cX12_excised 81 = .ok (.lreturn, 1) := by decide +kernel
theorem dX12_excise_0 : decode cX12_excise 0 = .ok (.iload_n 1, 1) := by decide +kernel
theorem dX12_excise_1 : decode cX12_excise 1 = .ok (.iconst 0, 1) := by decide +kernel
theorem dX12_excise_2 : decode cX12_excise 2 = .ok (.iconst 3, 1) := by decide +kernel
theorem dX12_excise_3 : decode cX12_excise 3 = .ok (.invokestatic 69, 3) := by decide +kernel
theorem dX12_excise_6 : decode cX12_excise 6 = .ok (.ifCond .ne 7, 3) := by decide +kernel
theorem dX12_excise_9 : decode cX12_excise 9 = .ok (.ldc2_w 233, 3) := by decide +kernel
theorem dX12_excise_12 : decode cX12_excise 12 = .ok (.lreturn, 1) := by decide +kernel
theorem dX12_excise_13 : decode cX12_excise 13 = .ok (.aload_n 0, 1) := by decide +kernel
theorem dX12_excise_14 : decode cX12_excise 14 = .ok (.iconst 1, 1) := by decide +kernel
theorem dX12_excise_15 : decode cX12_excise 15 = .ok (.invokevirtual 235, 3) := by decide +kernel
theorem dX12_excise_18 : decode cX12_excise 18 = .ok (.aload_n 0, 1) := by decide +kernel
theorem dX12_excise_19 : decode cX12_excise 19 = .ok (.iconst 0, 1) := by decide +kernel
theorem dX12_excise_20 : decode cX12_excise 20 = .ok (.invokevirtual 235, 3) := by decide +kernel
theorem dX12_excise_23 : decode cX12_excise 23 = .ok (.lsub, 1) := by decide +kernel
theorem dX12_excise_24 : decode cX12_excise 24 = .ok (.aload_n 0, 1) := by decide +kernel
theorem dX12_excise_25 : decode cX12_excise 25 = .ok (.getfield 9, 3) := by decide +kernel
theorem dX12_excise_28 : decode cX12_excise 28 = .ok (.bipush 6, 2) := by decide +kernel
theorem dX12_excise_30 : decode cX12_excise 30 = .ok (.iaload, 1) := by decide +kernel
theorem dX12_excise_31 : decode cX12_excise 31 = .ok (.i2l, 1) := by decide +kernel
theorem dX12_excise_32 : decode cX12_excise 32 = .ok (.lsub, 1) := by decide +kernel
theorem dX12_excise_33 : decode cX12_excise 33 = .ok (.lstore_n 2, 1) := by decide +kernel
theorem dX12_excise_34 : decode cX12_excise 34 = .ok (.iload_n 1, 1) := by decide +kernel
theorem dX12_excise_35 : decode cX12_excise 35 = .ok (.ifCond .ne 11, 3) := by decide +kernel
theorem dX12_excise_38 : decode cX12_excise 38 = .ok (.aload_n 0, 1) := by decide +kernel
theorem dX12_excise_39 : decode cX12_excise 39 = .ok (.iconst 0, 1) := by decide +kernel
theorem dX12_excise_40 : decode cX12_excise 40 = .ok (.invokevirtual 235, 3) := by decide +kernel
theorem dX12_excise_43 : decode cX12_excise 43 = .ok (.goto 33, 3) := by decide +kernel
theorem dX12_excise_46 : decode cX12_excise 46 = .ok (.iload_n 1, 1) := by decide +kernel
theorem dX12_excise_47 : decode cX12_excise 47 = .ok (.iconst 1, 1) := by decide +kernel
theorem dX12_excise_48 : decode cX12_excise 48 = .ok (.if_icmp .ne 11, 3) := by decide +kernel
theorem dX12_excise_51 : decode cX12_excise 51 = .ok (.aload_n 0, 1) := by decide +kernel
theorem dX12_excise_52 : decode cX12_excise 52 = .ok (.iconst 1, 1) := by decide +kernel
theorem dX12_excise_53 : decode cX12_excise 53 = .ok (.invokevirtual 235, 3) := by decide +kernel
theorem dX12_excise_56 : decode cX12_excise 56 = .ok (.goto 20, 3) := by decide +kernel
theorem dX12_excise_59 : decode cX12_excise 59 = .ok (.iload_n 1, 1) := by decide +kernel
theorem dX12_excise_60 : decode cX12_excise 60 = .ok (.iconst 2, 1) := by decide +kernel
theorem dX12_excise_61 : decode cX12_excise 61 = .ok (.if_icmp .ne 14, 3) := by decide +kernel
theorem dX12_excise_64 : decode cX12_excise 64 = .ok (.aload_n 0, 1) := by decide +kernel
theorem dX12_excise_65 : decode cX12_excise 65 = .ok (.getfield 9, 3) := by decide +kernel
theorem dX12_excise_68 : decode cX12_excise 68 = .ok (.bipush 6, 2) := by decide +kernel
theorem dX12_excise_70 : decode cX12_excise 70 = .ok (.iaload, 1) := by decide +kernel
theorem dX12_excise_71 : decode cX12_excise 71 = .ok (.i2l, 1) := by decide +kernel
theorem dX12_excise_72 : decode cX12_excise 72 = .ok (.goto 4, 3) := by decide +kernel
theorem dX12_excise_75 : decode cX12_excise 75 = .ok (.lload_n 2, 1) := by decide +kernel
theorem dX12_excise_76 : decode cX12_excise 76 = .ok (.lreturn, 1) := by decide +kernel
theorem dX12_correct_0 : decode cX12_correct 0 = .ok (.aload_n 0, 1) := by decide +kernel
theorem dX12_correct_1 : decode cX12_correct 1 = .ok (.invokevirtual 102, 3) := by decide +kernel
theorem dX12_correct_4 : decode cX12_correct 4 = .ok (.aload_n 0, 1) := by decide +kernel
theorem dX12_correct_5 : decode cX12_correct 5 = .ok (.iconst 3, 1) := by decide +kernel
theorem dX12_correct_6 : decode cX12_correct 6 = .ok (.invokevirtual 239, 3) := by decide +kernel
theorem dX12_correct_9 : decode cX12_correct 9 = .ok (.l2i, 1) := by decide +kernel
theorem dX12_correct_10 : decode cX12_correct 10 = .ok (.istore_n 1, 1) := by decide +kernel
theorem dX12_correct_11 : decode cX12_correct 11 = .ok (.aload_n 0, 1) := by decide +kernel
theorem dX12_correct_12 : decode cX12_correct 12 = .ok (.getfield 9, 3) := by decide +kernel
theorem dX12_correct_15 : decode cX12_correct 15 = .ok (.bipush 6, 2) := by decide +kernel
theorem dX12_correct_17 : decode cX12_correct 17 = .ok (.dup2, 1) := by decide +kernel
theorem dX12_correct_18 : decode cX12_correct 18 = .ok (.iaload, 1) := by decide +kernel
theorem dX12_correct_19 : decode cX12_correct 19 = .ok (.iload_n 1, 1) := by decide +kernel
theorem dX12_correct_20 : decode cX12_correct 20 = .ok (.iadd, 1) := by decide +kernel
theorem dX12_correct_21 : decode cX12_correct 21 = .ok (.iastore, 1) := by decide +kernel
theorem dX12_correct_22 : decode cX12_correct 22 = .ok (.iload_n 1, 1) := by decide +kernel
theorem dX12_correct_23 : decode cX12_correct 23 = .ok (.ifCond .le 7, 3) := by decide +kernel
theorem dX12_correct_26 : decode cX12_correct 26 = .ok (.iconst 1, 1) := by decide +kernel
theorem dX12_correct_27 : decode cX12_correct 27 = .ok (.goto 12, 3) := by decide +kernel
theorem dX12_correct_30 : decode cX12_correct 30 = .ok (.iload_n 1, 1) := by decide +kernel
theorem dX12_correct_31 : decode cX12_correct 31 = .ok (.ifCond .ne 7, 3) := by decide +kernel
theorem dX12_correct_34 : decode cX12_correct 34 = .ok (.iconst 0, 1) := by decide +kernel
theorem dX12_correct_35 : decode cX12_correct 35 = .ok (.goto 4, 3) := by decide +kernel
theorem dX12_correct_38 : decode cX12_correct 38 = .ok (.iconst 2, 1) := by decide +kernel
theorem dX12_correct_39 : decode cX12_correct 39 = .ok (.ireturn, 1) := by decide +kernel
theorem dX12_entry_0 : decode cX12_entry 0 = .ok (.iload_n 1, 1) := by decide +kernel
theorem dX12_entry_1 : decode cX12_entry 1 = .ok (.iconst (-1), 1) := by decide +kernel
theorem dX12_entry_2 : decode cX12_entry 2 = .ok (.if_icmp .ne 10, 3) := by decide +kernel
theorem dX12_entry_5 : decode cX12_entry 5 = .ok (.aload_n 0, 1) := by decide +kernel
theorem dX12_entry_6 : decode cX12_entry 6 = .ok (.getfield 9, 3) := by decide +kernel
theorem dX12_entry_9 : decode cX12_entry 9 = .ok (.iconst 5, 1) := by decide +kernel
theorem dX12_entry_10 : decode cX12_entry 10 = .ok (.iaload, 1) := by decide +kernel
theorem dX12_entry_11 : decode cX12_entry 11 = .ok (.ireturn, 1) := by decide +kernel
theorem dX12_entry_12 : decode cX12_entry 12 = .ok (.iload_n 1, 1) := by decide +kernel
theorem dX12_entry_13 : decode cX12_entry 13 = .ok (.iconst 0, 1) := by decide +kernel
theorem dX12_entry_14 : decode cX12_entry 14 = .ok (.aload_n 0, 1) := by decide +kernel
theorem dX12_entry_15 : decode cX12_entry 15 = .ok (.getfield 9, 3) := by decide +kernel
theorem dX12_entry_18 : decode cX12_entry 18 = .ok (.iconst 5, 1) := by decide +kernel
theorem dX12_entry_19 : decode cX12_entry 19 = .ok (.iaload, 1) := by decide +kernel
theorem dX12_entry_20 : decode cX12_entry 20 = .ok (.bipush 80, 2) := by decide +kernel
theorem dX12_entry_22 : decode cX12_entry 22 = .ok (.invokestatic 220, 3) := by decide +kernel
theorem dX12_entry_25 : decode cX12_entry 25 = .ok (.iconst 1, 1) := by decide +kernel
theorem dX12_entry_26 : decode cX12_entry 26 = .ok (.isub, 1) := by decide +kernel
theorem dX12_entry_27 : decode cX12_entry 27 = .ok (.invokestatic 69, 3) := by decide +kernel
theorem dX12_entry_30 : decode cX12_entry 30 = .ok (.ifCond .eq 29, 3) := by decide +kernel
theorem dX12_entry_33 : decode cX12_entry 33 = .ok (.iload_n 2, 1) := by decide +kernel
theorem dX12_entry_34 : decode cX12_entry 34 = .ok (.iconst 0, 1) := by decide +kernel
theorem dX12_entry_35 : decode cX12_entry 35 = .ok (.iconst 3, 1) := by decide +kernel
theorem dX12_entry_36 : decode cX12_entry 36 = .ok (.invokestatic 69, 3) := by decide +kernel
theorem dX12_entry_39 : decode cX12_entry 39 = .ok (.ifCond .eq 20, 3) := by decide +kernel
theorem dX12_entry_42 : decode cX12_entry 42 = .ok (.aload_n 0, 1) := by decide +kernel
theorem dX12_entry_43 : decode cX12_entry 43 = .ok (.getfield 9, 3) := by decide +kernel
theorem dX12_entry_46 : decode cX12_entry 46 = .ok (.sipush 330, 3) := by decide +kernel
theorem dX12_entry_49 : decode cX12_entry 49 = .ok (.iconst 4, 1) := by decide +kernel
theorem dX12_entry_50 : decode cX12_entry 50 = .ok (.iload_n 1, 1) := by decide +kernel
theorem dX12_entry_51 : decode cX12_entry 51 = .ok (.imul, 1) := by decide +kernel
theorem dX12_entry_52 : decode cX12_entry 52 = .ok (.iadd, 1) := by decide +kernel
theorem dX12_entry_53 : decode cX12_entry 53 = .ok (.iload_n 2, 1) := by decide +kernel
theorem dX12_entry_54 : decode cX12_entry 54 = .ok (.iadd, 1) := by decide +kernel
theorem dX12_entry_55 : decode cX12_entry 55 = .ok (.iaload, 1) := by decide +kernel
theorem dX12_entry_56 : decode cX12_entry 56 = .ok (.goto 4, 3) := by decide +kernel
theorem dX12_entry_59 : decode cX12_entry 59 = .ok (.iconst (-1), 1) := by decide +kernel
theorem dX12_entry_60 : decode cX12_entry 60 = .ok (.ireturn, 1) := by decide +kernel
theorem dX12_account_0 : decode cX12_account 0 = .ok (.iload_n 1, 1) := by decide +kernel
theorem dX12_account_1 : decode cX12_account 1 = .ok (.iconst 0, 1) := by decide +kernel
theorem dX12_account_2 : decode cX12_account 2 = .ok (.bipush 12, 2) := by decide +kernel
theorem dX12_account_4 : decode cX12_account 4 = .ok (.invokestatic 69, 3) := by decide +kernel
theorem dX12_account_7 : decode cX12_account 7 = .ok (.ifCond .ne 7, 3) := by decide +kernel
theorem dX12_account_10 : decode cX12_account 10 = .ok (.ldc2_w 233, 3) := by decide +kernel
theorem dX12_account_13 : decode cX12_account 13 = .ok (.lreturn, 1) := by decide +kernel
theorem dX12_account_14 : decode cX12_account 14 = .ok (.iload_n 1, 1) := by decide +kernel
theorem dX12_account_15 : decode cX12_account 15 = .ok (.iconst 2, 1) := by decide +kernel
theorem dX12_account_16 : decode cX12_account 16 = .ok (.if_icmp .le 23, 3) := by decide +kernel
theorem dX12_account_19 : decode cX12_account 19 = .ok (.iload_n 1, 1) := by decide +kernel
theorem dX12_account_20 : decode cX12_account 20 = .ok (.bipush 7, 2) := by decide +kernel
theorem dX12_account_22 : decode cX12_account 22 = .ok (.if_icmp .ge 17, 3) := by decide +kernel
theorem dX12_account_25 : decode cX12_account 25 = .ok (.aload_n 0, 1) := by decide +kernel
theorem dX12_account_26 : decode cX12_account 26 = .ok (.getfield 9, 3) := by decide +kernel
theorem dX12_account_29 : decode cX12_account 29 = .ok (.sipush 324, 3) := by decide +kernel
theorem dX12_account_32 : decode cX12_account 32 = .ok (.iload_n 1, 1) := by decide +kernel
theorem dX12_account_33 : decode cX12_account 33 = .ok (.iadd, 1) := by decide +kernel
theorem dX12_account_34 : decode cX12_account 34 = .ok (.iconst 3, 1) := by decide +kernel
theorem dX12_account_35 : decode cX12_account 35 = .ok (.isub, 1) := by decide +kernel
theorem dX12_account_36 : decode cX12_account 36 = .ok (.iaload, 1) := by decide +kernel
theorem dX12_account_37 : decode cX12_account 37 = .ok (.i2l, 1) := by decide +kernel
theorem dX12_account_38 : decode cX12_account 38 = .ok (.lreturn, 1) := by decide +kernel
theorem dX12_account_39 : decode cX12_account 39 = .ok (.lconst 0, 1) := by decide +kernel
theorem dX12_account_40 : decode cX12_account 40 = .ok (.lstore_n 2, 1) := by decide +kernel
theorem dX12_account_41 : decode cX12_account 41 = .ok (.iload_n 1, 1) := by decide +kernel
theorem dX12_account_42 : decode cX12_account 42 = .ok (.bipush 10, 2) := by decide +kernel
theorem dX12_account_44 : decode cX12_account 44 = .ok (.if_icmp .le 59, 3) := by decide +kernel
theorem dX12_account_47 : decode cX12_account 47 = .ok (.iconst 0, 1) := by decide +kernel
theorem dX12_account_48 : decode cX12_account 48 = .ok (.istore 4, 2) := by decide +kernel
theorem dX12_account_50 : decode cX12_account 50 = .ok (.iload 4, 2) := by decide +kernel
theorem dX12_account_52 : decode cX12_account 52 = .ok (.aload_n 0, 1) := by decide +kernel
theorem dX12_account_53 : decode cX12_account 53 = .ok (.getfield 9, 3) := by decide +kernel
theorem dX12_account_56 : decode cX12_account 56 = .ok (.iconst 2, 1) := by decide +kernel
theorem dX12_account_57 : decode cX12_account 57 = .ok (.iaload, 1) := by decide +kernel
theorem dX12_account_58 : decode cX12_account 58 = .ok (.if_icmp .ge 43, 3) := by decide +kernel
theorem dX12_account_61 : decode cX12_account 61 = .ok (.lload_n 2, 1) := by decide +kernel
theorem dX12_account_62 : decode cX12_account 62 = .ok (.aload_n 0, 1) := by decide +kernel
theorem dX12_account_63 : decode cX12_account 63 = .ok (.iload 4, 2) := by decide +kernel
theorem dX12_account_65 : decode cX12_account 65 = .ok (.invokevirtual 121, 3) := by decide +kernel
theorem dX12_account_68 : decode cX12_account 68 = .ok (.ifCond .eq 24, 3) := by decide +kernel
theorem dX12_account_71 : decode cX12_account 71 = .ok (.iload_n 1, 1) := by decide +kernel
theorem dX12_account_72 : decode cX12_account 72 = .ok (.bipush 11, 2) := by decide +kernel
theorem dX12_account_74 : decode cX12_account 74 = .ok (.if_icmp .ne 7, 3) := by decide +kernel
theorem dX12_account_77 : decode cX12_account 77 = .ok (.lconst 1, 1) := by decide +kernel
theorem dX12_account_78 : decode cX12_account 78 = .ok (.goto 15, 3) := by decide +kernel
theorem dX12_account_81 : decode cX12_account 81 = .ok (.aload_n 0, 1) := by decide +kernel
theorem dX12_account_82 : decode cX12_account 82 = .ok (.iload 4, 2) := by decide +kernel
theorem dX12_account_84 : decode cX12_account 84 = .ok (.iconst 1, 1) := by decide +kernel
theorem dX12_account_85 : decode cX12_account 85 = .ok (.invokevirtual 118, 3) := by decide +kernel
theorem dX12_account_88 : decode cX12_account 88 = .ok (.i2l, 1) := by decide +kernel
theorem dX12_account_89 : decode cX12_account 89 = .ok (.goto 4, 3) := by decide +kernel
theorem dX12_account_92 : decode cX12_account 92 = .ok (.lconst 0, 1) := by decide +kernel
theorem dX12_account_93 : decode cX12_account 93 = .ok (.ladd, 1) := by decide +kernel
theorem dX12_account_94 : decode cX12_account 94 = .ok (.lstore_n 2, 1) := by decide +kernel
theorem dX12_account_95 : decode cX12_account 95 = .ok (.iinc 4 1, 3) := by decide +kernel
theorem dX12_account_98 : decode cX12_account 98 = .ok (.goto (-48), 3) := by decide +kernel
theorem dX12_account_101 : decode cX12_account 101 = .ok (.lload_n 2, 1) := by decide +kernel
theorem dX12_account_102 : decode cX12_account 102 = .ok (.lreturn, 1) := by decide +kernel
theorem dX12_account_103 : decode cX12_account 103 = .ok (.iload_n 1, 1) := by decide +kernel
theorem dX12_account_104 : decode cX12_account 104 = .ok (.iconst 3, 1) := by decide +kernel
theorem dX12_account_105 : decode cX12_account 105 = .ok (.if_icmp .ge 7, 3) := by decide +kernel
theorem dX12_account_108 : decode cX12_account 108 = .ok (.iload_n 1, 1) := by decide +kernel
theorem dX12_account_109 : decode cX12_account 109 = .ok (.goto 7, 3) := by decide +kernel
theorem dX12_account_112 : decode cX12_account 112 = .ok (.iload_n 1, 1) := by decide +kernel
theorem dX12_account_113 : decode cX12_account 113 = .ok (.bipush 7, 2) := by decide +kernel
theorem dX12_account_115 : decode cX12_account 115 = .ok (.isub, 1) := by decide +kernel
theorem dX12_account_116 : decode cX12_account 116 = .ok (.istore 4, 2) := by decide +kernel
theorem dX12_account_118 : decode cX12_account 118 = .ok (.iconst 0, 1) := by decide +kernel
theorem dX12_account_119 : decode cX12_account 119 = .ok (.istore 5, 2) := by decide +kernel
theorem dX12_account_121 : decode cX12_account 121 = .ok (.iload 5, 2) := by decide +kernel
theorem dX12_account_123 : decode cX12_account 123 = .ok (.aload_n 0, 1) := by decide +kernel
theorem dX12_account_124 : decode cX12_account 124 = .ok (.getfield 9, 3) := by decide +kernel
theorem dX12_account_127 : decode cX12_account 127 = .ok (.iconst 1, 1) := by decide +kernel
theorem dX12_account_128 : decode cX12_account 128 = .ok (.iaload, 1) := by decide +kernel
theorem dX12_account_129 : decode cX12_account 129 = .ok (.if_icmp .ge 46, 3) := by decide +kernel
theorem dX12_account_132 : decode cX12_account 132 = .ok (.aload_n 0, 1) := by decide +kernel
theorem dX12_account_133 : decode cX12_account 133 = .ok (.iload 5, 2) := by decide +kernel
theorem dX12_account_135 : decode cX12_account 135 = .ok (.iconst 1, 1) := by decide +kernel
theorem dX12_account_136 : decode cX12_account 136 = .ok (.iload 4, 2) := by decide +kernel
theorem dX12_account_138 : decode cX12_account 138 = .ok (.iadd, 1) := by decide +kernel
theorem dX12_account_139 : decode cX12_account 139 = .ok (.invokevirtual 243, 3) := by decide +kernel
theorem dX12_account_142 : decode cX12_account 142 = .ok (.istore 6, 2) := by decide +kernel
theorem dX12_account_144 : decode cX12_account 144 = .ok (.lload_n 2, 1) := by decide +kernel
theorem dX12_account_145 : decode cX12_account 145 = .ok (.iload_n 1, 1) := by decide +kernel
theorem dX12_account_146 : decode cX12_account 146 = .ok (.iconst 3, 1) := by decide +kernel
theorem dX12_account_147 : decode cX12_account 147 = .ok (.if_icmp .ge 9, 3) := by decide +kernel
theorem dX12_account_150 : decode cX12_account 150 = .ok (.iload 6, 2) := by decide +kernel
theorem dX12_account_152 : decode cX12_account 152 = .ok (.i2l, 1) := by decide +kernel
theorem dX12_account_153 : decode cX12_account 153 = .ok (.goto 14, 3) := by decide +kernel
theorem dX12_account_156 : decode cX12_account 156 = .ok (.iload 6, 2) := by decide +kernel
theorem dX12_account_158 : decode cX12_account 158 = .ok (.i2l, 1) := by decide +kernel
theorem dX12_account_159 : decode cX12_account 159 = .ok (.aload_n 0, 1) := by decide +kernel
theorem dX12_account_160 : decode cX12_account 160 = .ok (.iload 5, 2) := by decide +kernel
theorem dX12_account_162 : decode cX12_account 162 = .ok (.invokevirtual 80, 3) := by decide +kernel
theorem dX12_account_165 : decode cX12_account 165 = .ok (.i2l, 1) := by decide +kernel
theorem dX12_account_166 : decode cX12_account 166 = .ok (.lmul, 1) := by decide +kernel
theorem dX12_account_167 : decode cX12_account 167 = .ok (.ladd, 1) := by decide +kernel
theorem dX12_account_168 : decode cX12_account 168 = .ok (.lstore_n 2, 1) := by decide +kernel
theorem dX12_account_169 : decode cX12_account 169 = .ok (.iinc 5 1, 3) := by decide +kernel
theorem dX12_account_172 : decode cX12_account 172 = .ok (.goto (-51), 3) := by decide +kernel
theorem dX12_account_175 : decode cX12_account 175 = .ok (.lload_n 2, 1) := by decide +kernel
theorem dX12_account_176 : decode cX12_account 176 = .ok (.lreturn, 1) := by decide +kernel
theorem dX12_back_0 : decode cX12_back 0 = .ok (.aload_n 0, 1) := by decide +kernel
theorem dX12_back_1 : decode cX12_back 1 = .ok (.getfield 54, 3) := by decide +kernel
theorem dX12_back_4 : decode cX12_back 4 = .ok (.ifCond .ne 6, 3) := by decide +kernel
theorem dX12_back_7 : decode cX12_back 7 = .ok (.bipush (-3), 2) := by decide +kernel
theorem dX12_back_9 : decode cX12_back 9 = .ok (.ireturn, 1) := by decide +kernel
theorem dX12_back_10 : decode cX12_back 10 = .ok (.aload_n 0, 1) := by decide +kernel
theorem dX12_back_11 : decode cX12_back 11 = .ok (.dup, 1) := by decide +kernel
theorem dX12_back_12 : decode cX12_back 12 = .ok (.getfield 54, 3) := by decide +kernel
theorem dX12_back_15 : decode cX12_back 15 = .ok (.iconst 1, 1) := by decide +kernel
theorem dX12_back_16 : decode cX12_back 16 = .ok (.isub, 1) := by decide +kernel
theorem dX12_back_17 : decode cX12_back 17 = .ok (.putfield 54, 3) := by decide +kernel
theorem dX12_back_20 : decode cX12_back 20 = .ok (.aload_n 0, 1) := by decide +kernel
theorem dX12_back_21 : decode cX12_back 21 = .ok (.getfield 13, 3) := by decide +kernel
theorem dX12_back_24 : decode cX12_back 24 = .ok (.aload_n 0, 1) := by decide +kernel
theorem dX12_back_25 : decode cX12_back 25 = .ok (.getfield 54, 3) := by decide +kernel
theorem dX12_back_28 : decode cX12_back 28 = .ok (.sipush 650, 3) := by decide +kernel
theorem dX12_back_31 : decode cX12_back 31 = .ok (.imul, 1) := by decide +kernel
theorem dX12_back_32 : decode cX12_back 32 = .ok (.aload_n 0, 1) := by decide +kernel
theorem dX12_back_33 : decode cX12_back 33 = .ok (.getfield 9, 3) := by decide +kernel
theorem dX12_back_36 : decode cX12_back 36 = .ok (.iconst 0, 1) := by decide +kernel
theorem dX12_back_37 : decode cX12_back 37 = .ok (.invokestatic 57, 3) := by decide +kernel
theorem dX12_back_40 : decode cX12_back 40 = .ok (.aload_n 0, 1) := by decide +kernel
theorem dX12_back_41 : decode cX12_back 41 = .ok (.getfield 54, 3) := by decide +kernel
theorem dX12_back_44 : decode cX12_back 44 = .ok (.ireturn, 1) := by decide +kernel
theorem dX12_image_0 : decode cX12_image 0 = .ok (.aload_n 0, 1) := by decide +kernel
theorem dX12_image_1 : decode cX12_image 1 = .ok (.getfield 9, 3) := by decide +kernel
theorem dX12_image_4 : decode cX12_image 4 = .ok (.iconst 0, 1) := by decide +kernel
theorem dX12_image_5 : decode cX12_image 5 = .ok (.aload_n 0, 1) := by decide +kernel
theorem dX12_image_6 : decode cX12_image 6 = .ok (.getfield 16, 3) := by decide +kernel
theorem dX12_image_9 : decode cX12_image 9 = .ok (.iconst 0, 1) := by decide +kernel
theorem dX12_image_10 : decode cX12_image 10 = .ok (.invokestatic 57, 3) := by decide +kernel
theorem dX12_image_13 : decode cX12_image 13 = .ok (.aload_n 0, 1) := by decide +kernel
theorem dX12_image_14 : decode cX12_image 14 = .ok (.iconst 1, 1) := by decide +kernel
theorem dX12_image_15 : decode cX12_image 15 = .ok (.putfield 246, 3) := by decide +kernel
theorem dX12_image_18 : decode cX12_image 18 = .ok (.aload_n 0, 1) := by decide +kernel
theorem dX12_image_19 : decode cX12_image 19 = .ok (.getfield 9, 3) := by decide +kernel
theorem dX12_image_22 : decode cX12_image 22 = .ok (.iconst 0, 1) := by decide +kernel
theorem dX12_image_23 : decode cX12_image 23 = .ok (.iaload, 1) := by decide +kernel
theorem dX12_image_24 : decode cX12_image 24 = .ok (.ireturn, 1) := by decide +kernel
theorem dX12_undo_0 : decode cX12_undo 0 = .ok (.aload_n 0, 1) := by decide +kernel
theorem dX12_undo_1 : decode cX12_undo 1 = .ok (.getfield 246, 3) := by decide +kernel
theorem dX12_undo_4 : decode cX12_undo 4 = .ok (.ifCond .ne 6, 3) := by decide +kernel
theorem dX12_undo_7 : decode cX12_undo 7 = .ok (.bipush (-3), 2) := by decide +kernel
theorem dX12_undo_9 : decode cX12_undo 9 = .ok (.ireturn, 1) := by decide +kernel
theorem dX12_undo_10 : decode cX12_undo 10 = .ok (.aload_n 0, 1) := by decide +kernel
theorem dX12_undo_11 : decode cX12_undo 11 = .ok (.getfield 16, 3) := by decide +kernel
theorem dX12_undo_14 : decode cX12_undo 14 = .ok (.iconst 0, 1) := by decide +kernel
theorem dX12_undo_15 : decode cX12_undo 15 = .ok (.aload_n 0, 1) := by decide +kernel
theorem dX12_undo_16 : decode cX12_undo 16 = .ok (.getfield 9, 3) := by decide +kernel
theorem dX12_undo_19 : decode cX12_undo 19 = .ok (.iconst 0, 1) := by decide +kernel
theorem dX12_undo_20 : decode cX12_undo 20 = .ok (.invokestatic 57, 3) := by decide +kernel
theorem dX12_undo_23 : decode cX12_undo 23 = .ok (.aload_n 0, 1) := by decide +kernel
theorem dX12_undo_24 : decode cX12_undo 24 = .ok (.iconst 0, 1) := by decide +kernel
theorem dX12_undo_25 : decode cX12_undo 25 = .ok (.putfield 54, 3) := by decide +kernel
theorem dX12_undo_28 : decode cX12_undo 28 = .ok (.aload_n 0, 1) := by decide +kernel
theorem dX12_undo_29 : decode cX12_undo 29 = .ok (.getfield 9, 3) := by decide +kernel
theorem dX12_undo_32 : decode cX12_undo 32 = .ok (.iconst 0, 1) := by decide +kernel
theorem dX12_undo_33 : decode cX12_undo 33 = .ok (.iaload, 1) := by decide +kernel
theorem dX12_undo_34 : decode cX12_undo 34 = .ok (.ireturn, 1) := by decide +kernel
theorem dX12_count_0 : decode cX12_count 0 = .ok (.iload_n 1, 1) := by decide +kernel
theorem dX12_count_1 : decode cX12_count 1 = .ok (.bipush 10, 2) := by decide +kernel
theorem dX12_count_3 : decode cX12_count 3 = .ok (.bipush 13, 2) := by decide +kernel
theorem dX12_count_5 : decode cX12_count 5 = .ok (.invokestatic 69, 3) := by decide +kernel
theorem dX12_count_8 : decode cX12_count 8 = .ok (.ifCond .eq 42, 3) := by decide +kernel
theorem dX12_count_11 : decode cX12_count 11 = .ok (.iconst 0, 1) := by decide +kernel
theorem dX12_count_12 : decode cX12_count 12 = .ok (.istore_n 2, 1) := by decide +kernel
theorem dX12_count_13 : decode cX12_count 13 = .ok (.iconst 0, 1) := by decide +kernel
theorem dX12_count_14 : decode cX12_count 14 = .ok (.istore_n 3, 1) := by decide +kernel
theorem dX12_count_15 : decode cX12_count 15 = .ok (.iload_n 3, 1) := by decide +kernel
theorem dX12_count_16 : decode cX12_count 16 = .ok (.bipush 6, 2) := by decide +kernel
theorem dX12_count_18 : decode cX12_count 18 = .ok (.if_icmp .ge 30, 3) := by decide +kernel
theorem dX12_count_21 : decode cX12_count 21 = .ok (.iload_n 2, 1) := by decide +kernel
theorem dX12_count_22 : decode cX12_count 22 = .ok (.aload_n 0, 1) := by decide +kernel
theorem dX12_count_23 : decode cX12_count 23 = .ok (.iload_n 3, 1) := by decide +kernel
theorem dX12_count_24 : decode cX12_count 24 = .ok (.iconst 1, 1) := by decide +kernel
theorem dX12_count_25 : decode cX12_count 25 = .ok (.invokevirtual 73, 3) := by decide +kernel
theorem dX12_count_28 : decode cX12_count 28 = .ok (.iload_n 1, 1) := by decide +kernel
theorem dX12_count_29 : decode cX12_count 29 = .ok (.bipush 10, 2) := by decide +kernel
theorem dX12_count_31 : decode cX12_count 31 = .ok (.isub, 1) := by decide +kernel
theorem dX12_count_32 : decode cX12_count 32 = .ok (.if_icmp .ne 7, 3) := by decide +kernel
theorem dX12_count_35 : decode cX12_count 35 = .ok (.iconst 1, 1) := by decide +kernel
theorem dX12_count_36 : decode cX12_count 36 = .ok (.goto 4, 3) := by decide +kernel
theorem dX12_count_39 : decode cX12_count 39 = .ok (.iconst 0, 1) := by decide +kernel
theorem dX12_count_40 : decode cX12_count 40 = .ok (.iadd, 1) := by decide +kernel
theorem dX12_count_41 : decode cX12_count 41 = .ok (.istore_n 2, 1) := by decide +kernel
theorem dX12_count_42 : decode cX12_count 42 = .ok (.iinc 3 1, 3) := by decide +kernel
theorem dX12_count_45 : decode cX12_count 45 = .ok (.goto (-30), 3) := by decide +kernel
theorem dX12_count_48 : decode cX12_count 48 = .ok (.iload_n 2, 1) := by decide +kernel
theorem dX12_count_49 : decode cX12_count 49 = .ok (.ireturn, 1) := by decide +kernel
theorem dX12_count_50 : decode cX12_count 50 = .ok (.iload_n 1, 1) := by decide +kernel
theorem dX12_count_51 : decode cX12_count 51 = .ok (.tableswitch 86 0 6 #[41, 48, 55, 62, 69, 74, 79], 41) := by decide +kernel
theorem dX12_count_92 : decode cX12_count 92 = .ok (.aload_n 0, 1) := by decide +kernel
theorem dX12_count_93 : decode cX12_count 93 = .ok (.getfield 9, 3) := by decide +kernel
theorem dX12_count_96 : decode cX12_count 96 = .ok (.iconst 0, 1) := by decide +kernel
theorem dX12_count_97 : decode cX12_count 97 = .ok (.iaload, 1) := by decide +kernel
theorem dX12_count_98 : decode cX12_count 98 = .ok (.ireturn, 1) := by decide +kernel
theorem dX12_count_99 : decode cX12_count 99 = .ok (.aload_n 0, 1) := by decide +kernel
theorem dX12_count_100 : decode cX12_count 100 = .ok (.getfield 9, 3) := by decide +kernel
theorem dX12_count_103 : decode cX12_count 103 = .ok (.iconst 1, 1) := by decide +kernel
theorem dX12_count_104 : decode cX12_count 104 = .ok (.iaload, 1) := by decide +kernel
theorem dX12_count_105 : decode cX12_count 105 = .ok (.ireturn, 1) := by decide +kernel
theorem dX12_count_106 : decode cX12_count 106 = .ok (.aload_n 0, 1) := by decide +kernel
theorem dX12_count_107 : decode cX12_count 107 = .ok (.getfield 9, 3) := by decide +kernel
theorem dX12_count_110 : decode cX12_count 110 = .ok (.iconst 2, 1) := by decide +kernel
theorem dX12_count_111 : decode cX12_count 111 = .ok (.iaload, 1) := by decide +kernel
theorem dX12_count_112 : decode cX12_count 112 = .ok (.ireturn, 1) := by decide +kernel
theorem dX12_count_113 : decode cX12_count 113 = .ok (.aload_n 0, 1) := by decide +kernel
theorem dX12_count_114 : decode cX12_count 114 = .ok (.getfield 9, 3) := by decide +kernel
theorem dX12_count_117 : decode cX12_count 117 = .ok (.iconst 3, 1) := by decide +kernel
theorem dX12_count_118 : decode cX12_count 118 = .ok (.iaload, 1) := by decide +kernel
theorem dX12_count_119 : decode cX12_count 119 = .ok (.ireturn, 1) := by decide +kernel
theorem dX12_count_120 : decode cX12_count 120 = .ok (.aload_n 0, 1) := by decide +kernel
theorem dX12_count_121 : decode cX12_count 121 = .ok (.getfield 175, 3) := by decide +kernel
theorem dX12_count_124 : decode cX12_count 124 = .ok (.ireturn, 1) := by decide +kernel
theorem dX12_count_125 : decode cX12_count 125 = .ok (.aload_n 0, 1) := by decide +kernel
theorem dX12_count_126 : decode cX12_count 126 = .ok (.getfield 54, 3) := by decide +kernel
theorem dX12_count_129 : decode cX12_count 129 = .ok (.ireturn, 1) := by decide +kernel
theorem dX12_count_130 : decode cX12_count 130 = .ok (.aload_n 0, 1) := by decide +kernel
theorem dX12_count_131 : decode cX12_count 131 = .ok (.getfield 9, 3) := by decide +kernel
theorem dX12_count_134 : decode cX12_count 134 = .ok (.iconst 4, 1) := by decide +kernel
theorem dX12_count_135 : decode cX12_count 135 = .ok (.iaload, 1) := by decide +kernel
theorem dX12_count_136 : decode cX12_count 136 = .ok (.ireturn, 1) := by decide +kernel
theorem dX12_count_137 : decode cX12_count 137 = .ok (.iconst (-1), 1) := by decide +kernel
theorem dX12_count_138 : decode cX12_count 138 = .ok (.ireturn, 1) := by decide +kernel
theorem dL_law_0 : decode cL_law 0 = .ok (.new 7, 3) := by decide +kernel
theorem dL_law_3 : decode cL_law 3 = .ok (.dup, 1) := by decide +kernel
theorem dL_law_4 : decode cL_law 4 = .ok (.invokespecial 9, 3) := by decide +kernel
theorem dL_law_7 : decode cL_law 7 = .ok (.astore_n 1, 1) := by decide +kernel
theorem dL_law_8 : decode cL_law 8 = .ok (.new 10, 3) := by decide +kernel
theorem dL_law_11 : decode cL_law 11 = .ok (.dup, 1) := by decide +kernel
theorem dL_law_12 : decode cL_law 12 = .ok (.invokespecial 12, 3) := by decide +kernel
theorem dL_law_15 : decode cL_law 15 = .ok (.astore_n 2, 1) := by decide +kernel
theorem dL_law_16 : decode cL_law 16 = .ok (.iconst 0, 1) := by decide +kernel
theorem dL_law_17 : decode cL_law 17 = .ok (.istore_n 3, 1) := by decide +kernel
theorem dL_law_18 : decode cL_law 18 = .ok (.iload_n 3, 1) := by decide +kernel
theorem dL_law_19 : decode cL_law 19 = .ok (.aload_n 0, 1) := by decide +kernel
theorem dL_law_20 : decode cL_law 20 = .ok (.arraylength, 1) := by decide +kernel
theorem dL_law_21 : decode cL_law 21 = .ok (.bipush 7, 2) := by decide +kernel
theorem dL_law_23 : decode cL_law 23 = .ok (.isub, 1) := by decide +kernel
theorem dL_law_24 : decode cL_law 24 = .ok (.if_icmp .gt 1044, 3) := by decide +kernel
theorem dL_law_27 : decode cL_law 27 = .ok (.aload_n 0, 1) := by decide +kernel
theorem dL_law_28 : decode cL_law 28 = .ok (.iload_n 3, 1) := by decide +kernel
theorem dL_law_29 : decode cL_law 29 = .ok (.iaload, 1) := by decide +kernel
theorem dL_law_30 : decode cL_law 30 = .ok (.bipush 31, 2) := by decide +kernel
theorem dL_law_32 : decode cL_law 32 = .ok (.iand, 1) := by decide +kernel
theorem dL_law_33 : decode cL_law 33 = .ok (.tableswitch 1029 0 29 #[135, 168, 211, 254, 297, 320, 363, 416, 439, 472, 485, 508, 531, 606, 619, 632, 665, 698, 731, 784, 817, 840, 873, 897, 910, 943, 967, 980, 993, 1006], 135) := by decide +kernel
theorem dL_law_168 : decode cL_law 168 = .ok (.aload_n 1, 1) := by decide +kernel
theorem dL_law_169 : decode cL_law 169 = .ok (.aload_n 0, 1) := by decide +kernel
theorem dL_law_170 : decode cL_law 170 = .ok (.iload_n 3, 1) := by decide +kernel
theorem dL_law_171 : decode cL_law 171 = .ok (.iconst 1, 1) := by decide +kernel
theorem dL_law_172 : decode cL_law 172 = .ok (.iadd, 1) := by decide +kernel
theorem dL_law_173 : decode cL_law 173 = .ok (.iaload, 1) := by decide +kernel
theorem dL_law_174 : decode cL_law 174 = .ok (.aload_n 0, 1) := by decide +kernel
theorem dL_law_175 : decode cL_law 175 = .ok (.iload_n 3, 1) := by decide +kernel
theorem dL_law_176 : decode cL_law 176 = .ok (.iconst 2, 1) := by decide +kernel
theorem dL_law_177 : decode cL_law 177 = .ok (.iadd, 1) := by decide +kernel
theorem dL_law_178 : decode cL_law 178 = .ok (.iaload, 1) := by decide +kernel
theorem dL_law_179 : decode cL_law 179 = .ok (.invokevirtual 13, 3) := by decide +kernel
theorem dL_law_182 : decode cL_law 182 = .ok (.aload_n 2, 1) := by decide +kernel
theorem dL_law_183 : decode cL_law 183 = .ok (.aload_n 0, 1) := by decide +kernel
theorem dL_law_184 : decode cL_law 184 = .ok (.iload_n 3, 1) := by decide +kernel
theorem dL_law_185 : decode cL_law 185 = .ok (.iconst 1, 1) := by decide +kernel
theorem dL_law_186 : decode cL_law 186 = .ok (.iadd, 1) := by decide +kernel
theorem dL_law_187 : decode cL_law 187 = .ok (.iaload, 1) := by decide +kernel
theorem dL_law_188 : decode cL_law 188 = .ok (.aload_n 0, 1) := by decide +kernel
theorem dL_law_189 : decode cL_law 189 = .ok (.iload_n 3, 1) := by decide +kernel
theorem dL_law_190 : decode cL_law 190 = .ok (.iconst 2, 1) := by decide +kernel
theorem dL_law_191 : decode cL_law 191 = .ok (.iadd, 1) := by decide +kernel
theorem dL_law_192 : decode cL_law 192 = .ok (.iaload, 1) := by decide +kernel
theorem dL_law_193 : decode cL_law 193 = .ok (.invokevirtual 17, 3) := by decide +kernel
theorem dL_law_196 : decode cL_law 196 = .ok (.if_icmp .eq 866, 3) := by decide +kernel
theorem dL_law_199 : decode cL_law 199 = .ok (.iconst 0, 1) := by decide +kernel
theorem dL_law_200 : decode cL_law 200 = .ok (.ireturn, 1) := by decide +kernel
theorem dL_law_201 : decode cL_law 201 = .ok (.aload_n 1, 1) := by decide +kernel
theorem dL_law_202 : decode cL_law 202 = .ok (.aload_n 0, 1) := by decide +kernel
theorem dL_law_203 : decode cL_law 203 = .ok (.iload_n 3, 1) := by decide +kernel
theorem dL_law_204 : decode cL_law 204 = .ok (.iconst 1, 1) := by decide +kernel
theorem dL_law_205 : decode cL_law 205 = .ok (.iadd, 1) := by decide +kernel
theorem dL_law_206 : decode cL_law 206 = .ok (.iaload, 1) := by decide +kernel
theorem dL_law_207 : decode cL_law 207 = .ok (.aload_n 0, 1) := by decide +kernel
theorem dL_law_208 : decode cL_law 208 = .ok (.iload_n 3, 1) := by decide +kernel
theorem dL_law_209 : decode cL_law 209 = .ok (.iconst 2, 1) := by decide +kernel
theorem dL_law_210 : decode cL_law 210 = .ok (.iadd, 1) := by decide +kernel
theorem dL_law_211 : decode cL_law 211 = .ok (.iaload, 1) := by decide +kernel
theorem dL_law_212 : decode cL_law 212 = .ok (.aload_n 0, 1) := by decide +kernel
theorem dL_law_213 : decode cL_law 213 = .ok (.iload_n 3, 1) := by decide +kernel
theorem dL_law_214 : decode cL_law 214 = .ok (.iconst 3, 1) := by decide +kernel
theorem dL_law_215 : decode cL_law 215 = .ok (.iadd, 1) := by decide +kernel
theorem dL_law_216 : decode cL_law 216 = .ok (.iaload, 1) := by decide +kernel
theorem dL_law_217 : decode cL_law 217 = .ok (.invokevirtual 18, 3) := by decide +kernel
theorem dL_law_220 : decode cL_law 220 = .ok (.aload_n 2, 1) := by decide +kernel
theorem dL_law_221 : decode cL_law 221 = .ok (.aload_n 0, 1) := by decide +kernel
theorem dL_law_222 : decode cL_law 222 = .ok (.iload_n 3, 1) := by decide +kernel
theorem dL_law_223 : decode cL_law 223 = .ok (.iconst 1, 1) := by decide +kernel
theorem dL_law_224 : decode cL_law 224 = .ok (.iadd, 1) := by decide +kernel
theorem dL_law_225 : decode cL_law 225 = .ok (.iaload, 1) := by decide +kernel
theorem dL_law_226 : decode cL_law 226 = .ok (.aload_n 0, 1) := by decide +kernel
theorem dL_law_227 : decode cL_law 227 = .ok (.iload_n 3, 1) := by decide +kernel
theorem dL_law_228 : decode cL_law 228 = .ok (.iconst 2, 1) := by decide +kernel
theorem dL_law_229 : decode cL_law 229 = .ok (.iadd, 1) := by decide +kernel
theorem dL_law_230 : decode cL_law 230 = .ok (.iaload, 1) := by decide +kernel
theorem dL_law_231 : decode cL_law 231 = .ok (.aload_n 0, 1) := by decide +kernel
theorem dL_law_232 : decode cL_law 232 = .ok (.iload_n 3, 1) := by decide +kernel
theorem dL_law_233 : decode cL_law 233 = .ok (.iconst 3, 1) := by decide +kernel
theorem dL_law_234 : decode cL_law 234 = .ok (.iadd, 1) := by decide +kernel
theorem dL_law_235 : decode cL_law 235 = .ok (.iaload, 1) := by decide +kernel
theorem dL_law_236 : decode cL_law 236 = .ok (.invokevirtual 22, 3) := by decide +kernel
theorem dL_law_239 : decode cL_law 239 = .ok (.if_icmp .eq 823, 3) := by decide +kernel
theorem dL_law_242 : decode cL_law 242 = .ok (.iconst 0, 1) := by decide +kernel
theorem dL_law_243 : decode cL_law 243 = .ok (.ireturn, 1) := by decide +kernel
theorem dL_law_244 : decode cL_law 244 = .ok (.aload_n 1, 1) := by decide +kernel
theorem dL_law_245 : decode cL_law 245 = .ok (.aload_n 0, 1) := by decide +kernel
theorem dL_law_246 : decode cL_law 246 = .ok (.iload_n 3, 1) := by decide +kernel
theorem dL_law_247 : decode cL_law 247 = .ok (.iconst 1, 1) := by decide +kernel
theorem dL_law_248 : decode cL_law 248 = .ok (.iadd, 1) := by decide +kernel
theorem dL_law_249 : decode cL_law 249 = .ok (.iaload, 1) := by decide +kernel
theorem dL_law_250 : decode cL_law 250 = .ok (.aload_n 0, 1) := by decide +kernel
theorem dL_law_251 : decode cL_law 251 = .ok (.iload_n 3, 1) := by decide +kernel
theorem dL_law_252 : decode cL_law 252 = .ok (.iconst 2, 1) := by decide +kernel
theorem dL_law_253 : decode cL_law 253 = .ok (.iadd, 1) := by decide +kernel
theorem dL_law_254 : decode cL_law 254 = .ok (.iaload, 1) := by decide +kernel
theorem dL_law_255 : decode cL_law 255 = .ok (.aload_n 0, 1) := by decide +kernel
theorem dL_law_256 : decode cL_law 256 = .ok (.iload_n 3, 1) := by decide +kernel
theorem dL_law_257 : decode cL_law 257 = .ok (.iconst 3, 1) := by decide +kernel
theorem dL_law_258 : decode cL_law 258 = .ok (.iadd, 1) := by decide +kernel
theorem dL_law_259 : decode cL_law 259 = .ok (.iaload, 1) := by decide +kernel
theorem dL_law_260 : decode cL_law 260 = .ok (.invokevirtual 23, 3) := by decide +kernel
theorem dL_law_263 : decode cL_law 263 = .ok (.aload_n 2, 1) := by decide +kernel
theorem dL_law_264 : decode cL_law 264 = .ok (.aload_n 0, 1) := by decide +kernel
theorem dL_law_265 : decode cL_law 265 = .ok (.iload_n 3, 1) := by decide +kernel
theorem dL_law_266 : decode cL_law 266 = .ok (.iconst 1, 1) := by decide +kernel
theorem dL_law_267 : decode cL_law 267 = .ok (.iadd, 1) := by decide +kernel
theorem dL_law_268 : decode cL_law 268 = .ok (.iaload, 1) := by decide +kernel
theorem dL_law_269 : decode cL_law 269 = .ok (.aload_n 0, 1) := by decide +kernel
theorem dL_law_270 : decode cL_law 270 = .ok (.iload_n 3, 1) := by decide +kernel
theorem dL_law_271 : decode cL_law 271 = .ok (.iconst 2, 1) := by decide +kernel
theorem dL_law_272 : decode cL_law 272 = .ok (.iadd, 1) := by decide +kernel
theorem dL_law_273 : decode cL_law 273 = .ok (.iaload, 1) := by decide +kernel
theorem dL_law_274 : decode cL_law 274 = .ok (.aload_n 0, 1) := by decide +kernel
theorem dL_law_275 : decode cL_law 275 = .ok (.iload_n 3, 1) := by decide +kernel
theorem dL_law_276 : decode cL_law 276 = .ok (.iconst 3, 1) := by decide +kernel
theorem dL_law_277 : decode cL_law 277 = .ok (.iadd, 1) := by decide +kernel
theorem dL_law_278 : decode cL_law 278 = .ok (.iaload, 1) := by decide +kernel
theorem dL_law_279 : decode cL_law 279 = .ok (.invokevirtual 26, 3) := by decide +kernel
theorem dL_law_282 : decode cL_law 282 = .ok (.if_icmp .eq 780, 3) := by decide +kernel
theorem dL_law_285 : decode cL_law 285 = .ok (.iconst 0, 1) := by decide +kernel
theorem dL_law_286 : decode cL_law 286 = .ok (.ireturn, 1) := by decide +kernel
theorem dL_law_287 : decode cL_law 287 = .ok (.aload_n 1, 1) := by decide +kernel
theorem dL_law_288 : decode cL_law 288 = .ok (.aload_n 0, 1) := by decide +kernel
theorem dL_law_289 : decode cL_law 289 = .ok (.iload_n 3, 1) := by decide +kernel
theorem dL_law_290 : decode cL_law 290 = .ok (.iconst 1, 1) := by decide +kernel
theorem dL_law_291 : decode cL_law 291 = .ok (.iadd, 1) := by decide +kernel
theorem dL_law_292 : decode cL_law 292 = .ok (.iaload, 1) := by decide +kernel
theorem dL_law_293 : decode cL_law 293 = .ok (.aload_n 0, 1) := by decide +kernel
theorem dL_law_294 : decode cL_law 294 = .ok (.iload_n 3, 1) := by decide +kernel
theorem dL_law_295 : decode cL_law 295 = .ok (.iconst 2, 1) := by decide +kernel
theorem dL_law_296 : decode cL_law 296 = .ok (.iadd, 1) := by decide +kernel
theorem dL_law_297 : decode cL_law 297 = .ok (.iaload, 1) := by decide +kernel
theorem dL_law_298 : decode cL_law 298 = .ok (.aload_n 0, 1) := by decide +kernel
theorem dL_law_299 : decode cL_law 299 = .ok (.iload_n 3, 1) := by decide +kernel
theorem dL_law_300 : decode cL_law 300 = .ok (.iconst 3, 1) := by decide +kernel
theorem dL_law_301 : decode cL_law 301 = .ok (.iadd, 1) := by decide +kernel
theorem dL_law_302 : decode cL_law 302 = .ok (.iaload, 1) := by decide +kernel
theorem dL_law_303 : decode cL_law 303 = .ok (.invokevirtual 27, 3) := by decide +kernel
theorem dL_law_306 : decode cL_law 306 = .ok (.aload_n 2, 1) := by decide +kernel
theorem dL_law_307 : decode cL_law 307 = .ok (.aload_n 0, 1) := by decide +kernel
theorem dL_law_308 : decode cL_law 308 = .ok (.iload_n 3, 1) := by decide +kernel
theorem dL_law_309 : decode cL_law 309 = .ok (.iconst 1, 1) := by decide +kernel
theorem dL_law_310 : decode cL_law 310 = .ok (.iadd, 1) := by decide +kernel
theorem dL_law_311 : decode cL_law 311 = .ok (.iaload, 1) := by decide +kernel
theorem dL_law_312 : decode cL_law 312 = .ok (.aload_n 0, 1) := by decide +kernel
theorem dL_law_313 : decode cL_law 313 = .ok (.iload_n 3, 1) := by decide +kernel
theorem dL_law_314 : decode cL_law 314 = .ok (.iconst 2, 1) := by decide +kernel
theorem dL_law_315 : decode cL_law 315 = .ok (.iadd, 1) := by decide +kernel
theorem dL_law_316 : decode cL_law 316 = .ok (.iaload, 1) := by decide +kernel
theorem dL_law_317 : decode cL_law 317 = .ok (.aload_n 0, 1) := by decide +kernel
theorem dL_law_318 : decode cL_law 318 = .ok (.iload_n 3, 1) := by decide +kernel
theorem dL_law_319 : decode cL_law 319 = .ok (.iconst 3, 1) := by decide +kernel
theorem dL_law_320 : decode cL_law 320 = .ok (.iadd, 1) := by decide +kernel
theorem dL_law_321 : decode cL_law 321 = .ok (.iaload, 1) := by decide +kernel
theorem dL_law_322 : decode cL_law 322 = .ok (.invokevirtual 30, 3) := by decide +kernel
theorem dL_law_325 : decode cL_law 325 = .ok (.if_icmp .eq 737, 3) := by decide +kernel
theorem dL_law_328 : decode cL_law 328 = .ok (.iconst 0, 1) := by decide +kernel
theorem dL_law_329 : decode cL_law 329 = .ok (.ireturn, 1) := by decide +kernel
theorem dL_law_330 : decode cL_law 330 = .ok (.aload_n 1, 1) := by decide +kernel
theorem dL_law_331 : decode cL_law 331 = .ok (.aload_n 0, 1) := by decide +kernel
theorem dL_law_332 : decode cL_law 332 = .ok (.iload_n 3, 1) := by decide +kernel
theorem dL_law_333 : decode cL_law 333 = .ok (.iconst 1, 1) := by decide +kernel
theorem dL_law_334 : decode cL_law 334 = .ok (.iadd, 1) := by decide +kernel
theorem dL_law_335 : decode cL_law 335 = .ok (.iaload, 1) := by decide +kernel
theorem dL_law_336 : decode cL_law 336 = .ok (.invokevirtual 31, 3) := by decide +kernel
theorem dL_law_339 : decode cL_law 339 = .ok (.aload_n 2, 1) := by decide +kernel
theorem dL_law_340 : decode cL_law 340 = .ok (.aload_n 0, 1) := by decide +kernel
theorem dL_law_341 : decode cL_law 341 = .ok (.iload_n 3, 1) := by decide +kernel
theorem dL_law_342 : decode cL_law 342 = .ok (.iconst 1, 1) := by decide +kernel
theorem dL_law_343 : decode cL_law 343 = .ok (.iadd, 1) := by decide +kernel
theorem dL_law_344 : decode cL_law 344 = .ok (.iaload, 1) := by decide +kernel
theorem dL_law_345 : decode cL_law 345 = .ok (.invokevirtual 35, 3) := by decide +kernel
theorem dL_law_348 : decode cL_law 348 = .ok (.if_icmp .eq 714, 3) := by decide +kernel
theorem dL_law_351 : decode cL_law 351 = .ok (.iconst 0, 1) := by decide +kernel
theorem dL_law_352 : decode cL_law 352 = .ok (.ireturn, 1) := by decide +kernel
theorem dL_law_353 : decode cL_law 353 = .ok (.aload_n 1, 1) := by decide +kernel
theorem dL_law_354 : decode cL_law 354 = .ok (.aload_n 0, 1) := by decide +kernel
theorem dL_law_355 : decode cL_law 355 = .ok (.iload_n 3, 1) := by decide +kernel
theorem dL_law_356 : decode cL_law 356 = .ok (.iconst 1, 1) := by decide +kernel
theorem dL_law_357 : decode cL_law 357 = .ok (.iadd, 1) := by decide +kernel
theorem dL_law_358 : decode cL_law 358 = .ok (.iaload, 1) := by decide +kernel
theorem dL_law_359 : decode cL_law 359 = .ok (.aload_n 0, 1) := by decide +kernel
theorem dL_law_360 : decode cL_law 360 = .ok (.iload_n 3, 1) := by decide +kernel
theorem dL_law_361 : decode cL_law 361 = .ok (.iconst 2, 1) := by decide +kernel
theorem dL_law_362 : decode cL_law 362 = .ok (.iadd, 1) := by decide +kernel
theorem dL_law_363 : decode cL_law 363 = .ok (.iaload, 1) := by decide +kernel
theorem dL_law_364 : decode cL_law 364 = .ok (.aload_n 0, 1) := by decide +kernel
theorem dL_law_365 : decode cL_law 365 = .ok (.iload_n 3, 1) := by decide +kernel
theorem dL_law_366 : decode cL_law 366 = .ok (.iconst 3, 1) := by decide +kernel
theorem dL_law_367 : decode cL_law 367 = .ok (.iadd, 1) := by decide +kernel
theorem dL_law_368 : decode cL_law 368 = .ok (.iaload, 1) := by decide +kernel
theorem dL_law_369 : decode cL_law 369 = .ok (.invokevirtual 36, 3) := by decide +kernel
theorem dL_law_372 : decode cL_law 372 = .ok (.aload_n 2, 1) := by decide +kernel
theorem dL_law_373 : decode cL_law 373 = .ok (.aload_n 0, 1) := by decide +kernel
theorem dL_law_374 : decode cL_law 374 = .ok (.iload_n 3, 1) := by decide +kernel
theorem dL_law_375 : decode cL_law 375 = .ok (.iconst 1, 1) := by decide +kernel
theorem dL_law_376 : decode cL_law 376 = .ok (.iadd, 1) := by decide +kernel
theorem dL_law_377 : decode cL_law 377 = .ok (.iaload, 1) := by decide +kernel
theorem dL_law_378 : decode cL_law 378 = .ok (.aload_n 0, 1) := by decide +kernel
theorem dL_law_379 : decode cL_law 379 = .ok (.iload_n 3, 1) := by decide +kernel
theorem dL_law_380 : decode cL_law 380 = .ok (.iconst 2, 1) := by decide +kernel
theorem dL_law_381 : decode cL_law 381 = .ok (.iadd, 1) := by decide +kernel
theorem dL_law_382 : decode cL_law 382 = .ok (.iaload, 1) := by decide +kernel
theorem dL_law_383 : decode cL_law 383 = .ok (.aload_n 0, 1) := by decide +kernel
theorem dL_law_384 : decode cL_law 384 = .ok (.iload_n 3, 1) := by decide +kernel
theorem dL_law_385 : decode cL_law 385 = .ok (.iconst 3, 1) := by decide +kernel
theorem dL_law_386 : decode cL_law 386 = .ok (.iadd, 1) := by decide +kernel
theorem dL_law_387 : decode cL_law 387 = .ok (.iaload, 1) := by decide +kernel
theorem dL_law_388 : decode cL_law 388 = .ok (.invokevirtual 39, 3) := by decide +kernel
theorem dL_law_391 : decode cL_law 391 = .ok (.if_icmp .eq 671, 3) := by decide +kernel
theorem dL_law_394 : decode cL_law 394 = .ok (.iconst 0, 1) := by decide +kernel
theorem dL_law_395 : decode cL_law 395 = .ok (.ireturn, 1) := by decide +kernel
theorem dL_law_396 : decode cL_law 396 = .ok (.aload_n 1, 1) := by decide +kernel
theorem dL_law_397 : decode cL_law 397 = .ok (.aload_n 0, 1) := by decide +kernel
theorem dL_law_398 : decode cL_law 398 = .ok (.iload_n 3, 1) := by decide +kernel
theorem dL_law_399 : decode cL_law 399 = .ok (.iconst 1, 1) := by decide +kernel
theorem dL_law_400 : decode cL_law 400 = .ok (.iadd, 1) := by decide +kernel
theorem dL_law_401 : decode cL_law 401 = .ok (.iaload, 1) := by decide +kernel
theorem dL_law_402 : decode cL_law 402 = .ok (.aload_n 0, 1) := by decide +kernel
theorem dL_law_403 : decode cL_law 403 = .ok (.iload_n 3, 1) := by decide +kernel
theorem dL_law_404 : decode cL_law 404 = .ok (.iconst 2, 1) := by decide +kernel
theorem dL_law_405 : decode cL_law 405 = .ok (.iadd, 1) := by decide +kernel
theorem dL_law_406 : decode cL_law 406 = .ok (.iaload, 1) := by decide +kernel
theorem dL_law_407 : decode cL_law 407 = .ok (.aload_n 0, 1) := by decide +kernel
theorem dL_law_408 : decode cL_law 408 = .ok (.iload_n 3, 1) := by decide +kernel
theorem dL_law_409 : decode cL_law 409 = .ok (.iconst 3, 1) := by decide +kernel
theorem dL_law_410 : decode cL_law 410 = .ok (.iadd, 1) := by decide +kernel
theorem dL_law_411 : decode cL_law 411 = .ok (.iaload, 1) := by decide +kernel
theorem dL_law_412 : decode cL_law 412 = .ok (.aload_n 0, 1) := by decide +kernel
theorem dL_law_413 : decode cL_law 413 = .ok (.iload_n 3, 1) := by decide +kernel
theorem dL_law_414 : decode cL_law 414 = .ok (.iconst 4, 1) := by decide +kernel
theorem dL_law_415 : decode cL_law 415 = .ok (.iadd, 1) := by decide +kernel
theorem dL_law_416 : decode cL_law 416 = .ok (.iaload, 1) := by decide +kernel
theorem dL_law_417 : decode cL_law 417 = .ok (.invokevirtual 40, 3) := by decide +kernel
theorem dL_law_420 : decode cL_law 420 = .ok (.aload_n 2, 1) := by decide +kernel
theorem dL_law_421 : decode cL_law 421 = .ok (.aload_n 0, 1) := by decide +kernel
theorem dL_law_422 : decode cL_law 422 = .ok (.iload_n 3, 1) := by decide +kernel
theorem dL_law_423 : decode cL_law 423 = .ok (.iconst 1, 1) := by decide +kernel
theorem dL_law_424 : decode cL_law 424 = .ok (.iadd, 1) := by decide +kernel
theorem dL_law_425 : decode cL_law 425 = .ok (.iaload, 1) := by decide +kernel
theorem dL_law_426 : decode cL_law 426 = .ok (.aload_n 0, 1) := by decide +kernel
theorem dL_law_427 : decode cL_law 427 = .ok (.iload_n 3, 1) := by decide +kernel
theorem dL_law_428 : decode cL_law 428 = .ok (.iconst 2, 1) := by decide +kernel
theorem dL_law_429 : decode cL_law 429 = .ok (.iadd, 1) := by decide +kernel
theorem dL_law_430 : decode cL_law 430 = .ok (.iaload, 1) := by decide +kernel
theorem dL_law_431 : decode cL_law 431 = .ok (.aload_n 0, 1) := by decide +kernel
theorem dL_law_432 : decode cL_law 432 = .ok (.iload_n 3, 1) := by decide +kernel
theorem dL_law_433 : decode cL_law 433 = .ok (.iconst 3, 1) := by decide +kernel
theorem dL_law_434 : decode cL_law 434 = .ok (.iadd, 1) := by decide +kernel
theorem dL_law_435 : decode cL_law 435 = .ok (.iaload, 1) := by decide +kernel
theorem dL_law_436 : decode cL_law 436 = .ok (.aload_n 0, 1) := by decide +kernel
theorem dL_law_437 : decode cL_law 437 = .ok (.iload_n 3, 1) := by decide +kernel
theorem dL_law_438 : decode cL_law 438 = .ok (.iconst 4, 1) := by decide +kernel
theorem dL_law_439 : decode cL_law 439 = .ok (.iadd, 1) := by decide +kernel
theorem dL_law_440 : decode cL_law 440 = .ok (.iaload, 1) := by decide +kernel
theorem dL_law_441 : decode cL_law 441 = .ok (.invokevirtual 44, 3) := by decide +kernel
theorem dL_law_444 : decode cL_law 444 = .ok (.if_icmp .eq 618, 3) := by decide +kernel
theorem dL_law_447 : decode cL_law 447 = .ok (.iconst 0, 1) := by decide +kernel
theorem dL_law_448 : decode cL_law 448 = .ok (.ireturn, 1) := by decide +kernel
theorem dL_law_449 : decode cL_law 449 = .ok (.aload_n 1, 1) := by decide +kernel
theorem dL_law_450 : decode cL_law 450 = .ok (.aload_n 0, 1) := by decide +kernel
theorem dL_law_451 : decode cL_law 451 = .ok (.iload_n 3, 1) := by decide +kernel
theorem dL_law_452 : decode cL_law 452 = .ok (.iconst 1, 1) := by decide +kernel
theorem dL_law_453 : decode cL_law 453 = .ok (.iadd, 1) := by decide +kernel
theorem dL_law_454 : decode cL_law 454 = .ok (.iaload, 1) := by decide +kernel
theorem dL_law_455 : decode cL_law 455 = .ok (.invokevirtual 45, 3) := by decide +kernel
theorem dL_law_458 : decode cL_law 458 = .ok (.aload_n 2, 1) := by decide +kernel
theorem dL_law_459 : decode cL_law 459 = .ok (.aload_n 0, 1) := by decide +kernel
theorem dL_law_460 : decode cL_law 460 = .ok (.iload_n 3, 1) := by decide +kernel
theorem dL_law_461 : decode cL_law 461 = .ok (.iconst 1, 1) := by decide +kernel
theorem dL_law_462 : decode cL_law 462 = .ok (.iadd, 1) := by decide +kernel
theorem dL_law_463 : decode cL_law 463 = .ok (.iaload, 1) := by decide +kernel
theorem dL_law_464 : decode cL_law 464 = .ok (.invokevirtual 48, 3) := by decide +kernel
theorem dL_law_467 : decode cL_law 467 = .ok (.if_icmp .eq 595, 3) := by decide +kernel
theorem dL_law_470 : decode cL_law 470 = .ok (.iconst 0, 1) := by decide +kernel
theorem dL_law_471 : decode cL_law 471 = .ok (.ireturn, 1) := by decide +kernel
theorem dL_law_472 : decode cL_law 472 = .ok (.aload_n 1, 1) := by decide +kernel
theorem dL_law_473 : decode cL_law 473 = .ok (.aload_n 0, 1) := by decide +kernel
theorem dL_law_474 : decode cL_law 474 = .ok (.iload_n 3, 1) := by decide +kernel
theorem dL_law_475 : decode cL_law 475 = .ok (.iconst 1, 1) := by decide +kernel
theorem dL_law_476 : decode cL_law 476 = .ok (.iadd, 1) := by decide +kernel
theorem dL_law_477 : decode cL_law 477 = .ok (.iaload, 1) := by decide +kernel
theorem dL_law_478 : decode cL_law 478 = .ok (.aload_n 0, 1) := by decide +kernel
theorem dL_law_479 : decode cL_law 479 = .ok (.iload_n 3, 1) := by decide +kernel
theorem dL_law_480 : decode cL_law 480 = .ok (.iconst 2, 1) := by decide +kernel
theorem dL_law_481 : decode cL_law 481 = .ok (.iadd, 1) := by decide +kernel
theorem dL_law_482 : decode cL_law 482 = .ok (.iaload, 1) := by decide +kernel
theorem dL_law_483 : decode cL_law 483 = .ok (.invokevirtual 49, 3) := by decide +kernel
theorem dL_law_486 : decode cL_law 486 = .ok (.aload_n 2, 1) := by decide +kernel
theorem dL_law_487 : decode cL_law 487 = .ok (.aload_n 0, 1) := by decide +kernel
theorem dL_law_488 : decode cL_law 488 = .ok (.iload_n 3, 1) := by decide +kernel
theorem dL_law_489 : decode cL_law 489 = .ok (.iconst 1, 1) := by decide +kernel
theorem dL_law_490 : decode cL_law 490 = .ok (.iadd, 1) := by decide +kernel
theorem dL_law_491 : decode cL_law 491 = .ok (.iaload, 1) := by decide +kernel
theorem dL_law_492 : decode cL_law 492 = .ok (.aload_n 0, 1) := by decide +kernel
theorem dL_law_493 : decode cL_law 493 = .ok (.iload_n 3, 1) := by decide +kernel
theorem dL_law_494 : decode cL_law 494 = .ok (.iconst 2, 1) := by decide +kernel
theorem dL_law_495 : decode cL_law 495 = .ok (.iadd, 1) := by decide +kernel
theorem dL_law_496 : decode cL_law 496 = .ok (.iaload, 1) := by decide +kernel
theorem dL_law_497 : decode cL_law 497 = .ok (.invokevirtual 52, 3) := by decide +kernel
theorem dL_law_500 : decode cL_law 500 = .ok (.if_icmp .eq 562, 3) := by decide +kernel
theorem dL_law_503 : decode cL_law 503 = .ok (.iconst 0, 1) := by decide +kernel
theorem dL_law_504 : decode cL_law 504 = .ok (.ireturn, 1) := by decide +kernel
theorem dL_law_505 : decode cL_law 505 = .ok (.aload_n 1, 1) := by decide +kernel
theorem dL_law_506 : decode cL_law 506 = .ok (.invokevirtual 53, 3) := by decide +kernel
theorem dL_law_509 : decode cL_law 509 = .ok (.aload_n 2, 1) := by decide +kernel
theorem dL_law_510 : decode cL_law 510 = .ok (.invokevirtual 57, 3) := by decide +kernel
theorem dL_law_513 : decode cL_law 513 = .ok (.if_icmp .eq 549, 3) := by decide +kernel
theorem dL_law_516 : decode cL_law 516 = .ok (.iconst 0, 1) := by decide +kernel
theorem dL_law_517 : decode cL_law 517 = .ok (.ireturn, 1) := by decide +kernel
theorem dL_law_518 : decode cL_law 518 = .ok (.aload_n 1, 1) := by decide +kernel
theorem dL_law_519 : decode cL_law 519 = .ok (.aload_n 0, 1) := by decide +kernel
theorem dL_law_520 : decode cL_law 520 = .ok (.iload_n 3, 1) := by decide +kernel
theorem dL_law_521 : decode cL_law 521 = .ok (.iconst 1, 1) := by decide +kernel
theorem dL_law_522 : decode cL_law 522 = .ok (.iadd, 1) := by decide +kernel
theorem dL_law_523 : decode cL_law 523 = .ok (.iaload, 1) := by decide +kernel
theorem dL_law_524 : decode cL_law 524 = .ok (.invokevirtual 58, 3) := by decide +kernel
theorem dL_law_527 : decode cL_law 527 = .ok (.aload_n 2, 1) := by decide +kernel
theorem dL_law_528 : decode cL_law 528 = .ok (.aload_n 0, 1) := by decide +kernel
theorem dL_law_529 : decode cL_law 529 = .ok (.iload_n 3, 1) := by decide +kernel
theorem dL_law_530 : decode cL_law 530 = .ok (.iconst 1, 1) := by decide +kernel
theorem dL_law_531 : decode cL_law 531 = .ok (.iadd, 1) := by decide +kernel
theorem dL_law_532 : decode cL_law 532 = .ok (.iaload, 1) := by decide +kernel
theorem dL_law_533 : decode cL_law 533 = .ok (.invokevirtual 61, 3) := by decide +kernel
theorem dL_law_536 : decode cL_law 536 = .ok (.if_icmp .eq 526, 3) := by decide +kernel
theorem dL_law_539 : decode cL_law 539 = .ok (.iconst 0, 1) := by decide +kernel
theorem dL_law_540 : decode cL_law 540 = .ok (.ireturn, 1) := by decide +kernel
theorem dL_law_541 : decode cL_law 541 = .ok (.aload_n 1, 1) := by decide +kernel
theorem dL_law_542 : decode cL_law 542 = .ok (.aload_n 0, 1) := by decide +kernel
theorem dL_law_543 : decode cL_law 543 = .ok (.iload_n 3, 1) := by decide +kernel
theorem dL_law_544 : decode cL_law 544 = .ok (.iconst 1, 1) := by decide +kernel
theorem dL_law_545 : decode cL_law 545 = .ok (.iadd, 1) := by decide +kernel
theorem dL_law_546 : decode cL_law 546 = .ok (.iaload, 1) := by decide +kernel
theorem dL_law_547 : decode cL_law 547 = .ok (.invokevirtual 62, 3) := by decide +kernel
theorem dL_law_550 : decode cL_law 550 = .ok (.aload_n 2, 1) := by decide +kernel
theorem dL_law_551 : decode cL_law 551 = .ok (.aload_n 0, 1) := by decide +kernel
theorem dL_law_552 : decode cL_law 552 = .ok (.iload_n 3, 1) := by decide +kernel
theorem dL_law_553 : decode cL_law 553 = .ok (.iconst 1, 1) := by decide +kernel
theorem dL_law_554 : decode cL_law 554 = .ok (.iadd, 1) := by decide +kernel
theorem dL_law_555 : decode cL_law 555 = .ok (.iaload, 1) := by decide +kernel
theorem dL_law_556 : decode cL_law 556 = .ok (.invokevirtual 65, 3) := by decide +kernel
theorem dL_law_559 : decode cL_law 559 = .ok (.if_icmp .eq 503, 3) := by decide +kernel
theorem dL_law_562 : decode cL_law 562 = .ok (.iconst 0, 1) := by decide +kernel
theorem dL_law_563 : decode cL_law 563 = .ok (.ireturn, 1) := by decide +kernel
theorem dL_law_564 : decode cL_law 564 = .ok (.aload_n 1, 1) := by decide +kernel
theorem dL_law_565 : decode cL_law 565 = .ok (.aload_n 0, 1) := by decide +kernel
theorem dL_law_566 : decode cL_law 566 = .ok (.iload_n 3, 1) := by decide +kernel
theorem dL_law_567 : decode cL_law 567 = .ok (.iconst 1, 1) := by decide +kernel
theorem dL_law_568 : decode cL_law 568 = .ok (.iadd, 1) := by decide +kernel
theorem dL_law_569 : decode cL_law 569 = .ok (.iaload, 1) := by decide +kernel
theorem dL_law_570 : decode cL_law 570 = .ok (.aload_n 0, 1) := by decide +kernel
theorem dL_law_571 : decode cL_law 571 = .ok (.iload_n 3, 1) := by decide +kernel
theorem dL_law_572 : decode cL_law 572 = .ok (.iconst 2, 1) := by decide +kernel
theorem dL_law_573 : decode cL_law 573 = .ok (.iadd, 1) := by decide +kernel
theorem dL_law_574 : decode cL_law 574 = .ok (.iaload, 1) := by decide +kernel
theorem dL_law_575 : decode cL_law 575 = .ok (.aload_n 0, 1) := by decide +kernel
theorem dL_law_576 : decode cL_law 576 = .ok (.iload_n 3, 1) := by decide +kernel
theorem dL_law_577 : decode cL_law 577 = .ok (.iconst 3, 1) := by decide +kernel
theorem dL_law_578 : decode cL_law 578 = .ok (.iadd, 1) := by decide +kernel
theorem dL_law_579 : decode cL_law 579 = .ok (.iaload, 1) := by decide +kernel
theorem dL_law_580 : decode cL_law 580 = .ok (.aload_n 0, 1) := by decide +kernel
theorem dL_law_581 : decode cL_law 581 = .ok (.iload_n 3, 1) := by decide +kernel
theorem dL_law_582 : decode cL_law 582 = .ok (.iconst 4, 1) := by decide +kernel
theorem dL_law_583 : decode cL_law 583 = .ok (.iadd, 1) := by decide +kernel
theorem dL_law_584 : decode cL_law 584 = .ok (.iaload, 1) := by decide +kernel
theorem dL_law_585 : decode cL_law 585 = .ok (.aload_n 0, 1) := by decide +kernel
theorem dL_law_586 : decode cL_law 586 = .ok (.iload_n 3, 1) := by decide +kernel
theorem dL_law_587 : decode cL_law 587 = .ok (.iconst 5, 1) := by decide +kernel
theorem dL_law_588 : decode cL_law 588 = .ok (.iadd, 1) := by decide +kernel
theorem dL_law_589 : decode cL_law 589 = .ok (.iaload, 1) := by decide +kernel
theorem dL_law_590 : decode cL_law 590 = .ok (.aload_n 0, 1) := by decide +kernel
theorem dL_law_591 : decode cL_law 591 = .ok (.iload_n 3, 1) := by decide +kernel
theorem dL_law_592 : decode cL_law 592 = .ok (.bipush 6, 2) := by decide +kernel
theorem dL_law_594 : decode cL_law 594 = .ok (.iadd, 1) := by decide +kernel
theorem dL_law_595 : decode cL_law 595 = .ok (.iaload, 1) := by decide +kernel
theorem dL_law_596 : decode cL_law 596 = .ok (.invokevirtual 66, 3) := by decide +kernel
theorem dL_law_599 : decode cL_law 599 = .ok (.aload_n 2, 1) := by decide +kernel
theorem dL_law_600 : decode cL_law 600 = .ok (.aload_n 0, 1) := by decide +kernel
theorem dL_law_601 : decode cL_law 601 = .ok (.iload_n 3, 1) := by decide +kernel
theorem dL_law_602 : decode cL_law 602 = .ok (.iconst 1, 1) := by decide +kernel
theorem dL_law_603 : decode cL_law 603 = .ok (.iadd, 1) := by decide +kernel
theorem dL_law_604 : decode cL_law 604 = .ok (.iaload, 1) := by decide +kernel
theorem dL_law_605 : decode cL_law 605 = .ok (.aload_n 0, 1) := by decide +kernel
theorem dL_law_606 : decode cL_law 606 = .ok (.iload_n 3, 1) := by decide +kernel
theorem dL_law_607 : decode cL_law 607 = .ok (.iconst 2, 1) := by decide +kernel
theorem dL_law_608 : decode cL_law 608 = .ok (.iadd, 1) := by decide +kernel
theorem dL_law_609 : decode cL_law 609 = .ok (.iaload, 1) := by decide +kernel
theorem dL_law_610 : decode cL_law 610 = .ok (.aload_n 0, 1) := by decide +kernel
theorem dL_law_611 : decode cL_law 611 = .ok (.iload_n 3, 1) := by decide +kernel
theorem dL_law_612 : decode cL_law 612 = .ok (.iconst 3, 1) := by decide +kernel
theorem dL_law_613 : decode cL_law 613 = .ok (.iadd, 1) := by decide +kernel
theorem dL_law_614 : decode cL_law 614 = .ok (.iaload, 1) := by decide +kernel
theorem dL_law_615 : decode cL_law 615 = .ok (.aload_n 0, 1) := by decide +kernel
theorem dL_law_616 : decode cL_law 616 = .ok (.iload_n 3, 1) := by decide +kernel
theorem dL_law_617 : decode cL_law 617 = .ok (.iconst 4, 1) := by decide +kernel
theorem dL_law_618 : decode cL_law 618 = .ok (.iadd, 1) := by decide +kernel
theorem dL_law_619 : decode cL_law 619 = .ok (.iaload, 1) := by decide +kernel
theorem dL_law_620 : decode cL_law 620 = .ok (.aload_n 0, 1) := by decide +kernel
theorem dL_law_621 : decode cL_law 621 = .ok (.iload_n 3, 1) := by decide +kernel
theorem dL_law_622 : decode cL_law 622 = .ok (.iconst 5, 1) := by decide +kernel
theorem dL_law_623 : decode cL_law 623 = .ok (.iadd, 1) := by decide +kernel
theorem dL_law_624 : decode cL_law 624 = .ok (.iaload, 1) := by decide +kernel
theorem dL_law_625 : decode cL_law 625 = .ok (.aload_n 0, 1) := by decide +kernel
theorem dL_law_626 : decode cL_law 626 = .ok (.iload_n 3, 1) := by decide +kernel
theorem dL_law_627 : decode cL_law 627 = .ok (.bipush 6, 2) := by decide +kernel
theorem dL_law_629 : decode cL_law 629 = .ok (.iadd, 1) := by decide +kernel
theorem dL_law_630 : decode cL_law 630 = .ok (.iaload, 1) := by decide +kernel
theorem dL_law_631 : decode cL_law 631 = .ok (.invokevirtual 70, 3) := by decide +kernel
theorem dL_law_634 : decode cL_law 634 = .ok (.if_icmp .eq 428, 3) := by decide +kernel
theorem dL_law_637 : decode cL_law 637 = .ok (.iconst 0, 1) := by decide +kernel
theorem dL_law_638 : decode cL_law 638 = .ok (.ireturn, 1) := by decide +kernel
theorem dL_law_639 : decode cL_law 639 = .ok (.aload_n 1, 1) := by decide +kernel
theorem dL_law_640 : decode cL_law 640 = .ok (.invokevirtual 71, 3) := by decide +kernel
theorem dL_law_643 : decode cL_law 643 = .ok (.aload_n 2, 1) := by decide +kernel
theorem dL_law_644 : decode cL_law 644 = .ok (.invokevirtual 74, 3) := by decide +kernel
theorem dL_law_647 : decode cL_law 647 = .ok (.if_icmp .eq 415, 3) := by decide +kernel
theorem dL_law_650 : decode cL_law 650 = .ok (.iconst 0, 1) := by decide +kernel
theorem dL_law_651 : decode cL_law 651 = .ok (.ireturn, 1) := by decide +kernel
theorem dL_law_652 : decode cL_law 652 = .ok (.aload_n 1, 1) := by decide +kernel
theorem dL_law_653 : decode cL_law 653 = .ok (.invokevirtual 75, 3) := by decide +kernel
theorem dL_law_656 : decode cL_law 656 = .ok (.aload_n 2, 1) := by decide +kernel
theorem dL_law_657 : decode cL_law 657 = .ok (.invokevirtual 78, 3) := by decide +kernel
theorem dL_law_660 : decode cL_law 660 = .ok (.if_icmp .eq 402, 3) := by decide +kernel
theorem dL_law_663 : decode cL_law 663 = .ok (.iconst 0, 1) := by decide +kernel
theorem dL_law_664 : decode cL_law 664 = .ok (.ireturn, 1) := by decide +kernel
theorem dL_law_665 : decode cL_law 665 = .ok (.aload_n 1, 1) := by decide +kernel
theorem dL_law_666 : decode cL_law 666 = .ok (.aload_n 0, 1) := by decide +kernel
theorem dL_law_667 : decode cL_law 667 = .ok (.iload_n 3, 1) := by decide +kernel
theorem dL_law_668 : decode cL_law 668 = .ok (.iconst 1, 1) := by decide +kernel
theorem dL_law_669 : decode cL_law 669 = .ok (.iadd, 1) := by decide +kernel
theorem dL_law_670 : decode cL_law 670 = .ok (.iaload, 1) := by decide +kernel
theorem dL_law_671 : decode cL_law 671 = .ok (.aload_n 0, 1) := by decide +kernel
theorem dL_law_672 : decode cL_law 672 = .ok (.iload_n 3, 1) := by decide +kernel
theorem dL_law_673 : decode cL_law 673 = .ok (.iconst 2, 1) := by decide +kernel
theorem dL_law_674 : decode cL_law 674 = .ok (.iadd, 1) := by decide +kernel
theorem dL_law_675 : decode cL_law 675 = .ok (.iaload, 1) := by decide +kernel
theorem dL_law_676 : decode cL_law 676 = .ok (.invokevirtual 79, 3) := by decide +kernel
theorem dL_law_679 : decode cL_law 679 = .ok (.aload_n 2, 1) := by decide +kernel
theorem dL_law_680 : decode cL_law 680 = .ok (.aload_n 0, 1) := by decide +kernel
theorem dL_law_681 : decode cL_law 681 = .ok (.iload_n 3, 1) := by decide +kernel
theorem dL_law_682 : decode cL_law 682 = .ok (.iconst 1, 1) := by decide +kernel
theorem dL_law_683 : decode cL_law 683 = .ok (.iadd, 1) := by decide +kernel
theorem dL_law_684 : decode cL_law 684 = .ok (.iaload, 1) := by decide +kernel
theorem dL_law_685 : decode cL_law 685 = .ok (.aload_n 0, 1) := by decide +kernel
theorem dL_law_686 : decode cL_law 686 = .ok (.iload_n 3, 1) := by decide +kernel
theorem dL_law_687 : decode cL_law 687 = .ok (.iconst 2, 1) := by decide +kernel
theorem dL_law_688 : decode cL_law 688 = .ok (.iadd, 1) := by decide +kernel
theorem dL_law_689 : decode cL_law 689 = .ok (.iaload, 1) := by decide +kernel
theorem dL_law_690 : decode cL_law 690 = .ok (.invokevirtual 82, 3) := by decide +kernel
theorem dL_law_693 : decode cL_law 693 = .ok (.if_icmp .eq 369, 3) := by decide +kernel
theorem dL_law_696 : decode cL_law 696 = .ok (.iconst 0, 1) := by decide +kernel
theorem dL_law_697 : decode cL_law 697 = .ok (.ireturn, 1) := by decide +kernel
theorem dL_law_698 : decode cL_law 698 = .ok (.aload_n 1, 1) := by decide +kernel
theorem dL_law_699 : decode cL_law 699 = .ok (.aload_n 0, 1) := by decide +kernel
theorem dL_law_700 : decode cL_law 700 = .ok (.iload_n 3, 1) := by decide +kernel
theorem dL_law_701 : decode cL_law 701 = .ok (.iconst 1, 1) := by decide +kernel
theorem dL_law_702 : decode cL_law 702 = .ok (.iadd, 1) := by decide +kernel
theorem dL_law_703 : decode cL_law 703 = .ok (.iaload, 1) := by decide +kernel
theorem dL_law_704 : decode cL_law 704 = .ok (.aload_n 0, 1) := by decide +kernel
theorem dL_law_705 : decode cL_law 705 = .ok (.iload_n 3, 1) := by decide +kernel
theorem dL_law_706 : decode cL_law 706 = .ok (.iconst 2, 1) := by decide +kernel
theorem dL_law_707 : decode cL_law 707 = .ok (.iadd, 1) := by decide +kernel
theorem dL_law_708 : decode cL_law 708 = .ok (.iaload, 1) := by decide +kernel
theorem dL_law_709 : decode cL_law 709 = .ok (.invokevirtual 83, 3) := by decide +kernel
theorem dL_law_712 : decode cL_law 712 = .ok (.aload_n 2, 1) := by decide +kernel
theorem dL_law_713 : decode cL_law 713 = .ok (.aload_n 0, 1) := by decide +kernel
theorem dL_law_714 : decode cL_law 714 = .ok (.iload_n 3, 1) := by decide +kernel
theorem dL_law_715 : decode cL_law 715 = .ok (.iconst 1, 1) := by decide +kernel
theorem dL_law_716 : decode cL_law 716 = .ok (.iadd, 1) := by decide +kernel
theorem dL_law_717 : decode cL_law 717 = .ok (.iaload, 1) := by decide +kernel
theorem dL_law_718 : decode cL_law 718 = .ok (.aload_n 0, 1) := by decide +kernel
theorem dL_law_719 : decode cL_law 719 = .ok (.iload_n 3, 1) := by decide +kernel
theorem dL_law_720 : decode cL_law 720 = .ok (.iconst 2, 1) := by decide +kernel
theorem dL_law_721 : decode cL_law 721 = .ok (.iadd, 1) := by decide +kernel
theorem dL_law_722 : decode cL_law 722 = .ok (.iaload, 1) := by decide +kernel
theorem dL_law_723 : decode cL_law 723 = .ok (.invokevirtual 86, 3) := by decide +kernel
theorem dL_law_726 : decode cL_law 726 = .ok (.if_icmp .eq 336, 3) := by decide +kernel
theorem dL_law_729 : decode cL_law 729 = .ok (.iconst 0, 1) := by decide +kernel
theorem dL_law_730 : decode cL_law 730 = .ok (.ireturn, 1) := by decide +kernel
theorem dL_law_731 : decode cL_law 731 = .ok (.aload_n 1, 1) := by decide +kernel
theorem dL_law_732 : decode cL_law 732 = .ok (.aload_n 0, 1) := by decide +kernel
theorem dL_law_733 : decode cL_law 733 = .ok (.iload_n 3, 1) := by decide +kernel
theorem dL_law_734 : decode cL_law 734 = .ok (.iconst 1, 1) := by decide +kernel
theorem dL_law_735 : decode cL_law 735 = .ok (.iadd, 1) := by decide +kernel
theorem dL_law_736 : decode cL_law 736 = .ok (.iaload, 1) := by decide +kernel
theorem dL_law_737 : decode cL_law 737 = .ok (.aload_n 0, 1) := by decide +kernel
theorem dL_law_738 : decode cL_law 738 = .ok (.iload_n 3, 1) := by decide +kernel
theorem dL_law_739 : decode cL_law 739 = .ok (.iconst 2, 1) := by decide +kernel
theorem dL_law_740 : decode cL_law 740 = .ok (.iadd, 1) := by decide +kernel
theorem dL_law_741 : decode cL_law 741 = .ok (.iaload, 1) := by decide +kernel
theorem dL_law_742 : decode cL_law 742 = .ok (.invokevirtual 87, 3) := by decide +kernel
theorem dL_law_745 : decode cL_law 745 = .ok (.aload_n 2, 1) := by decide +kernel
theorem dL_law_746 : decode cL_law 746 = .ok (.aload_n 0, 1) := by decide +kernel
theorem dL_law_747 : decode cL_law 747 = .ok (.iload_n 3, 1) := by decide +kernel
theorem dL_law_748 : decode cL_law 748 = .ok (.iconst 1, 1) := by decide +kernel
theorem dL_law_749 : decode cL_law 749 = .ok (.iadd, 1) := by decide +kernel
theorem dL_law_750 : decode cL_law 750 = .ok (.iaload, 1) := by decide +kernel
theorem dL_law_751 : decode cL_law 751 = .ok (.aload_n 0, 1) := by decide +kernel
theorem dL_law_752 : decode cL_law 752 = .ok (.iload_n 3, 1) := by decide +kernel
theorem dL_law_753 : decode cL_law 753 = .ok (.iconst 2, 1) := by decide +kernel
theorem dL_law_754 : decode cL_law 754 = .ok (.iadd, 1) := by decide +kernel
theorem dL_law_755 : decode cL_law 755 = .ok (.iaload, 1) := by decide +kernel
theorem dL_law_756 : decode cL_law 756 = .ok (.invokevirtual 90, 3) := by decide +kernel
theorem dL_law_759 : decode cL_law 759 = .ok (.if_icmp .eq 303, 3) := by decide +kernel
theorem dL_law_762 : decode cL_law 762 = .ok (.iconst 0, 1) := by decide +kernel
theorem dL_law_763 : decode cL_law 763 = .ok (.ireturn, 1) := by decide +kernel
theorem dL_law_764 : decode cL_law 764 = .ok (.aload_n 1, 1) := by decide +kernel
theorem dL_law_765 : decode cL_law 765 = .ok (.aload_n 0, 1) := by decide +kernel
theorem dL_law_766 : decode cL_law 766 = .ok (.iload_n 3, 1) := by decide +kernel
theorem dL_law_767 : decode cL_law 767 = .ok (.iconst 1, 1) := by decide +kernel
theorem dL_law_768 : decode cL_law 768 = .ok (.iadd, 1) := by decide +kernel
theorem dL_law_769 : decode cL_law 769 = .ok (.iaload, 1) := by decide +kernel
theorem dL_law_770 : decode cL_law 770 = .ok (.aload_n 0, 1) := by decide +kernel
theorem dL_law_771 : decode cL_law 771 = .ok (.iload_n 3, 1) := by decide +kernel
theorem dL_law_772 : decode cL_law 772 = .ok (.iconst 2, 1) := by decide +kernel
theorem dL_law_773 : decode cL_law 773 = .ok (.iadd, 1) := by decide +kernel
theorem dL_law_774 : decode cL_law 774 = .ok (.iaload, 1) := by decide +kernel
theorem dL_law_775 : decode cL_law 775 = .ok (.aload_n 0, 1) := by decide +kernel
theorem dL_law_776 : decode cL_law 776 = .ok (.iload_n 3, 1) := by decide +kernel
theorem dL_law_777 : decode cL_law 777 = .ok (.iconst 3, 1) := by decide +kernel
theorem dL_law_778 : decode cL_law 778 = .ok (.iadd, 1) := by decide +kernel
theorem dL_law_779 : decode cL_law 779 = .ok (.iaload, 1) := by decide +kernel
theorem dL_law_780 : decode cL_law 780 = .ok (.aload_n 0, 1) := by decide +kernel
theorem dL_law_781 : decode cL_law 781 = .ok (.iload_n 3, 1) := by decide +kernel
theorem dL_law_782 : decode cL_law 782 = .ok (.iconst 4, 1) := by decide +kernel
theorem dL_law_783 : decode cL_law 783 = .ok (.iadd, 1) := by decide +kernel
theorem dL_law_784 : decode cL_law 784 = .ok (.iaload, 1) := by decide +kernel
theorem dL_law_785 : decode cL_law 785 = .ok (.invokevirtual 91, 3) := by decide +kernel
theorem dL_law_788 : decode cL_law 788 = .ok (.aload_n 2, 1) := by decide +kernel
theorem dL_law_789 : decode cL_law 789 = .ok (.aload_n 0, 1) := by decide +kernel
theorem dL_law_790 : decode cL_law 790 = .ok (.iload_n 3, 1) := by decide +kernel
theorem dL_law_791 : decode cL_law 791 = .ok (.iconst 1, 1) := by decide +kernel
theorem dL_law_792 : decode cL_law 792 = .ok (.iadd, 1) := by decide +kernel
theorem dL_law_793 : decode cL_law 793 = .ok (.iaload, 1) := by decide +kernel
theorem dL_law_794 : decode cL_law 794 = .ok (.aload_n 0, 1) := by decide +kernel
theorem dL_law_795 : decode cL_law 795 = .ok (.iload_n 3, 1) := by decide +kernel
theorem dL_law_796 : decode cL_law 796 = .ok (.iconst 2, 1) := by decide +kernel
theorem dL_law_797 : decode cL_law 797 = .ok (.iadd, 1) := by decide +kernel
theorem dL_law_798 : decode cL_law 798 = .ok (.iaload, 1) := by decide +kernel
theorem dL_law_799 : decode cL_law 799 = .ok (.aload_n 0, 1) := by decide +kernel
theorem dL_law_800 : decode cL_law 800 = .ok (.iload_n 3, 1) := by decide +kernel
theorem dL_law_801 : decode cL_law 801 = .ok (.iconst 3, 1) := by decide +kernel
theorem dL_law_802 : decode cL_law 802 = .ok (.iadd, 1) := by decide +kernel
theorem dL_law_803 : decode cL_law 803 = .ok (.iaload, 1) := by decide +kernel
theorem dL_law_804 : decode cL_law 804 = .ok (.aload_n 0, 1) := by decide +kernel
theorem dL_law_805 : decode cL_law 805 = .ok (.iload_n 3, 1) := by decide +kernel
theorem dL_law_806 : decode cL_law 806 = .ok (.iconst 4, 1) := by decide +kernel
theorem dL_law_807 : decode cL_law 807 = .ok (.iadd, 1) := by decide +kernel
theorem dL_law_808 : decode cL_law 808 = .ok (.iaload, 1) := by decide +kernel
theorem dL_law_809 : decode cL_law 809 = .ok (.invokevirtual 94, 3) := by decide +kernel
theorem dL_law_812 : decode cL_law 812 = .ok (.if_icmp .eq 250, 3) := by decide +kernel
theorem dL_law_815 : decode cL_law 815 = .ok (.iconst 0, 1) := by decide +kernel
theorem dL_law_816 : decode cL_law 816 = .ok (.ireturn, 1) := by decide +kernel
theorem dL_law_817 : decode cL_law 817 = .ok (.aload_n 1, 1) := by decide +kernel
theorem dL_law_818 : decode cL_law 818 = .ok (.aload_n 0, 1) := by decide +kernel
theorem dL_law_819 : decode cL_law 819 = .ok (.iload_n 3, 1) := by decide +kernel
theorem dL_law_820 : decode cL_law 820 = .ok (.iconst 1, 1) := by decide +kernel
theorem dL_law_821 : decode cL_law 821 = .ok (.iadd, 1) := by decide +kernel
theorem dL_law_822 : decode cL_law 822 = .ok (.iaload, 1) := by decide +kernel
theorem dL_law_823 : decode cL_law 823 = .ok (.aload_n 0, 1) := by decide +kernel
theorem dL_law_824 : decode cL_law 824 = .ok (.iload_n 3, 1) := by decide +kernel
theorem dL_law_825 : decode cL_law 825 = .ok (.iconst 2, 1) := by decide +kernel
theorem dL_law_826 : decode cL_law 826 = .ok (.iadd, 1) := by decide +kernel
theorem dL_law_827 : decode cL_law 827 = .ok (.iaload, 1) := by decide +kernel
theorem dL_law_828 : decode cL_law 828 = .ok (.invokevirtual 95, 3) := by decide +kernel
theorem dL_law_831 : decode cL_law 831 = .ok (.aload_n 2, 1) := by decide +kernel
theorem dL_law_832 : decode cL_law 832 = .ok (.aload_n 0, 1) := by decide +kernel
theorem dL_law_833 : decode cL_law 833 = .ok (.iload_n 3, 1) := by decide +kernel
theorem dL_law_834 : decode cL_law 834 = .ok (.iconst 1, 1) := by decide +kernel
theorem dL_law_835 : decode cL_law 835 = .ok (.iadd, 1) := by decide +kernel
theorem dL_law_836 : decode cL_law 836 = .ok (.iaload, 1) := by decide +kernel
theorem dL_law_837 : decode cL_law 837 = .ok (.aload_n 0, 1) := by decide +kernel
theorem dL_law_838 : decode cL_law 838 = .ok (.iload_n 3, 1) := by decide +kernel
theorem dL_law_839 : decode cL_law 839 = .ok (.iconst 2, 1) := by decide +kernel
theorem dL_law_840 : decode cL_law 840 = .ok (.iadd, 1) := by decide +kernel
theorem dL_law_841 : decode cL_law 841 = .ok (.iaload, 1) := by decide +kernel
theorem dL_law_842 : decode cL_law 842 = .ok (.invokevirtual 98, 3) := by decide +kernel
theorem dL_law_845 : decode cL_law 845 = .ok (.if_icmp .eq 217, 3) := by decide +kernel
theorem dL_law_848 : decode cL_law 848 = .ok (.iconst 0, 1) := by decide +kernel
theorem dL_law_849 : decode cL_law 849 = .ok (.ireturn, 1) := by decide +kernel
theorem dL_law_850 : decode cL_law 850 = .ok (.aload_n 1, 1) := by decide +kernel
theorem dL_law_851 : decode cL_law 851 = .ok (.aload_n 0, 1) := by decide +kernel
theorem dL_law_852 : decode cL_law 852 = .ok (.iload_n 3, 1) := by decide +kernel
theorem dL_law_853 : decode cL_law 853 = .ok (.iconst 1, 1) := by decide +kernel
theorem dL_law_854 : decode cL_law 854 = .ok (.iadd, 1) := by decide +kernel
theorem dL_law_855 : decode cL_law 855 = .ok (.iaload, 1) := by decide +kernel
theorem dL_law_856 : decode cL_law 856 = .ok (.invokevirtual 99, 3) := by decide +kernel
theorem dL_law_859 : decode cL_law 859 = .ok (.aload_n 2, 1) := by decide +kernel
theorem dL_law_860 : decode cL_law 860 = .ok (.aload_n 0, 1) := by decide +kernel
theorem dL_law_861 : decode cL_law 861 = .ok (.iload_n 3, 1) := by decide +kernel
theorem dL_law_862 : decode cL_law 862 = .ok (.iconst 1, 1) := by decide +kernel
theorem dL_law_863 : decode cL_law 863 = .ok (.iadd, 1) := by decide +kernel
theorem dL_law_864 : decode cL_law 864 = .ok (.iaload, 1) := by decide +kernel
theorem dL_law_865 : decode cL_law 865 = .ok (.invokevirtual 102, 3) := by decide +kernel
theorem dL_law_868 : decode cL_law 868 = .ok (.if_icmp .eq 194, 3) := by decide +kernel
theorem dL_law_871 : decode cL_law 871 = .ok (.iconst 0, 1) := by decide +kernel
theorem dL_law_872 : decode cL_law 872 = .ok (.ireturn, 1) := by decide +kernel
theorem dL_law_873 : decode cL_law 873 = .ok (.aload_n 1, 1) := by decide +kernel
theorem dL_law_874 : decode cL_law 874 = .ok (.aload_n 0, 1) := by decide +kernel
theorem dL_law_875 : decode cL_law 875 = .ok (.iload_n 3, 1) := by decide +kernel
theorem dL_law_876 : decode cL_law 876 = .ok (.iconst 1, 1) := by decide +kernel
theorem dL_law_877 : decode cL_law 877 = .ok (.iadd, 1) := by decide +kernel
theorem dL_law_878 : decode cL_law 878 = .ok (.iaload, 1) := by decide +kernel
theorem dL_law_879 : decode cL_law 879 = .ok (.aload_n 0, 1) := by decide +kernel
theorem dL_law_880 : decode cL_law 880 = .ok (.iload_n 3, 1) := by decide +kernel
theorem dL_law_881 : decode cL_law 881 = .ok (.iconst 2, 1) := by decide +kernel
theorem dL_law_882 : decode cL_law 882 = .ok (.iadd, 1) := by decide +kernel
theorem dL_law_883 : decode cL_law 883 = .ok (.iaload, 1) := by decide +kernel
theorem dL_law_884 : decode cL_law 884 = .ok (.invokevirtual 103, 3) := by decide +kernel
theorem dL_law_887 : decode cL_law 887 = .ok (.aload_n 2, 1) := by decide +kernel
theorem dL_law_888 : decode cL_law 888 = .ok (.aload_n 0, 1) := by decide +kernel
theorem dL_law_889 : decode cL_law 889 = .ok (.iload_n 3, 1) := by decide +kernel
theorem dL_law_890 : decode cL_law 890 = .ok (.iconst 1, 1) := by decide +kernel
theorem dL_law_891 : decode cL_law 891 = .ok (.iadd, 1) := by decide +kernel
theorem dL_law_892 : decode cL_law 892 = .ok (.iaload, 1) := by decide +kernel
theorem dL_law_893 : decode cL_law 893 = .ok (.aload_n 0, 1) := by decide +kernel
theorem dL_law_894 : decode cL_law 894 = .ok (.iload_n 3, 1) := by decide +kernel
theorem dL_law_895 : decode cL_law 895 = .ok (.iconst 2, 1) := by decide +kernel
theorem dL_law_896 : decode cL_law 896 = .ok (.iadd, 1) := by decide +kernel
theorem dL_law_897 : decode cL_law 897 = .ok (.iaload, 1) := by decide +kernel
theorem dL_law_898 : decode cL_law 898 = .ok (.invokevirtual 106, 3) := by decide +kernel
theorem dL_law_901 : decode cL_law 901 = .ok (.if_icmp .eq 161, 3) := by decide +kernel
theorem dL_law_904 : decode cL_law 904 = .ok (.iconst 0, 1) := by decide +kernel
theorem dL_law_905 : decode cL_law 905 = .ok (.ireturn, 1) := by decide +kernel
theorem dL_law_906 : decode cL_law 906 = .ok (.aload_n 1, 1) := by decide +kernel
theorem dL_law_907 : decode cL_law 907 = .ok (.aload_n 0, 1) := by decide +kernel
theorem dL_law_908 : decode cL_law 908 = .ok (.iload_n 3, 1) := by decide +kernel
theorem dL_law_909 : decode cL_law 909 = .ok (.iconst 1, 1) := by decide +kernel
theorem dL_law_910 : decode cL_law 910 = .ok (.iadd, 1) := by decide +kernel
theorem dL_law_911 : decode cL_law 911 = .ok (.iaload, 1) := by decide +kernel
theorem dL_law_912 : decode cL_law 912 = .ok (.invokevirtual 107, 3) := by decide +kernel
theorem dL_law_915 : decode cL_law 915 = .ok (.aload_n 2, 1) := by decide +kernel
theorem dL_law_916 : decode cL_law 916 = .ok (.aload_n 0, 1) := by decide +kernel
theorem dL_law_917 : decode cL_law 917 = .ok (.iload_n 3, 1) := by decide +kernel
theorem dL_law_918 : decode cL_law 918 = .ok (.iconst 1, 1) := by decide +kernel
theorem dL_law_919 : decode cL_law 919 = .ok (.iadd, 1) := by decide +kernel
theorem dL_law_920 : decode cL_law 920 = .ok (.iaload, 1) := by decide +kernel
theorem dL_law_921 : decode cL_law 921 = .ok (.invokevirtual 111, 3) := by decide +kernel
theorem dL_law_924 : decode cL_law 924 = .ok (.lcmp, 1) := by decide +kernel
theorem dL_law_925 : decode cL_law 925 = .ok (.ifCond .eq 137, 3) := by decide +kernel
theorem dL_law_928 : decode cL_law 928 = .ok (.iconst 0, 1) := by decide +kernel
theorem dL_law_929 : decode cL_law 929 = .ok (.ireturn, 1) := by decide +kernel
theorem dL_law_930 : decode cL_law 930 = .ok (.aload_n 1, 1) := by decide +kernel
theorem dL_law_931 : decode cL_law 931 = .ok (.invokevirtual 112, 3) := by decide +kernel
theorem dL_law_934 : decode cL_law 934 = .ok (.aload_n 2, 1) := by decide +kernel
theorem dL_law_935 : decode cL_law 935 = .ok (.invokevirtual 115, 3) := by decide +kernel
theorem dL_law_938 : decode cL_law 938 = .ok (.if_icmp .eq 124, 3) := by decide +kernel
theorem dL_law_941 : decode cL_law 941 = .ok (.iconst 0, 1) := by decide +kernel
theorem dL_law_942 : decode cL_law 942 = .ok (.ireturn, 1) := by decide +kernel
theorem dL_law_943 : decode cL_law 943 = .ok (.aload_n 1, 1) := by decide +kernel
theorem dL_law_944 : decode cL_law 944 = .ok (.aload_n 0, 1) := by decide +kernel
theorem dL_law_945 : decode cL_law 945 = .ok (.iload_n 3, 1) := by decide +kernel
theorem dL_law_946 : decode cL_law 946 = .ok (.iconst 1, 1) := by decide +kernel
theorem dL_law_947 : decode cL_law 947 = .ok (.iadd, 1) := by decide +kernel
theorem dL_law_948 : decode cL_law 948 = .ok (.iaload, 1) := by decide +kernel
theorem dL_law_949 : decode cL_law 949 = .ok (.aload_n 0, 1) := by decide +kernel
theorem dL_law_950 : decode cL_law 950 = .ok (.iload_n 3, 1) := by decide +kernel
theorem dL_law_951 : decode cL_law 951 = .ok (.iconst 2, 1) := by decide +kernel
theorem dL_law_952 : decode cL_law 952 = .ok (.iadd, 1) := by decide +kernel
theorem dL_law_953 : decode cL_law 953 = .ok (.iaload, 1) := by decide +kernel
theorem dL_law_954 : decode cL_law 954 = .ok (.invokevirtual 116, 3) := by decide +kernel
theorem dL_law_957 : decode cL_law 957 = .ok (.aload_n 2, 1) := by decide +kernel
theorem dL_law_958 : decode cL_law 958 = .ok (.aload_n 0, 1) := by decide +kernel
theorem dL_law_959 : decode cL_law 959 = .ok (.iload_n 3, 1) := by decide +kernel
theorem dL_law_960 : decode cL_law 960 = .ok (.iconst 1, 1) := by decide +kernel
theorem dL_law_961 : decode cL_law 961 = .ok (.iadd, 1) := by decide +kernel
theorem dL_law_962 : decode cL_law 962 = .ok (.iaload, 1) := by decide +kernel
theorem dL_law_963 : decode cL_law 963 = .ok (.aload_n 0, 1) := by decide +kernel
theorem dL_law_964 : decode cL_law 964 = .ok (.iload_n 3, 1) := by decide +kernel
theorem dL_law_965 : decode cL_law 965 = .ok (.iconst 2, 1) := by decide +kernel
theorem dL_law_966 : decode cL_law 966 = .ok (.iadd, 1) := by decide +kernel
theorem dL_law_967 : decode cL_law 967 = .ok (.iaload, 1) := by decide +kernel
theorem dL_law_968 : decode cL_law 968 = .ok (.invokevirtual 119, 3) := by decide +kernel
theorem dL_law_971 : decode cL_law 971 = .ok (.if_icmp .eq 91, 3) := by decide +kernel
theorem dL_law_974 : decode cL_law 974 = .ok (.iconst 0, 1) := by decide +kernel
theorem dL_law_975 : decode cL_law 975 = .ok (.ireturn, 1) := by decide +kernel
theorem dL_law_976 : decode cL_law 976 = .ok (.aload_n 1, 1) := by decide +kernel
theorem dL_law_977 : decode cL_law 977 = .ok (.aload_n 0, 1) := by decide +kernel
theorem dL_law_978 : decode cL_law 978 = .ok (.iload_n 3, 1) := by decide +kernel
theorem dL_law_979 : decode cL_law 979 = .ok (.iconst 1, 1) := by decide +kernel
theorem dL_law_980 : decode cL_law 980 = .ok (.iadd, 1) := by decide +kernel
theorem dL_law_981 : decode cL_law 981 = .ok (.iaload, 1) := by decide +kernel
theorem dL_law_982 : decode cL_law 982 = .ok (.invokevirtual 120, 3) := by decide +kernel
theorem dL_law_985 : decode cL_law 985 = .ok (.aload_n 2, 1) := by decide +kernel
theorem dL_law_986 : decode cL_law 986 = .ok (.aload_n 0, 1) := by decide +kernel
theorem dL_law_987 : decode cL_law 987 = .ok (.iload_n 3, 1) := by decide +kernel
theorem dL_law_988 : decode cL_law 988 = .ok (.iconst 1, 1) := by decide +kernel
theorem dL_law_989 : decode cL_law 989 = .ok (.iadd, 1) := by decide +kernel
theorem dL_law_990 : decode cL_law 990 = .ok (.iaload, 1) := by decide +kernel
theorem dL_law_991 : decode cL_law 991 = .ok (.invokevirtual 123, 3) := by decide +kernel
theorem dL_law_994 : decode cL_law 994 = .ok (.lcmp, 1) := by decide +kernel
theorem dL_law_995 : decode cL_law 995 = .ok (.ifCond .eq 67, 3) := by decide +kernel
theorem dL_law_998 : decode cL_law 998 = .ok (.iconst 0, 1) := by decide +kernel
theorem dL_law_999 : decode cL_law 999 = .ok (.ireturn, 1) := by decide +kernel
theorem dL_law_1000 : decode cL_law 1000 = .ok (.aload_n 1, 1) := by decide +kernel
theorem dL_law_1001 : decode cL_law 1001 = .ok (.invokevirtual 124, 3) := by decide +kernel
theorem dL_law_1004 : decode cL_law 1004 = .ok (.aload_n 2, 1) := by decide +kernel
theorem dL_law_1005 : decode cL_law 1005 = .ok (.invokevirtual 127, 3) := by decide +kernel
theorem dL_law_1008 : decode cL_law 1008 = .ok (.if_icmp .eq 54, 3) := by decide +kernel
theorem dL_law_1011 : decode cL_law 1011 = .ok (.iconst 0, 1) := by decide +kernel
theorem dL_law_1012 : decode cL_law 1012 = .ok (.ireturn, 1) := by decide +kernel
theorem dL_law_1013 : decode cL_law 1013 = .ok (.aload_n 1, 1) := by decide +kernel
theorem dL_law_1014 : decode cL_law 1014 = .ok (.invokevirtual 128, 3) := by decide +kernel
theorem dL_law_1017 : decode cL_law 1017 = .ok (.aload_n 2, 1) := by decide +kernel
theorem dL_law_1018 : decode cL_law 1018 = .ok (.invokevirtual 131, 3) := by decide +kernel
theorem dL_law_1021 : decode cL_law 1021 = .ok (.if_icmp .eq 41, 3) := by decide +kernel
theorem dL_law_1024 : decode cL_law 1024 = .ok (.iconst 0, 1) := by decide +kernel
theorem dL_law_1025 : decode cL_law 1025 = .ok (.ireturn, 1) := by decide +kernel
theorem dL_law_1026 : decode cL_law 1026 = .ok (.aload_n 1, 1) := by decide +kernel
theorem dL_law_1027 : decode cL_law 1027 = .ok (.invokevirtual 132, 3) := by decide +kernel
theorem dL_law_1030 : decode cL_law 1030 = .ok (.aload_n 2, 1) := by decide +kernel
theorem dL_law_1031 : decode cL_law 1031 = .ok (.invokevirtual 135, 3) := by decide +kernel
theorem dL_law_1034 : decode cL_law 1034 = .ok (.if_icmp .eq 28, 3) := by decide +kernel
theorem dL_law_1037 : decode cL_law 1037 = .ok (.iconst 0, 1) := by decide +kernel
theorem dL_law_1038 : decode cL_law 1038 = .ok (.ireturn, 1) := by decide +kernel
theorem dL_law_1039 : decode cL_law 1039 = .ok (.aload_n 1, 1) := by decide +kernel
theorem dL_law_1040 : decode cL_law 1040 = .ok (.aload_n 0, 1) := by decide +kernel
theorem dL_law_1041 : decode cL_law 1041 = .ok (.iload_n 3, 1) := by decide +kernel
theorem dL_law_1042 : decode cL_law 1042 = .ok (.iconst 1, 1) := by decide +kernel
theorem dL_law_1043 : decode cL_law 1043 = .ok (.iadd, 1) := by decide +kernel
theorem dL_law_1044 : decode cL_law 1044 = .ok (.iaload, 1) := by decide +kernel
theorem dL_law_1045 : decode cL_law 1045 = .ok (.invokevirtual 136, 3) := by decide +kernel
theorem dL_law_1048 : decode cL_law 1048 = .ok (.aload_n 2, 1) := by decide +kernel
theorem dL_law_1049 : decode cL_law 1049 = .ok (.aload_n 0, 1) := by decide +kernel
theorem dL_law_1050 : decode cL_law 1050 = .ok (.iload_n 3, 1) := by decide +kernel
theorem dL_law_1051 : decode cL_law 1051 = .ok (.iconst 1, 1) := by decide +kernel
theorem dL_law_1052 : decode cL_law 1052 = .ok (.iadd, 1) := by decide +kernel
theorem dL_law_1053 : decode cL_law 1053 = .ok (.iaload, 1) := by decide +kernel
theorem dL_law_1054 : decode cL_law 1054 = .ok (.invokevirtual 139, 3) := by decide +kernel
theorem dL_law_1057 : decode cL_law 1057 = .ok (.if_icmp .eq 5, 3) := by decide +kernel
theorem dL_law_1060 : decode cL_law 1060 = .ok (.iconst 0, 1) := by decide +kernel
theorem dL_law_1061 : decode cL_law 1061 = .ok (.ireturn, 1) := by decide +kernel
theorem dL_law_1062 : decode cL_law 1062 = .ok (.iinc 3 7, 3) := by decide +kernel
theorem dL_law_1065 : decode cL_law 1065 = .ok (.goto (-1047), 3) := by decide +kernel
theorem dL_law_1068 : decode cL_law 1068 = .ok (.iconst 1, 1) := by decide +kernel
theorem dL_law_1069 : decode cL_law 1069 = .ok (.ireturn, 1) := by decide +kernel
abbrev vwCl : List vw_C := [(RX0, TX0, 1), (RX1, TX1, 4), (RX2, TX2, 2), (RX3, TX3, 1), (RX4, TX4, 9), (RX5, TX5, 7), (RX6, TX6, 2), (RX7, TX7, 3), (RX8, TX8, 17), (RX9, TX9, 4), (RX10, TX10, 6), (RX11, TX11, 11), (RX12, TX12, 21)]
end
section
/-! The engine: a whole-world store (shapes, ints, longs, refs by object number), and rows 'bq_W' of the machine over it. -/
abbrev BqM : Type := MethodName × ByteArray × Nat × Option FieldType
def bq_TB : List Cond := lw_tbl.filter goodWord
theorem bq_at {w : Cond} (i : Nat) (h : lw_tbl[i]? = some w) (g : goodWord w = true) : w ∈ bq_TB := List.mem_filter.mpr ⟨List.mem_of_getElem? h, g⟩
theorem bq_good {w : Cond} (h : w ∈ bq_TB) : w ∈ bq_TB ∧ ((w.onTables && w.keeps) = true ∨ ∃ ty, w = .arrayClass ty) := ⟨h, good_of_word (List.mem_filter.mp h).2⟩
theorem bq_goodIn {c : Cond} (h : c ∈ bq_TB) : GoodIn bq_TB (c :: bq_TB) := fun w hw => (List.mem_cons.mp hw).elim (fun e => e ▸ bq_good h) (fun h2 => bq_good h2)
def bq_cv (b : Nat) (v : Value) : Value := match v with
  | .ref k => .ref (b + k)
  | w => w
theorem bq_cat (b : Nat) (v : Value) : (bq_cv b v).category = v.category := by cases v <;> rfl
theorem bq_catM (b : Nat) (l : List Value) : ((l.map (bq_cv b)).map fun v => v.category).sum = (l.map fun v => v.category).sum := by
  induction l with
  | nil => rfl
  | cons a t ih => simp only [List.map_cons, List.sum_cons, bq_cat, ih]
/-- what an array of kind k (13 ..) holds -/
def bq_ty (k : Nat) : FieldType := if k = 13 then .int else if k = 14 then .boolean else if k = 15 then .object RX0 else if k = 16 then .object RX1 else if k = 17 then .object RX4 else if k = 18 then .object RX7 else if k = 19 then .object RX8 else .object RX9
/-- the class of what an array of references holds -/
def bq_ec (k : Nat) : Nat := if k = 15 then 0 else if k = 16 then 1 else if k = 17 then 4 else if k = 18 then 7 else if k = 19 then 8 else 9
def bq_fty (ci k : Nat) : FieldType := if ci = 0 then tyX0 k else if ci = 1 then tyX1 k else if ci = 2 then tyX2 k else if ci = 3 then tyX3 k else if ci = 4 then tyX4 k else if ci = 5 then tyX5 k else if ci = 6 then tyX6 k else if ci = 7 then tyX7 k else if ci = 8 then tyX8 k else if ci = 9 then tyX9 k else if ci = 10 then tyX10 k else if ci = 11 then tyX11 k else tyX12 k
/-- 0 an int or boolean, 1 a long, 2 a reference -/
def bq_tag (t : FieldType) : Nat := match t with
  | .long => 1
  | .object _ => 2
  | .array _ => 2
  | _ => 0
def bq_rf (b : Nat) (r : Option Nat) : Value := match r with
  | none => .null
  | some q => .ref (b + q)
abbrev BqI : Type := Nat → Nat → Int32
abbrev BqL : Type := Nat → Nat → Int64
abbrev BqP : Type := Nat → Nat → Option Nat
abbrev BqH : Type := Nat → Nat × Nat
abbrev BqQ : Type := Option Value → BqH → Nat → BqI → BqL → BqP → Prop
def bq_val (t b : Nat) (i : Int32) (j : Int64) (r : Option Nat) : Value := if t = 0 then .int i else if t = 1 then .long j else bq_rf b r
def bq_vf (ci b : Nat) (I : BqI) (L : BqL) (P : BqP) (o k : Nat) : Value := bq_val (bq_tag (bq_fty ci k)) b (I o k) (L o k) (P o k)
def bq_va (kd b : Nat) (I : BqI) (L : BqL) (P : BqP) (o k : Nat) : Value := bq_val (bq_tag (bq_ty kd)) b (I o k) (L o k) (P o k)
def bq_cell (D : va_G) (b : Nat) (U : State) (H : Heap) (I : BqI) (L : BqL) (P : BqP) (o : Nat) (s : Nat × Nat) : Prop :=
  (s.1 < 13 → ∃ r : vw_C, vwCl[s.1]? = some r ∧ t_OB (b + o) (D.1 s.1) r.2.2 (D.2 s.1) H (bq_vf s.1 b I L P o)) ∧
  (13 ≤ s.1 → s.2 < 2 ^ 31 ∧ ∃ cA : ClassId, H[b + o]? = some (arrV cA s.2 (bq_va s.1 b I L P o)) ∧ ArrOfT U cA (bq_ty s.1) ∧ va_RA U cA (bq_ty s.1))
def bq_R (D : va_G) (b : Nat) (U : State) (H : Heap) (S : BqH) (n : Nat) (I : BqI) (L : BqL) (P : BqP) : Prop := H.size = b + n ∧ ∀ o, o < n → bq_cell D b U H I L P o (S o)
def bq_nest : List (String × Nat × MethodName × String) := [(RX10, 35, yX1_init, RX11), (RX9, 23, yX0_init, RX11), (RX8, 84, yX4_init, RX11), (RX8, 83, yX7_init, RX11), (RX8, 82, yX9_init, RX11), (RX8, 77, yX2_init, RX11), (RX8, 36, yX0_init, RX11), (RX8, 107, yX11_outside, RX11), (RX6, 11, yX0_init, RX11), (RX5, 41, yX0_init, RX11), (RX5, 36, yX6_init, RX11), (RX3, 11, yX6_init, RX11), (RX2, 25, yX11_outside, RX11), (RX11, 54, yX6_init, RX11), (RX11, 47, yX3_init, RX11)]
def bq_ao : List String := [RX0, RX1, RX4, RX7, RX8, RX9]
def bq_K (D : va_G) (U : State) : Prop := va_K D vwCl [] U ∧ (∀ q ∈ bq_nest, va_Nw (.methodLinkNest q.1 q.2.1 q.2.2.1 q.2.2.2) U) ∧ ∀ C ∈ bq_ao, va_AO C U
theorem bq_cell.kept {D : va_G} {b : Nat} {U U' : State} {H H' : Heap} {I : BqI} {L : BqL} {P : BqP} {o : Nat} {s : Nat × Nat} (h : bq_cell D b U H I L P o s) (hq : H'[b + o]? = H[b + o]?) (hv : U.vm.Alike U'.vm) : bq_cell D b U' H' I L P o s := by
  refine ⟨fun g => ?_, fun g => ?_⟩
  · obtain ⟨r, h1, h2⟩ := h.1 g
    exact ⟨r, h1, h2.kept hq⟩
  · obtain ⟨h0, cA, h1, h2, h3⟩ := h.2 g
    exact ⟨h0, cA, hq.trans h1, arrOfT_moved hv h2, h3.moved hv⟩
theorem bq_R.moved {D : va_G} {b : Nat} {U U' : State} {H : Heap} {S : BqH} {n : Nat} {I : BqI} {L : BqL} {P : BqP} (h : bq_R D b U H S n I L P) (hv : U.vm.Alike U'.vm) : bq_R D b U' H S n I L P := ⟨h.1, fun o ho => (h.2 o ho).kept rfl hv⟩
theorem bq_K.warm {D : va_G} {s U : State} (h : bq_K D s) (hW : s.WarmedH U.vm) : bq_K D U := ⟨va_K.moved hW.alike h.1, fun q hq => va_Nw.warmM hW (h.2.1 q hq), fun C hC => va_AO.moved hW.alike (h.2.2 C hC)⟩
theorem bq_K.calling {D : va_G} {U : State} (h : bq_K D U) (g : JFrame) (mk : MethodId) (a : Array Value) : bq_K D (U.calling g mk a) := ⟨va_K.moved (u := U) (U := U.calling g mk a) (Vm.Alike.refl U.vm) h.1, fun q hq => va_Nw.same (u := U) (U := U.calling g mk a) rfl rfl (h.2.1 q hq), fun C hC => va_AO.moved (u := U) (U := U.calling g mk a) (Vm.Alike.refl U.vm) (h.2.2 C hC)⟩
def bq_Pc (D : va_G) (b : Nat) (as : List Value) (S : BqH) (n : Nat) (I : BqI) (L : BqL) (P : BqP) : Array Value → State → Prop := fun v U => v = (as.map (bq_cv b)).toArray ∧ bq_K D U ∧ bq_R D b U U.heap S n I L P
def bq_Qc (D : va_G) (b : Nat) (post : BqQ) : Array Value → State → Outcome → State → Prop := fun _ st oc t => ∃ (r : Option Value) (S : BqH) (n : Nat) (I : BqI) (L : BqL) (P : BqP), oc = .returned (r.map (bq_cv b)) ∧ post r S n I L P ∧ bq_R D b t t.heap S n I L P ∧ va_F (fun q => b ≤ q) st t
theorem bq_blind (D : va_G) (b : Nat) (as : List Value) (S : BqH) (n : Nat) (I : BqI) (L : BqL) (P : BqP) : FrameBlind (bq_Pc D b as S n I L P) := by
  intro a U g mk q
  obtain ⟨q1, q2, q3⟩ := q
  exact ⟨q1, q2.calling g mk a, bq_R.moved (U := U) (U' := U.calling g mk a) q3 (Vm.Alike.refl U.vm)⟩
/-- a method's contract -/
def bq_Sp (N : BqM) (fr lo kc ks : Nat) (as : List Value) (S : BqH) (n : Nat) (I : BqI) (L : BqL) (P : BqP) (post : BqQ) : Prop :=
  ∀ (l : Launch) (D : va_G) (b : Nat), Met l N.1 (Cond.code N.1 N.2.1 N.2.2.1 N.2.2.2 :: bq_TB) ({ frames := fr, cells := kc, slots := ks, locals := lo } : Room) (bq_Pc D b as S n I L P) (bq_Qc D b post) kc ks (fun q => b ≤ q)
/-- the locals -/
def bq_LH (b : Nat) (ls : Array Slot) (nL : Nat) (vs : List (Option Value)) : Prop := ls.size = nL ∧ lv_wf ls ∧ ∀ (i : Nat) (v : Value), vs[i]? = some (some v) → ls[i]? = some (.val (bq_cv b v))
def bq_C (M : BqM) (D : va_G) (b : Nat) (p : Program) (s : State) (m : MethodId) (args : Array Value) (meth : Method) (c : Code) : Prop :=
  p.tables.exec = Jvm.exec ∧ c.code = M.2.1 ∧ meth.sig.returnType = M.2.2.2 ∧ c.maxLocals = M.2.2.1 ∧ s.vm.findClass M.1.cls = some m.cls ∧ (∀ w ∈ bq_TB, w.before args s = true) ∧ meth.locks = false ∧ meth.name = M.1.name ∧ bq_K D s
def bq_N (fr lo kc ks : Nat) (R : Room) (cells slots mc ms : Nat) : Prop := fr ≤ R.frames ∧ lo ≤ R.locals ∧ cells + kc ≤ mc ∧ mc ≤ R.cells ∧ slots + ks ≤ ms ∧ ms ≤ R.slots
/-- from here the method ends with post -/
def bq_W (M : BqM) (fr lo kc ks pc : Nat) (vs : List (Option Value)) (st : List Value) (S : BqH) (n : Nat) (I : BqI) (L : BqL) (P : BqP) (post : BqQ) : Prop :=
  ∀ (l : Launch) (D : va_G) (b : Nat) (p : Program) (e : Env) (R : Room) (s : State) (m : MethodId) (args : Array Value) (below : List Frame) (meth : Method) (c : Code) (H : Heap) (locs : List Loc) (cells slots mc ms : Nat) (ls : Array Slot),
    bq_C M D b p s m args meth c → bq_N fr lo kc ks R cells slots mc ms → bq_R D b s H S n I L P → va_S (fun q => b ≤ q) s.heap H locs → bq_LH b ls M.2.2.1 vs →
    W p l e R s m args below meth c H locs cells slots (MQ below (bq_Qc D b post) args s mc ms (fun q => b ≤ q)) (F0 m pc ls (st.map (bq_cv b)))
theorem q_iconst {M : BqM} {fr lo kc ks pc : Nat} {vs : List (Option Value)} {st : List Value} {S : BqH} {n : Nat} {I : BqI} {L : BqL} {P : BqP} {post : BqQ} {z : Int} {v : Int32} (hd : decode M.2.1 pc = .ok (.iconst z, 1)) (hv : Int32.ofInt z = v) (k : bq_W M fr lo kc ks (pc + 1) vs (.int v :: st) S n I L P post) : bq_W M fr lo kc ks pc vs st S n I L P post := by
  intro l D b p e R s m args below meth c H locs cells slots mc ms ls C N hR hS hL
  exact lv_iconst C.1 C.2.1 hd hv (k l D b p e R s m args below meth c H locs cells slots mc ms ls C N hR hS hL)
theorem q_bipush {M : BqM} {fr lo kc ks pc : Nat} {vs : List (Option Value)} {st : List Value} {S : BqH} {n : Nat} {I : BqI} {L : BqL} {P : BqP} {post : BqQ} {z : Int} {v : Int32} (hd : decode M.2.1 pc = .ok (.bipush z, 2)) (hv : (Int8.ofInt z).toInt32 = v) (k : bq_W M fr lo kc ks (pc + 2) vs (.int v :: st) S n I L P post) : bq_W M fr lo kc ks pc vs st S n I L P post := by
  intro l D b p e R s m args below meth c H locs cells slots mc ms ls C N hR hS hL
  exact lv_bipush C.1 C.2.1 hd hv (k l D b p e R s m args below meth c H locs cells slots mc ms ls C N hR hS hL)
theorem q_sipush {M : BqM} {fr lo kc ks pc : Nat} {vs : List (Option Value)} {st : List Value} {S : BqH} {n : Nat} {I : BqI} {L : BqL} {P : BqP} {post : BqQ} {z : Int} {v : Int32} (hd : decode M.2.1 pc = .ok (.sipush z, 3)) (hv : (Int16.ofInt z).toInt32 = v) (k : bq_W M fr lo kc ks (pc + 3) vs (.int v :: st) S n I L P post) : bq_W M fr lo kc ks pc vs st S n I L P post := by
  intro l D b p e R s m args below meth c H locs cells slots mc ms ls C N hR hS hL
  exact lv_sipush C.1 C.2.1 hd hv (k l D b p e R s m args below meth c H locs cells slots mc ms ls C N hR hS hL)
theorem q_lconst {M : BqM} {fr lo kc ks pc : Nat} {vs : List (Option Value)} {st : List Value} {S : BqH} {n : Nat} {I : BqI} {L : BqL} {P : BqP} {post : BqQ} {z : Fin 2} {v : Int64} (hd : decode M.2.1 pc = .ok (.lconst z, 1)) (hv : Int64.ofNat (z : Nat) = v) (k : bq_W M fr lo kc ks (pc + 1) vs (.long v :: st) S n I L P post) : bq_W M fr lo kc ks pc vs st S n I L P post := by
  intro l D b p e R s m args below meth c H locs cells slots mc ms ls C N hR hS hL
  exact lv_lconst C.1 C.2.1 hd hv (k l D b p e R s m args below meth c H locs cells slots mc ms ls C N hR hS hL)
theorem q_null {M : BqM} {fr lo kc ks pc : Nat} {vs : List (Option Value)} {st : List Value} {S : BqH} {n : Nat} {I : BqI} {L : BqL} {P : BqP} {post : BqQ}  (hd : decode M.2.1 pc = .ok (.aconst_null, 1))  (k : bq_W M fr lo kc ks (pc + 1) vs (.null :: st) S n I L P post) : bq_W M fr lo kc ks pc vs st S n I L P post := by
  intro l D b p e R s m args below meth c H locs cells slots mc ms ls C N hR hS hL
  exact lv_null C.1 C.2.1 hd (k l D b p e R s m args below meth c H locs cells slots mc ms ls C N hR hS hL)
theorem q_iload_n {M : BqM} {fr lo kc ks pc : Nat} {vs : List (Option Value)} {st : List Value} {S : BqH} {n : Nat} {I : BqI} {L : BqL} {P : BqP} {post : BqQ} {k0 : Fin 4} {i : Nat} {x : Int32} (hd : decode M.2.1 pc = .ok (.iload_n k0, 1)) (hi : (k0 : Nat) = i) (hv : vs[i]? = some (some (.int x))) (k : bq_W M fr lo kc ks (pc + 1) vs (.int x :: st) S n I L P post) : bq_W M fr lo kc ks pc vs st S n I L P post := by
  intro l D b p e R s m args below meth c H locs cells slots mc ms ls C N hR hS hL
  exact lv_iload_n C.1 C.2.1 hd hi (hL.2.2 _ _ hv) (k l D b p e R s m args below meth c H locs cells slots mc ms ls C N hR hS hL)
theorem q_iload {M : BqM} {fr lo kc ks pc : Nat} {vs : List (Option Value)} {st : List Value} {S : BqH} {n : Nat} {I : BqI} {L : BqL} {P : BqP} {post : BqQ} {i : Nat} {x : Int32} (hd : decode M.2.1 pc = .ok (.iload i, 2)) (hv : vs[i]? = some (some (.int x))) (k : bq_W M fr lo kc ks (pc + 2) vs (.int x :: st) S n I L P post) : bq_W M fr lo kc ks pc vs st S n I L P post := by
  intro l D b p e R s m args below meth c H locs cells slots mc ms ls C N hR hS hL
  exact lv_iload C.1 C.2.1 hd (hL.2.2 _ _ hv) (k l D b p e R s m args below meth c H locs cells slots mc ms ls C N hR hS hL)
theorem q_lload_n {M : BqM} {fr lo kc ks pc : Nat} {vs : List (Option Value)} {st : List Value} {S : BqH} {n : Nat} {I : BqI} {L : BqL} {P : BqP} {post : BqQ} {k0 : Fin 4} {i : Nat} {x : Int64} (hd : decode M.2.1 pc = .ok (.lload_n k0, 1)) (hi : (k0 : Nat) = i) (hv : vs[i]? = some (some (.long x))) (k : bq_W M fr lo kc ks (pc + 1) vs (.long x :: st) S n I L P post) : bq_W M fr lo kc ks pc vs st S n I L P post := by
  intro l D b p e R s m args below meth c H locs cells slots mc ms ls C N hR hS hL
  exact lv_lload_n C.1 C.2.1 hd hi (hL.2.2 _ _ hv) (k l D b p e R s m args below meth c H locs cells slots mc ms ls C N hR hS hL)
theorem q_lload {M : BqM} {fr lo kc ks pc : Nat} {vs : List (Option Value)} {st : List Value} {S : BqH} {n : Nat} {I : BqI} {L : BqL} {P : BqP} {post : BqQ} {i : Nat} {x : Int64} (hd : decode M.2.1 pc = .ok (.lload i, 2)) (hv : vs[i]? = some (some (.long x))) (k : bq_W M fr lo kc ks (pc + 2) vs (.long x :: st) S n I L P post) : bq_W M fr lo kc ks pc vs st S n I L P post := by
  intro l D b p e R s m args below meth c H locs cells slots mc ms ls C N hR hS hL
  exact lv_lload C.1 C.2.1 hd (hL.2.2 _ _ hv) (k l D b p e R s m args below meth c H locs cells slots mc ms ls C N hR hS hL)
theorem q_aload_n {M : BqM} {fr lo kc ks pc : Nat} {vs : List (Option Value)} {st : List Value} {S : BqH} {n : Nat} {I : BqI} {L : BqL} {P : BqP} {post : BqQ} {k0 : Fin 4} {i : Nat} {x : Nat} (hd : decode M.2.1 pc = .ok (.aload_n k0, 1)) (hi : (k0 : Nat) = i) (hv : vs[i]? = some (some (.ref x))) (k : bq_W M fr lo kc ks (pc + 1) vs (.ref x :: st) S n I L P post) : bq_W M fr lo kc ks pc vs st S n I L P post := by
  intro l D b p e R s m args below meth c H locs cells slots mc ms ls C N hR hS hL
  exact lv_aload_n C.1 C.2.1 hd hi (hL.2.2 _ _ hv) (k l D b p e R s m args below meth c H locs cells slots mc ms ls C N hR hS hL)
theorem q_aload {M : BqM} {fr lo kc ks pc : Nat} {vs : List (Option Value)} {st : List Value} {S : BqH} {n : Nat} {I : BqI} {L : BqL} {P : BqP} {post : BqQ} {i : Nat} {x : Nat} (hd : decode M.2.1 pc = .ok (.aload i, 2)) (hv : vs[i]? = some (some (.ref x))) (k : bq_W M fr lo kc ks (pc + 2) vs (.ref x :: st) S n I L P post) : bq_W M fr lo kc ks pc vs st S n I L P post := by
  intro l D b p e R s m args below meth c H locs cells slots mc ms ls C N hR hS hL
  exact lv_aload C.1 C.2.1 hd (hL.2.2 _ _ hv) (k l D b p e R s m args below meth c H locs cells slots mc ms ls C N hR hS hL)
theorem q_iadd {M : BqM} {fr lo kc ks pc : Nat} {vs : List (Option Value)} {st : List Value} {S : BqH} {n : Nat} {I : BqI} {L : BqL} {P : BqP} {post : BqQ} {x y : Int32} (hd : decode M.2.1 pc = .ok (.iadd, 1))  (k : bq_W M fr lo kc ks (pc + 1) vs (.int (x + y) :: st) S n I L P post) : bq_W M fr lo kc ks pc vs (.int y :: .int x :: st) S n I L P post := by
  intro l D b p e R s m args below meth c H locs cells slots mc ms ls C N hR hS hL
  exact lv_iadd C.1 C.2.1 hd (k l D b p e R s m args below meth c H locs cells slots mc ms ls C N hR hS hL)
theorem q_isub {M : BqM} {fr lo kc ks pc : Nat} {vs : List (Option Value)} {st : List Value} {S : BqH} {n : Nat} {I : BqI} {L : BqL} {P : BqP} {post : BqQ} {x y : Int32} (hd : decode M.2.1 pc = .ok (.isub, 1))  (k : bq_W M fr lo kc ks (pc + 1) vs (.int (x - y) :: st) S n I L P post) : bq_W M fr lo kc ks pc vs (.int y :: .int x :: st) S n I L P post := by
  intro l D b p e R s m args below meth c H locs cells slots mc ms ls C N hR hS hL
  exact lv_isub C.1 C.2.1 hd (k l D b p e R s m args below meth c H locs cells slots mc ms ls C N hR hS hL)
theorem q_imul {M : BqM} {fr lo kc ks pc : Nat} {vs : List (Option Value)} {st : List Value} {S : BqH} {n : Nat} {I : BqI} {L : BqL} {P : BqP} {post : BqQ} {x y : Int32} (hd : decode M.2.1 pc = .ok (.imul, 1))  (k : bq_W M fr lo kc ks (pc + 1) vs (.int (x * y) :: st) S n I L P post) : bq_W M fr lo kc ks pc vs (.int y :: .int x :: st) S n I L P post := by
  intro l D b p e R s m args below meth c H locs cells slots mc ms ls C N hR hS hL
  exact lv_imul C.1 C.2.1 hd (k l D b p e R s m args below meth c H locs cells slots mc ms ls C N hR hS hL)
theorem q_ior {M : BqM} {fr lo kc ks pc : Nat} {vs : List (Option Value)} {st : List Value} {S : BqH} {n : Nat} {I : BqI} {L : BqL} {P : BqP} {post : BqQ} {x y : Int32} (hd : decode M.2.1 pc = .ok (.ior, 1))  (k : bq_W M fr lo kc ks (pc + 1) vs (.int (x ||| y) :: st) S n I L P post) : bq_W M fr lo kc ks pc vs (.int y :: .int x :: st) S n I L P post := by
  intro l D b p e R s m args below meth c H locs cells slots mc ms ls C N hR hS hL
  exact lv_ior C.1 C.2.1 hd (k l D b p e R s m args below meth c H locs cells slots mc ms ls C N hR hS hL)
theorem q_iand {M : BqM} {fr lo kc ks pc : Nat} {vs : List (Option Value)} {st : List Value} {S : BqH} {n : Nat} {I : BqI} {L : BqL} {P : BqP} {post : BqQ} {x y : Int32} (hd : decode M.2.1 pc = .ok (.iand, 1))  (k : bq_W M fr lo kc ks (pc + 1) vs (.int (x &&& y) :: st) S n I L P post) : bq_W M fr lo kc ks pc vs (.int y :: .int x :: st) S n I L P post := by
  intro l D b p e R s m args below meth c H locs cells slots mc ms ls C N hR hS hL
  exact lv_iand C.1 C.2.1 hd (k l D b p e R s m args below meth c H locs cells slots mc ms ls C N hR hS hL)
theorem q_ishl {M : BqM} {fr lo kc ks pc : Nat} {vs : List (Option Value)} {st : List Value} {S : BqH} {n : Nat} {I : BqI} {L : BqL} {P : BqP} {post : BqQ} {x y : Int32} (hd : decode M.2.1 pc = .ok (.ishl, 1))  (k : bq_W M fr lo kc ks (pc + 1) vs (.int (x <<< (y &&& 31)) :: st) S n I L P post) : bq_W M fr lo kc ks pc vs (.int y :: .int x :: st) S n I L P post := by
  intro l D b p e R s m args below meth c H locs cells slots mc ms ls C N hR hS hL
  exact lv_ishl C.1 C.2.1 hd (k l D b p e R s m args below meth c H locs cells slots mc ms ls C N hR hS hL)
theorem q_idiv {M : BqM} {fr lo kc ks pc : Nat} {vs : List (Option Value)} {st : List Value} {S : BqH} {n : Nat} {I : BqI} {L : BqL} {P : BqP} {post : BqQ} {x y : Int32} (hd : decode M.2.1 pc = .ok (.idiv, 1)) (hne : ¬ y = 0) (k : bq_W M fr lo kc ks (pc + 1) vs (.int (x / y) :: st) S n I L P post) : bq_W M fr lo kc ks pc vs (.int y :: .int x :: st) S n I L P post := by
  intro l D b p e R s m args below meth c H locs cells slots mc ms ls C N hR hS hL
  exact lv_idiv C.1 C.2.1 hd hne (k l D b p e R s m args below meth c H locs cells slots mc ms ls C N hR hS hL)
theorem q_irem {M : BqM} {fr lo kc ks pc : Nat} {vs : List (Option Value)} {st : List Value} {S : BqH} {n : Nat} {I : BqI} {L : BqL} {P : BqP} {post : BqQ} {x y : Int32} (hd : decode M.2.1 pc = .ok (.irem, 1)) (hne : ¬ y = 0) (k : bq_W M fr lo kc ks (pc + 1) vs (.int (x - x / y * y) :: st) S n I L P post) : bq_W M fr lo kc ks pc vs (.int y :: .int x :: st) S n I L P post := by
  intro l D b p e R s m args below meth c H locs cells slots mc ms ls C N hR hS hL
  exact lv_irem C.1 C.2.1 hd hne (k l D b p e R s m args below meth c H locs cells slots mc ms ls C N hR hS hL)
theorem q_ineg {M : BqM} {fr lo kc ks pc : Nat} {vs : List (Option Value)} {st : List Value} {S : BqH} {n : Nat} {I : BqI} {L : BqL} {P : BqP} {post : BqQ} {x : Int32} (hd : decode M.2.1 pc = .ok (.ineg, 1))  (k : bq_W M fr lo kc ks (pc + 1) vs (.int (-x) :: st) S n I L P post) : bq_W M fr lo kc ks pc vs (.int x :: st) S n I L P post := by
  intro l D b p e R s m args below meth c H locs cells slots mc ms ls C N hR hS hL
  exact lv_ineg C.1 C.2.1 hd (k l D b p e R s m args below meth c H locs cells slots mc ms ls C N hR hS hL)
theorem q_ladd {M : BqM} {fr lo kc ks pc : Nat} {vs : List (Option Value)} {st : List Value} {S : BqH} {n : Nat} {I : BqI} {L : BqL} {P : BqP} {post : BqQ} {x y : Int64} (hd : decode M.2.1 pc = .ok (.ladd, 1))  (k : bq_W M fr lo kc ks (pc + 1) vs (.long (x + y) :: st) S n I L P post) : bq_W M fr lo kc ks pc vs (.long y :: .long x :: st) S n I L P post := by
  intro l D b p e R s m args below meth c H locs cells slots mc ms ls C N hR hS hL
  exact lv_ladd C.1 C.2.1 hd (k l D b p e R s m args below meth c H locs cells slots mc ms ls C N hR hS hL)
theorem q_lsub {M : BqM} {fr lo kc ks pc : Nat} {vs : List (Option Value)} {st : List Value} {S : BqH} {n : Nat} {I : BqI} {L : BqL} {P : BqP} {post : BqQ} {x y : Int64} (hd : decode M.2.1 pc = .ok (.lsub, 1))  (k : bq_W M fr lo kc ks (pc + 1) vs (.long (x - y) :: st) S n I L P post) : bq_W M fr lo kc ks pc vs (.long y :: .long x :: st) S n I L P post := by
  intro l D b p e R s m args below meth c H locs cells slots mc ms ls C N hR hS hL
  exact lv_lsub C.1 C.2.1 hd (k l D b p e R s m args below meth c H locs cells slots mc ms ls C N hR hS hL)
theorem q_lmul {M : BqM} {fr lo kc ks pc : Nat} {vs : List (Option Value)} {st : List Value} {S : BqH} {n : Nat} {I : BqI} {L : BqL} {P : BqP} {post : BqQ} {x y : Int64} (hd : decode M.2.1 pc = .ok (.lmul, 1))  (k : bq_W M fr lo kc ks (pc + 1) vs (.long (x * y) :: st) S n I L P post) : bq_W M fr lo kc ks pc vs (.long y :: .long x :: st) S n I L P post := by
  intro l D b p e R s m args below meth c H locs cells slots mc ms ls C N hR hS hL
  exact lv_lmul C.1 C.2.1 hd (k l D b p e R s m args below meth c H locs cells slots mc ms ls C N hR hS hL)
theorem q_ldiv {M : BqM} {fr lo kc ks pc : Nat} {vs : List (Option Value)} {st : List Value} {S : BqH} {n : Nat} {I : BqI} {L : BqL} {P : BqP} {post : BqQ} {x y : Int64} (hd : decode M.2.1 pc = .ok (.ldiv, 1)) (hne : ¬ y = 0) (k : bq_W M fr lo kc ks (pc + 1) vs (.long (x / y) :: st) S n I L P post) : bq_W M fr lo kc ks pc vs (.long y :: .long x :: st) S n I L P post := by
  intro l D b p e R s m args below meth c H locs cells slots mc ms ls C N hR hS hL
  exact lv_ldiv C.1 C.2.1 hd hne (k l D b p e R s m args below meth c H locs cells slots mc ms ls C N hR hS hL)
theorem q_lneg {M : BqM} {fr lo kc ks pc : Nat} {vs : List (Option Value)} {st : List Value} {S : BqH} {n : Nat} {I : BqI} {L : BqL} {P : BqP} {post : BqQ} {x : Int64} (hd : decode M.2.1 pc = .ok (.lneg, 1))  (k : bq_W M fr lo kc ks (pc + 1) vs (.long (-x) :: st) S n I L P post) : bq_W M fr lo kc ks pc vs (.long x :: st) S n I L P post := by
  intro l D b p e R s m args below meth c H locs cells slots mc ms ls C N hR hS hL
  exact lv_lneg C.1 C.2.1 hd (k l D b p e R s m args below meth c H locs cells slots mc ms ls C N hR hS hL)
theorem q_i2l {M : BqM} {fr lo kc ks pc : Nat} {vs : List (Option Value)} {st : List Value} {S : BqH} {n : Nat} {I : BqI} {L : BqL} {P : BqP} {post : BqQ} {x : Int32} (hd : decode M.2.1 pc = .ok (.i2l, 1))  (k : bq_W M fr lo kc ks (pc + 1) vs (.long x.toInt64 :: st) S n I L P post) : bq_W M fr lo kc ks pc vs (.int x :: st) S n I L P post := by
  intro l D b p e R s m args below meth c H locs cells slots mc ms ls C N hR hS hL
  exact lv_i2l C.1 C.2.1 hd rfl (k l D b p e R s m args below meth c H locs cells slots mc ms ls C N hR hS hL)
theorem q_l2i {M : BqM} {fr lo kc ks pc : Nat} {vs : List (Option Value)} {st : List Value} {S : BqH} {n : Nat} {I : BqI} {L : BqL} {P : BqP} {post : BqQ} {x : Int64} (hd : decode M.2.1 pc = .ok (.l2i, 1))  (k : bq_W M fr lo kc ks (pc + 1) vs (.int x.toInt32 :: st) S n I L P post) : bq_W M fr lo kc ks pc vs (.long x :: st) S n I L P post := by
  intro l D b p e R s m args below meth c H locs cells slots mc ms ls C N hR hS hL
  exact lv_l2i C.1 C.2.1 hd rfl (k l D b p e R s m args below meth c H locs cells slots mc ms ls C N hR hS hL)
theorem q_dup {M : BqM} {fr lo kc ks pc : Nat} {vs : List (Option Value)} {st : List Value} {S : BqH} {n : Nat} {I : BqI} {L : BqL} {P : BqP} {post : BqQ} {a : Value} (hd : decode M.2.1 pc = .ok (.dup, 1)) (ha : a.category = 1) (k : bq_W M fr lo kc ks (pc + 1) vs (a :: a :: st) S n I L P post) : bq_W M fr lo kc ks pc vs (a :: st) S n I L P post := by
  intro l D b p e R s m args below meth c H locs cells slots mc ms ls C N hR hS hL
  exact lv_dup C.1 C.2.1 hd ((bq_cat b a).trans ha) (k l D b p e R s m args below meth c H locs cells slots mc ms ls C N hR hS hL)
theorem q_dup2 {M : BqM} {fr lo kc ks pc : Nat} {vs : List (Option Value)} {st : List Value} {S : BqH} {n : Nat} {I : BqI} {L : BqL} {P : BqP} {post : BqQ} {a a2 : Value} (hd : decode M.2.1 pc = .ok (.dup2, 1)) (ha : a.category = 1) (ha2 : a2.category = 1) (k : bq_W M fr lo kc ks (pc + 1) vs (a :: a2 :: a :: a2 :: st) S n I L P post) : bq_W M fr lo kc ks pc vs (a :: a2 :: st) S n I L P post := by
  intro l D b p e R s m args below meth c H locs cells slots mc ms ls C N hR hS hL
  exact lv_dup2_11 C.1 C.2.1 hd ((bq_cat b a).trans ha) ((bq_cat b a2).trans ha2) (k l D b p e R s m args below meth c H locs cells slots mc ms ls C N hR hS hL)
theorem q_pop {M : BqM} {fr lo kc ks pc : Nat} {vs : List (Option Value)} {st : List Value} {S : BqH} {n : Nat} {I : BqI} {L : BqL} {P : BqP} {post : BqQ} {a : Value} (hd : decode M.2.1 pc = .ok (.pop, 1)) (ha : a.category = 1) (k : bq_W M fr lo kc ks (pc + 1) vs st S n I L P post) : bq_W M fr lo kc ks pc vs (a :: st) S n I L P post := by
  intro l D b p e R s m args below meth c H locs cells slots mc ms ls C N hR hS hL
  exact lv_pop C.1 C.2.1 hd ((bq_cat b a).trans ha) (k l D b p e R s m args below meth c H locs cells slots mc ms ls C N hR hS hL)
theorem q_if_eq {M : BqM} {fr lo kc ks pc : Nat} {vs : List (Option Value)} {st : List Value} {S : BqH} {n : Nat} {I : BqI} {L : BqL} {P : BqP} {post : BqQ} {x : Int32} {off : Int} (tgt : Nat) (hd : decode M.2.1 pc = .ok (.ifCond .eq off, 3)) (ht : (pc : Int) + off = (tgt : Int))  (kt : x = 0 → bq_W M fr lo kc ks tgt vs st S n I L P post) (kf : ¬ x = 0 → bq_W M fr lo kc ks (pc + 3) vs st S n I L P post) : bq_W M fr lo kc ks pc vs (.int x :: st) S n I L P post := by
  intro l D b p e R s m args below meth c H locs cells slots mc ms ls C N hR hS hL
  exact lv_if_eq C.1 C.2.1 hd ht (fun h => kt h l D b p e R s m args below meth c H locs cells slots mc ms ls C N hR hS hL) (fun h => kf h l D b p e R s m args below meth c H locs cells slots mc ms ls C N hR hS hL)
theorem q_if_ne {M : BqM} {fr lo kc ks pc : Nat} {vs : List (Option Value)} {st : List Value} {S : BqH} {n : Nat} {I : BqI} {L : BqL} {P : BqP} {post : BqQ} {x : Int32} {off : Int} (tgt : Nat) (hd : decode M.2.1 pc = .ok (.ifCond .ne off, 3)) (ht : (pc : Int) + off = (tgt : Int))  (kt : ¬ x = 0 → bq_W M fr lo kc ks tgt vs st S n I L P post) (kf : x = 0 → bq_W M fr lo kc ks (pc + 3) vs st S n I L P post) : bq_W M fr lo kc ks pc vs (.int x :: st) S n I L P post := by
  intro l D b p e R s m args below meth c H locs cells slots mc ms ls C N hR hS hL
  exact lv_if_ne C.1 C.2.1 hd ht (fun h => kt h l D b p e R s m args below meth c H locs cells slots mc ms ls C N hR hS hL) (fun h => kf h l D b p e R s m args below meth c H locs cells slots mc ms ls C N hR hS hL)
theorem q_if_lt {M : BqM} {fr lo kc ks pc : Nat} {vs : List (Option Value)} {st : List Value} {S : BqH} {n : Nat} {I : BqI} {L : BqL} {P : BqP} {post : BqQ} {x : Int32} {off : Int} (tgt : Nat) (hd : decode M.2.1 pc = .ok (.ifCond .lt off, 3)) (ht : (pc : Int) + off = (tgt : Int))  (kt : x < 0 → bq_W M fr lo kc ks tgt vs st S n I L P post) (kf : ¬ x < 0 → bq_W M fr lo kc ks (pc + 3) vs st S n I L P post) : bq_W M fr lo kc ks pc vs (.int x :: st) S n I L P post := by
  intro l D b p e R s m args below meth c H locs cells slots mc ms ls C N hR hS hL
  exact lv_if_lt C.1 C.2.1 hd ht (fun h => kt h l D b p e R s m args below meth c H locs cells slots mc ms ls C N hR hS hL) (fun h => kf h l D b p e R s m args below meth c H locs cells slots mc ms ls C N hR hS hL)
theorem q_if_ge {M : BqM} {fr lo kc ks pc : Nat} {vs : List (Option Value)} {st : List Value} {S : BqH} {n : Nat} {I : BqI} {L : BqL} {P : BqP} {post : BqQ} {x : Int32} {off : Int} (tgt : Nat) (hd : decode M.2.1 pc = .ok (.ifCond .ge off, 3)) (ht : (pc : Int) + off = (tgt : Int))  (kt : 0 ≤ x → bq_W M fr lo kc ks tgt vs st S n I L P post) (kf : ¬ 0 ≤ x → bq_W M fr lo kc ks (pc + 3) vs st S n I L P post) : bq_W M fr lo kc ks pc vs (.int x :: st) S n I L P post := by
  intro l D b p e R s m args below meth c H locs cells slots mc ms ls C N hR hS hL
  exact lv_if_ge C.1 C.2.1 hd ht (fun h => kt h l D b p e R s m args below meth c H locs cells slots mc ms ls C N hR hS hL) (fun h => kf h l D b p e R s m args below meth c H locs cells slots mc ms ls C N hR hS hL)
theorem q_if_gt {M : BqM} {fr lo kc ks pc : Nat} {vs : List (Option Value)} {st : List Value} {S : BqH} {n : Nat} {I : BqI} {L : BqL} {P : BqP} {post : BqQ} {x : Int32} {off : Int} (tgt : Nat) (hd : decode M.2.1 pc = .ok (.ifCond .gt off, 3)) (ht : (pc : Int) + off = (tgt : Int))  (kt : 0 < x → bq_W M fr lo kc ks tgt vs st S n I L P post) (kf : ¬ 0 < x → bq_W M fr lo kc ks (pc + 3) vs st S n I L P post) : bq_W M fr lo kc ks pc vs (.int x :: st) S n I L P post := by
  intro l D b p e R s m args below meth c H locs cells slots mc ms ls C N hR hS hL
  exact lv_if_gt C.1 C.2.1 hd ht (fun h => kt h l D b p e R s m args below meth c H locs cells slots mc ms ls C N hR hS hL) (fun h => kf h l D b p e R s m args below meth c H locs cells slots mc ms ls C N hR hS hL)
theorem q_if_le {M : BqM} {fr lo kc ks pc : Nat} {vs : List (Option Value)} {st : List Value} {S : BqH} {n : Nat} {I : BqI} {L : BqL} {P : BqP} {post : BqQ} {x : Int32} {off : Int} (tgt : Nat) (hd : decode M.2.1 pc = .ok (.ifCond .le off, 3)) (ht : (pc : Int) + off = (tgt : Int))  (kt : x ≤ 0 → bq_W M fr lo kc ks tgt vs st S n I L P post) (kf : ¬ x ≤ 0 → bq_W M fr lo kc ks (pc + 3) vs st S n I L P post) : bq_W M fr lo kc ks pc vs (.int x :: st) S n I L P post := by
  intro l D b p e R s m args below meth c H locs cells slots mc ms ls C N hR hS hL
  exact lv_if_le C.1 C.2.1 hd ht (fun h => kt h l D b p e R s m args below meth c H locs cells slots mc ms ls C N hR hS hL) (fun h => kf h l D b p e R s m args below meth c H locs cells slots mc ms ls C N hR hS hL)
theorem q_icmp_eq {M : BqM} {fr lo kc ks pc : Nat} {vs : List (Option Value)} {st : List Value} {S : BqH} {n : Nat} {I : BqI} {L : BqL} {P : BqP} {post : BqQ} {x y : Int32} {off : Int} (tgt : Nat) (hd : decode M.2.1 pc = .ok (.if_icmp .eq off, 3)) (ht : (pc : Int) + off = (tgt : Int))  (kt : x = y → bq_W M fr lo kc ks tgt vs st S n I L P post) (kf : ¬ x = y → bq_W M fr lo kc ks (pc + 3) vs st S n I L P post) : bq_W M fr lo kc ks pc vs (.int y :: .int x :: st) S n I L P post := by
  intro l D b p e R s m args below meth c H locs cells slots mc ms ls C N hR hS hL
  exact lv_icmp_eq C.1 C.2.1 hd ht (fun h => kt h l D b p e R s m args below meth c H locs cells slots mc ms ls C N hR hS hL) (fun h => kf h l D b p e R s m args below meth c H locs cells slots mc ms ls C N hR hS hL)
theorem q_icmp_ne {M : BqM} {fr lo kc ks pc : Nat} {vs : List (Option Value)} {st : List Value} {S : BqH} {n : Nat} {I : BqI} {L : BqL} {P : BqP} {post : BqQ} {x y : Int32} {off : Int} (tgt : Nat) (hd : decode M.2.1 pc = .ok (.if_icmp .ne off, 3)) (ht : (pc : Int) + off = (tgt : Int))  (kt : ¬ x = y → bq_W M fr lo kc ks tgt vs st S n I L P post) (kf : x = y → bq_W M fr lo kc ks (pc + 3) vs st S n I L P post) : bq_W M fr lo kc ks pc vs (.int y :: .int x :: st) S n I L P post := by
  intro l D b p e R s m args below meth c H locs cells slots mc ms ls C N hR hS hL
  exact lv_icmp_ne C.1 C.2.1 hd ht (fun h => kt h l D b p e R s m args below meth c H locs cells slots mc ms ls C N hR hS hL) (fun h => kf h l D b p e R s m args below meth c H locs cells slots mc ms ls C N hR hS hL)
theorem q_icmp_lt {M : BqM} {fr lo kc ks pc : Nat} {vs : List (Option Value)} {st : List Value} {S : BqH} {n : Nat} {I : BqI} {L : BqL} {P : BqP} {post : BqQ} {x y : Int32} {off : Int} (tgt : Nat) (hd : decode M.2.1 pc = .ok (.if_icmp .lt off, 3)) (ht : (pc : Int) + off = (tgt : Int))  (kt : x < y → bq_W M fr lo kc ks tgt vs st S n I L P post) (kf : ¬ x < y → bq_W M fr lo kc ks (pc + 3) vs st S n I L P post) : bq_W M fr lo kc ks pc vs (.int y :: .int x :: st) S n I L P post := by
  intro l D b p e R s m args below meth c H locs cells slots mc ms ls C N hR hS hL
  exact lv_icmp_lt C.1 C.2.1 hd ht (fun h => kt h l D b p e R s m args below meth c H locs cells slots mc ms ls C N hR hS hL) (fun h => kf h l D b p e R s m args below meth c H locs cells slots mc ms ls C N hR hS hL)
theorem q_icmp_ge {M : BqM} {fr lo kc ks pc : Nat} {vs : List (Option Value)} {st : List Value} {S : BqH} {n : Nat} {I : BqI} {L : BqL} {P : BqP} {post : BqQ} {x y : Int32} {off : Int} (tgt : Nat) (hd : decode M.2.1 pc = .ok (.if_icmp .ge off, 3)) (ht : (pc : Int) + off = (tgt : Int))  (kt : y ≤ x → bq_W M fr lo kc ks tgt vs st S n I L P post) (kf : ¬ y ≤ x → bq_W M fr lo kc ks (pc + 3) vs st S n I L P post) : bq_W M fr lo kc ks pc vs (.int y :: .int x :: st) S n I L P post := by
  intro l D b p e R s m args below meth c H locs cells slots mc ms ls C N hR hS hL
  exact lv_icmp_ge C.1 C.2.1 hd ht (fun h => kt h l D b p e R s m args below meth c H locs cells slots mc ms ls C N hR hS hL) (fun h => kf h l D b p e R s m args below meth c H locs cells slots mc ms ls C N hR hS hL)
theorem q_icmp_gt {M : BqM} {fr lo kc ks pc : Nat} {vs : List (Option Value)} {st : List Value} {S : BqH} {n : Nat} {I : BqI} {L : BqL} {P : BqP} {post : BqQ} {x y : Int32} {off : Int} (tgt : Nat) (hd : decode M.2.1 pc = .ok (.if_icmp .gt off, 3)) (ht : (pc : Int) + off = (tgt : Int))  (kt : y < x → bq_W M fr lo kc ks tgt vs st S n I L P post) (kf : ¬ y < x → bq_W M fr lo kc ks (pc + 3) vs st S n I L P post) : bq_W M fr lo kc ks pc vs (.int y :: .int x :: st) S n I L P post := by
  intro l D b p e R s m args below meth c H locs cells slots mc ms ls C N hR hS hL
  exact lv_icmp_gt C.1 C.2.1 hd ht (fun h => kt h l D b p e R s m args below meth c H locs cells slots mc ms ls C N hR hS hL) (fun h => kf h l D b p e R s m args below meth c H locs cells slots mc ms ls C N hR hS hL)
theorem q_icmp_le {M : BqM} {fr lo kc ks pc : Nat} {vs : List (Option Value)} {st : List Value} {S : BqH} {n : Nat} {I : BqI} {L : BqL} {P : BqP} {post : BqQ} {x y : Int32} {off : Int} (tgt : Nat) (hd : decode M.2.1 pc = .ok (.if_icmp .le off, 3)) (ht : (pc : Int) + off = (tgt : Int))  (kt : x ≤ y → bq_W M fr lo kc ks tgt vs st S n I L P post) (kf : ¬ x ≤ y → bq_W M fr lo kc ks (pc + 3) vs st S n I L P post) : bq_W M fr lo kc ks pc vs (.int y :: .int x :: st) S n I L P post := by
  intro l D b p e R s m args below meth c H locs cells slots mc ms ls C N hR hS hL
  exact lv_icmp_le C.1 C.2.1 hd ht (fun h => kt h l D b p e R s m args below meth c H locs cells slots mc ms ls C N hR hS hL) (fun h => kf h l D b p e R s m args below meth c H locs cells slots mc ms ls C N hR hS hL)
theorem q_goto {M : BqM} {fr lo kc ks pc : Nat} {vs : List (Option Value)} {st : List Value} {S : BqH} {n : Nat} {I : BqI} {L : BqL} {P : BqP} {post : BqQ} {off : Int} (tgt : Nat) (hd : decode M.2.1 pc = .ok (.goto off, 3)) (ht : (pc : Int) + off = (tgt : Int)) (k : bq_W M fr lo kc ks tgt vs st S n I L P post) : bq_W M fr lo kc ks pc vs st S n I L P post := by
  intro l D b p e R s m args below meth c H locs cells slots mc ms ls C N hR hS hL
  exact lv_goto C.1 C.2.1 hd ht (k l D b p e R s m args below meth c H locs cells slots mc ms ls C N hR hS hL)
theorem q_ifnull {M : BqM} {fr lo kc ks pc : Nat} {vs : List (Option Value)} {st : List Value} {S : BqH} {n : Nat} {I : BqI} {L : BqL} {P : BqP} {post : BqQ} {x : Nat} {off : Int} (hd : decode M.2.1 pc = .ok (.ifnull off, 3)) (k : bq_W M fr lo kc ks (pc + 3) vs st S n I L P post) : bq_W M fr lo kc ks pc vs (.ref x :: st) S n I L P post := by
  intro l D b p e R s m args below meth c H locs cells slots mc ms ls C N hR hS hL
  exact lv_ifnull C.1 C.2.1 hd (k l D b p e R s m args below meth c H locs cells slots mc ms ls C N hR hS hL)
theorem q_ifnullN {M : BqM} {fr lo kc ks pc : Nat} {vs : List (Option Value)} {st : List Value} {S : BqH} {n : Nat} {I : BqI} {L : BqL} {P : BqP} {post : BqQ} {off : Int} (tgt : Nat) (hd : decode M.2.1 pc = .ok (.ifnull off, 3)) (ht : (pc : Int) + off = (tgt : Int)) (k : bq_W M fr lo kc ks tgt vs st S n I L P post) : bq_W M fr lo kc ks pc vs (.null :: st) S n I L P post := by
  intro l D b p e R s m args below meth c H locs cells slots mc ms ls C N hR hS hL
  exact lv_ifnullN C.1 C.2.1 hd ht (k l D b p e R s m args below meth c H locs cells slots mc ms ls C N hR hS hL)
theorem q_ifnonnull {M : BqM} {fr lo kc ks pc : Nat} {vs : List (Option Value)} {st : List Value} {S : BqH} {n : Nat} {I : BqI} {L : BqL} {P : BqP} {post : BqQ} {x : Nat} {off : Int} (tgt : Nat) (hd : decode M.2.1 pc = .ok (.ifnonnull off, 3)) (ht : (pc : Int) + off = (tgt : Int)) (k : bq_W M fr lo kc ks tgt vs st S n I L P post) : bq_W M fr lo kc ks pc vs (.ref x :: st) S n I L P post := by
  intro l D b p e R s m args below meth c H locs cells slots mc ms ls C N hR hS hL
  exact lv_ifnonnull C.1 C.2.1 hd ht (k l D b p e R s m args below meth c H locs cells slots mc ms ls C N hR hS hL)
theorem q_ifnonnullN {M : BqM} {fr lo kc ks pc : Nat} {vs : List (Option Value)} {st : List Value} {S : BqH} {n : Nat} {I : BqI} {L : BqL} {P : BqP} {post : BqQ} {off : Int} (hd : decode M.2.1 pc = .ok (.ifnonnull off, 3)) (k : bq_W M fr lo kc ks (pc + 3) vs st S n I L P post) : bq_W M fr lo kc ks pc vs (.null :: st) S n I L P post := by
  intro l D b p e R s m args below meth c H locs cells slots mc ms ls C N hR hS hL
  exact lv_ifnonnullN C.1 C.2.1 hd (k l D b p e R s m args below meth c H locs cells slots mc ms ls C N hR hS hL)
theorem q_tableIn {M : BqM} {fr lo kc ks pc : Nat} {vs : List (Option Value)} {st : List Value} {S : BqH} {n : Nat} {I : BqI} {L : BqL} {P : BqP} {post : BqQ} {dflt lo' hi' : Int} {offs : Array Int} {len : Nat} {x : Int32} {off : Int} (tgt : Nat) (hd : decode M.2.1 pc = .ok (.tableswitch dflt lo' hi' offs, len)) (h1 : ¬ x.toInt < lo') (h2 : ¬ hi' < x.toInt) (ho : offs[(x.toInt - lo').toNat]? = some off) (ht : (pc : Int) + off = (tgt : Int)) (k : bq_W M fr lo kc ks tgt vs st S n I L P post) : bq_W M fr lo kc ks pc vs (.int x :: st) S n I L P post := by
  intro l D b p e R s m args below meth c H locs cells slots mc ms ls C N hR hS hL
  exact lv_tableIn C.1 C.2.1 hd h1 h2 ho ht (k l D b p e R s m args below meth c H locs cells slots mc ms ls C N hR hS hL)
theorem q_tableOut {M : BqM} {fr lo kc ks pc : Nat} {vs : List (Option Value)} {st : List Value} {S : BqH} {n : Nat} {I : BqI} {L : BqL} {P : BqP} {post : BqQ} {dflt lo' hi' : Int} {offs : Array Int} {len : Nat} {x : Int32} (tgt : Nat) (hd : decode M.2.1 pc = .ok (.tableswitch dflt lo' hi' offs, len)) (h : x.toInt < lo' ∨ hi' < x.toInt) (ht : (pc : Int) + dflt = (tgt : Int)) (k : bq_W M fr lo kc ks tgt vs st S n I L P post) : bq_W M fr lo kc ks pc vs (.int x :: st) S n I L P post := by
  intro l D b p e R s m args below meth c H locs cells slots mc ms ls C N hR hS hL
  exact lv_tableOut C.1 C.2.1 hd h ht (k l D b p e R s m args below meth c H locs cells slots mc ms ls C N hR hS hL)
theorem q_lookup {M : BqM} {fr lo kc ks pc : Nat} {vs : List (Option Value)} {st : List Value} {S : BqH} {n : Nat} {I : BqI} {L : BqL} {P : BqP} {post : BqQ} {dflt : Int} {ps : Array (Int × Int)} {len : Nat} {x : Int32} {off : Int} (tgt : Nat) (hd : decode M.2.1 pc = .ok (.lookupswitch dflt ps, len)) (hp : (ps.toList.zip (ps.toList.drop 1)).all (fun (a, next) => a.1 < next.1) = true) (ho : Op.lookupswitch.offset ps.toList dflt x.toInt = off) (ht : (pc : Int) + off = (tgt : Int)) (k : bq_W M fr lo kc ks tgt vs st S n I L P post) : bq_W M fr lo kc ks pc vs (.int x :: st) S n I L P post := by
  intro l D b p e R s m args below meth c H locs cells slots mc ms ls C N hR hS hL
  exact lv_lookup C.1 C.2.1 hd hp ho ht (k l D b p e R s m args below meth c H locs cells slots mc ms ls C N hR hS hL)
theorem q_lcmp {M : BqM} {fr lo kc ks pc : Nat} {vs : List (Option Value)} {st : List Value} {S : BqH} {n : Nat} {I : BqI} {L : BqL} {P : BqP} {post : BqQ} {x y : Int64} (hd : decode M.2.1 pc = .ok (.lcmp, 1))  (k : bq_W M fr lo kc ks (pc + 1) vs (.int (lg_cmp x y) :: st) S n I L P post) : bq_W M fr lo kc ks pc vs (.long y :: .long x :: st) S n I L P post := by
  intro l D b p e R s m args below meth c H locs cells slots mc ms ls C N hR hS hL
  exact W.lcmp C.1 C.2.1 hd (k l D b p e R s m args below meth c H locs cells slots mc ms ls C N hR hS hL)
def bq_en (b : Nat) (vs : List (Option Value)) : List (Nat × Value) := (List.range vs.length).filterMap (fun i => (vs[i]?.join).map (fun v => (i, bq_cv b v)))
theorem bq_en_mem {b : Nat} {vs : List (Option Value)} {q : Nat × Value} : q ∈ bq_en b vs ↔ ∃ v, vs[q.1]? = some (some v) ∧ q.2 = bq_cv b v := by
  obtain ⟨i, w⟩ := q
  unfold bq_en
  rw [List.mem_filterMap]
  constructor
  · rintro ⟨j, hj, h⟩
    cases hv : vs[j]? with
    | none => rw [hv] at h; cases h
    | some o =>
      cases o with
      | none => rw [hv] at h; cases h
      | some v => rw [hv] at h; simp at h; obtain ⟨rfl, rfl⟩ := h; exact ⟨v, hv, rfl⟩
  · rintro ⟨v, h, rfl⟩
    have hl : i < vs.length := (List.getElem?_eq_some_iff.mp h).1
    refine ⟨i, List.mem_range.mpr hl, ?_⟩
    dsimp only at h
    rw [h]; rfl
theorem bq_LH.has {b : Nat} {ls : Array Slot} {nL : Nat} {vs : List (Option Value)} (h : bq_LH b ls nL vs) : lv_has ls nL (bq_en b vs) := by
  refine ⟨h.1, h.2.1, fun q hq => ?_⟩
  obtain ⟨v, h1, h2⟩ := bq_en_mem.mp hq
  rw [h2]; exact h.2.2 _ _ h1
/-- the place in front of i holds no long -/
def bq_nl (vs : List (Option Value)) (i : Nat) : Bool := match i with
  | 0 => true
  | j + 1 => match vs[j]? with
    | some (some w) => w.category == 1
    | _ => true
theorem bq_st1 {b : Nat} {ls : Array Slot} {nL i : Nat} {vs : List (Option Value)} {v : Value} (h : lv_has ls nL ((i, bq_cv b v) :: (bq_en b vs).filter (fun q => !(q.1 == i) && !(q.1 + 1 == i && q.2.category == 2)))) (hn : bq_nl vs i = true) : bq_LH b ls nL (vs.set i (some v)) := by
  refine ⟨h.1, h.2.1, fun j w hj => ?_⟩
  rw [List.getElem?_set] at hj
  by_cases e : i = j
  · subst e
    rw [if_pos rfl] at hj
    by_cases hl : i < vs.length
    · rw [if_pos hl] at hj
      cases hj
      exact h.2.2 (i, _) List.mem_cons_self
    · rw [if_neg hl] at hj; cases hj
  · rw [if_neg e] at hj
    refine h.2.2 (j, bq_cv b w) (List.mem_cons_of_mem _ (List.mem_filter.mpr ⟨bq_en_mem.mpr ⟨w, hj, rfl⟩, ?_⟩))
    have h1 : (j == i) = false := by simp; omega
    simp only [h1, Bool.not_false, Bool.true_and, bq_cat]
    by_cases h2 : j + 1 = i
    · subst h2
      simp only [bq_nl, hj] at hn
      have h3 : w.category = 1 := by simpa using hn
      simp [h3]
    · have h2' : (j + 1 == i) = false := by simpa using h2
      simp [h2']
theorem bq_st2 {b : Nat} {ls : Array Slot} {nL i : Nat} {vs : List (Option Value)} {v : Value} (h : lv_has ls nL ((i, bq_cv b v) :: (bq_en b vs).filter (fun q => !(q.1 == i) && (!(q.1 == i + 1) && !(q.1 + 1 == i && q.2.category == 2))))) (hn : bq_nl vs i = true) : bq_LH b ls nL ((vs.set i (some v)).set (i + 1) none) := by
  refine ⟨h.1, h.2.1, fun j w hj => ?_⟩
  rw [List.getElem?_set] at hj
  by_cases e2 : i + 1 = j
  · rw [if_pos e2] at hj
    split at hj <;> cases hj
  rw [if_neg e2, List.getElem?_set] at hj
  by_cases e : i = j
  · subst e
    rw [if_pos rfl] at hj
    by_cases hl : i < vs.length
    · rw [if_pos hl] at hj
      cases hj
      exact h.2.2 (i, _) List.mem_cons_self
    · rw [if_neg hl] at hj; cases hj
  · rw [if_neg e] at hj
    refine h.2.2 (j, bq_cv b w) (List.mem_cons_of_mem _ (List.mem_filter.mpr ⟨bq_en_mem.mpr ⟨w, hj, rfl⟩, ?_⟩))
    have h1 : (j == i) = false := by simp; omega
    have h1' : (j == i + 1) = false := by simp; omega
    simp only [h1, h1', Bool.not_false, Bool.true_and, bq_cat]
    by_cases h2 : j + 1 = i
    · subst h2
      simp only [bq_nl, hj] at hn
      have h3 : w.category = 1 := by simpa using hn
      simp [h3]
    · have h2' : (j + 1 == i) = false := by simpa using h2
      simp [h2']
theorem q_istore_n {M : BqM} {fr lo kc ks pc : Nat} {vs : List (Option Value)} {st : List Value} {S : BqH} {n : Nat} {I : BqI} {L : BqL} {P : BqP} {post : BqQ} {k0 : Fin 4} {i : Nat} {x : Int32} (hd : decode M.2.1 pc = .ok (.istore_n k0, 1)) (hi : (k0 : Nat) = i) (hn : i < M.2.2.1) (hl : bq_nl vs i = true) (k : bq_W M fr lo kc ks (pc + 1) (vs.set i (some (.int x))) st S n I L P post) : bq_W M fr lo kc ks pc vs (.int x :: st) S n I L P post := by
  intro l D b p e R s m args below meth c H locs cells slots mc ms ls C N hR hS hL
  exact lv_istore_n C.1 C.2.1 hd hi hL.has hn rfl (fun ls' h => k l D b p e R s m args below meth c H locs cells slots mc ms ls' C N hR hS (bq_st1 (v := .int x) h hl))
theorem q_istore {M : BqM} {fr lo kc ks pc : Nat} {vs : List (Option Value)} {st : List Value} {S : BqH} {n : Nat} {I : BqI} {L : BqL} {P : BqP} {post : BqQ} {i : Nat} {x : Int32} (hd : decode M.2.1 pc = .ok (.istore i, 2)) (hn : i < M.2.2.1) (hl : bq_nl vs i = true) (k : bq_W M fr lo kc ks (pc + 2) (vs.set i (some (.int x))) st S n I L P post) : bq_W M fr lo kc ks pc vs (.int x :: st) S n I L P post := by
  intro l D b p e R s m args below meth c H locs cells slots mc ms ls C N hR hS hL
  exact lv_istore C.1 C.2.1 hd hL.has hn rfl (fun ls' h => k l D b p e R s m args below meth c H locs cells slots mc ms ls' C N hR hS (bq_st1 (v := .int x) h hl))
theorem q_astore_n {M : BqM} {fr lo kc ks pc : Nat} {vs : List (Option Value)} {st : List Value} {S : BqH} {n : Nat} {I : BqI} {L : BqL} {P : BqP} {post : BqQ} {k0 : Fin 4} {i : Nat} {x : Nat} (hd : decode M.2.1 pc = .ok (.astore_n k0, 1)) (hi : (k0 : Nat) = i) (hn : i < M.2.2.1) (hl : bq_nl vs i = true) (k : bq_W M fr lo kc ks (pc + 1) (vs.set i (some (.ref x))) st S n I L P post) : bq_W M fr lo kc ks pc vs (.ref x :: st) S n I L P post := by
  intro l D b p e R s m args below meth c H locs cells slots mc ms ls C N hR hS hL
  exact lv_astore_n C.1 C.2.1 hd hi hL.has hn rfl (fun ls' h => k l D b p e R s m args below meth c H locs cells slots mc ms ls' C N hR hS (bq_st1 (v := .ref x) h hl))
theorem q_astore {M : BqM} {fr lo kc ks pc : Nat} {vs : List (Option Value)} {st : List Value} {S : BqH} {n : Nat} {I : BqI} {L : BqL} {P : BqP} {post : BqQ} {i : Nat} {x : Nat} (hd : decode M.2.1 pc = .ok (.astore i, 2)) (hn : i < M.2.2.1) (hl : bq_nl vs i = true) (k : bq_W M fr lo kc ks (pc + 2) (vs.set i (some (.ref x))) st S n I L P post) : bq_W M fr lo kc ks pc vs (.ref x :: st) S n I L P post := by
  intro l D b p e R s m args below meth c H locs cells slots mc ms ls C N hR hS hL
  exact lv_astore C.1 C.2.1 hd hL.has hn rfl (fun ls' h => k l D b p e R s m args below meth c H locs cells slots mc ms ls' C N hR hS (bq_st1 (v := .ref x) h hl))
theorem q_lstore_n {M : BqM} {fr lo kc ks pc : Nat} {vs : List (Option Value)} {st : List Value} {S : BqH} {n : Nat} {I : BqI} {L : BqL} {P : BqP} {post : BqQ} {k0 : Fin 4} {i : Nat} {x : Int64} (hd : decode M.2.1 pc = .ok (.lstore_n k0, 1)) (hi : (k0 : Nat) = i) (hn : i + 1 < M.2.2.1) (hl : bq_nl vs i = true) (k : bq_W M fr lo kc ks (pc + 1) ((vs.set i (some (.long x))).set (i + 1) none) st S n I L P post) : bq_W M fr lo kc ks pc vs (.long x :: st) S n I L P post := by
  intro l D b p e R s m args below meth c H locs cells slots mc ms ls C N hR hS hL
  exact lv_lstore_n C.1 C.2.1 hd hi hL.has hn rfl (fun ls' h => k l D b p e R s m args below meth c H locs cells slots mc ms ls' C N hR hS (bq_st2 (v := .long x) h hl))
theorem q_lstore {M : BqM} {fr lo kc ks pc : Nat} {vs : List (Option Value)} {st : List Value} {S : BqH} {n : Nat} {I : BqI} {L : BqL} {P : BqP} {post : BqQ} {i : Nat} {x : Int64} (hd : decode M.2.1 pc = .ok (.lstore i, 2)) (hn : i + 1 < M.2.2.1) (hl : bq_nl vs i = true) (k : bq_W M fr lo kc ks (pc + 2) ((vs.set i (some (.long x))).set (i + 1) none) st S n I L P post) : bq_W M fr lo kc ks pc vs (.long x :: st) S n I L P post := by
  intro l D b p e R s m args below meth c H locs cells slots mc ms ls C N hR hS hL
  exact lv_lstore C.1 C.2.1 hd hL.has hn rfl (fun ls' h => k l D b p e R s m args below meth c H locs cells slots mc ms ls' C N hR hS (bq_st2 (v := .long x) h hl))
theorem q_iinc {M : BqM} {fr lo kc ks pc : Nat} {vs : List (Option Value)} {st : List Value} {S : BqH} {n : Nat} {I : BqI} {L : BqL} {P : BqP} {post : BqQ} {i : Nat} {z : Int} {x v : Int32} (hd : decode M.2.1 pc = .ok (.iinc i z, 3)) (hv : vs[i]? = some (some (.int x))) (hx : x + Int32.ofInt z = v) (hn : i < M.2.2.1) (hl : bq_nl vs i = true) (k : bq_W M fr lo kc ks (pc + 3) (vs.set i (some (.int v))) st S n I L P post) : bq_W M fr lo kc ks pc vs st S n I L P post := by
  intro l D b p e R s m args below meth c H locs cells slots mc ms ls C N hR hS hL
  obtain ⟨j, hj⟩ := List.getElem?_of_mem (bq_en_mem.mpr ⟨.int x, hv, rfl⟩ : (i, Value.int x) ∈ bq_en b vs)
  exact lv_iinc C.1 C.2.1 hd hL.has hj hx hn rfl (fun ls' h => k l D b p e R s m args below meth c H locs cells slots mc ms ls' C N hR hS (bq_st1 (v := .int v) h hl))
theorem q_ldc2 {M : BqM} {fr lo kc ks pc : Nat} {vs : List (Option Value)} {st : List Value} {S : BqH} {n : Nat} {I : BqI} {L : BqL} {P : BqP} {post : BqQ} {idx : Nat} {v : Int64} (hd : decode M.2.1 pc = .ok (.ldc2_w idx, 3)) (hw : Cond.constantLong M.1.cls idx v ∈ bq_TB) (k : bq_W M fr lo kc ks (pc + 3) vs (.long v :: st) S n I L P post) : bq_W M fr lo kc ks pc vs st S n I L P post := by
  intro l D b p e R s m args below meth c H locs cells slots mc ms ls C N hR hS hL
  exact lv_ldc2 C.1 C.2.1 C.2.2.2.2.1 (C.2.2.2.2.2.1 _ hw) hd (k l D b p e R s m args below meth c H locs cells slots mc ms ls C N hR hS hL)
theorem q_sub {M : BqM} {fr lo kc ks pc : Nat} {vs : List (Option Value)} {st : List Value} {S : BqH} {n : Nat} {I : BqI} {L : BqL} {P : BqP} {post : BqQ} {vs2 : List (Option Value)} (h : ∀ (i : Nat) (v : Value), vs2[i]? = some (some v) → vs[i]? = some (some v)) (k : bq_W M fr lo kc ks pc vs2 st S n I L P post) : bq_W M fr lo kc ks pc vs st S n I L P post := by
  intro l D b p e R s m args below meth c H locs cells slots mc ms ls C N hR hS hL
  exact k l D b p e R s m args below meth c H locs cells slots mc ms ls C N hR hS ⟨hL.1, hL.2.1, fun i v hv => hL.2.2 i v (h i v hv)⟩
theorem q_to {M : BqM} {fr lo kc ks pc : Nat} {vs : List (Option Value)} {st : List Value} {S : BqH} {n : Nat} {I : BqI} {L : BqL} {P : BqP} {post : BqQ} {vs2 : List (Option Value)} {st2 : List Value} {I2 : BqI} {L2 : BqL} (hv : vs = vs2) (hs : st = st2) (hI : I = I2) (hL : L = L2) (k : bq_W M fr lo kc ks pc vs2 st2 S n I2 L2 P post) : bq_W M fr lo kc ks pc vs st S n I L P post := by
  subst hv; subst hs; subst hI; subst hL; exact k
theorem q_iret {M : BqM} {fr lo kc ks pc : Nat} {vs : List (Option Value)} {st : List Value} {S : BqH} {n : Nat} {I : BqI} {L : BqL} {P : BqP} {post : BqQ} {x : Int32} (hd : decode M.2.1 pc = .ok (.ireturn, 1)) (hr : M.2.2.2 = some .int) (hp : post (some (.int x)) S n I L P) : bq_W M fr lo kc ks pc vs [.int x] S n I L P post := by
  intro l D b p e R s m args below meth c H locs cells slots mc ms ls C N hR hS hL
  refine W.widen (k := mc) (n := ms) (by have := N.2.2.1; omega) (by have := N.2.2.2.2.1; omega) ?_
  exact W.iret C.1 C.2.1 (C.2.2.1.trans hr) (fun t ht hW => ⟨(some (.int x)), S, n, I, L, P, rfl, hp, by rw [ht]; exact hR.moved hW.alike, hS.F ht⟩) hS.2.2 hd C.2.2.2.2.2.2.1
theorem q_zret {M : BqM} {fr lo kc ks pc : Nat} {vs : List (Option Value)} {st : List Value} {S : BqH} {n : Nat} {I : BqI} {L : BqL} {P : BqP} {post : BqQ} {x : Int32} (hd : decode M.2.1 pc = .ok (.ireturn, 1)) (hr : M.2.2.2 = some .boolean) (hz : x = 0 ∨ x = 1) (hp : post (some (.int x)) S n I L P) : bq_W M fr lo kc ks pc vs [.int x] S n I L P post := by
  intro l D b p e R s m args below meth c H locs cells slots mc ms ls C N hR hS hL
  refine W.widen (k := mc) (n := ms) (by have := N.2.2.1; omega) (by have := N.2.2.2.2.1; omega) ?_
  exact W.zret C.1 C.2.1 (C.2.2.1.trans hr) (by rcases hz with rfl | rfl <;> rfl) (fun t ht hW => ⟨(some (.int x)), S, n, I, L, P, rfl, hp, by rw [ht]; exact hR.moved hW.alike, hS.F ht⟩) hS.2.2 hd C.2.2.2.2.2.2.1
theorem q_lret {M : BqM} {fr lo kc ks pc : Nat} {vs : List (Option Value)} {st : List Value} {S : BqH} {n : Nat} {I : BqI} {L : BqL} {P : BqP} {post : BqQ} {x : Int64} (hd : decode M.2.1 pc = .ok (.lreturn, 1)) (hr : M.2.2.2 = some .long) (hp : post (some (.long x)) S n I L P) : bq_W M fr lo kc ks pc vs [.long x] S n I L P post := by
  intro l D b p e R s m args below meth c H locs cells slots mc ms ls C N hR hS hL
  refine W.widen (k := mc) (n := ms) (by have := N.2.2.1; omega) (by have := N.2.2.2.2.1; omega) ?_
  exact W.lret C.1 C.2.1 (C.2.2.1.trans hr) (fun t ht hW => ⟨(some (.long x)), S, n, I, L, P, rfl, hp, by rw [ht]; exact hR.moved hW.alike, hS.F ht⟩) hS.2.2 hd C.2.2.2.2.2.2.1
theorem q_vret {M : BqM} {fr lo kc ks pc : Nat} {vs : List (Option Value)} {st : List Value} {S : BqH} {n : Nat} {I : BqI} {L : BqL} {P : BqP} {post : BqQ}  (hd : decode M.2.1 pc = .ok (.return_, 1)) (hr : M.2.2.2 = none) (hp : post none S n I L P) : bq_W M fr lo kc ks pc vs [] S n I L P post := by
  intro l D b p e R s m args below meth c H locs cells slots mc ms ls C N hR hS hL
  refine W.widen (k := mc) (n := ms) (by have := N.2.2.1; omega) (by have := N.2.2.2.2.1; omega) ?_
  exact W.vret C.1 C.2.1 (C.2.2.1.trans hr) (fun t ht hW => ⟨none, S, n, I, L, P, rfl, hp, by rw [ht]; exact hR.moved hW.alike, hS.F ht⟩) hS.2.2 hd C.2.2.2.2.2.2.1
end
section
theorem q_aret {M : BqM} {fr lo kc ks pc : Nat} {vs : List (Option Value)} {st : List Value} {S : BqH} {n : Nat} {I : BqI} {L : BqL} {P : BqP} {post : BqQ} {a : Nat} {X : String} (hd : decode M.2.1 pc = .ok (.areturn, 1)) (hr : M.2.2.2 = some (.object X)) (hp : post (some (.ref a)) S n I L P) : bq_W M fr lo kc ks pc vs [.ref a] S n I L P post := by
  intro l D b p e R s m args below meth c H locs cells slots mc ms ls C N hR hS hL
  refine W.widen (k := mc) (n := ms) (by have := N.2.2.1; omega) (by have := N.2.2.2.2.1; omega) ?_
  exact W.aret C.1 C.2.1 (C.2.2.1.trans hr) (Or.inl ⟨X, rfl⟩) (Or.inr ⟨_, rfl⟩) (fun t ht hW => ⟨some (.ref a), S, n, I, L, P, rfl, hp, by rw [ht]; exact hR.moved hW.alike, hS.F ht⟩) hS.2.2 hd C.2.2.2.2.2.2.1
theorem q_aretN {M : BqM} {fr lo kc ks pc : Nat} {vs : List (Option Value)} {st : List Value} {S : BqH} {n : Nat} {I : BqI} {L : BqL} {P : BqP} {post : BqQ} {X : String} (hd : decode M.2.1 pc = .ok (.areturn, 1)) (hr : M.2.2.2 = some (.object X)) (hp : post (some .null) S n I L P) : bq_W M fr lo kc ks pc vs [.null] S n I L P post := by
  intro l D b p e R s m args below meth c H locs cells slots mc ms ls C N hR hS hL
  refine W.widen (k := mc) (n := ms) (by have := N.2.2.1; omega) (by have := N.2.2.2.2.1; omega) ?_
  exact W.aret C.1 C.2.1 (C.2.2.1.trans hr) (Or.inl ⟨X, rfl⟩) (Or.inl rfl) (fun t ht hW => ⟨some .null, S, n, I, L, P, rfl, hp, by rw [ht]; exact hR.moved hW.alike, hS.F ht⟩) hS.2.2 hd C.2.2.2.2.2.2.1
theorem bq_cls : ∀ (ci : Nat) (C : String) (T : u_T) (N : Nat), vwCl[ci]? = some (C, T, N) → (∀ k, k < N → parseFieldDescriptor (T k).2.2.1 = some (bq_fty ci k)) ∧ ∀ a, a < N → ∀ b, b < N → a ≠ b → (T a).2.1 ≠ (T b).2.1 := by
  intro ci C T N h
  match ci, h with
  | 0, h => cases h; exact ⟨tyX0_ok, nmX0⟩
  | 1, h => cases h; exact ⟨tyX1_ok, nmX1⟩
  | 2, h => cases h; exact ⟨tyX2_ok, nmX2⟩
  | 3, h => cases h; exact ⟨tyX3_ok, nmX3⟩
  | 4, h => cases h; exact ⟨tyX4_ok, nmX4⟩
  | 5, h => cases h; exact ⟨tyX5_ok, nmX5⟩
  | 6, h => cases h; exact ⟨tyX6_ok, nmX6⟩
  | 7, h => cases h; exact ⟨tyX7_ok, nmX7⟩
  | 8, h => cases h; exact ⟨tyX8_ok, nmX8⟩
  | 9, h => cases h; exact ⟨tyX9_ok, nmX9⟩
  | 10, h => cases h; exact ⟨tyX10_ok, nmX10⟩
  | 11, h => cases h; exact ⟨tyX11_ok, nmX11⟩
  | 12, h => cases h; exact ⟨tyX12_ok, nmX12⟩
  | k + 13, h => simp at h
def bq_fl (own : String) (idx ci k : Nat) : Prop := ∃ (C : String) (T : u_T) (N : Nat), vwCl[ci]? = some (C, T, N) ∧ k < N ∧ (∀ w ∈ u_ws C T N, w ∈ bq_TB) ∧ Cond.fieldLink own idx (T k).1 (T k).2.1 (T k).2.2.1 ∈ bq_TB
def bq_fp (own name : String) (idx ci k : Nat) : Prop := ∃ (C : String) (T : u_T) (N : Nat), vwCl[ci]? = some (C, T, N) ∧ k < N ∧ (∀ w ∈ u_ws C T N, w ∈ bq_TB) ∧ Cond.fieldLink own idx (T k).1 (T k).2.1 (T k).2.2.1 ∈ bq_TB ∧ ((T k).2.2.2 = false ∨ ((T k).2.2.2 = true ∧ name = "<init>" ∧ (T k).1 = own))
theorem q_getG {M : BqM} {fr lo kc ks pc : Nat} {vs : List (Option Value)} {st : List Value} {S : BqH} {n : Nat} {I : BqI} {L : BqL} {P : BqP} {post : BqQ} {idx o ci z k : Nat} (v : Value) (hd : decode M.2.1 pc = .ok (.getfield idx, 3)) (hf : bq_fl M.1.cls idx ci k) (hs : S o = (ci, z)) (hc : ci < 13) (ho : o < n) (hv : ∀ b, bq_vf ci b I L P o k = bq_cv b v) (kk : bq_W M fr lo kc ks (pc + 3) vs (v :: st) S n I L P post) : bq_W M fr lo kc ks pc vs (.ref o :: st) S n I L P post := by
  intro l D b p e R s m args below meth c H locs cells slots mc ms ls C N hR hS hL
  obtain ⟨C1, T, N1, e1, e2, e3, e4⟩ := hf
  have hcell := hR.2 o ho
  rw [hs] at hcell
  obtain ⟨r, h1, cell, q1, q2, q3, q4⟩ := hcell.1 hc
  have hr : r = (C1, T, N1) := Option.some.inj (h1.symm.trans e1)
  subst hr
  obtain ⟨hSl, hfc, kC, hkC, hkind⟩ := C.2.2.2.2.2.2.2.2.1.1 ci _ e1
  obtain ⟨cf, kf, fi, f, hi, hsl⟩ := hSl k e2
  have hts := C.2.2.2.2.2.1
  refine W.getf C.1 C.2.1 C.2.2.2.2.1 (hts _ e4) hi (u_facts hfc hkC (u_lays hts e3 e2) hi).1 q1 (by rw [q3]; exact fun h => by cases h) (v := bq_cv b v) ?_ rfl rfl hd (kk l D b p e R s m args below meth c H locs cells slots mc ms ls C N hR hS hL)
  rw [hsl, q4 k e2, hv b]
theorem q_getI {M : BqM} {fr lo kc ks pc : Nat} {vs : List (Option Value)} {st : List Value} {S : BqH} {n : Nat} {I : BqI} {L : BqL} {P : BqP} {post : BqQ} {idx o ci z k : Nat} (hd : decode M.2.1 pc = .ok (.getfield idx, 3)) (hf : bq_fl M.1.cls idx ci k) (hs : S o = (ci, z)) (ht : (ci < 13) ∧ bq_tag (bq_fty ci k) = 0) (ho : o < n) (kk : bq_W M fr lo kc ks (pc + 3) vs (.int (I o k) :: st) S n I L P post) : bq_W M fr lo kc ks pc vs (.ref o :: st) S n I L P post :=
  q_getG (.int (I o k)) hd hf hs ht.1 ho (fun b => by unfold bq_vf bq_val; rw [ht.2]; rfl) kk
theorem q_getL {M : BqM} {fr lo kc ks pc : Nat} {vs : List (Option Value)} {st : List Value} {S : BqH} {n : Nat} {I : BqI} {L : BqL} {P : BqP} {post : BqQ} {idx o ci z k : Nat} (hd : decode M.2.1 pc = .ok (.getfield idx, 3)) (hf : bq_fl M.1.cls idx ci k) (hs : S o = (ci, z)) (ht : (ci < 13) ∧ bq_tag (bq_fty ci k) = 1) (ho : o < n) (kk : bq_W M fr lo kc ks (pc + 3) vs (.long (L o k) :: st) S n I L P post) : bq_W M fr lo kc ks pc vs (.ref o :: st) S n I L P post :=
  q_getG (.long (L o k)) hd hf hs ht.1 ho (fun b => by unfold bq_vf bq_val; rw [ht.2]; rfl) kk
theorem q_getP {M : BqM} {fr lo kc ks pc : Nat} {vs : List (Option Value)} {st : List Value} {S : BqH} {n : Nat} {I : BqI} {L : BqL} {P : BqP} {post : BqQ} {idx o ci z k q : Nat} (hd : decode M.2.1 pc = .ok (.getfield idx, 3)) (hf : bq_fl M.1.cls idx ci k) (hs : S o = (ci, z)) (ht : (ci < 13) ∧ bq_tag (bq_fty ci k) = 2) (ho : o < n) (hq : P o k = some q) (kk : bq_W M fr lo kc ks (pc + 3) vs (.ref q :: st) S n I L P post) : bq_W M fr lo kc ks pc vs (.ref o :: st) S n I L P post :=
  q_getG (.ref q) hd hf hs ht.1 ho (fun b => by unfold bq_vf bq_val; rw [ht.2, hq]; rfl) kk
def bq_u {α : Type} (f : Nat → Nat → α) (o k : Nat) (v : α) : Nat → Nat → α := fun a c => if a = o ∧ c = k then v else f a c
theorem q_putG {M : BqM} {fr lo kc ks pc : Nat} {vs : List (Option Value)} {st : List Value} {S : BqH} {n : Nat} {I : BqI} {L : BqL} {P : BqP} {post : BqQ} {idx o ci z k : Nat} (v : Value) (I' : BqI) (L' : BqL) (P' : BqP) (hd : decode M.2.1 pc = .ok (.putfield idx, 3)) (hf : bq_fp M.1.cls M.1.name idx ci k) (hs : S o = (ci, z)) (hc : ci < 13) (ho : o < n)
    (hv : ∀ b j, bq_vf ci b I' L' P' o j = if j = k then bq_cv b v else bq_vf ci b I L P o j) (hI : ∀ a, a ≠ o → I' a = I a) (hL' : ∀ a, a ≠ o → L' a = L a) (hP' : ∀ a, a ≠ o → P' a = P a)
    (hn : ∀ b, narrow (bq_fty ci k) (bq_cv b v) = bq_cv b v) (hfit : ∀ b, fits (bq_fty ci k) (bq_cv b v) = true) (kk : bq_W M fr lo kc ks (pc + 3) vs st S n I' L' P' post) : bq_W M fr lo kc ks pc vs (v :: .ref o :: st) S n I L P post := by
  intro l D b p e R s m args below meth c H locs cells slots mc ms ls C N hR hS hL
  obtain ⟨C1, T, N1, e1, e2, e3, e4, e5⟩ := hf
  have hcell := hR.2 o ho
  rw [hs] at hcell
  obtain ⟨r, h1, cell, q1, q2, q3, q4⟩ := hcell.1 hc
  have hr : r = (C1, T, N1) := Option.some.inj (h1.symm.trans e1)
  subst hr
  have hts := C.2.2.2.2.2.1
  have hK := C.2.2.2.2.2.2.2.2.1
  have hap := va_apart (own := M.1.cls) hts e3 (bq_fty ci) (bq_cls ci _ _ _ e1).1 (bq_cls ci _ _ _ e1).2 hK e1
  obtain ⟨hSl, hfc, kC, hkC, hkind⟩ := hK.1 ci _ e1
  obtain ⟨cf, kf, fi, f, hi, hsl⟩ := hSl k e2
  have hlay := hts _ (e3 _ (u_in_lay e2))
  have hst := (u_facts hfc hkC (u_lays hts e3 e2) hi).1
  have fin : ∀ H' : Heap, H'[b + o]? = some (cell.setSlot f.slot (bq_cv b v)) → H'.size = H.size → (∀ q, q ≠ b + o → H'[q]? = H[q]?) → W p l e R s m args below meth c H' (locs ++ [⟨b + o, f.slot⟩]) cells slots (MQ below (bq_Qc D b post) args s mc ms (fun q => b ≤ q)) (F0 m (pc + 3) ls (st.map (bq_cv b))) := by
    intro H' g1 g2 g3
    refine kk l D b p e R s m args below meth c H' _ cells slots mc ms ls C N ⟨g2.trans hR.1, fun a ha => ?_⟩ (hS.put g2 g3 (Nat.le_add_right b o)) hL
    by_cases hao : a = o
    · subst hao
      rw [hs]
      refine ⟨fun _ => ⟨_, e1, ?_⟩, fun h => by omega⟩
      rw [hsl] at g1
      exact t_OB.to (V := updV (bq_vf ci b I L P a) k (bq_cv b v)) ⟨_, g1, q2, q3, t_set q4 hap e2 (bq_cv b v)⟩ (fun j _ => by rw [hv b j]; rfl)
    · have h0 := (hR.2 a ha).kept (H' := H') (U' := s) (g3 (b + a) (by omega)) (Vm.Alike.refl _)
      refine ⟨fun h => ?_, fun h => ?_⟩
      · obtain ⟨r, h1, h2⟩ := h0.1 h
        exact ⟨r, h1, h2.to (fun j _ => by unfold bq_vf; rw [hI a hao, hL' a hao, hP' a hao])⟩
      · obtain ⟨h00, cA, h1, h2, h3⟩ := h0.2 h
        exact ⟨h00, cA, by rw [h1]; congr 1; unfold bq_va; rw [hI a hao, hL' a hao, hP' a hao], h2, h3⟩
  rcases e5 with e5 | ⟨e5, e6, e7⟩
  · unfold u_lay at hlay
    rw [if_neg (by rw [e5]; decide)] at hlay
    have h6 := u_store hfc hkC hkind hlay hi ((bq_cls ci _ _ _ e1).1 k e2) (hn b) (hfit b)
    exact W.putK C.1 C.2.1 (f := f) ⟨C.2.2.2.2.1, hts _ e4, ⟨_, _, _, hi⟩, hst⟩ (by rw [q2]; exact h6) q1 q3 (by rw [hsl]; exact k2_hasslot (q4 k e2)) rfl rfl hd fin
  · unfold u_lay at hlay
    rw [if_pos e5] at hlay
    have hcf : m.cls = cf := by
      obtain ⟨_, _, c', _, _, _, -, -, hf', -, -, -, hown2, -⟩ := Cond.laysFinal_spec hlay
      have e1 : c' = cf := by have := hi.symm.trans hf'; simp at this; exact this.1.symm
      rw [e7] at hown2
      rw [← e1]; exact Option.some.inj (C.2.2.2.2.1.symm.trans hown2)
    have h6 := u_fits hfc hkC hkind (Or.inr hlay) hi ((bq_cls ci _ _ _ e1).1 k e2) (hn b) (hfit b)
    exact W.putFinK C.1 C.2.1 C.2.2.2.2.1 (hts _ e4) hi hst hcf (C.2.2.2.2.2.2.2.1.trans e6) (by rw [q2]; exact h6) q1 q3 (by rw [hsl]; exact k2_hasslot (q4 k e2)) rfl rfl hd fin
theorem bq_u_ne {α : Type} {f : Nat → Nat → α} {o k a : Nat} {v : α} (h : a ≠ o) : bq_u f o k v a = f a := by funext c; unfold bq_u; rw [if_neg (fun q => h q.1)]
theorem q_putI {M : BqM} {fr lo kc ks pc : Nat} {vs : List (Option Value)} {st : List Value} {S : BqH} {n : Nat} {I : BqI} {L : BqL} {P : BqP} {post : BqQ} {idx o ci z k : Nat} {x : Int32} (hd : decode M.2.1 pc = .ok (.putfield idx, 3)) (hf : bq_fp M.1.cls M.1.name idx ci k) (hs : S o = (ci, z)) (ht : (ci < 13) ∧ bq_fty ci k = .int) (ho : o < n) (kk : bq_W M fr lo kc ks (pc + 3) vs st S n (bq_u I o k x) L P post) : bq_W M fr lo kc ks pc vs (.int x :: .ref o :: st) S n I L P post :=
  q_putG (.int x) (bq_u I o k x) L P hd hf hs ht.1 ho (fun b j => by
    by_cases hj : j = k
    · subst hj; unfold bq_vf bq_val; rw [ht.2]; simp [bq_u, bq_tag, bq_cv]
    · unfold bq_vf; simp [bq_u, hj]) (fun a h => bq_u_ne h) (fun _ _ => rfl) (fun _ _ => rfl) (fun b => by rw [ht.2]; rfl) (fun b => by rw [ht.2]; rfl) kk
theorem q_putZ {M : BqM} {fr lo kc ks pc : Nat} {vs : List (Option Value)} {st : List Value} {S : BqH} {n : Nat} {I : BqI} {L : BqL} {P : BqP} {post : BqQ} {idx o ci z k : Nat} {x : Int32} (hd : decode M.2.1 pc = .ok (.putfield idx, 3)) (hf : bq_fp M.1.cls M.1.name idx ci k) (hs : S o = (ci, z)) (ht : (ci < 13) ∧ bq_fty ci k = .boolean) (hz : x = 0 ∨ x = 1) (ho : o < n) (kk : bq_W M fr lo kc ks (pc + 3) vs st S n (bq_u I o k x) L P post) : bq_W M fr lo kc ks pc vs (.int x :: .ref o :: st) S n I L P post :=
  q_putG (.int x) (bq_u I o k x) L P hd hf hs ht.1 ho (fun b j => by
    by_cases hj : j = k
    · subst hj; unfold bq_vf bq_val; rw [ht.2]; simp [bq_u, bq_tag, bq_cv]
    · unfold bq_vf; simp [bq_u, hj]) (fun a h => bq_u_ne h) (fun _ _ => rfl) (fun _ _ => rfl) (fun b => by rw [ht.2]; rcases hz with rfl | rfl <;> rfl) (fun b => by rw [ht.2]; rcases hz with rfl | rfl <;> rfl) kk
theorem q_putL {M : BqM} {fr lo kc ks pc : Nat} {vs : List (Option Value)} {st : List Value} {S : BqH} {n : Nat} {I : BqI} {L : BqL} {P : BqP} {post : BqQ} {idx o ci z k : Nat} {x : Int64} (hd : decode M.2.1 pc = .ok (.putfield idx, 3)) (hf : bq_fp M.1.cls M.1.name idx ci k) (hs : S o = (ci, z)) (ht : (ci < 13) ∧ bq_fty ci k = .long) (ho : o < n) (kk : bq_W M fr lo kc ks (pc + 3) vs st S n I (bq_u L o k x) P post) : bq_W M fr lo kc ks pc vs (.long x :: .ref o :: st) S n I L P post :=
  q_putG (.long x) I (bq_u L o k x) P hd hf hs ht.1 ho (fun b j => by
    by_cases hj : j = k
    · subst hj; unfold bq_vf bq_val; rw [ht.2]; simp [bq_u, bq_tag, bq_cv]
    · unfold bq_vf; simp [bq_u, hj]) (fun _ _ => rfl) (fun a h => bq_u_ne h) (fun _ _ => rfl) (fun b => by rw [ht.2]; rfl) (fun b => by rw [ht.2]; rfl) kk
theorem q_putP {M : BqM} {fr lo kc ks pc : Nat} {vs : List (Option Value)} {st : List Value} {S : BqH} {n : Nat} {I : BqI} {L : BqL} {P : BqP} {post : BqQ} {idx o ci z k q : Nat} (hd : decode M.2.1 pc = .ok (.putfield idx, 3)) (hf : bq_fp M.1.cls M.1.name idx ci k) (hs : S o = (ci, z)) (ht : (ci < 13) ∧ bq_tag (bq_fty ci k) = 2) (ho : o < n) (kk : bq_W M fr lo kc ks (pc + 3) vs st S n I L (bq_u P o k (some q)) post) : bq_W M fr lo kc ks pc vs (.ref q :: .ref o :: st) S n I L P post :=
  q_putG (.ref q) I L (bq_u P o k (some q)) hd hf hs ht.1 ho (fun b j => by
    by_cases hj : j = k
    · subst hj; unfold bq_vf bq_val; rw [ht.2]; simp [bq_u, bq_cv, bq_rf]
    · unfold bq_vf; simp [bq_u, hj]) (fun _ _ => rfl) (fun _ _ => rfl) (fun a h => bq_u_ne h) (fun b => by have := ht.2; unfold bq_tag at this; cases h : bq_fty ci k <;> rw [h] at this <;> first | rfl | cases this) (fun b => by have := ht.2; unfold bq_tag at this; cases h : bq_fty ci k <;> rw [h] at this <;> first | rfl | cases this) kk

theorem bq_ni {j len : Nat} (hj : j < len) (hl : len < 2 ^ 31) (cA : ClassId) (f : Nat → Value) : ¬ (nI j < 0 ∨ (arrV cA len f).slots.size ≤ (nI j).toNatClampNeg) := by
  rw [arrV_size]; exact nI_in hj hl
theorem bq_ld {j len : Nat} (hj : j < len) (hl : len < 2 ^ 31) (cA : ClassId) (f : Nat → Value) : (arrV cA len f).slots[(nI j).toNatClampNeg]? = some (f j) := by
  rw [nI_clamp (by omega)]; exact arrV_read cA f hj
theorem q_iald {M : BqM} {fr lo kc ks pc : Nat} {vs : List (Option Value)} {st : List Value} {S : BqH} {n : Nat} {I : BqI} {L : BqL} {P : BqP} {post : BqQ} {o j len : Nat} {x : Int32} (hd : decode M.2.1 pc = .ok (.iaload, 1)) (hs : S o = (13, len)) (ho : o < n) (hx : x = nI j) (hj : j < len) (kk : bq_W M fr lo kc ks (pc + 1) vs (.int (I o j) :: st) S n I L P post) : bq_W M fr lo kc ks pc vs (.int x :: .ref o :: st) S n I L P post := by
  intro l D b p e R s m args below meth c H locs cells slots mc ms ls C N hR hS hL
  subst hx
  have hcell := hR.2 o ho
  rw [hs] at hcell
  obtain ⟨h0, cA, h1, h2, h3⟩ := hcell.2 (Nat.le_refl 13)
  exact W.iald (v := .int (I o j)) C.1 C.2.1 h1 (h2 _ _) (fun h => by cases h) (bq_ni hj h0 _ _) (bq_ld hj h0 _ _) rfl rfl hd (kk l D b p e R s m args below meth c H locs cells slots mc ms ls C N hR hS hL)
theorem q_bald {M : BqM} {fr lo kc ks pc : Nat} {vs : List (Option Value)} {st : List Value} {S : BqH} {n : Nat} {I : BqI} {L : BqL} {P : BqP} {post : BqQ} {o j len : Nat} {x : Int32} (hd : decode M.2.1 pc = .ok (.baload, 1)) (hs : S o = (14, len)) (ho : o < n) (hx : x = nI j) (hj : j < len) (kk : bq_W M fr lo kc ks (pc + 1) vs (.int (I o j) :: st) S n I L P post) : bq_W M fr lo kc ks pc vs (.int x :: .ref o :: st) S n I L P post := by
  intro l D b p e R s m args below meth c H locs cells slots mc ms ls C N hR hS hL
  subst hx
  have hcell := hR.2 o ho
  rw [hs] at hcell
  obtain ⟨h0, cA, h1, h2, h3⟩ := hcell.2 (by omega)
  exact W.zald (v := .int (I o j)) C.1 C.2.1 h1 (h2 _ _) (fun h => by cases h) (bq_ni hj h0 _ _) (bq_ld hj h0 _ _) rfl rfl hd (kk l D b p e R s m args below meth c H locs cells slots mc ms ls C N hR hS hL)
theorem bq_tyR {kd : Nat} (h : 15 ≤ kd) : ∃ X, bq_ty kd = .object X := by
  unfold bq_ty
  rw [if_neg (by omega), if_neg (by omega)]
  repeat' split
  all_goals exact ⟨_, rfl⟩
theorem q_aald {M : BqM} {fr lo kc ks pc : Nat} {vs : List (Option Value)} {st : List Value} {S : BqH} {n : Nat} {I : BqI} {L : BqL} {P : BqP} {post : BqQ} {o j len kd q : Nat} {x : Int32} (hd : decode M.2.1 pc = .ok (.aaload, 1)) (hs : S o = (kd, len)) (hk : 15 ≤ kd) (ho : o < n) (hx : x = nI j) (hj : j < len) (hq : P o j = some q) (kk : bq_W M fr lo kc ks (pc + 1) vs (.ref q :: st) S n I L P post) : bq_W M fr lo kc ks pc vs (.int x :: .ref o :: st) S n I L P post := by
  intro l D b p e R s m args below meth c H locs cells slots mc ms ls C N hR hS hL
  subst hx
  have hcell := hR.2 o ho
  rw [hs] at hcell
  obtain ⟨h0, cA, h1, h2, h3⟩ := hcell.2 (by show 13 ≤ kd; omega)
  obtain ⟨X, hX⟩ := bq_tyR hk
  refine W.aald (v := bq_cv b (.ref q)) C.1 C.2.1 h1 (h2 _ _) (by show (bq_ty kd).isReference = true; rw [hX]; rfl) (fun h => by cases h) (bq_ni hj h0 _ _) ?_ rfl rfl hd (kk l D b p e R s m args below meth c H locs cells slots mc ms ls C N hR hS hL)
  rw [bq_ld hj h0]
  show some (bq_va kd b I L P o j) = _
  unfold bq_va
  rw [hX, hq]
  rfl
/-- the cells behind a store into the array o -/
theorem bq_stored {D : va_G} {b : Nat} {s : State} {H H' : Heap} {S : BqH} {n : Nat} {I I' : BqI} {L : BqL} {P P' : BqP} {o kd len : Nat} {cA : ClassId} (hR : bq_R D b s H S n I L P) (hs : S o = (kd, len)) (hk : 13 ≤ kd) (h0 : len < 2 ^ 31) (h2 : ArrOfT s cA (bq_ty kd)) (h3 : va_RA s cA (bq_ty kd))
    (g1 : H'[b + o]? = some (arrV cA len (bq_va kd b I' L P' o))) (g2 : H'.size = H.size) (g3 : ∀ q, q ≠ b + o → H'[q]? = H[q]?) (hI : ∀ a, a ≠ o → I' a = I a) (hP : ∀ a, a ≠ o → P' a = P a) : bq_R D b s H' S n I' L P' := by
  refine ⟨g2.trans hR.1, fun a ha => ?_⟩
  by_cases hao : a = o
  · subst hao
    rw [hs]
    exact ⟨fun h => by omega, fun _ => ⟨h0, cA, g1, h2, h3⟩⟩
  · have h00 := (hR.2 a ha).kept (H' := H') (U' := s) (g3 (b + a) (by omega)) (Vm.Alike.refl _)
    refine ⟨fun h => ?_, fun h => ?_⟩
    · obtain ⟨r, h1, h2⟩ := h00.1 h
      exact ⟨r, h1, h2.to (fun j _ => by unfold bq_vf; rw [hI a hao, hP a hao])⟩
    · obtain ⟨h01, cA, h1, h2, h3⟩ := h00.2 h
      exact ⟨h01, cA, by rw [h1]; congr 1; unfold bq_va; rw [hI a hao, hP a hao], h2, h3⟩
theorem q_iast {M : BqM} {fr lo kc ks pc : Nat} {vs : List (Option Value)} {st : List Value} {S : BqH} {n : Nat} {I : BqI} {L : BqL} {P : BqP} {post : BqQ} {o j len : Nat} {x y : Int32} (hd : decode M.2.1 pc = .ok (.iastore, 1)) (hs : S o = (13, len)) (ho : o < n) (hx : x = nI j) (hj : j < len) (kk : bq_W M fr lo kc ks (pc + 1) vs st S n (bq_u I o j y) L P post) : bq_W M fr lo kc ks pc vs (.int y :: .int x :: .ref o :: st) S n I L P post := by
  intro l D b p e R s m args below meth c H locs cells slots mc ms ls C N hR hS hL
  subst hx
  have hcell := hR.2 o ho
  rw [hs] at hcell
  obtain ⟨h0, cA, h1, h2, h3⟩ := hcell.2 (Nat.le_refl 13)
  refine W.iast C.1 C.2.1 h1 (h2 _ _) (fun h => by cases h) (bq_ni hj h0 _ _) rfl rfl hd (fun H' g1 g2 g3 => kk l D b p e R s m args below meth c H' _ cells slots mc ms ls C N (bq_stored (I' := bq_u I o j y) (P' := P) hR hs (Nat.le_refl 13) h0 h2 h3 ?_ g2 g3 (fun a h => bq_u_ne h) (fun _ _ => rfl)) (hS.put g2 g3 (Nat.le_add_right b o)) hL)
  rw [g1, arrV_store, nI_clamp (by omega)]
  congr 2
  funext q
  by_cases hq : q = j
  · subst hq; simp [updV, bq_va, bq_val, bq_u, bq_ty, bq_tag]
  · simp [updV, bq_va, bq_u, hq]
theorem q_bast {M : BqM} {fr lo kc ks pc : Nat} {vs : List (Option Value)} {st : List Value} {S : BqH} {n : Nat} {I : BqI} {L : BqL} {P : BqP} {post : BqQ} {o j len : Nat} {x y : Int32} (hd : decode M.2.1 pc = .ok (.bastore, 1)) (hs : S o = (14, len)) (ho : o < n) (hx : x = nI j) (hj : j < len) (hz : y = 0 ∨ y = 1) (kk : bq_W M fr lo kc ks (pc + 1) vs st S n (bq_u I o j y) L P post) : bq_W M fr lo kc ks pc vs (.int y :: .int x :: .ref o :: st) S n I L P post := by
  intro l D b p e R s m args below meth c H locs cells slots mc ms ls C N hR hS hL
  subst hx
  have hcell := hR.2 o ho
  rw [hs] at hcell
  obtain ⟨h0, cA, h1, h2, h3⟩ := hcell.2 (by omega)
  refine W.zast C.1 C.2.1 h1 (h2 _ _) (fun h => by cases h) (bq_ni hj h0 _ _) rfl rfl hd (fun H' g1 g2 g3 => kk l D b p e R s m args below meth c H' _ cells slots mc ms ls C N (bq_stored (I' := bq_u I o j y) (P' := P) hR hs (by omega) h0 h2 h3 ?_ g2 g3 (fun a h => bq_u_ne h) (fun _ _ => rfl)) (hS.put g2 g3 (Nat.le_add_right b o)) hL)
  have hnz : narrow .boolean (.int y) = .int y := by rcases hz with rfl | rfl <;> rfl
  rw [g1, arrV_store, nI_clamp (by omega), hnz]
  congr 2
  funext q
  by_cases hq : q = j
  · subst hq; simp [updV, bq_va, bq_val, bq_u, bq_ty, bq_tag]
  · simp [updV, bq_va, bq_u, hq]
theorem q_aast {M : BqM} {fr lo kc ks pc : Nat} {vs : List (Option Value)} {st : List Value} {S : BqH} {n : Nat} {I : BqI} {L : BqL} {P : BqP} {post : BqQ} {o j len kd q z : Nat} {x : Int32} (hd : decode M.2.1 pc = .ok (.aastore, 1)) (hs : S o = (kd, len)) (hk : 15 ≤ kd) (ho : o < n) (hx : x = nI j) (hj : j < len) (hq : S q = (bq_ec kd, z)) (hqn : q < n) (kk : bq_W M fr lo kc ks (pc + 1) vs st S n I L (bq_u P o j (some q)) post) : bq_W M fr lo kc ks pc vs (.ref q :: .int x :: .ref o :: st) S n I L P post := by
  intro l D b p e R s m args below meth c H locs cells slots mc ms ls C N hR hS hL
  subst hx
  have hcell := hR.2 o ho
  rw [hs] at hcell
  obtain ⟨h0, cA, h1, h2, h3⟩ := hcell.2 (by show 13 ≤ kd; omega)
  have hec : bq_ec kd < 13 ∧ ∃ r : vw_C, vwCl[bq_ec kd]? = some r ∧ bq_ty kd = .object r.1 := by
    unfold bq_ec bq_ty
    rw [if_neg (show ¬ kd = 13 by omega), if_neg (show ¬ kd = 14 by omega)]
    repeat' split
    all_goals exact ⟨by omega, _, rfl, rfl⟩
  obtain ⟨hec, r, hr1, hr2⟩ := hec
  have hcq := hR.2 q hqn
  rw [hq] at hcq
  obtain ⟨r', hr', cellV, g1, g2, g3, -⟩ := hcq.1 hec
  have hK := C.2.2.2.2.2.2.2.2.1
  have hcls := (hK.1 _ r hr1).2
  rw [hr2] at h3
  obtain ⟨kA, comp, k1, k2, k3, k4⟩ := h3
  have hcomp : comp = D.1 (bq_ec kd) := Option.some.inj (k3.symm.trans hcls.1)
  subst hcomp
  obtain ⟨kC, hkC, -⟩ := hcls.2
  have hlt : (nI j).toNatClampNeg < len := by rw [nI_clamp (by omega)]; exact hj
  refine W.aast C.1 C.2.1 h1 (fun q h => by cases h) (fun h => by cases h) k1 k2 rfl hkC ⟨nI_pos (by omega), by rw [arrV_size]; exact hlt⟩ g1 (fun q h => by rw [g3] at h; cases h) (by rw [g2]; exact hkC) (by rw [g2]; exact va_assign hcls) rfl rfl hd (fun H' g1 g2 g3 => kk l D b p e R s m args below meth c H' _ cells slots mc ms ls C N (bq_stored (I' := I) (P' := bq_u P o j (some q)) hR hs (by omega) h0 h2 (by rw [hr2]; exact ⟨kA, _, k1, k2, k3, k4⟩) ?_ g2 g3 (fun _ _ => rfl) (fun a h => bq_u_ne h)) (hS.put g2 g3 (Nat.le_add_right b o)) hL)
  rw [g1, arrV_store, nI_clamp (by omega)]
  congr 2
  funext a
  by_cases ha : a = j
  · subst ha; simp [updV, bq_va, bq_val, bq_u, hr2, bq_tag, bq_rf]
  · simp [updV, bq_va, bq_u, ha]
theorem q_alen {M : BqM} {fr lo kc ks pc : Nat} {vs : List (Option Value)} {st : List Value} {S : BqH} {n : Nat} {I : BqI} {L : BqL} {P : BqP} {post : BqQ} {o kd len : Nat} (hd : decode M.2.1 pc = .ok (.arraylength, 1)) (hs : S o = (kd, len)) (hk : 13 ≤ kd) (ho : o < n) (kk : bq_W M fr lo kc ks (pc + 1) vs (.int (nI len) :: st) S n I L P post) : bq_W M fr lo kc ks pc vs (.ref o :: st) S n I L P post := by
  intro l D b p e R s m args below meth c H locs cells slots mc ms ls C N hR hS hL
  have hcell := hR.2 o ho
  rw [hs] at hcell
  obtain ⟨h0, cA, h1, h2, h3⟩ := hcell.2 hk
  exact W.alen (n := nI len) C.1 C.2.1 h1 (h2 _ _) (by rw [arrV_size]; rfl) rfl rfl hd (kk l D b p e R s m args below meth c H locs cells slots mc ms ls C N hR hS hL)

def bq_r {α : Type} (f : Nat → α) (o : Nat) (v : α) : Nat → α := fun a => if a = o then v else f a
theorem bq_r_self {α : Type} {f : Nat → α} {o : Nat} {v : α} : bq_r f o v o = v := by unfold bq_r; rw [if_pos rfl]
theorem bq_r_ne {α : Type} {f : Nat → α} {o a : Nat} {v : α} (h : a ≠ o) : bq_r f o v a = f a := by unfold bq_r; rw [if_neg h]
def bq_okt (t : FieldType) : Prop := t = .int ∨ t = .boolean ∨ t = .long ∨ (∃ X, t = .object X) ∨ ∃ T, t = .array T
theorem bq_okt0 (k : Nat) : bq_okt (tyX0 k) := by
  unfold tyX0 bq_okt
  (try split) <;> simp
theorem bq_okt1 (k : Nat) : bq_okt (tyX1 k) := by
  unfold tyX1 bq_okt
  (try split) <;> simp
theorem bq_okt2 (k : Nat) : bq_okt (tyX2 k) := by
  unfold tyX2 bq_okt
  (try split) <;> simp
theorem bq_okt3 (k : Nat) : bq_okt (tyX3 k) := by
  unfold tyX3 bq_okt
  (try split) <;> simp
theorem bq_okt4 (k : Nat) : bq_okt (tyX4 k) := by
  unfold tyX4 bq_okt
  (try split) <;> simp
theorem bq_okt5 (k : Nat) : bq_okt (tyX5 k) := by
  unfold tyX5 bq_okt
  (try split) <;> simp
theorem bq_okt6 (k : Nat) : bq_okt (tyX6 k) := by
  unfold tyX6 bq_okt
  (try split) <;> simp
theorem bq_okt7 (k : Nat) : bq_okt (tyX7 k) := by
  unfold tyX7 bq_okt
  (try split) <;> simp
theorem bq_okt8 (k : Nat) : bq_okt (tyX8 k) := by
  unfold tyX8 bq_okt
  (try split) <;> simp
theorem bq_okt9 (k : Nat) : bq_okt (tyX9 k) := by
  unfold tyX9 bq_okt
  (try split) <;> simp
theorem bq_okt10 (k : Nat) : bq_okt (tyX10 k) := by
  unfold tyX10 bq_okt
  (try split) <;> simp
theorem bq_okt11 (k : Nat) : bq_okt (tyX11 k) := by
  unfold tyX11 bq_okt
  (try split) <;> simp
theorem bq_okt12 (k : Nat) : bq_okt (tyX12 k) := by
  unfold tyX12 bq_okt
  (try split) <;> simp
theorem bq_fty_ok (ci k : Nat) : bq_okt (bq_fty ci k) := by
  unfold bq_fty
  split
  · exact bq_okt0 k
  split
  · exact bq_okt1 k
  split
  · exact bq_okt2 k
  split
  · exact bq_okt3 k
  split
  · exact bq_okt4 k
  split
  · exact bq_okt5 k
  split
  · exact bq_okt6 k
  split
  · exact bq_okt7 k
  split
  · exact bq_okt8 k
  split
  · exact bq_okt9 k
  split
  · exact bq_okt10 k
  split
  · exact bq_okt11 k
  exact bq_okt12 k
theorem bq_dflt (t : FieldType) (b : Nat) (h : bq_okt t) : defaultValue t = bq_val (bq_tag t) b 0 0 none := by
  rcases h with rfl | rfl | rfl | ⟨X, rfl⟩ | ⟨T, rfl⟩ <;> rfl
/-- the cells behind a making -/
theorem bq_made {D : va_G} {b : Nat} {s : State} {H H' : Heap} {S : BqH} {n : Nat} {I : BqI} {L : BqL} {P : BqP} {x : Nat × Nat} (hR : bq_R D b s H S n I L P) (g2 : H'.size = H.size + 1) (g3 : ∀ q, q < H.size → H'[q]? = H[q]?) (hx : bq_cell D b s H' (bq_r I n (fun _ => 0)) (bq_r L n (fun _ => 0)) (bq_r P n (fun _ => none)) n x) :
    bq_R D b s H' (bq_r S n x) (n + 1) (bq_r I n (fun _ => 0)) (bq_r L n (fun _ => 0)) (bq_r P n (fun _ => none)) := by
  refine ⟨by rw [g2, hR.1]; omega, fun a ha => ?_⟩
  by_cases hao : a = n
  · subst hao; rw [bq_r_self]; exact hx
  · rw [bq_r_ne hao]
    have h00 := (hR.2 a (by omega)).kept (H' := H') (U' := s) (g3 (b + a) (by rw [hR.1]; omega)) (Vm.Alike.refl _)
    refine ⟨fun h => ?_, fun h => ?_⟩
    · obtain ⟨r, h1, h2⟩ := h00.1 h
      exact ⟨r, h1, h2.to (fun j _ => by unfold bq_vf; rw [bq_r_ne hao, bq_r_ne hao, bq_r_ne hao])⟩
    · obtain ⟨h01, cA, h1, h2, h3⟩ := h00.2 h
      exact ⟨h01, cA, by rw [h1]; congr 1; unfold bq_va; rw [bq_r_ne hao, bq_r_ne hao, bq_r_ne hao], h2, h3⟩
theorem bq_madeS {b : Nat} {s : State} {H H' : Heap} {locs : List Loc} (hS : va_S (fun q => b ≤ q) s.heap H locs) (g2 : H'.size = H.size + 1) (g3 : ∀ q, q < H.size → H'[q]? = H[q]?) : va_S (fun q => b ≤ q) s.heap H' locs :=
  ⟨Nat.le_trans hS.1 (by omega), fun q h1 h2 => (g3 q (Nat.lt_of_lt_of_le h1 hS.1)).trans (hS.2.1 q h1 h2), hS.2.2⟩
def bq_nw (own : String) (idx ci N1 : Nat) : Prop := ∃ (C : String) (T : u_T), vwCl[ci]? = some (C, T, N1) ∧ (∀ w ∈ u_ws C T N1, w ∈ bq_TB) ∧ Cond.classLink own idx C ∈ bq_TB ∧ Cond.instantiable C N1 ∈ bq_TB ∧ Cond.initialized C ∈ bq_TB
theorem q_new {M : BqM} {fr lo kc ks pc : Nat} {vs : List (Option Value)} {st : List Value} {S : BqH} {n : Nat} {I : BqI} {L : BqL} {P : BqP} {post : BqQ} {idx ci N1 : Nat} (hd : decode M.2.1 pc = .ok (.new idx, 3)) (hw : bq_nw M.1.cls idx ci N1) (hc : ci < 13) (k : bq_W M fr lo kc ks (pc + 3) vs (.ref n :: st) (bq_r S n (ci, 0)) (n + 1) (bq_r I n (fun _ => 0)) (bq_r L n (fun _ => 0)) (bq_r P n (fun _ => none)) post) : bq_W M fr lo (kc + 1) (ks + N1) pc vs st S n I L P post := by
  intro l D b p e R s m args below meth c H locs cells slots mc ms ls C N hR hS hL
  obtain ⟨C1, T, e1, e2, e3, e4, e5⟩ := hw
  have hts := C.2.2.2.2.2.1
  have hK := C.2.2.2.2.2.2.2.2.1
  have hKn := hK.1 ci _ e1
  refine W.newcK C.1 C.2.1 C.2.2.2.2.1 (hts _ e3) (hts _ e4) (hts _ e5) rfl hd (by have := N.2.2.1; have := N.2.2.2.1; omega) (by have := N.2.2.2.2.1; have := N.2.2.2.2.2; omega) hKn.2.1 rfl (fun H1 kC hkC g1 g2 g3 => ?_)
  rw [hR.1] at g1 ⊢
  refine k l D b p e R s m args below meth c H1 locs (cells + 1) (slots + N1) mc ms ls C ⟨N.1, N.2.1, by have := N.2.2.1; omega, N.2.2.2.1, by have := N.2.2.2.2.1; omega, N.2.2.2.2.2⟩ (bq_made hR g2 g3 ?_) (bq_madeS hS g2 g3) hL
  refine ⟨fun _ => ⟨_, e1, ?_⟩, fun h => by have : 13 ≤ ci := h; omega⟩
  refine (u_born (bq_fty ci) hts e2 hKn hkC g1 (bq_cls ci _ _ _ e1).1).to (fun j _ => ?_)
  unfold bq_vf
  rw [bq_r_self, bq_r_self, bq_r_self]
  exact bq_dflt _ b (bq_fty_ok ci j)
theorem q_newI {M : BqM} {fr lo kc ks pc : Nat} {vs : List (Option Value)} {st : List Value} {S : BqH} {n : Nat} {I : BqI} {L : BqL} {P : BqP} {post : BqQ} {len : Nat} {x : Int32} (hd : decode M.2.1 pc = .ok (.newarray .int, 2)) (hw : Cond.arrayClass .int ∈ bq_TB) (hx : x = nI len) (hl : len < 100000) (k : bq_W M fr lo kc ks (pc + 2) vs (.ref n :: st) (bq_r S n (13, len)) (n + 1) (bq_r I n (fun _ => 0)) (bq_r L n (fun _ => 0)) (bq_r P n (fun _ => none)) post) : bq_W M fr lo (kc + 1) (ks + len) pc vs (.int x :: st) S n I L P post := by
  intro l D b p e R s m args below meth c H locs cells slots mc ms ls C N hR hS hL
  subst hx
  refine va_newaK (atype := .int) (N := len) C.1 C.2.1 (C.2.2.2.2.2.1 _ hw) rfl hd rfl (nI_pos (by omega)) (nI_clamp (by omega)) (by show len * 4 ≤ _; omega) (by have := N.2.2.1; have := N.2.2.2.1; omega) (by have := N.2.2.2.2.1; have := N.2.2.2.2.2; omega) rfl (fun H1 cA g1 g2 g3 g4 g5 => ?_)
  rw [hR.1] at g1 ⊢
  refine k l D b p e R s m args below meth c H1 locs (cells + 1) (slots + len) mc ms ls C ⟨N.1, N.2.1, by have := N.2.2.1; omega, N.2.2.2.1, by have := N.2.2.2.2.1; omega, N.2.2.2.2.2⟩ (bq_made hR g2 g3 ?_) (bq_madeS hS g2 g3) hL
  refine ⟨fun h => by have : 13 < 13 := h; omega, fun _ => ⟨by show len < 2 ^ 31; omega, cA, ?_, g4, g5⟩⟩
  rw [g1]
  congr 2
  funext j
  show Value.int 0 = bq_va 13 b _ _ _ n j
  unfold bq_va
  rw [bq_r_self]
  rfl
theorem q_newZ {M : BqM} {fr lo kc ks pc : Nat} {vs : List (Option Value)} {st : List Value} {S : BqH} {n : Nat} {I : BqI} {L : BqL} {P : BqP} {post : BqQ} {len : Nat} {x : Int32} (hd : decode M.2.1 pc = .ok (.newarray .boolean, 2)) (hw : Cond.arrayClass .boolean ∈ bq_TB) (hx : x = nI len) (hl : len < 100000) (k : bq_W M fr lo kc ks (pc + 2) vs (.ref n :: st) (bq_r S n (14, len)) (n + 1) (bq_r I n (fun _ => 0)) (bq_r L n (fun _ => 0)) (bq_r P n (fun _ => none)) post) : bq_W M fr lo (kc + 1) (ks + len) pc vs (.int x :: st) S n I L P post := by
  intro l D b p e R s m args below meth c H locs cells slots mc ms ls C N hR hS hL
  subst hx
  refine va_newaK (atype := .boolean) (N := len) C.1 C.2.1 (C.2.2.2.2.2.1 _ hw) rfl hd rfl (nI_pos (by omega)) (nI_clamp (by omega)) (by show len * 1 ≤ _; omega) (by have := N.2.2.1; have := N.2.2.2.1; omega) (by have := N.2.2.2.2.1; have := N.2.2.2.2.2; omega) rfl (fun H1 cA g1 g2 g3 g4 g5 => ?_)
  rw [hR.1] at g1 ⊢
  refine k l D b p e R s m args below meth c H1 locs (cells + 1) (slots + len) mc ms ls C ⟨N.1, N.2.1, by have := N.2.2.1; omega, N.2.2.2.1, by have := N.2.2.2.2.1; omega, N.2.2.2.2.2⟩ (bq_made hR g2 g3 ?_) (bq_madeS hS g2 g3) hL
  refine ⟨fun h => by have : 14 < 13 := h; omega, fun _ => ⟨by show len < 2 ^ 31; omega, cA, ?_, g4, g5⟩⟩
  rw [g1]
  congr 2
  funext j
  show Value.int 0 = bq_va 14 b _ _ _ n j
  unfold bq_va
  rw [bq_r_self]
  rfl
theorem q_newq {M : BqM} {fr lo kc ks pc : Nat} {vs : List (Option Value)} {st : List Value} {S : BqH} {n : Nat} {I : BqI} {L : BqL} {P : BqP} {post : BqQ} {idx len kd : Nat} {X : String} {x : Int32} (hd : decode M.2.1 pc = .ok (.anewarray idx, 3)) (hw : Cond.classLink M.1.cls idx X ∈ bq_TB) (hX : X ∈ bq_ao) (hk : 15 ≤ kd) (ht : bq_ty kd = .object X) (hx : x = nI len) (hl : len < 100000) (k : bq_W M fr lo kc ks (pc + 3) vs (.ref n :: st) (bq_r S n (kd, len)) (n + 1) (bq_r I n (fun _ => 0)) (bq_r L n (fun _ => 0)) (bq_r P n (fun _ => none)) post) : bq_W M fr lo (kc + 1) (ks + len) pc vs (.int x :: st) S n I L P post := by
  intro l D b p e R s m args below meth c H locs cells slots mc ms ls C N hR hS hL
  subst hx
  have hcl : (nI len).toNatClampNeg = len := nI_clamp (by omega)
  refine W.anew C.1 C.2.1 C.2.2.2.2.1 (C.2.2.2.2.2.1 _ hw) (va_AO.use (C.2.2.2.2.2.2.2.2.2.2 _ hX)) rfl hd rfl (nI_pos (by omega)) (by rw [hcl]; omega) (by have := N.2.2.1; have := N.2.2.2.1; omega) (by rw [hcl]; have := N.2.2.2.2.1; have := N.2.2.2.2.2; omega) (fun cA kA comp f1 f2 f3 f4 => ?_)
  rw [hcl]
  generalize hH1 : H.push ({ cls := cA, slots := Array.replicate len .null, vm := .none } : Cell) = H1
  have g2 : H1.size = H.size + 1 := by rw [← hH1, Array.size_push]
  have g1 : H1[H.size]? = some (arrV cA len (fun _ => .null)) := by rw [← hH1, Array.getElem?_push_size, ← arrV_new]
  have g3 : ∀ q : Nat, q < H.size → H1[q]? = H[q]? := fun q hq => by rw [← hH1, Array.getElem?_push, if_neg (Nat.ne_of_lt hq)]
  have hAr : ArrOfT s cA (.object X) := fun N z => ⟨(fun k h => by cases h), kA, f2, comp, f3⟩
  rw [hR.1] at g1 ⊢
  refine k l D b p e R s m args below meth c H1 locs (cells + 1) (slots + len) mc ms ls C ⟨N.1, N.2.1, by have := N.2.2.1; omega, N.2.2.2.1, by have := N.2.2.2.2.1; omega, N.2.2.2.2.2⟩ (bq_made hR g2 g3 ?_) (bq_madeS hS g2 g3) hL
  refine ⟨fun h => by have : kd < 13 := h; omega, fun _ => ⟨by show len < 2 ^ 31; omega, cA, ?_, by show ArrOfT s cA (bq_ty kd); rw [ht]; exact hAr, by show va_RA s cA (bq_ty kd); rw [ht]; exact ⟨kA, comp, f2, f3, f4, f1⟩⟩⟩
  rw [g1]
  congr 2
  funext j
  show Value.null = bq_va kd b _ _ _ n j
  unfold bq_va
  rw [bq_r_self, bq_r_self, bq_r_self, ht]
  rfl
end
section
theorem bq_call {p : Program} {l : Launch} {e : Env} {R : Room} {s : State} {m : MethodId} {args : Array Value} {below : List Frame} {meth : Method} {c : Code} {H : Heap} {locs : List Loc} {cells slots : Nat} {Q : State → Prop} {D : va_G} {b mc ms pc : Nat} {ls : Array Slot} {rest st0 : List Value} {a : Array Value} {H0 : Heap} {post : BqQ} (hr : va_Run p l e R s m args below meth c H locs cells slots mc ms (F0 m pc ls st0) rest (bq_Qc D b post a) (fun q => b ≤ q)) (hS : va_S (fun q => b ≤ q) H0 H locs)
    (kk : ∀ (r : Option Value) (S : BqH) (n : Nat) (I : BqI) (L : BqL) (P : BqP) (H1 : Heap) (locs1 : List Loc), post r S n I L P → bq_R D b s H1 S n I L P → va_S (fun q => b ≤ q) H0 H1 locs1 → W p l e R s m args below meth c H1 locs1 (cells + mc) (slots + ms) Q (F0 m (pc + 3) ls ((r.map (bq_cv b)).toList ++ rest))) : W p l e R s m args below meth c H locs cells slots Q (F0 m pc ls st0) := by
  intro T hT X
  obtain ⟨v, st₀, t, T', L0, h0, X', hL, e1, e2, ⟨r, S, n, I, L, P, hv, hp, hR, hz, hk⟩, st⟩ := hr T hT X
  cases hv
  rw [h0] at hz hk
  obtain ⟨t2, a1, b1⟩ := kk r S n I L P T'.heap (locs ++ L0) hp (by rw [e1]; exact hR.moved (by rw [← e2]; exact X'.warmed.alike.symm))
    ⟨Nat.le_trans hS.1 (by rw [e1]; exact hz), fun q h1 h2 => by rw [e1, hk q (Nat.lt_of_lt_of_le h1 hS.1) h2]; exact hS.2.1 q h1 h2, fun q hq => by
      rcases List.mem_append.mp hq with h | h
      · exact hS.2.2 q h
      · exact hL q h⟩ T' rfl X'
  exact ⟨t2, st t2 a1, b1⟩
def bq_dd (N : BqM) (k : Nat) : Prop := N.1.cls ≠ "java/lang/invoke/MethodHandle" ∧ N.1.cls ≠ "java/lang/invoke/VarHandle" ∧ (parseMethodDescriptor N.1.desc).map (fun d => d.parameters.length) = some k
def bq_cV (own : String) (idx : Nat) (N : BqM) (k : Nat) : Prop := Cond.methodLink own idx N.1 ∈ bq_TB ∧ Cond.instanceMethod N.1 ∈ bq_TB ∧ Cond.selects N.1.cls N.1 N.1 ∈ bq_TB ∧ Cond.initialized N.1.cls ∈ bq_TB ∧ Cond.code N.1 N.2.1 N.2.2.1 N.2.2.2 ∈ bq_TB ∧ bq_dd N k
def bq_cS (own : String) (idx : Nat) (N : BqM) (k : Nat) : Prop := Cond.methodLink own idx N.1 ∈ bq_TB ∧ Cond.static N.1 ∈ bq_TB ∧ Cond.initialized N.1.cls ∈ bq_TB ∧ Cond.code N.1 N.2.1 N.2.2.1 N.2.2.2 ∈ bq_TB ∧ bq_dd N k
def bq_cT (own : String) (idx : Nat) (N : BqM) (k : Nat) : Prop := (own, idx, N.1, RX11) ∈ bq_nest ∧ Cond.static N.1 ∈ bq_TB ∧ Cond.initialized N.1.cls ∈ bq_TB ∧ Cond.code N.1 N.2.1 N.2.2.1 N.2.2.2 ∈ bq_TB ∧ bq_dd N k
def bq_cI (own : String) (idx : Nat) (N : BqM) (k : Nat) : Prop := Cond.methodLink own idx N.1 ∈ bq_TB ∧ Cond.instanceMethod N.1 ∈ bq_TB ∧ N.1.name = "<init>" ∧ Cond.initialized N.1.cls ∈ bq_TB ∧ Cond.code N.1 N.2.1 N.2.2.1 N.2.2.2 ∈ bq_TB ∧ bq_dd N k
def bq_cJ (own : String) (idx : Nat) (N : BqM) (k : Nat) : Prop := (own, idx, N.1, RX11) ∈ bq_nest ∧ Cond.instanceMethod N.1 ∈ bq_TB ∧ N.1.name = "<init>" ∧ Cond.initialized N.1.cls ∈ bq_TB ∧ Cond.code N.1 N.2.1 N.2.2.1 N.2.2.2 ∈ bq_TB ∧ bq_dd N k
theorem bq_recv {D : va_G} {b : Nat} {s : State} {H : Heap} {S : BqH} {n : Nat} {I : BqI} {L : BqL} {P : BqP} {o ci z : Nat} {X : String} (hK : bq_K D s) (hR : bq_R D b s H S n I L P) (ho : o < n) (hs : S o = (ci, z)) (hc : (vwCl[ci]?).map (fun q => q.1) = some X) : ∃ cellB : Cell, H[b + o]? = some cellB ∧ cellB.vm.isStatics = false ∧ s.vm.findClass X = some cellB.cls := by
  have hcell := hR.2 o ho
  rw [hs] at hcell
  have hci : ci < 13 := by
    rcases Nat.lt_or_ge ci 13 with h | h
    · exact h
    · rw [List.getElem?_eq_none (show vwCl.length ≤ ci from h)] at hc; cases hc
  obtain ⟨r, h1, cell, q1, q2, q3, q4⟩ := hcell.1 hci
  have h1' : vwCl[ci]? = some r := h1
  rw [h1'] at hc
  cases hc
  exact ⟨cell, q1, by rw [q3]; rfl, by rw [q2]; exact (hK.1.1 ci r h1').2.1⟩
theorem bq_stk {b : Nat} {st0 as st : List Value} (h : st0 = as.reverse ++ st) : st0.map (bq_cv b) = (as.map (bq_cv b)).reverse ++ st.map (bq_cv b) := by
  rw [h, List.map_append, List.map_reverse]
theorem bq_res (b : Nat) (r : Option Value) (st : List Value) : (r.toList ++ st).map (bq_cv b) = (r.map (bq_cv b)).toList ++ st.map (bq_cv b) := by
  cases r <;> rfl

/-- a contract that says what comes out -/
def bq_F (r0 : Option Value) (S0 : BqH) (n0 : Nat) (I0 : BqI) (L0 : BqL) (P0 : BqP) : BqQ := fun r S n I L P => r = r0 ∧ S = S0 ∧ n = n0 ∧ I = I0 ∧ L = L0 ∧ P = P0

theorem q_callV {M : BqM} {fr lo kc ks pc : Nat} {vs : List (Option Value)} {st : List Value} {S : BqH} {n : Nat} {I : BqI} {L : BqL} {P : BqP} {post : BqQ} {N0 : BqM} {o ci z : Nat} {idx k0 fr' lo' kc' ks' : Nat} {as st0 : List Value} {post' : BqQ} (hd : decode M.2.1 pc = .ok (.invokevirtual idx, 3)) (hw : bq_cV M.1.cls idx N0 k0) (hsp : bq_Sp N0 fr' lo' kc' ks' (.ref o :: as) S n I L P post') (hs : S o = (ci, z)) (hci : (vwCl[ci]?).map (fun q => q.1) = some N0.1.cls) (ho : o < n) (hr : fr' + 1 ≤ fr ∧ 8 + (N0.2.2.1 + 11) + lo' ≤ lo) (hk : as.length = k0) (hst : st0 = as.reverse ++ .ref o :: st) (hW : (st.map fun v => v.category).sum ≤ 8) (kk : ∀ (r : Option Value) (S' : BqH) (n' : Nat) (I' : BqI) (L' : BqL) (P' : BqP), post' r S' n' I' L' P' → bq_W M fr lo kc ks (pc + 3) vs (r.toList ++ st) S' n' I' L' P' post) : bq_W M fr lo (kc + kc') (ks + ks') pc vs st0 S n I L P post := by
  intro l D b p e R s m args below meth c H locs cells slots mc ms ls C N hR hS hL
  have hts := C.2.2.2.2.2.1
  have hroom : cells + kc' ≤ R.cells ∧ slots + ks' ≤ R.slots := ⟨by have := N.2.2.1; have := N.2.2.2.1; omega, by have := N.2.2.2.2.1; have := N.2.2.2.2.2; omega⟩
  have hrr : fr' + 1 ≤ R.frames ∧ 8 + (N0.2.2.1 + 11) + lo' ≤ R.locals := ⟨Nat.le_trans hr.1 N.1, Nat.le_trans hr.2 N.2.1⟩
  refine bq_call (rest := st.map (bq_cv b)) (va_runV (As := as.map (bq_cv b)) ⟨C.1, C.2.1, C.2.2.2.1, C.2.2.2.2.1, hts⟩ (hsp l D b) ⟨callB_of k0 hts (bq_goodIn hw.2.2.2.2.1) rfl rfl rfl (hts _ hw.2.2.2.1) (hts _ hw.1) hw.2.2.2.2.2 hrr, hts _ hw.2.1, hts _ hw.2.2.1⟩ ⟨bq_blind D b (.ref o :: as) S n I L P, bq_recv C.2.2.2.2.2.2.2.2 hR ho hs hci, fun U hU hW => ⟨rfl, C.2.2.2.2.2.2.2.2.warm hW, by rw [hU]; exact hR.moved hW.alike⟩⟩ rfl (by rw [List.length_map]; exact hk) hL.1 (bq_stk hst) (lv_room (by rw [bq_catM]; exact hW)) hd hroom) hS (fun r S' n' I' L' P' H1 locs1 hp hR1 hS1 => ?_)
  have h := kk r S' n' I' L' P' hp l D b p e R s m args below meth c H1 locs1 (cells + kc') (slots + ks') mc ms ls C ⟨N.1, N.2.1, by have := N.2.2.1; omega, N.2.2.2.1, by have := N.2.2.2.2.1; omega, N.2.2.2.2.2⟩ hR1 hS1 hL
  rw [bq_res] at h
  exact h
theorem q_callVF {M : BqM} {fr lo kc ks pc : Nat} {vs : List (Option Value)} {st : List Value} {S : BqH} {n : Nat} {I : BqI} {L : BqL} {P : BqP} {post : BqQ} {N0 : BqM} {o ci z : Nat} {idx k0 fr' lo' kc' ks' : Nat} {as st0 : List Value} {r1 : Option Value} {S1 : BqH} {n1 : Nat} {I1 : BqI} {L1 : BqL} {P1 : BqP} (hd : decode M.2.1 pc = .ok (.invokevirtual idx, 3)) (hw : bq_cV M.1.cls idx N0 k0) (hsp : bq_Sp N0 fr' lo' kc' ks' (.ref o :: as) S n I L P (bq_F r1 S1 n1 I1 L1 P1)) (hs : S o = (ci, z)) (hci : (vwCl[ci]?).map (fun q => q.1) = some N0.1.cls) (ho : o < n) (hr : fr' + 1 ≤ fr ∧ 8 + (N0.2.2.1 + 11) + lo' ≤ lo) (hk : as.length = k0) (hst : st0 = as.reverse ++ .ref o :: st) (hW : (st.map fun v => v.category).sum ≤ 8) (kk : bq_W M fr lo kc ks (pc + 3) vs (r1.toList ++ st) S1 n1 I1 L1 P1 post) : bq_W M fr lo (kc + kc') (ks + ks') pc vs st0 S n I L P post :=
  q_callV hd hw hsp hs hci ho hr hk hst hW (fun r S' n' I' L' P' h => by obtain ⟨rfl, rfl, rfl, rfl, rfl, rfl⟩ := h; exact kk)

theorem q_callS {M : BqM} {fr lo kc ks pc : Nat} {vs : List (Option Value)} {st : List Value} {S : BqH} {n : Nat} {I : BqI} {L : BqL} {P : BqP} {post : BqQ} {N0 : BqM}  {idx k0 fr' lo' kc' ks' : Nat} {as st0 : List Value} {post' : BqQ} (hd : decode M.2.1 pc = .ok (.invokestatic idx, 3)) (hw : bq_cS M.1.cls idx N0 k0) (hsp : bq_Sp N0 fr' lo' kc' ks' as S n I L P post')  (hr : fr' + 1 ≤ fr ∧ 8 + (N0.2.2.1 + 11) + lo' ≤ lo) (hk : as.length = k0) (hst : st0 = as.reverse ++ st) (hW : (st.map fun v => v.category).sum ≤ 8) (kk : ∀ (r : Option Value) (S' : BqH) (n' : Nat) (I' : BqI) (L' : BqL) (P' : BqP), post' r S' n' I' L' P' → bq_W M fr lo kc ks (pc + 3) vs (r.toList ++ st) S' n' I' L' P' post) : bq_W M fr lo (kc + kc') (ks + ks') pc vs st0 S n I L P post := by
  intro l D b p e R s m args below meth c H locs cells slots mc ms ls C N hR hS hL
  have hts := C.2.2.2.2.2.1
  have hroom : cells + kc' ≤ R.cells ∧ slots + ks' ≤ R.slots := ⟨by have := N.2.2.1; have := N.2.2.2.1; omega, by have := N.2.2.2.2.1; have := N.2.2.2.2.2; omega⟩
  have hrr : fr' + 1 ≤ R.frames ∧ 8 + (N0.2.2.1 + 11) + lo' ≤ R.locals := ⟨Nat.le_trans hr.1 N.1, Nat.le_trans hr.2 N.2.1⟩
  refine bq_call (rest := st.map (bq_cv b)) (va_runS (As := as.map (bq_cv b)) ⟨C.1, C.2.1, C.2.2.2.1, C.2.2.2.2.1, hts⟩ (hsp l D b) ⟨callB_of k0 hts (bq_goodIn hw.2.2.2.1) rfl rfl rfl (hts _ hw.2.2.1) (hts _ hw.1) hw.2.2.2.2 hrr, hts _ hw.2.1⟩ ⟨bq_blind D b as S n I L P, fun U hU hW => ⟨rfl, C.2.2.2.2.2.2.2.2.warm hW, by rw [hU]; exact hR.moved hW.alike⟩⟩ rfl (by rw [List.length_map]; exact hk) hL.1 (bq_stk hst) (lv_room (by rw [bq_catM]; exact hW)) hd hroom) hS (fun r S' n' I' L' P' H1 locs1 hp hR1 hS1 => ?_)
  have h := kk r S' n' I' L' P' hp l D b p e R s m args below meth c H1 locs1 (cells + kc') (slots + ks') mc ms ls C ⟨N.1, N.2.1, by have := N.2.2.1; omega, N.2.2.2.1, by have := N.2.2.2.2.1; omega, N.2.2.2.2.2⟩ hR1 hS1 hL
  rw [bq_res] at h
  exact h
theorem q_callSF {M : BqM} {fr lo kc ks pc : Nat} {vs : List (Option Value)} {st : List Value} {S : BqH} {n : Nat} {I : BqI} {L : BqL} {P : BqP} {post : BqQ} {N0 : BqM}  {idx k0 fr' lo' kc' ks' : Nat} {as st0 : List Value} {r1 : Option Value} {S1 : BqH} {n1 : Nat} {I1 : BqI} {L1 : BqL} {P1 : BqP} (hd : decode M.2.1 pc = .ok (.invokestatic idx, 3)) (hw : bq_cS M.1.cls idx N0 k0) (hsp : bq_Sp N0 fr' lo' kc' ks' as S n I L P (bq_F r1 S1 n1 I1 L1 P1))  (hr : fr' + 1 ≤ fr ∧ 8 + (N0.2.2.1 + 11) + lo' ≤ lo) (hk : as.length = k0) (hst : st0 = as.reverse ++ st) (hW : (st.map fun v => v.category).sum ≤ 8) (kk : bq_W M fr lo kc ks (pc + 3) vs (r1.toList ++ st) S1 n1 I1 L1 P1 post) : bq_W M fr lo (kc + kc') (ks + ks') pc vs st0 S n I L P post :=
  q_callS hd hw hsp  hr hk hst hW (fun r S' n' I' L' P' h => by obtain ⟨rfl, rfl, rfl, rfl, rfl, rfl⟩ := h; exact kk)

theorem q_callI {M : BqM} {fr lo kc ks pc : Nat} {vs : List (Option Value)} {st : List Value} {S : BqH} {n : Nat} {I : BqI} {L : BqL} {P : BqP} {post : BqQ} {y0 : MethodName} {b0 : ByteArray} {l0 : Nat} {o : Nat} {idx k0 fr' lo' kc' ks' : Nat} {as st0 : List Value} {post' : BqQ} (hd : decode M.2.1 pc = .ok (.invokespecial idx, 3)) (hw : bq_cI M.1.cls idx (y0, b0, l0, none) k0) (hsp : bq_Sp (y0, b0, l0, none) fr' lo' kc' ks' (.ref o :: as) S n I L P post')  (hr : fr' + 1 ≤ fr ∧ 8 + (l0 + 11) + lo' ≤ lo) (hk : as.length = k0) (hst : st0 = as.reverse ++ .ref o :: st) (hW : (st.map fun v => v.category).sum ≤ 8) (kk : ∀ (r : Option Value) (S' : BqH) (n' : Nat) (I' : BqI) (L' : BqL) (P' : BqP), post' r S' n' I' L' P' → bq_W M fr lo kc ks (pc + 3) vs (r.toList ++ st) S' n' I' L' P' post) : bq_W M fr lo (kc + kc') (ks + ks') pc vs st0 S n I L P post := by
  intro l D b p e R s m args below meth c H locs cells slots mc ms ls C N hR hS hL
  have hts := C.2.2.2.2.2.1
  have hroom : cells + kc' ≤ R.cells ∧ slots + ks' ≤ R.slots := ⟨by have := N.2.2.1; have := N.2.2.2.1; omega, by have := N.2.2.2.2.1; have := N.2.2.2.2.2; omega⟩
  have hrr : fr' + 1 ≤ R.frames ∧ 8 + (l0 + 11) + lo' ≤ R.locals := ⟨Nat.le_trans hr.1 N.1, Nat.le_trans hr.2 N.2.1⟩
  refine bq_call (rest := st.map (bq_cv b)) (va_runI (As := as.map (bq_cv b)) ⟨C.1, C.2.1, C.2.2.2.1, C.2.2.2.2.1, hts⟩ (hsp l D b) ⟨callB_of k0 hts (bq_goodIn hw.2.2.2.2.1) rfl rfl rfl (hts _ hw.2.2.2.1) (hts _ hw.1) hw.2.2.2.2.2 hrr, hw.2.2.1, hts _ hw.2.1⟩ ⟨bq_blind D b (.ref o :: as) S n I L P, fun U hU hW => ⟨rfl, C.2.2.2.2.2.2.2.2.warm hW, by rw [hU]; exact hR.moved hW.alike⟩⟩ rfl (by rw [List.length_map]; exact hk) hL.1 (bq_stk hst) (lv_room (by rw [bq_catM]; exact hW)) hd hroom) hS (fun r S' n' I' L' P' H1 locs1 hp hR1 hS1 => ?_)
  have h := kk r S' n' I' L' P' hp l D b p e R s m args below meth c H1 locs1 (cells + kc') (slots + ks') mc ms ls C ⟨N.1, N.2.1, by have := N.2.2.1; omega, N.2.2.2.1, by have := N.2.2.2.2.1; omega, N.2.2.2.2.2⟩ hR1 hS1 hL
  rw [bq_res] at h
  exact h
theorem q_callIF {M : BqM} {fr lo kc ks pc : Nat} {vs : List (Option Value)} {st : List Value} {S : BqH} {n : Nat} {I : BqI} {L : BqL} {P : BqP} {post : BqQ} {y0 : MethodName} {b0 : ByteArray} {l0 : Nat} {o : Nat} {idx k0 fr' lo' kc' ks' : Nat} {as st0 : List Value} {r1 : Option Value} {S1 : BqH} {n1 : Nat} {I1 : BqI} {L1 : BqL} {P1 : BqP} (hd : decode M.2.1 pc = .ok (.invokespecial idx, 3)) (hw : bq_cI M.1.cls idx (y0, b0, l0, none) k0) (hsp : bq_Sp (y0, b0, l0, none) fr' lo' kc' ks' (.ref o :: as) S n I L P (bq_F r1 S1 n1 I1 L1 P1))  (hr : fr' + 1 ≤ fr ∧ 8 + (l0 + 11) + lo' ≤ lo) (hk : as.length = k0) (hst : st0 = as.reverse ++ .ref o :: st) (hW : (st.map fun v => v.category).sum ≤ 8) (kk : bq_W M fr lo kc ks (pc + 3) vs (r1.toList ++ st) S1 n1 I1 L1 P1 post) : bq_W M fr lo (kc + kc') (ks + ks') pc vs st0 S n I L P post :=
  q_callI hd hw hsp  hr hk hst hW (fun r S' n' I' L' P' h => by obtain ⟨rfl, rfl, rfl, rfl, rfl, rfl⟩ := h; exact kk)

theorem q_callT {M : BqM} {fr lo kc ks pc : Nat} {vs : List (Option Value)} {st : List Value} {S : BqH} {n : Nat} {I : BqI} {L : BqL} {P : BqP} {post : BqQ} {N0 : BqM}  {idx k0 fr' lo' kc' ks' : Nat} {as st0 : List Value} {post' : BqQ} (hd : decode M.2.1 pc = .ok (.invokestatic idx, 3)) (hw : bq_cT M.1.cls idx N0 k0) (hsp : bq_Sp N0 fr' lo' kc' ks' as S n I L P post')  (hr : fr' + 1 ≤ fr ∧ 8 + (N0.2.2.1 + 11) + lo' ≤ lo) (hk : as.length = k0) (hst : st0 = as.reverse ++ st) (hW : (st.map fun v => v.category).sum ≤ 8) (kk : ∀ (r : Option Value) (S' : BqH) (n' : Nat) (I' : BqI) (L' : BqL) (P' : BqP), post' r S' n' I' L' P' → bq_W M fr lo kc ks (pc + 3) vs (r.toList ++ st) S' n' I' L' P' post) : bq_W M fr lo (kc + kc') (ks + ks') pc vs st0 S n I L P post := by
  intro l D b p e R s m args below meth c H locs cells slots mc ms ls C N hR hS hL
  have hts := C.2.2.2.2.2.1
  have hroom : cells + kc' ≤ R.cells ∧ slots + ks' ≤ R.slots := ⟨by have := N.2.2.1; have := N.2.2.2.1; omega, by have := N.2.2.2.2.1; have := N.2.2.2.2.2; omega⟩
  have hrr : fr' + 1 ≤ R.frames ∧ 8 + (N0.2.2.1 + 11) + lo' ≤ R.locals := ⟨Nat.le_trans hr.1 N.1, Nat.le_trans hr.2 N.2.1⟩
  refine bq_call (rest := st.map (bq_cv b)) (va_runSN (As := as.map (bq_cv b)) ⟨C.1, C.2.1, C.2.2.2.1, C.2.2.2.2.1, hts⟩ (hsp l D b) ⟨va_cnB k0 hts (bq_goodIn hw.2.2.2.1) rfl rfl rfl (C.2.2.2.2.2.2.2.2.2.1 _ hw.1) (hts _ hw.2.2.1) hw.2.2.2.2 hrr, hts _ hw.2.1, trivial⟩ ⟨bq_blind D b as S n I L P, fun U hU hW => ⟨rfl, C.2.2.2.2.2.2.2.2.warm hW, by rw [hU]; exact hR.moved hW.alike⟩⟩ rfl (by rw [List.length_map]; exact hk) hL.1 (bq_stk hst) (lv_room (by rw [bq_catM]; exact hW)) hd hroom) hS (fun r S' n' I' L' P' H1 locs1 hp hR1 hS1 => ?_)
  have h := kk r S' n' I' L' P' hp l D b p e R s m args below meth c H1 locs1 (cells + kc') (slots + ks') mc ms ls C ⟨N.1, N.2.1, by have := N.2.2.1; omega, N.2.2.2.1, by have := N.2.2.2.2.1; omega, N.2.2.2.2.2⟩ hR1 hS1 hL
  rw [bq_res] at h
  exact h
theorem q_callTF {M : BqM} {fr lo kc ks pc : Nat} {vs : List (Option Value)} {st : List Value} {S : BqH} {n : Nat} {I : BqI} {L : BqL} {P : BqP} {post : BqQ} {N0 : BqM}  {idx k0 fr' lo' kc' ks' : Nat} {as st0 : List Value} {r1 : Option Value} {S1 : BqH} {n1 : Nat} {I1 : BqI} {L1 : BqL} {P1 : BqP} (hd : decode M.2.1 pc = .ok (.invokestatic idx, 3)) (hw : bq_cT M.1.cls idx N0 k0) (hsp : bq_Sp N0 fr' lo' kc' ks' as S n I L P (bq_F r1 S1 n1 I1 L1 P1))  (hr : fr' + 1 ≤ fr ∧ 8 + (N0.2.2.1 + 11) + lo' ≤ lo) (hk : as.length = k0) (hst : st0 = as.reverse ++ st) (hW : (st.map fun v => v.category).sum ≤ 8) (kk : bq_W M fr lo kc ks (pc + 3) vs (r1.toList ++ st) S1 n1 I1 L1 P1 post) : bq_W M fr lo (kc + kc') (ks + ks') pc vs st0 S n I L P post :=
  q_callT hd hw hsp  hr hk hst hW (fun r S' n' I' L' P' h => by obtain ⟨rfl, rfl, rfl, rfl, rfl, rfl⟩ := h; exact kk)

theorem q_callJ {M : BqM} {fr lo kc ks pc : Nat} {vs : List (Option Value)} {st : List Value} {S : BqH} {n : Nat} {I : BqI} {L : BqL} {P : BqP} {post : BqQ} {y0 : MethodName} {b0 : ByteArray} {l0 : Nat} {o : Nat} {idx k0 fr' lo' kc' ks' : Nat} {as st0 : List Value} {post' : BqQ} (hd : decode M.2.1 pc = .ok (.invokespecial idx, 3)) (hw : bq_cJ M.1.cls idx (y0, b0, l0, none) k0) (hsp : bq_Sp (y0, b0, l0, none) fr' lo' kc' ks' (.ref o :: as) S n I L P post')  (hr : fr' + 1 ≤ fr ∧ 8 + (l0 + 11) + lo' ≤ lo) (hk : as.length = k0) (hst : st0 = as.reverse ++ .ref o :: st) (hW : (st.map fun v => v.category).sum ≤ 8) (kk : ∀ (r : Option Value) (S' : BqH) (n' : Nat) (I' : BqI) (L' : BqL) (P' : BqP), post' r S' n' I' L' P' → bq_W M fr lo kc ks (pc + 3) vs (r.toList ++ st) S' n' I' L' P' post) : bq_W M fr lo (kc + kc') (ks + ks') pc vs st0 S n I L P post := by
  intro l D b p e R s m args below meth c H locs cells slots mc ms ls C N hR hS hL
  have hts := C.2.2.2.2.2.1
  have hroom : cells + kc' ≤ R.cells ∧ slots + ks' ≤ R.slots := ⟨by have := N.2.2.1; have := N.2.2.2.1; omega, by have := N.2.2.2.2.1; have := N.2.2.2.2.2; omega⟩
  have hrr : fr' + 1 ≤ R.frames ∧ 8 + (l0 + 11) + lo' ≤ R.locals := ⟨Nat.le_trans hr.1 N.1, Nat.le_trans hr.2 N.2.1⟩
  refine bq_call (rest := st.map (bq_cv b)) (va_runIN (As := as.map (bq_cv b)) ⟨C.1, C.2.1, C.2.2.2.1, C.2.2.2.2.1, hts⟩ (hsp l D b) ⟨va_cnB k0 hts (bq_goodIn hw.2.2.2.2.1) rfl rfl rfl (C.2.2.2.2.2.2.2.2.2.1 _ hw.1) (hts _ hw.2.2.2.1) hw.2.2.2.2.2 hrr, hw.2.2.1, hts _ hw.2.1⟩ ⟨bq_blind D b (.ref o :: as) S n I L P, fun U hU hW => ⟨rfl, C.2.2.2.2.2.2.2.2.warm hW, by rw [hU]; exact hR.moved hW.alike⟩⟩ rfl (by rw [List.length_map]; exact hk) hL.1 (bq_stk hst) (lv_room (by rw [bq_catM]; exact hW)) hd hroom) hS (fun r S' n' I' L' P' H1 locs1 hp hR1 hS1 => ?_)
  have h := kk r S' n' I' L' P' hp l D b p e R s m args below meth c H1 locs1 (cells + kc') (slots + ks') mc ms ls C ⟨N.1, N.2.1, by have := N.2.2.1; omega, N.2.2.2.1, by have := N.2.2.2.2.1; omega, N.2.2.2.2.2⟩ hR1 hS1 hL
  rw [bq_res] at h
  exact h
theorem q_callJF {M : BqM} {fr lo kc ks pc : Nat} {vs : List (Option Value)} {st : List Value} {S : BqH} {n : Nat} {I : BqI} {L : BqL} {P : BqP} {post : BqQ} {y0 : MethodName} {b0 : ByteArray} {l0 : Nat} {o : Nat} {idx k0 fr' lo' kc' ks' : Nat} {as st0 : List Value} {r1 : Option Value} {S1 : BqH} {n1 : Nat} {I1 : BqI} {L1 : BqL} {P1 : BqP} (hd : decode M.2.1 pc = .ok (.invokespecial idx, 3)) (hw : bq_cJ M.1.cls idx (y0, b0, l0, none) k0) (hsp : bq_Sp (y0, b0, l0, none) fr' lo' kc' ks' (.ref o :: as) S n I L P (bq_F r1 S1 n1 I1 L1 P1))  (hr : fr' + 1 ≤ fr ∧ 8 + (l0 + 11) + lo' ≤ lo) (hk : as.length = k0) (hst : st0 = as.reverse ++ .ref o :: st) (hW : (st.map fun v => v.category).sum ≤ 8) (kk : bq_W M fr lo kc ks (pc + 3) vs (r1.toList ++ st) S1 n1 I1 L1 P1 post) : bq_W M fr lo (kc + kc') (ks + ks') pc vs st0 S n I L P post :=
  q_callJ hd hw hsp  hr hk hst hW (fun r S' n' I' L' P' h => by obtain ⟨rfl, rfl, rfl, rfl, rfl, rfl⟩ := h; exact kk)

theorem q_objInit {M : BqM} {fr lo kc ks pc : Nat} {vs : List (Option Value)} {st : List Value} {S : BqH} {n : Nat} {I : BqI} {L : BqL} {P : BqP} {post : BqQ} {idx a : Nat} (hd : decode M.2.1 pc = .ok (.invokespecial idx, 3)) (hw : Cond.methodLink M.1.cls idx objectInit ∈ bq_TB ∧ Cond.instanceMethod objectInit ∈ bq_TB ∧ Cond.code objectInit ⟨#[0xb1]⟩ 1 none ∈ bq_TB) (hr : 1 ≤ fr ∧ (st.map fun v => v.category).sum + 12 ≤ lo) (kk : bq_W M fr lo kc ks (pc + 3) vs st S n I L P post) : bq_W M fr lo kc ks pc vs (.ref a :: st) S n I L P post := by
  intro l D b p e R s m args below meth c H locs cells slots mc ms ls C N hR hS hL
  have hts := C.2.2.2.2.2.1
  exact W.objInit (rest := st.map (bq_cv b)) C.1 C.2.1 C.2.2.2.2.1 (hts _ hw.1) (hts _ hw.2.1) (hts _ hw.2.2) rfl (hL.1.trans C.2.2.2.1.symm) rfl hd (Nat.le_trans hr.1 N.1) (by rw [bq_catM]; have := hr.2; have := N.2.1; show 2 * 0 + _ + 12 ≤ _; omega) (kk l D b p e R s m args below meth c H locs cells slots mc ms ls C N hR hS hL)
/-- the entry of a method -/
def bq_al : List Value → List (Option Value)
  | [] => []
  | .long x :: t => some (.long x) :: none :: bq_al t
  | v :: t => some v :: bq_al t
def bq_ent (as : List Value) (k : Nat) : List (Option Value) := bq_al as ++ List.replicate (k - (bq_al as).length) none
theorem bq_al_args (b : Nat) : ∀ (as : List Value), (∀ v ∈ as, ∀ z, v ≠ .double z) → ∀ (k i : Nat) (v : Value), (bq_al as)[i]? = some (some v) → (k + i, bq_cv b v) ∈ lv_args k (as.map (bq_cv b))
  | [], _, k, i, v, h => by simp [bq_al] at h
  | a :: t, hd, k, i, v, h => by
    have ih := bq_al_args b t (fun v hv => hd v (List.mem_cons_of_mem _ hv))
    by_cases hl : ∃ x, a = .long x
    · obtain ⟨x, rfl⟩ := hl
      show (k + i, bq_cv b v) ∈ (k, bq_cv b (.long x)) :: lv_args (if (bq_cv b (.long x)).category = 2 then k + 2 else k + 1) (t.map (bq_cv b))
      rw [bq_cat, show (Value.long x).category = 2 from rfl, if_pos rfl]
      match i, h with
      | 0, h => simp [bq_al] at h; subst h; exact List.mem_cons_self
      | 1, h => simp [bq_al] at h
      | i + 2, h =>
        simp only [bq_al, List.getElem?_cons_succ] at h
        have := ih (k + 2) i v h
        rw [show k + (i + 2) = k + 2 + i by omega]
        exact List.mem_cons_of_mem _ this
    · have hc : a.category = 1 := by
        cases a <;> first | rfl | exact absurd ⟨_, rfl⟩ hl | exact absurd rfl (hd _ List.mem_cons_self _)
      have e : bq_al (a :: t) = some a :: bq_al t := by
        cases a <;> first | rfl | exact absurd ⟨_, rfl⟩ hl
      show (k + i, bq_cv b v) ∈ (k, bq_cv b a) :: lv_args (if (bq_cv b a).category = 2 then k + 2 else k + 1) (t.map (bq_cv b))
      rw [bq_cat, hc, if_neg (by decide)]
      rw [e] at h
      match i, h with
      | 0, h => simp at h; subst h; exact List.mem_cons_self
      | i + 1, h =>
        simp only [List.getElem?_cons_succ] at h
        have := ih (k + 1) i v h
        rw [show k + (i + 1) = k + 1 + i by omega]
        exact List.mem_cons_of_mem _ this
theorem bq_sl (b : Nat) : ∀ (as : List Value), (lg_sl (as.map (bq_cv b))).length = (as.map fun v => v.category).sum
  | [] => rfl
  | a :: t => by
    have e : lg_sl ((a :: t).map (bq_cv b)) = (if (bq_cv b a).category = 2 then [Slot.val (bq_cv b a), Slot.second] else [Slot.val (bq_cv b a)]) ++ lg_sl (t.map (bq_cv b)) := rfl
    rw [e, List.length_append, bq_sl b t, bq_cat, List.map_cons, List.sum_cons]
    rcases lv_cat a with h | h <;> rw [h] <;> simp
theorem q_entry {N0 : BqM} {fr lo kc ks : Nat} {as : List Value} {S : BqH} {n : Nat} {I : BqI} {L : BqL} {P : BqP} {post : BqQ} {vs : List (Option Value)} (hy : plainName N0.1.cls = true) (hd : ∀ v ∈ as, ∀ z, v ≠ .double z) (hw : (as.map fun v => v.category).sum ≤ N0.2.2.1) (hvs : bq_ent as N0.2.2.1 = vs) (k : bq_W N0 fr lo kc ks 0 vs [] S n I L P post) : bq_Sp N0 fr lo kc ks as S n I L P post := by
  intro l D b
  refine Met.ofW hy rfl ?_
  intro p e s m args below meth c s₁ B hml hv
  obtain ⟨rfl, hK, hR⟩ := hv
  have hts := atoms_spec (ws := Cond.code N0.1 N0.2.1 N0.2.2.1 N0.2.2.2 :: bq_TB) B.pre
  have hlen := bq_sl b as
  have hl := lv_entry (as.map (bq_cv b)) (n := N0.2.2.1) (by rw [hlen]; exact hw)
  rw [lg_entry_eq]
  refine k l D b p e _ s m _ below meth c s.heap [] 0 0 kc ks _ ⟨B.exec, B.bytes, B.returns, hml, findClass_of_methodNamed B.named, fun w hw => hts w (List.mem_cons_of_mem _ hw), B.notSynchronized, (name_of_methodNamed B.named B.method).1, hK⟩ ⟨Nat.le_refl _, Nat.le_refl _, Nat.le_of_eq (Nat.zero_add _), Nat.le_refl _, Nat.le_of_eq (Nat.zero_add _), Nat.le_refl _⟩ hR va_S.rf ⟨hl.1, hl.2.1, fun i v hi => ?_⟩
  rw [← hvs] at hi
  unfold bq_ent at hi
  have hi2 : (bq_al as)[i]? = some (some v) := by
    rcases Nat.lt_or_ge i (bq_al as).length with h | h
    · rw [List.getElem?_append_left h] at hi; exact hi
    · rw [List.getElem?_append_right h, List.getElem?_replicate] at hi
      split at hi <;> cases hi
  have hm := bq_al_args b as hd 0 i v hi2
  rw [Nat.zero_add] at hm
  exact hl.2.2 _ hm
end
section
def bq_wmax (own : String) (idx : Nat) : Prop := Cond.methodLink own idx Lib.Math.max.name ∈ bq_TB ∧ Cond.static Lib.Math.max.name ∈ bq_TB ∧ Cond.initialized "java/lang/Math" ∈ bq_TB ∧ Cond.code Lib.Math.max.name Lib.Math.max.code 2 (some .int) ∈ bq_TB
theorem q_max {M : BqM} {fr lo kc ks pc : Nat} {vs : List (Option Value)} {st : List Value} {S : BqH} {n : Nat} {I : BqI} {L : BqL} {P : BqP} {post : BqQ} {x y : Int32} {idx : Nat} (hd : decode M.2.1 pc = .ok (.invokestatic idx, 3)) (hw : bq_wmax M.1.cls idx) (hr : 1 ≤ fr ∧ (st.map fun v => v.category).sum + 13 ≤ lo) (kk : bq_W M fr lo kc ks (pc + 3) vs (.int (if x < y then y else x) :: st) S n I L P post) : bq_W M fr lo kc ks pc vs (.int y :: .int x :: st) S n I L P post := by
  intro l D b p e R s m args below meth c H locs cells slots mc ms ls C N hR hS hL
  have hts := C.2.2.2.2.2.1
  exact va_mmax C.1 C.2.1 (C.2.2.2.1.trans hL.1.symm) C.2.2.2.2.1 (hts _ hw.1) (hts _ hw.2.1) (hts _ hw.2.2.1) (hts _ hw.2.2.2) (Nat.le_trans hr.1 N.1) (by rw [bq_catM]; exact Nat.le_trans hr.2 N.2.1) (by have := N.2.2.1; have := N.2.2.2.1; omega) (by have := N.2.2.2.2.1; have := N.2.2.2.2.2; omega) hd (kk l D b p e R s m args below meth c H locs cells slots mc ms ls C N hR hS hL)
def bq_wmin (own : String) (idx : Nat) : Prop := Cond.methodLink own idx Lib.Math.min.name ∈ bq_TB ∧ Cond.static Lib.Math.min.name ∈ bq_TB ∧ Cond.initialized "java/lang/Math" ∈ bq_TB ∧ Cond.code Lib.Math.min.name Lib.Math.min.code 2 (some .int) ∈ bq_TB
theorem q_min {M : BqM} {fr lo kc ks pc : Nat} {vs : List (Option Value)} {st : List Value} {S : BqH} {n : Nat} {I : BqI} {L : BqL} {P : BqP} {post : BqQ} {x y : Int32} {idx : Nat} (hd : decode M.2.1 pc = .ok (.invokestatic idx, 3)) (hw : bq_wmin M.1.cls idx) (hr : 1 ≤ fr ∧ (st.map fun v => v.category).sum + 13 ≤ lo) (kk : bq_W M fr lo kc ks (pc + 3) vs (.int (if y < x then y else x) :: st) S n I L P post) : bq_W M fr lo kc ks pc vs (.int y :: .int x :: st) S n I L P post := by
  intro l D b p e R s m args below meth c H locs cells slots mc ms ls C N hR hS hL
  have hts := C.2.2.2.2.2.1
  exact va_mmin C.1 C.2.1 (C.2.2.2.1.trans hL.1.symm) C.2.2.2.2.1 (hts _ hw.1) (hts _ hw.2.1) (hts _ hw.2.2.1) (hts _ hw.2.2.2) (Nat.le_trans hr.1 N.1) (by rw [bq_catM]; exact Nat.le_trans hr.2 N.2.1) (by have := N.2.2.1; have := N.2.2.2.1; omega) (by have := N.2.2.2.2.1; have := N.2.2.2.2.2; omega) hd (kk l D b p e R s m args below meth c H locs cells slots mc ms ls C N hR hS hL)
def bq_wmaxL (own : String) (idx : Nat) : Prop := Cond.methodLink own idx Lib.MathLoose.max_long.x ∈ bq_TB ∧ Cond.static Lib.MathLoose.max_long.x ∈ bq_TB ∧ Cond.initialized "java/lang/Math" ∈ bq_TB ∧ Cond.code Lib.MathLoose.max_long.x Lib.MathLoose.max_long.code 4 (some .long) ∈ bq_TB
theorem q_maxL {M : BqM} {fr lo kc ks pc : Nat} {vs : List (Option Value)} {st : List Value} {S : BqH} {n : Nat} {I : BqI} {L : BqL} {P : BqP} {post : BqQ} {x y : Int64} {idx : Nat} (hd : decode M.2.1 pc = .ok (.invokestatic idx, 3)) (hw : bq_wmaxL M.1.cls idx) (hr : 1 ≤ fr ∧ (st.map fun v => v.category).sum + 15 ≤ lo) (kk : bq_W M fr lo kc ks (pc + 3) vs (.long (if y < x then x else y) :: st) S n I L P post) : bq_W M fr lo kc ks pc vs (.long y :: .long x :: st) S n I L P post := by
  intro l D b p e R s m args below meth c H locs cells slots mc ms ls C N hR hS hL
  have hts := C.2.2.2.2.2.1
  exact va_mmax_long C.1 C.2.1 (C.2.2.2.1.trans hL.1.symm) C.2.2.2.2.1 (hts _ hw.1) (hts _ hw.2.1) (hts _ hw.2.2.1) (hts _ hw.2.2.2) (Nat.le_trans hr.1 N.1) (by rw [bq_catM]; exact Nat.le_trans hr.2 N.2.1) (by have := N.2.2.1; have := N.2.2.2.1; omega) (by have := N.2.2.2.2.1; have := N.2.2.2.2.2; omega) hd (kk l D b p e R s m args below meth c H locs cells slots mc ms ls C N hR hS hL)
def bq_wminL (own : String) (idx : Nat) : Prop := Cond.methodLink own idx Lib.MathLoose.min_long.x ∈ bq_TB ∧ Cond.static Lib.MathLoose.min_long.x ∈ bq_TB ∧ Cond.initialized "java/lang/Math" ∈ bq_TB ∧ Cond.code Lib.MathLoose.min_long.x Lib.MathLoose.min_long.code 4 (some .long) ∈ bq_TB
theorem q_minL {M : BqM} {fr lo kc ks pc : Nat} {vs : List (Option Value)} {st : List Value} {S : BqH} {n : Nat} {I : BqI} {L : BqL} {P : BqP} {post : BqQ} {x y : Int64} {idx : Nat} (hd : decode M.2.1 pc = .ok (.invokestatic idx, 3)) (hw : bq_wminL M.1.cls idx) (hr : 1 ≤ fr ∧ (st.map fun v => v.category).sum + 15 ≤ lo) (kk : bq_W M fr lo kc ks (pc + 3) vs (.long (if y < x then y else x) :: st) S n I L P post) : bq_W M fr lo kc ks pc vs (.long y :: .long x :: st) S n I L P post := by
  intro l D b p e R s m args below meth c H locs cells slots mc ms ls C N hR hS hL
  have hts := C.2.2.2.2.2.1
  exact va_mmin_long C.1 C.2.1 (C.2.2.2.1.trans hL.1.symm) C.2.2.2.2.1 (hts _ hw.1) (hts _ hw.2.1) (hts _ hw.2.2.1) (hts _ hw.2.2.2) (Nat.le_trans hr.1 N.1) (by rw [bq_catM]; exact Nat.le_trans hr.2 N.2.1) (by have := N.2.2.1; have := N.2.2.2.1; omega) (by have := N.2.2.2.2.1; have := N.2.2.2.2.2; omega) hd (kk l D b p e R s m args below meth c H locs cells slots mc ms ls C N hR hS hL)
def bq_wabsL (own : String) (idx : Nat) : Prop := Cond.methodLink own idx Lib.MathLoose.abs_long.x ∈ bq_TB ∧ Cond.static Lib.MathLoose.abs_long.x ∈ bq_TB ∧ Cond.initialized "java/lang/Math" ∈ bq_TB ∧ Cond.code Lib.MathLoose.abs_long.x Lib.MathLoose.abs_long.code 2 (some .long) ∈ bq_TB
theorem q_absL {M : BqM} {fr lo kc ks pc : Nat} {vs : List (Option Value)} {st : List Value} {S : BqH} {n : Nat} {I : BqI} {L : BqL} {P : BqP} {post : BqQ} {x : Int64} {idx : Nat} (hd : decode M.2.1 pc = .ok (.invokestatic idx, 3)) (hw : bq_wabsL M.1.cls idx) (hr : 1 ≤ fr ∧ (st.map fun v => v.category).sum + 13 ≤ lo) (kk : bq_W M fr lo kc ks (pc + 3) vs (.long (if 0 < x then x else -x) :: st) S n I L P post) : bq_W M fr lo kc ks pc vs (.long x :: st) S n I L P post := by
  intro l D b p e R s m args below meth c H locs cells slots mc ms ls C N hR hS hL
  have hts := C.2.2.2.2.2.1
  exact va_mabs_long C.1 C.2.1 (C.2.2.2.1.trans hL.1.symm) C.2.2.2.2.1 (hts _ hw.1) (hts _ hw.2.1) (hts _ hw.2.2.1) (hts _ hw.2.2.2) (Nat.le_trans hr.1 N.1) (by rw [bq_catM]; exact Nat.le_trans hr.2 N.2.1) (by have := N.2.2.1; have := N.2.2.2.1; omega) (by have := N.2.2.2.2.1; have := N.2.2.2.2.2; omega) hd (kk l D b p e R s m args below meth c H locs cells slots mc ms ls C N hR hS hL)
theorem bq_nn {k : Nat} (h : k < 2 ^ 31) : (nI k).toInt = ((nI k).toNatClampNeg : Int) := by rw [nI_toInt h, nI_clamp h]
/-- arraycopy of the first k ints -/
theorem q_copy {M : BqM} {fr lo kc ks pc : Nat} {vs : List (Option Value)} {st : List Value} {S : BqH} {n : Nat} {I : BqI} {L : BqL} {P : BqP} {post : BqQ} {a0 a1 n0 n1 k idx : Nat} (hd : decode M.2.1 pc = .ok (.invokestatic idx, 3)) (hw : Cond.methodLink M.1.cls idx arraycopyName ∈ bq_TB ∧ Cond.native arraycopyName ∈ bq_TB ∧ Cond.static arraycopyName ∈ bq_TB ∧ Cond.initialized "java/lang/System" ∈ bq_TB) (hs0 : S a0 = (13, n0)) (hs1 : S a1 = (13, n1)) (h0 : a0 < n) (h1 : a1 < n) (hk0 : k ≤ n0) (hk1 : k ≤ n1) (hr : 1 ≤ fr ∧ (st.map fun v => v.category).sum + (nativeFrameWords "java/lang/System" "arraycopy" 5 + 11) ≤ lo)
    (kk : bq_W M fr lo kc ks (pc + 3) vs st S n (bq_r I a1 (fun j => if j < k then I a0 j else I a1 j)) L P post) : bq_W M fr lo kc ks pc vs (.int (nI k) :: .int (nI 0) :: .ref a1 :: .int (nI 0) :: .ref a0 :: st) S n I L P post := by
  intro l D b p e R s m args below meth c H locs cells slots mc ms ls C N hR hS hL
  have hts := C.2.2.2.2.2.1
  have hc0 := hR.2 a0 h0
  rw [hs0] at hc0
  obtain ⟨z0, c0, e0, f0, r0⟩ := hc0.2 (Nat.le_refl 13)
  have hc1 := hR.2 a1 h1
  rw [hs1] at hc1
  obtain ⟨z1, c1, e1, f1, r1⟩ := hc1.2 (Nat.le_refl 13)
  have z0 : n0 < 2 ^ 31 := z0
  have z1 : n1 < 2 ^ 31 := z1
  have ck : (nI k).toNatClampNeg = k := nI_clamp (by omega)
  have c00 : (nI 0).toNatClampNeg = 0 := nI_clamp (by omega)
  have tk : (nI k).toInt = k := nI_toInt (by omega)
  have t0 : (nI 0).toInt = 0 := nI_toInt (n := 0) (by omega)
  intro T hT X
  obtain ⟨-, k0, hk0', cm0, hkk0⟩ := f0 n0 (bq_va 13 b I L P a0)
  obtain ⟨-, k1, hk1', cm1, hkk1⟩ := f1 n1 (bq_va 13 b I L P a1)
  obtain ⟨vm', X', step⟩ := X.arraycopy C.1 C.2.2.2.2.1 (hts _ hw.1) (hts _ hw.2.1) (hts _ hw.2.2.1) (hts _ hw.2.2.2) (src := b + a0) (dst := b + a1) (cs := arrV c0 n0 (bq_va 13 b I L P a0)) (cd := arrV c1 n1 (bq_va 13 b I L P a1)) (srcPos := nI 0) (destPos := nI 0) (n := nI k) (by rw [hT]; exact e0) (by rw [hT]; exact e1)
    (fun _ h => by cases h) (fun _ h => by cases h) (fun h => by cases h) (fun h => by cases h) hk0' hk1' hkk0 hkk1 rfl (nI_pos (by omega)) (nI_pos (by omega)) (nI_pos (by omega))
    (by rw [t0, tk, arrV_size]; omega)
    (by rw [t0, tk, arrV_size]; omega)
    (fun vm₁ _ i hi => by
      rw [ck] at hi
      have e : (arrV c0 n0 (bq_va 13 b I L P a0)).slots.getD ((nI 0).toNatClampNeg + i) .null = .int (I a0 i) := by
        rw [c00, Nat.zero_add, Array.getD_eq_getD_getElem?, arrV_read _ _ (by omega)]
        rfl
      exact ⟨by rw [e]; rfl, by rw [e]; exact trivial⟩)
    (g := F0 m pc ls (.int (nI k) :: .int (nI 0) :: .ref (b + a1) :: .int (nI 0) :: .ref (b + a0) :: st.map (bq_cv b))) rfl (hL.1.trans C.2.2.2.1.symm) (rest := st.map (bq_cv b)) rfl (by rw [C.2.1]; exact hd) (Nat.le_trans hr.1 N.1) (by rw [bq_catM]; have := hr.2; have := N.2.1; show 2 * 0 + _ + _ ≤ _; omega)
  have eq1 : copied (arrV c0 n0 (bq_va 13 b I L P a0)) (arrV c1 n1 (bq_va 13 b I L P a1)) (nI 0) (nI 0) (nI k) = arrV c1 n1 (fun j => .int (va_cpy (I a0) (I a1) (nI 0).toNatClampNeg (nI 0).toNatClampNeg (nI k).toNatClampNeg j)) := va_copied (fun z => .int z) c0 c1 (I a0) (I a1) (by rw [c00, ck]; omega)
  rw [eq1] at X' step
  have hl : b + a1 < H.size := by rw [hR.1]; omega
  generalize hcell : arrV c1 n1 (fun j => Value.int (va_cpy (I a0) (I a1) (nI 0).toNatClampNeg (nI 0).toNatClampNeg (nI k).toNatClampNeg j)) = cell at X' step
  have hheap : ((T.setVm vm').setCell (b + a1) cell).heap = H.setIfInBounds (b + a1) cell := by rw [← hT]; rfl
  have g3 : ∀ q : Nat, q ≠ b + a1 → (H.setIfInBounds (b + a1) cell)[q]? = H[q]? := fun q hq => by simp [Array.getElem?_setIfInBounds, Ne.symm hq]
  have g1 : (H.setIfInBounds (b + a1) cell)[b + a1]? = some (arrV c1 n1 (bq_va 13 b (bq_r I a1 (fun j => if j < k then I a0 j else I a1 j)) L P a1)) := by
    rw [Array.getElem?_setIfInBounds]
    simp only [if_pos hl, if_true]
    rw [← hcell]
    congr 2
    funext j
    unfold bq_va
    rw [bq_r_self, c00, ck]
    unfold va_cpy
    simp only [Nat.zero_le, true_and, Nat.zero_add, Nat.sub_zero]
    rfl
  obtain ⟨t, a2, b2⟩ := kk l D b p e R s m args below meth c (H.setIfInBounds (b + a1) cell) _ cells slots mc ms ls C N
    (bq_stored (I' := bq_r I a1 (fun j => if j < k then I a0 j else I a1 j)) (P' := P) hR hs1 (Nat.le_refl 13) z1 f1 r1 g1 (by simp) g3 (fun a h => bq_r_ne h) (fun _ _ => rfl))
    ⟨by simp; exact hS.1, fun q g4 g5 => by
      rw [g3 q (by have : ¬ b ≤ q := g5; omega)]
      exact hS.2.1 q g4 g5, fun q hq => by
      rcases List.mem_append.mp hq with h | h
      · exact hS.2.2 q h
      · obtain ⟨z, -, hz⟩ := List.mem_map.mp h
        rw [← hz]
        exact Nat.le_add_right b a1⟩ hL _ hheap X'
  exact ⟨t, step t a2, b2⟩
end
section
theorem bq_all {ws : List Cond} (ps : List Nat) (h : ws = ps.filterMap (fun i => lw_tbl[i]?)) (g : ws.all goodWord = true) : ∀ w ∈ ws, w ∈ bq_TB := by
  intro w hw
  have g1 := List.all_eq_true.mp g w hw
  rw [h] at hw
  obtain ⟨i, -, hi⟩ := List.mem_filterMap.mp hw
  exact bq_at i hi g1
theorem lwX0 : ∀ w ∈ u_ws RX0 TX0 1, w ∈ bq_TB := bq_all [95] (by decide +kernel) (by decide +kernel)
theorem lwX1 : ∀ w ∈ u_ws RX1 TX1 4, w ∈ bq_TB := bq_all [313, 315, 317, 319] (by decide +kernel) (by decide +kernel)
theorem lwX2 : ∀ w ∈ u_ws RX2 TX2 2, w ∈ bq_TB := bq_all [112, 114] (by decide +kernel) (by decide +kernel)
theorem lwX3 : ∀ w ∈ u_ws RX3 TX3 1, w ∈ bq_TB := bq_all [406] (by decide +kernel) (by decide +kernel)
theorem lwX4 : ∀ w ∈ u_ws RX4 TX4 9, w ∈ bq_TB := bq_all [195, 197, 199, 201, 203, 205, 207, 209, 211] (by decide +kernel) (by decide +kernel)
theorem lwX5 : ∀ w ∈ u_ws RX5 TX5 7, w ∈ bq_TB := bq_all [382, 384, 386, 388, 390, 392, 394] (by decide +kernel) (by decide +kernel)
theorem lwX6 : ∀ w ∈ u_ws RX6 TX6 2, w ∈ bq_TB := bq_all [366, 368] (by decide +kernel) (by decide +kernel)
theorem lwX7 : ∀ w ∈ u_ws RX7 TX7 3, w ∈ bq_TB := bq_all [158, 160, 162] (by decide +kernel) (by decide +kernel)
theorem lwX8 : ∀ w ∈ u_ws RX8 TX8 17, w ∈ bq_TB := bq_all [252, 254, 256, 258, 260, 262, 264, 266, 268, 270, 272, 274, 276, 278, 280, 282, 284] (by decide +kernel) (by decide +kernel)
theorem lwX9 : ∀ w ∈ u_ws RX9 TX9 4, w ∈ bq_TB := bq_all [135, 137, 139, 141] (by decide +kernel) (by decide +kernel)
theorem lwX10 : ∀ w ∈ u_ws RX10 TX10 6, w ∈ bq_TB := bq_all [332, 334, 336, 338, 340, 342] (by decide +kernel) (by decide +kernel)
theorem lwX11 : ∀ w ∈ u_ws RX11 TX11 11, w ∈ bq_TB := bq_all [422, 424, 426, 428, 430, 432, 434, 436, 438, 440, 442] (by decide +kernel) (by decide +kernel)
theorem lwX12 : ∀ w ∈ u_ws RX12 TX12 21, w ∈ bq_TB := bq_all [888, 890, 892, 894, 896, 898, 900, 902, 904, 906, 908, 910, 912, 914, 916, 918, 920, 922, 924, 926, 928] (by decide +kernel) (by decide +kernel)
abbrev mX0_init : BqM := (yX0_init, cX0_init, 1, none)
abbrev mX0_copyFrom : BqM := (yX0_copyFrom, cX0_copyFrom, 2, none)
abbrev mX0_add : BqM := (yX0_add, cX0_add, 3, none)
abbrev mX0_remove : BqM := (yX0_remove, cX0_remove, 3, none)
abbrev mX0_total : BqM := (yX0_total, cX0_total, 3, some .int)
abbrev mX0_batches : BqM := (yX0_batches, cX0_batches, 3, some .int)
abbrev mX0_alcohol : BqM := (yX0_alcohol, cX0_alcohol, 5, some .long)
abbrev mX0_strength : BqM := (yX0_strength, cX0_strength, 3, some .int)
abbrev mX0_sumOfStrengths : BqM := (yX0_sumOfStrengths, cX0_sumOfStrengths, 5, some .long)
abbrev mX1_init : BqM := (yX1_init, cX1_init, 1, none)
abbrev mX2_init : BqM := (yX2_init, cX2_init, 1, none)
abbrev mX2_copyFrom : BqM := (yX2_copyFrom, cX2_copyFrom, 2, none)
abbrev mX2_write : BqM := (yX2_write, cX2_write, 6, none)
abbrev mX2_part : BqM := (yX2_part, cX2_part, 3, some .int)
abbrev mX3_init : BqM := (yX3_init, cX3_init, 1, none)
abbrev mX3_nearest : BqM := (yX3_nearest, cX3_nearest, 28, some .int)
abbrev mX3_distanceAt : BqM := (yX3_distanceAt, cX3_distanceAt, 10, some .long)
abbrev mX4_init : BqM := (yX4_init, cX4_init, 1, none)
abbrev mX4_copyFrom : BqM := (yX4_copyFrom, cX4_copyFrom, 2, none)
abbrev mX4_allows : BqM := (yX4_allows, cX4_allows, 2, some .boolean)
abbrev mX4_aheadOf : BqM := (yX4_aheadOf, cX4_aheadOf, 2, some .boolean)
abbrev mX5_init : BqM := (yX5_init, cX5_init, 2, none)
abbrev mX5_reckon : BqM := (yX5_reckon, cX5_reckon, 5, none)
abbrev mX5_tankOf : BqM := (yX5_tankOf, cX5_tankOf, 3, some .int)
abbrev mX5_queueOpenOrders : BqM := (yX5_queueOpenOrders, cX5_queueOpenOrders, 5, none)
abbrev mX5_bestTank : BqM := (yX5_bestTank, cX5_bestTank, 7, some .int)
abbrev mX6_init : BqM := (yX6_init, cX6_init, 1, none)
abbrev mX6_take : BqM := (yX6_take, cX6_take, 7, none)
abbrev mX6_takeOneMore : BqM := (yX6_takeOneMore, cX6_takeOneMore, 3, none)
abbrev mX7_init : BqM := (yX7_init, cX7_init, 1, none)
abbrev mX7_copyFrom : BqM := (yX7_copyFrom, cX7_copyFrom, 2, none)
abbrev mX8_init : BqM := (yX8_init, cX8_init, 2, none)
abbrev mX8_copyFrom : BqM := (yX8_copyFrom, cX8_copyFrom, 3, none)
abbrev mX8_tankAt : BqM := (yX8_tankAt, cX8_tankAt, 2, some (.object "BreweryCellar$Tank"))
abbrev mX8_orderAt : BqM := (yX8_orderAt, cX8_orderAt, 2, some (.object "BreweryCellar$Order"))
abbrev mX8_note : BqM := (yX8_note, cX8_note, 4, none)
abbrev mX8_addBatch : BqM := (yX8_addBatch, cX8_addBatch, 4, some .int)
abbrev mX8_writeOff : BqM := (yX8_writeOff, cX8_writeOff, 5, none)
abbrev mX8_inTanks : BqM := (yX8_inTanks, cX8_inTanks, 4, some .int)
abbrev mX8_tanksWith : BqM := (yX8_tanksWith, cX8_tanksWith, 4, some .int)
abbrev mX8_litresInTanks : BqM := (yX8_litresInTanks, cX8_litresInTanks, 3, some .int)
abbrev mX8_alcoholInTanks : BqM := (yX8_alcoholInTanks, cX8_alcoholInTanks, 4, some .long)
abbrev mX8_tanksInPhase : BqM := (yX8_tanksInPhase, cX8_tanksInPhase, 4, some .int)
abbrev mX8_openOrders : BqM := (yX8_openOrders, cX8_openOrders, 3, some .int)
abbrev mX8_openLitres : BqM := (yX8_openLitres, cX8_openLitres, 3, some .int)
abbrev mX8_rateFor : BqM := (yX8_rateFor, cX8_rateFor, 6, some .int)
abbrev mX8_dutyOn : BqM := (yX8_dutyOn, cX8_dutyOn, 3, some .int)
abbrev mX8_dutyNow : BqM := (yX8_dutyNow, cX8_dutyNow, 4, some .long)
abbrev mX8_stillDue : BqM := (yX8_stillDue, cX8_stillDue, 1, some .long)
abbrev mX9_init : BqM := (yX9_init, cX9_init, 1, none)
abbrev mX9_copyFrom : BqM := (yX9_copyFrom, cX9_copyFrom, 2, none)
abbrev mX9_room : BqM := (yX9_room, cX9_room, 1, some .int)
abbrev mX9_giveOut : BqM := (yX9_giveOut, cX9_giveOut, 2, none)
abbrev mX9_takeIn : BqM := (yX9_takeIn, cX9_takeIn, 2, none)
abbrev mX10_init : BqM := (yX10_init, cX10_init, 2, none)
abbrev mX10_append : BqM := (yX10_append, cX10_append, 2, none)
abbrev mX10_readCommands : BqM := (yX10_readCommands, cX10_readCommands, 2, some .boolean)
abbrev mX10_readCommand : BqM := (yX10_readCommand, cX10_readCommand, 2, none)
abbrev mX10_next : BqM := (yX10_next, cX10_next, 1, some .int)
abbrev mX10_digitNext : BqM := (yX10_digitNext, cX10_digitNext, 1, some .boolean)
abbrev mX10_readSign : BqM := (yX10_readSign, cX10_readSign, 2, none)
abbrev mX10_readDigit : BqM := (yX10_readDigit, cX10_readDigit, 2, some .int)
abbrev mX10_readNumber : BqM := (yX10_readNumber, cX10_readNumber, 3, some .int)
abbrev mX11_init : BqM := (yX11_init, cX11_init, 2, none)
abbrev mX11_size : BqM := (yX11_size, cX11_size, 5, some .int)
abbrev mX11_brew : BqM := (yX11_brew, cX11_brew, 6, some .int)
abbrev mX11_transfer : BqM := (yX11_transfer, cX11_transfer, 4, some .int)
abbrev mX11_lose : BqM := (yX11_lose, cX11_lose, 4, some .int)
abbrev mX11_setLoss : BqM := (yX11_setLoss, cX11_setLoss, 3, some .int)
abbrev mX11_rate : BqM := (yX11_rate, cX11_rate, 5, some .int)
abbrev mX11_order : BqM := (yX11_order, cX11_order, 6, some .int)
abbrev mX11_drop : BqM := (yX11_drop, cX11_drop, 3, some .int)
abbrev mX11_fill : BqM := (yX11_fill, cX11_fill, 3, some .int)
abbrev mX11_fillAll : BqM := (yX11_fillAll, cX11_fillAll, 2, some .int)
abbrev mX11_clean : BqM := (yX11_clean, cX11_clean, 2, some .int)
abbrev mX11_pass : BqM := (yX11_pass, cX11_pass, 2, some .int)
abbrev mX11_feed : BqM := (yX11_feed, cX11_feed, 7, some .int)
abbrev mX11_run : BqM := (yX11_run, cX11_run, 4, some .int)
abbrev mX11_reason : BqM := (yX11_reason, cX11_reason, 1, some .int)
abbrev mX11_ofTank : BqM := (yX11_ofTank, cX11_ofTank, 4, some .int)
abbrev mX11_litres : BqM := (yX11_litres, cX11_litres, 4, some .int)
abbrev mX11_ofBatch : BqM := (yX11_ofBatch, cX11_ofBatch, 3, some .int)
abbrev mX11_mix : BqM := (yX11_mix, cX11_mix, 7, some .int)
abbrev mX11_ofOrder : BqM := (yX11_ofOrder, cX11_ofOrder, 4, some .int)
abbrev mX11_planned : BqM := (yX11_planned, cX11_planned, 2, some .int)
abbrev mX11_holds : BqM := (yX11_holds, cX11_holds, 3, some .int)
abbrev mX11_excise : BqM := (yX11_excise, cX11_excise, 2, some .long)
abbrev mX11_correct : BqM := (yX11_correct, cX11_correct, 3, some .int)
abbrev mX11_entry : BqM := (yX11_entry, cX11_entry, 3, some .int)
abbrev mX11_account : BqM := (yX11_account, cX11_account, 2, some .long)
abbrev mX11_back : BqM := (yX11_back, cX11_back, 1, some .int)
abbrev mX11_image : BqM := (yX11_image, cX11_image, 1, some .int)
abbrev mX11_undo : BqM := (yX11_undo, cX11_undo, 1, some .int)
abbrev mX11_count : BqM := (yX11_count, cX11_count, 2, some .int)
abbrev mX11_outside : BqM := (yX11_outside, cX11_outside, 3, some .boolean)
abbrev mX11_noByte : BqM := (yX11_noByte, cX11_noByte, 1, some .boolean)
abbrev mX11_refuse : BqM := (yX11_refuse, cX11_refuse, 2, some .int)
abbrev mX11_putBy : BqM := (yX11_putBy, cX11_putBy, 1, none)
abbrev mX11_changed : BqM := (yX11_changed, cX11_changed, 4, some .int)
abbrev mX11_settle : BqM := (yX11_settle, cX11_settle, 2, some .int)
abbrev mX11_perform : BqM := (yX11_perform, cX11_perform, 2, some .int)
abbrev mX11_pour : BqM := (yX11_pour, cX11_pour, 8, some .int)
abbrev mX11_spill : BqM := (yX11_spill, cX11_spill, 5, some .int)
abbrev mX11_deliver : BqM := (yX11_deliver, cX11_deliver, 5, some .int)
abbrev mX11_scrub : BqM := (yX11_scrub, cX11_scrub, 3, some .int)
abbrev mX11_letPass : BqM := (yX11_letPass, cX11_letPass, 5, some .int)
abbrev mX12_init : BqM := (yX12_init, cX12_init, 2, none)
abbrev mX12_in : BqM := (yX12_in, cX12_in, 3, some .boolean)
abbrev mX12_refuses : BqM := (yX12_refuses, cX12_refuses, 2, some .int)
abbrev mX12_copy : BqM := (yX12_copy, cX12_copy, 5, none)
abbrev mX12_remembersRow : BqM := (yX12_remembersRow, cX12_remembersRow, 3, none)
abbrev mX12_remembers : BqM := (yX12_remembers, cX12_remembers, 1, none)
abbrev mX12_isTank : BqM := (yX12_isTank, cX12_isTank, 1, some .boolean)
abbrev mX12_tankAt : BqM := (yX12_tankAt, cX12_tankAt, 3, some .int)
abbrev mX12_partAt : BqM := (yX12_partAt, cX12_partAt, 3, some .int)
abbrev mX12_orderAt : BqM := (yX12_orderAt, cX12_orderAt, 3, some .int)
abbrev mX12_strengthOf : BqM := (yX12_strengthOf, cX12_strengthOf, 2, some .int)
abbrev mX12_litresIn : BqM := (yX12_litresIn, cX12_litresIn, 4, some .int)
abbrev mX12_sumOf : BqM := (yX12_sumOf, cX12_sumOf, 3, some .int)
abbrev mX12_alcoholOf : BqM := (yX12_alcoholOf, cX12_alcoholOf, 5, some .long)
abbrev mX12_looksAt : BqM := (yX12_looksAt, cX12_looksAt, 3, none)
abbrev mX12_takes : BqM := (yX12_takes, cX12_takes, 7, none)
abbrev mX12_leaves : BqM := (yX12_leaves, cX12_leaves, 3, none)
abbrev mX12_notes : BqM := (yX12_notes, cX12_notes, 5, none)
abbrev mX12_loses : BqM := (yX12_loses, cX12_loses, 5, none)
abbrev mX12_size : BqM := (yX12_size, cX12_size, 4, some .int)
abbrev mX12_brew : BqM := (yX12_brew, cX12_brew, 5, some .int)
abbrev mX12_transfer : BqM := (yX12_transfer, cX12_transfer, 6, some .int)
abbrev mX12_lose : BqM := (yX12_lose, cX12_lose, 4, some .int)
abbrev mX12_setLoss : BqM := (yX12_setLoss, cX12_setLoss, 3, some .int)
abbrev mX12_rate : BqM := (yX12_rate, cX12_rate, 5, some .int)
abbrev mX12_order : BqM := (yX12_order, cX12_order, 6, some .int)
abbrev mX12_isOpen : BqM := (yX12_isOpen, cX12_isOpen, 2, some .boolean)
abbrev mX12_openMany : BqM := (yX12_openMany, cX12_openMany, 3, some .int)
abbrev mX12_drop : BqM := (yX12_drop, cX12_drop, 2, some .int)
abbrev mX12_rateFor : BqM := (yX12_rateFor, cX12_rateFor, 8, some .int)
abbrev mX12_dutyFor : BqM := (yX12_dutyFor, cX12_dutyFor, 5, some .int)
abbrev mX12_blend : BqM := (yX12_blend, cX12_blend, 1, some .int)
abbrev mX12_hinders : BqM := (yX12_hinders, cX12_hinders, 2, some .int)
abbrev mX12_fills : BqM := (yX12_fills, cX12_fills, 5, none)
abbrev mX12_fill : BqM := (yX12_fill, cX12_fill, 4, some .int)
abbrev mX12_isAhead : BqM := (yX12_isAhead, cX12_isAhead, 3, some .boolean)
abbrev mX12_nextOrder : BqM := (yX12_nextOrder, cX12_nextOrder, 3, some .int)
abbrev mX12_looksAtPlan : BqM := (yX12_looksAtPlan, cX12_looksAtPlan, 3, none)
abbrev mX12_tankFor : BqM := (yX12_tankFor, cX12_tankFor, 5, some .int)
abbrev mX12_plans : BqM := (yX12_plans, cX12_plans, 4, none)
abbrev mX12_fillAll : BqM := (yX12_fillAll, cX12_fillAll, 2, some .int)
abbrev mX12_clean : BqM := (yX12_clean, cX12_clean, 2, some .int)
abbrev mX12_pass : BqM := (yX12_pass, cX12_pass, 4, some .int)
abbrev mX12_isByte : BqM := (yX12_isByte, cX12_isByte, 1, some .boolean)
abbrev mX12_feed : BqM := (yX12_feed, cX12_feed, 8, some .int)
abbrev mX12_here : BqM := (yX12_here, cX12_here, 1, some .int)
abbrev mX12_reads : BqM := (yX12_reads, cX12_reads, 2, none)
abbrev mX12_readsDigits : BqM := (yX12_readsDigits, cX12_readsDigits, 4, some .int)
abbrev mX12_readsCommand : BqM := (yX12_readsCommand, cX12_readsCommand, 3, none)
abbrev mX12_does : BqM := (yX12_does, cX12_does, 5, some .int)
abbrev mX12_run : BqM := (yX12_run, cX12_run, 4, some .int)
abbrev mX12_reason : BqM := (yX12_reason, cX12_reason, 1, some .int)
abbrev mX12_ofTank : BqM := (yX12_ofTank, cX12_ofTank, 6, some .int)
abbrev mX12_litres : BqM := (yX12_litres, cX12_litres, 3, some .int)
abbrev mX12_ofBatch : BqM := (yX12_ofBatch, cX12_ofBatch, 6, some .int)
abbrev mX12_alcoholBy : BqM := (yX12_alcoholBy, cX12_alcoholBy, 3, some .long)
abbrev mX12_mix : BqM := (yX12_mix, cX12_mix, 11, some .int)
abbrev mX12_ofOrder : BqM := (yX12_ofOrder, cX12_ofOrder, 3, some .int)
abbrev mX12_planned : BqM := (yX12_planned, cX12_planned, 2, some .int)
abbrev mX12_holds : BqM := (yX12_holds, cX12_holds, 3, some .int)
abbrev mX12_excised : BqM := (yX12_excised, cX12_excised, 5, some .long)
abbrev mX12_excise : BqM := (yX12_excise, cX12_excise, 4, some .long)
abbrev mX12_correct : BqM := (yX12_correct, cX12_correct, 2, some .int)
abbrev mX12_entry : BqM := (yX12_entry, cX12_entry, 3, some .int)
abbrev mX12_account : BqM := (yX12_account, cX12_account, 7, some .long)
abbrev mX12_back : BqM := (yX12_back, cX12_back, 1, some .int)
abbrev mX12_image : BqM := (yX12_image, cX12_image, 1, some .int)
abbrev mX12_undo : BqM := (yX12_undo, cX12_undo, 1, some .int)
abbrev mX12_count : BqM := (yX12_count, cX12_count, 4, some .int)
theorem fX0_9 : bq_fl RX0 9 0 0 := ⟨RX0, TX0, 1, rfl, by decide, lwX0, bq_at 91 (by decide +kernel) (by decide +kernel)⟩
theorem fX6_26 : bq_fl RX6 26 0 0 := ⟨RX0, TX0, 1, rfl, by decide, lwX0, bq_at 92 (by decide +kernel) (by decide +kernel)⟩
theorem fX11_111 : bq_fl RX11 111 0 0 := ⟨RX0, TX0, 1, rfl, by decide, lwX0, bq_at 93 (by decide +kernel) (by decide +kernel)⟩
theorem fX8_115 : bq_fl RX8 115 0 0 := ⟨RX0, TX0, 1, rfl, by decide, lwX0, bq_at 94 (by decide +kernel) (by decide +kernel)⟩
theorem fX2_9 : bq_fl RX2 9 2 0 := ⟨RX2, TX2, 2, rfl, by decide, lwX2, bq_at 109 (by decide +kernel) (by decide +kernel)⟩
theorem fX11_298 : bq_fl RX11 298 2 0 := ⟨RX2, TX2, 2, rfl, by decide, lwX2, bq_at 110 (by decide +kernel) (by decide +kernel)⟩
theorem fX2_15 : bq_fl RX2 15 2 1 := ⟨RX2, TX2, 2, rfl, by decide, lwX2, bq_at 111 (by decide +kernel) (by decide +kernel)⟩
theorem fX9_9 : bq_fl RX9 9 9 0 := ⟨RX9, TX9, 4, rfl, by decide, lwX9, bq_at 124 (by decide +kernel) (by decide +kernel)⟩
theorem fX11_92 : bq_fl RX11 92 9 0 := ⟨RX9, TX9, 4, rfl, by decide, lwX9, bq_at 125 (by decide +kernel) (by decide +kernel)⟩
theorem fX9_15 : bq_fl RX9 15 9 1 := ⟨RX9, TX9, 4, rfl, by decide, lwX9, bq_at 126 (by decide +kernel) (by decide +kernel)⟩
theorem fX11_101 : bq_fl RX11 101 9 1 := ⟨RX9, TX9, 4, rfl, by decide, lwX9, bq_at 127 (by decide +kernel) (by decide +kernel)⟩
theorem fX8_136 : bq_fl RX8 136 9 1 := ⟨RX9, TX9, 4, rfl, by decide, lwX9, bq_at 128 (by decide +kernel) (by decide +kernel)⟩
theorem fX9_18 : bq_fl RX9 18 9 2 := ⟨RX9, TX9, 4, rfl, by decide, lwX9, bq_at 129 (by decide +kernel) (by decide +kernel)⟩
theorem fX11_239 : bq_fl RX11 239 9 2 := ⟨RX9, TX9, 4, rfl, by decide, lwX9, bq_at 130 (by decide +kernel) (by decide +kernel)⟩
theorem fX9_24 : bq_fl RX9 24 9 3 := ⟨RX9, TX9, 4, rfl, by decide, lwX9, bq_at 131 (by decide +kernel) (by decide +kernel)⟩
theorem fX5_51 : bq_fl RX5 51 9 3 := ⟨RX9, TX9, 4, rfl, by decide, lwX9, bq_at 132 (by decide +kernel) (by decide +kernel)⟩
theorem fX11_73 : bq_fl RX11 73 9 3 := ⟨RX9, TX9, 4, rfl, by decide, lwX9, bq_at 133 (by decide +kernel) (by decide +kernel)⟩
theorem fX8_125 : bq_fl RX8 125 9 3 := ⟨RX9, TX9, 4, rfl, by decide, lwX9, bq_at 134 (by decide +kernel) (by decide +kernel)⟩
theorem fX7_7 : bq_fl RX7 7 7 0 := ⟨RX7, TX7, 3, rfl, by decide, lwX7, bq_at 149 (by decide +kernel) (by decide +kernel)⟩
theorem fX11_139 : bq_fl RX11 139 7 0 := ⟨RX7, TX7, 3, rfl, by decide, lwX7, bq_at 150 (by decide +kernel) (by decide +kernel)⟩
theorem fX8_145 : bq_fl RX8 145 7 0 := ⟨RX7, TX7, 3, rfl, by decide, lwX7, bq_at 151 (by decide +kernel) (by decide +kernel)⟩
theorem fX7_13 : bq_fl RX7 13 7 1 := ⟨RX7, TX7, 3, rfl, by decide, lwX7, bq_at 152 (by decide +kernel) (by decide +kernel)⟩
theorem fX11_144 : bq_fl RX11 144 7 1 := ⟨RX7, TX7, 3, rfl, by decide, lwX7, bq_at 153 (by decide +kernel) (by decide +kernel)⟩
theorem fX8_146 : bq_fl RX8 146 7 1 := ⟨RX7, TX7, 3, rfl, by decide, lwX7, bq_at 154 (by decide +kernel) (by decide +kernel)⟩
theorem fX7_16 : bq_fl RX7 16 7 2 := ⟨RX7, TX7, 3, rfl, by decide, lwX7, bq_at 155 (by decide +kernel) (by decide +kernel)⟩
theorem fX11_147 : bq_fl RX11 147 7 2 := ⟨RX7, TX7, 3, rfl, by decide, lwX7, bq_at 156 (by decide +kernel) (by decide +kernel)⟩
theorem fX8_162 : bq_fl RX8 162 7 2 := ⟨RX7, TX7, 3, rfl, by decide, lwX7, bq_at 157 (by decide +kernel) (by decide +kernel)⟩
theorem fX4_9 : bq_fl RX4 9 4 0 := ⟨RX4, TX4, 9, rfl, by decide, lwX4, bq_at 170 (by decide +kernel) (by decide +kernel)⟩
theorem fX11_158 : bq_fl RX11 158 4 0 := ⟨RX4, TX4, 9, rfl, by decide, lwX4, bq_at 171 (by decide +kernel) (by decide +kernel)⟩
theorem fX4_15 : bq_fl RX4 15 4 1 := ⟨RX4, TX4, 9, rfl, by decide, lwX4, bq_at 172 (by decide +kernel) (by decide +kernel)⟩
theorem fX5_71 : bq_fl RX5 71 4 1 := ⟨RX4, TX4, 9, rfl, by decide, lwX4, bq_at 173 (by decide +kernel) (by decide +kernel)⟩
theorem fX11_163 : bq_fl RX11 163 4 1 := ⟨RX4, TX4, 9, rfl, by decide, lwX4, bq_at 174 (by decide +kernel) (by decide +kernel)⟩
theorem fX8_142 : bq_fl RX8 142 4 1 := ⟨RX4, TX4, 9, rfl, by decide, lwX4, bq_at 175 (by decide +kernel) (by decide +kernel)⟩
theorem fX4_18 : bq_fl RX4 18 4 2 := ⟨RX4, TX4, 9, rfl, by decide, lwX4, bq_at 176 (by decide +kernel) (by decide +kernel)⟩
theorem fX11_166 : bq_fl RX11 166 4 2 := ⟨RX4, TX4, 9, rfl, by decide, lwX4, bq_at 177 (by decide +kernel) (by decide +kernel)⟩
theorem fX4_21 : bq_fl RX4 21 4 3 := ⟨RX4, TX4, 9, rfl, by decide, lwX4, bq_at 178 (by decide +kernel) (by decide +kernel)⟩
theorem fX11_169 : bq_fl RX11 169 4 3 := ⟨RX4, TX4, 9, rfl, by decide, lwX4, bq_at 179 (by decide +kernel) (by decide +kernel)⟩
theorem fX4_24 : bq_fl RX4 24 4 4 := ⟨RX4, TX4, 9, rfl, by decide, lwX4, bq_at 180 (by decide +kernel) (by decide +kernel)⟩
theorem fX5_89 : bq_fl RX5 89 4 4 := ⟨RX4, TX4, 9, rfl, by decide, lwX4, bq_at 181 (by decide +kernel) (by decide +kernel)⟩
theorem fX11_172 : bq_fl RX11 172 4 4 := ⟨RX4, TX4, 9, rfl, by decide, lwX4, bq_at 182 (by decide +kernel) (by decide +kernel)⟩
theorem fX8_139 : bq_fl RX8 139 4 4 := ⟨RX4, TX4, 9, rfl, by decide, lwX4, bq_at 183 (by decide +kernel) (by decide +kernel)⟩
theorem fX4_27 : bq_fl RX4 27 4 5 := ⟨RX4, TX4, 9, rfl, by decide, lwX4, bq_at 184 (by decide +kernel) (by decide +kernel)⟩
theorem fX11_270 : bq_fl RX11 270 4 5 := ⟨RX4, TX4, 9, rfl, by decide, lwX4, bq_at 185 (by decide +kernel) (by decide +kernel)⟩
theorem fX4_30 : bq_fl RX4 30 4 6 := ⟨RX4, TX4, 9, rfl, by decide, lwX4, bq_at 186 (by decide +kernel) (by decide +kernel)⟩
theorem fX8_149 : bq_fl RX8 149 4 6 := ⟨RX4, TX4, 9, rfl, by decide, lwX4, bq_at 187 (by decide +kernel) (by decide +kernel)⟩
theorem fX11_366 : bq_fl RX11 366 4 6 := ⟨RX4, TX4, 9, rfl, by decide, lwX4, bq_at 188 (by decide +kernel) (by decide +kernel)⟩
theorem fX4_33 : bq_fl RX4 33 4 7 := ⟨RX4, TX4, 9, rfl, by decide, lwX4, bq_at 189 (by decide +kernel) (by decide +kernel)⟩
theorem fX8_152 : bq_fl RX8 152 4 7 := ⟨RX4, TX4, 9, rfl, by decide, lwX4, bq_at 190 (by decide +kernel) (by decide +kernel)⟩
theorem fX11_369 : bq_fl RX11 369 4 7 := ⟨RX4, TX4, 9, rfl, by decide, lwX4, bq_at 191 (by decide +kernel) (by decide +kernel)⟩
theorem fX4_36 : bq_fl RX4 36 4 8 := ⟨RX4, TX4, 9, rfl, by decide, lwX4, bq_at 192 (by decide +kernel) (by decide +kernel)⟩
theorem fX8_159 : bq_fl RX8 159 4 8 := ⟨RX4, TX4, 9, rfl, by decide, lwX4, bq_at 193 (by decide +kernel) (by decide +kernel)⟩
theorem fX11_372 : bq_fl RX11 372 4 8 := ⟨RX4, TX4, 9, rfl, by decide, lwX4, bq_at 194 (by decide +kernel) (by decide +kernel)⟩
theorem fX8_9 : bq_fl RX8 9 8 0 := ⟨RX8, TX8, 17, rfl, by decide, lwX8, bq_at 214 (by decide +kernel) (by decide +kernel)⟩
theorem fX11_157 : bq_fl RX11 157 8 0 := ⟨RX8, TX8, 17, rfl, by decide, lwX8, bq_at 215 (by decide +kernel) (by decide +kernel)⟩
theorem fX8_15 : bq_fl RX8 15 8 1 := ⟨RX8, TX8, 17, rfl, by decide, lwX8, bq_at 216 (by decide +kernel) (by decide +kernel)⟩
theorem fX11_129 : bq_fl RX11 129 8 1 := ⟨RX8, TX8, 17, rfl, by decide, lwX8, bq_at 217 (by decide +kernel) (by decide +kernel)⟩
theorem fX8_20 : bq_fl RX8 20 8 2 := ⟨RX8, TX8, 17, rfl, by decide, lwX8, bq_at 218 (by decide +kernel) (by decide +kernel)⟩
theorem fX5_46 : bq_fl RX5 46 8 2 := ⟨RX8, TX8, 17, rfl, by decide, lwX8, bq_at 219 (by decide +kernel) (by decide +kernel)⟩
theorem fX11_379 : bq_fl RX11 379 8 2 := ⟨RX8, TX8, 17, rfl, by decide, lwX8, bq_at 220 (by decide +kernel) (by decide +kernel)⟩
theorem fX8_24 : bq_fl RX8 24 8 3 := ⟨RX8, TX8, 17, rfl, by decide, lwX8, bq_at 221 (by decide +kernel) (by decide +kernel)⟩
theorem fX11_98 : bq_fl RX11 98 8 3 := ⟨RX8, TX8, 17, rfl, by decide, lwX8, bq_at 222 (by decide +kernel) (by decide +kernel)⟩
theorem fX8_27 : bq_fl RX8 27 8 4 := ⟨RX8, TX8, 17, rfl, by decide, lwX8, bq_at 223 (by decide +kernel) (by decide +kernel)⟩
theorem fX5_64 : bq_fl RX5 64 8 4 := ⟨RX8, TX8, 17, rfl, by decide, lwX8, bq_at 224 (by decide +kernel) (by decide +kernel)⟩
theorem fX11_233 : bq_fl RX11 233 8 4 := ⟨RX8, TX8, 17, rfl, by decide, lwX8, bq_at 225 (by decide +kernel) (by decide +kernel)⟩
theorem fX8_31 : bq_fl RX8 31 8 5 := ⟨RX8, TX8, 17, rfl, by decide, lwX8, bq_at 226 (by decide +kernel) (by decide +kernel)⟩
theorem fX11_257 : bq_fl RX11 257 8 5 := ⟨RX8, TX8, 17, rfl, by decide, lwX8, bq_at 227 (by decide +kernel) (by decide +kernel)⟩
theorem fX8_37 : bq_fl RX8 37 8 6 := ⟨RX8, TX8, 17, rfl, by decide, lwX8, bq_at 228 (by decide +kernel) (by decide +kernel)⟩
theorem fX11_245 : bq_fl RX11 245 8 6 := ⟨RX8, TX8, 17, rfl, by decide, lwX8, bq_at 229 (by decide +kernel) (by decide +kernel)⟩
theorem fX8_41 : bq_fl RX8 41 8 7 := ⟨RX8, TX8, 17, rfl, by decide, lwX8, bq_at 230 (by decide +kernel) (by decide +kernel)⟩
theorem fX11_251 : bq_fl RX11 251 8 7 := ⟨RX8, TX8, 17, rfl, by decide, lwX8, bq_at 231 (by decide +kernel) (by decide +kernel)⟩
theorem fX8_44 : bq_fl RX8 44 8 8 := ⟨RX8, TX8, 17, rfl, by decide, lwX8, bq_at 232 (by decide +kernel) (by decide +kernel)⟩
theorem fX11_254 : bq_fl RX11 254 8 8 := ⟨RX8, TX8, 17, rfl, by decide, lwX8, bq_at 233 (by decide +kernel) (by decide +kernel)⟩
theorem fX8_47 : bq_fl RX8 47 8 9 := ⟨RX8, TX8, 17, rfl, by decide, lwX8, bq_at 234 (by decide +kernel) (by decide +kernel)⟩
theorem fX11_309 : bq_fl RX11 309 8 9 := ⟨RX8, TX8, 17, rfl, by decide, lwX8, bq_at 235 (by decide +kernel) (by decide +kernel)⟩
theorem fX8_50 : bq_fl RX8 50 8 10 := ⟨RX8, TX8, 17, rfl, by decide, lwX8, bq_at 236 (by decide +kernel) (by decide +kernel)⟩
theorem fX11_132 : bq_fl RX11 132 8 10 := ⟨RX8, TX8, 17, rfl, by decide, lwX8, bq_at 237 (by decide +kernel) (by decide +kernel)⟩
theorem fX8_55 : bq_fl RX8 55 8 11 := ⟨RX8, TX8, 17, rfl, by decide, lwX8, bq_at 238 (by decide +kernel) (by decide +kernel)⟩
theorem fX11_135 : bq_fl RX11 135 8 11 := ⟨RX8, TX8, 17, rfl, by decide, lwX8, bq_at 239 (by decide +kernel) (by decide +kernel)⟩
theorem fX8_59 : bq_fl RX8 59 8 12 := ⟨RX8, TX8, 17, rfl, by decide, lwX8, bq_at 240 (by decide +kernel) (by decide +kernel)⟩
theorem fX5_86 : bq_fl RX5 86 8 12 := ⟨RX8, TX8, 17, rfl, by decide, lwX8, bq_at 241 (by decide +kernel) (by decide +kernel)⟩
theorem fX11_150 : bq_fl RX11 150 8 12 := ⟨RX8, TX8, 17, rfl, by decide, lwX8, bq_at 242 (by decide +kernel) (by decide +kernel)⟩
theorem fX8_64 : bq_fl RX8 64 8 13 := ⟨RX8, TX8, 17, rfl, by decide, lwX8, bq_at 243 (by decide +kernel) (by decide +kernel)⟩
theorem fX5_61 : bq_fl RX5 61 8 13 := ⟨RX8, TX8, 17, rfl, by decide, lwX8, bq_at 244 (by decide +kernel) (by decide +kernel)⟩
theorem fX11_153 : bq_fl RX11 153 8 13 := ⟨RX8, TX8, 17, rfl, by decide, lwX8, bq_at 245 (by decide +kernel) (by decide +kernel)⟩
theorem fX8_68 : bq_fl RX8 68 8 14 := ⟨RX8, TX8, 17, rfl, by decide, lwX8, bq_at 246 (by decide +kernel) (by decide +kernel)⟩
theorem fX11_276 : bq_fl RX11 276 8 14 := ⟨RX8, TX8, 17, rfl, by decide, lwX8, bq_at 247 (by decide +kernel) (by decide +kernel)⟩
theorem fX8_72 : bq_fl RX8 72 8 15 := ⟨RX8, TX8, 17, rfl, by decide, lwX8, bq_at 248 (by decide +kernel) (by decide +kernel)⟩
theorem fX11_284 : bq_fl RX11 284 8 15 := ⟨RX8, TX8, 17, rfl, by decide, lwX8, bq_at 249 (by decide +kernel) (by decide +kernel)⟩
theorem fX8_78 : bq_fl RX8 78 8 16 := ⟨RX8, TX8, 17, rfl, by decide, lwX8, bq_at 250 (by decide +kernel) (by decide +kernel)⟩
theorem fX11_294 : bq_fl RX11 294 8 16 := ⟨RX8, TX8, 17, rfl, by decide, lwX8, bq_at 251 (by decide +kernel) (by decide +kernel)⟩
theorem fX1_7 : bq_fl RX1 7 1 0 := ⟨RX1, TX1, 4, rfl, by decide, lwX1, bq_at 301 (by decide +kernel) (by decide +kernel)⟩
theorem fX10_48 : bq_fl RX10 48 1 0 := ⟨RX1, TX1, 4, rfl, by decide, lwX1, bq_at 302 (by decide +kernel) (by decide +kernel)⟩
theorem fX11_325 : bq_fl RX11 325 1 0 := ⟨RX1, TX1, 4, rfl, by decide, lwX1, bq_at 303 (by decide +kernel) (by decide +kernel)⟩
theorem fX1_13 : bq_fl RX1 13 1 1 := ⟨RX1, TX1, 4, rfl, by decide, lwX1, bq_at 304 (by decide +kernel) (by decide +kernel)⟩
theorem fX10_54 : bq_fl RX10 54 1 1 := ⟨RX1, TX1, 4, rfl, by decide, lwX1, bq_at 305 (by decide +kernel) (by decide +kernel)⟩
theorem fX11_330 : bq_fl RX11 330 1 1 := ⟨RX1, TX1, 4, rfl, by decide, lwX1, bq_at 306 (by decide +kernel) (by decide +kernel)⟩
theorem fX1_16 : bq_fl RX1 16 1 2 := ⟨RX1, TX1, 4, rfl, by decide, lwX1, bq_at 307 (by decide +kernel) (by decide +kernel)⟩
theorem fX10_57 : bq_fl RX10 57 1 2 := ⟨RX1, TX1, 4, rfl, by decide, lwX1, bq_at 308 (by decide +kernel) (by decide +kernel)⟩
theorem fX11_333 : bq_fl RX11 333 1 2 := ⟨RX1, TX1, 4, rfl, by decide, lwX1, bq_at 309 (by decide +kernel) (by decide +kernel)⟩
theorem fX1_19 : bq_fl RX1 19 1 3 := ⟨RX1, TX1, 4, rfl, by decide, lwX1, bq_at 310 (by decide +kernel) (by decide +kernel)⟩
theorem fX10_63 : bq_fl RX10 63 1 3 := ⟨RX1, TX1, 4, rfl, by decide, lwX1, bq_at 311 (by decide +kernel) (by decide +kernel)⟩
theorem fX11_336 : bq_fl RX11 336 1 3 := ⟨RX1, TX1, 4, rfl, by decide, lwX1, bq_at 312 (by decide +kernel) (by decide +kernel)⟩
theorem fX10_9 : bq_fl RX10 9 10 0 := ⟨RX10, TX10, 6, rfl, by decide, lwX10, bq_at 322 (by decide +kernel) (by decide +kernel)⟩
theorem fX11_207 : bq_fl RX11 207 10 0 := ⟨RX10, TX10, 6, rfl, by decide, lwX10, bq_at 323 (by decide +kernel) (by decide +kernel)⟩
theorem fX10_15 : bq_fl RX10 15 10 1 := ⟨RX10, TX10, 6, rfl, by decide, lwX10, bq_at 324 (by decide +kernel) (by decide +kernel)⟩
theorem fX10_19 : bq_fl RX10 19 10 2 := ⟨RX10, TX10, 6, rfl, by decide, lwX10, bq_at 325 (by decide +kernel) (by decide +kernel)⟩
theorem fX11_216 : bq_fl RX11 216 10 2 := ⟨RX10, TX10, 6, rfl, by decide, lwX10, bq_at 326 (by decide +kernel) (by decide +kernel)⟩
theorem fX10_22 : bq_fl RX10 22 10 3 := ⟨RX10, TX10, 6, rfl, by decide, lwX10, bq_at 327 (by decide +kernel) (by decide +kernel)⟩
theorem fX10_26 : bq_fl RX10 26 10 4 := ⟨RX10, TX10, 6, rfl, by decide, lwX10, bq_at 328 (by decide +kernel) (by decide +kernel)⟩
theorem fX11_219 : bq_fl RX11 219 10 4 := ⟨RX10, TX10, 6, rfl, by decide, lwX10, bq_at 329 (by decide +kernel) (by decide +kernel)⟩
theorem fX10_31 : bq_fl RX10 31 10 5 := ⟨RX10, TX10, 6, rfl, by decide, lwX10, bq_at 330 (by decide +kernel) (by decide +kernel)⟩
theorem fX11_222 : bq_fl RX11 222 10 5 := ⟨RX10, TX10, 6, rfl, by decide, lwX10, bq_at 331 (by decide +kernel) (by decide +kernel)⟩
theorem fX6_12 : bq_fl RX6 12 6 0 := ⟨RX6, TX6, 2, rfl, by decide, lwX6, bq_at 361 (by decide +kernel) (by decide +kernel)⟩
theorem fX5_80 : bq_fl RX5 80 6 0 := ⟨RX6, TX6, 2, rfl, by decide, lwX6, bq_at 362 (by decide +kernel) (by decide +kernel)⟩
theorem fX3_52 : bq_fl RX3 52 6 0 := ⟨RX6, TX6, 2, rfl, by decide, lwX6, bq_at 363 (by decide +kernel) (by decide +kernel)⟩
theorem fX11_343 : bq_fl RX11 343 6 0 := ⟨RX6, TX6, 2, rfl, by decide, lwX6, bq_at 364 (by decide +kernel) (by decide +kernel)⟩
theorem fX6_18 : bq_fl RX6 18 6 1 := ⟨RX6, TX6, 2, rfl, by decide, lwX6, bq_at 365 (by decide +kernel) (by decide +kernel)⟩
theorem fX5_9 : bq_fl RX5 9 5 0 := ⟨RX5, TX5, 7, rfl, by decide, lwX5, bq_at 372 (by decide +kernel) (by decide +kernel)⟩
theorem fX11_189 : bq_fl RX11 189 5 0 := ⟨RX5, TX5, 7, rfl, by decide, lwX5, bq_at 373 (by decide +kernel) (by decide +kernel)⟩
theorem fX5_15 : bq_fl RX5 15 5 1 := ⟨RX5, TX5, 7, rfl, by decide, lwX5, bq_at 374 (by decide +kernel) (by decide +kernel)⟩
theorem fX11_195 : bq_fl RX11 195 5 1 := ⟨RX5, TX5, 7, rfl, by decide, lwX5, bq_at 375 (by decide +kernel) (by decide +kernel)⟩
theorem fX5_19 : bq_fl RX5 19 5 2 := ⟨RX5, TX5, 7, rfl, by decide, lwX5, bq_at 376 (by decide +kernel) (by decide +kernel)⟩
theorem fX11_192 : bq_fl RX11 192 5 2 := ⟨RX5, TX5, 7, rfl, by decide, lwX5, bq_at 377 (by decide +kernel) (by decide +kernel)⟩
theorem fX5_22 : bq_fl RX5 22 5 3 := ⟨RX5, TX5, 7, rfl, by decide, lwX5, bq_at 378 (by decide +kernel) (by decide +kernel)⟩
theorem fX5_25 : bq_fl RX5 25 5 4 := ⟨RX5, TX5, 7, rfl, by decide, lwX5, bq_at 379 (by decide +kernel) (by decide +kernel)⟩
theorem fX5_30 : bq_fl RX5 30 5 5 := ⟨RX5, TX5, 7, rfl, by decide, lwX5, bq_at 380 (by decide +kernel) (by decide +kernel)⟩
theorem fX5_37 : bq_fl RX5 37 5 6 := ⟨RX5, TX5, 7, rfl, by decide, lwX5, bq_at 381 (by decide +kernel) (by decide +kernel)⟩
theorem fX3_12 : bq_fl RX3 12 3 0 := ⟨RX3, TX3, 1, rfl, by decide, lwX3, bq_at 405 (by decide +kernel) (by decide +kernel)⟩
theorem fX11_10 : bq_fl RX11 10 11 0 := ⟨RX11, TX11, 11, rfl, by decide, lwX11, bq_at 411 (by decide +kernel) (by decide +kernel)⟩
theorem fX11_16 : bq_fl RX11 16 11 1 := ⟨RX11, TX11, 11, rfl, by decide, lwX11, bq_at 412 (by decide +kernel) (by decide +kernel)⟩
theorem fX11_20 : bq_fl RX11 20 11 2 := ⟨RX11, TX11, 11, rfl, by decide, lwX11, bq_at 413 (by decide +kernel) (by decide +kernel)⟩
theorem fX11_24 : bq_fl RX11 24 11 3 := ⟨RX11, TX11, 11, rfl, by decide, lwX11, bq_at 414 (by decide +kernel) (by decide +kernel)⟩
theorem fX11_27 : bq_fl RX11 27 11 4 := ⟨RX11, TX11, 11, rfl, by decide, lwX11, bq_at 415 (by decide +kernel) (by decide +kernel)⟩
theorem fX11_34 : bq_fl RX11 34 11 5 := ⟨RX11, TX11, 11, rfl, by decide, lwX11, bq_at 416 (by decide +kernel) (by decide +kernel)⟩
theorem fX11_41 : bq_fl RX11 41 11 6 := ⟨RX11, TX11, 11, rfl, by decide, lwX11, bq_at 417 (by decide +kernel) (by decide +kernel)⟩
theorem fX11_48 : bq_fl RX11 48 11 7 := ⟨RX11, TX11, 11, rfl, by decide, lwX11, bq_at 418 (by decide +kernel) (by decide +kernel)⟩
theorem fX11_55 : bq_fl RX11 55 11 8 := ⟨RX11, TX11, 11, rfl, by decide, lwX11, bq_at 419 (by decide +kernel) (by decide +kernel)⟩
theorem fX11_59 : bq_fl RX11 59 11 9 := ⟨RX11, TX11, 11, rfl, by decide, lwX11, bq_at 420 (by decide +kernel) (by decide +kernel)⟩
theorem fX11_62 : bq_fl RX11 62 11 10 := ⟨RX11, TX11, 11, rfl, by decide, lwX11, bq_at 421 (by decide +kernel) (by decide +kernel)⟩
theorem fX12_9 : bq_fl RX12 9 12 0 := ⟨RX12, TX12, 21, rfl, by decide, lwX12, bq_at 867 (by decide +kernel) (by decide +kernel)⟩
theorem fX12_13 : bq_fl RX12 13 12 1 := ⟨RX12, TX12, 21, rfl, by decide, lwX12, bq_at 868 (by decide +kernel) (by decide +kernel)⟩
theorem fX12_54 : bq_fl RX12 54 12 2 := ⟨RX12, TX12, 21, rfl, by decide, lwX12, bq_at 869 (by decide +kernel) (by decide +kernel)⟩
theorem fX12_16 : bq_fl RX12 16 12 3 := ⟨RX12, TX12, 21, rfl, by decide, lwX12, bq_at 870 (by decide +kernel) (by decide +kernel)⟩
theorem fX12_246 : bq_fl RX12 246 12 4 := ⟨RX12, TX12, 21, rfl, by decide, lwX12, bq_at 871 (by decide +kernel) (by decide +kernel)⟩
theorem fX12_19 : bq_fl RX12 19 12 5 := ⟨RX12, TX12, 21, rfl, by decide, lwX12, bq_at 872 (by decide +kernel) (by decide +kernel)⟩
theorem fX12_61 : bq_fl RX12 61 12 6 := ⟨RX12, TX12, 21, rfl, by decide, lwX12, bq_at 873 (by decide +kernel) (by decide +kernel)⟩
theorem fX12_50 : bq_fl RX12 50 12 7 := ⟨RX12, TX12, 21, rfl, by decide, lwX12, bq_at 874 (by decide +kernel) (by decide +kernel)⟩
theorem fX12_22 : bq_fl RX12 22 12 8 := ⟨RX12, TX12, 21, rfl, by decide, lwX12, bq_at 875 (by decide +kernel) (by decide +kernel)⟩
theorem fX12_175 : bq_fl RX12 175 12 9 := ⟨RX12, TX12, 21, rfl, by decide, lwX12, bq_at 876 (by decide +kernel) (by decide +kernel)⟩
theorem fX12_25 : bq_fl RX12 25 12 10 := ⟨RX12, TX12, 21, rfl, by decide, lwX12, bq_at 877 (by decide +kernel) (by decide +kernel)⟩
theorem fX12_28 : bq_fl RX12 28 12 11 := ⟨RX12, TX12, 21, rfl, by decide, lwX12, bq_at 878 (by decide +kernel) (by decide +kernel)⟩
theorem fX12_31 : bq_fl RX12 31 12 12 := ⟨RX12, TX12, 21, rfl, by decide, lwX12, bq_at 879 (by decide +kernel) (by decide +kernel)⟩
theorem fX12_34 : bq_fl RX12 34 12 13 := ⟨RX12, TX12, 21, rfl, by decide, lwX12, bq_at 880 (by decide +kernel) (by decide +kernel)⟩
theorem fX12_37 : bq_fl RX12 37 12 14 := ⟨RX12, TX12, 21, rfl, by decide, lwX12, bq_at 881 (by decide +kernel) (by decide +kernel)⟩
theorem fX12_40 : bq_fl RX12 40 12 15 := ⟨RX12, TX12, 21, rfl, by decide, lwX12, bq_at 882 (by decide +kernel) (by decide +kernel)⟩
theorem fX12_44 : bq_fl RX12 44 12 16 := ⟨RX12, TX12, 21, rfl, by decide, lwX12, bq_at 883 (by decide +kernel) (by decide +kernel)⟩
theorem fX12_160 : bq_fl RX12 160 12 17 := ⟨RX12, TX12, 21, rfl, by decide, lwX12, bq_at 884 (by decide +kernel) (by decide +kernel)⟩
theorem fX12_178 : bq_fl RX12 178 12 18 := ⟨RX12, TX12, 21, rfl, by decide, lwX12, bq_at 885 (by decide +kernel) (by decide +kernel)⟩
theorem fX12_181 : bq_fl RX12 181 12 19 := ⟨RX12, TX12, 21, rfl, by decide, lwX12, bq_at 886 (by decide +kernel) (by decide +kernel)⟩
theorem fX12_47 : bq_fl RX12 47 12 20 := ⟨RX12, TX12, 21, rfl, by decide, lwX12, bq_at 887 (by decide +kernel) (by decide +kernel)⟩
theorem pX0_9 : bq_fp RX0 "<init>" 9 0 0 := ⟨RX0, TX0, 1, rfl, by decide, lwX0, bq_at 91 (by decide +kernel) (by decide +kernel), Or.inr ⟨rfl, rfl, rfl⟩⟩
theorem pX1_7 (nm : String) : bq_fp RX1 nm 7 1 0 := ⟨RX1, TX1, 4, rfl, by decide, lwX1, bq_at 301 (by decide +kernel) (by decide +kernel), Or.inl rfl⟩
theorem pX1_13 (nm : String) : bq_fp RX1 nm 13 1 1 := ⟨RX1, TX1, 4, rfl, by decide, lwX1, bq_at 304 (by decide +kernel) (by decide +kernel), Or.inl rfl⟩
theorem pX1_16 (nm : String) : bq_fp RX1 nm 16 1 2 := ⟨RX1, TX1, 4, rfl, by decide, lwX1, bq_at 307 (by decide +kernel) (by decide +kernel), Or.inl rfl⟩
theorem pX1_19 (nm : String) : bq_fp RX1 nm 19 1 3 := ⟨RX1, TX1, 4, rfl, by decide, lwX1, bq_at 310 (by decide +kernel) (by decide +kernel), Or.inl rfl⟩
theorem pX2_9 (nm : String) : bq_fp RX2 nm 9 2 0 := ⟨RX2, TX2, 2, rfl, by decide, lwX2, bq_at 109 (by decide +kernel) (by decide +kernel), Or.inl rfl⟩
theorem pX2_15 : bq_fp RX2 "<init>" 15 2 1 := ⟨RX2, TX2, 2, rfl, by decide, lwX2, bq_at 111 (by decide +kernel) (by decide +kernel), Or.inr ⟨rfl, rfl, rfl⟩⟩
theorem pX3_12 : bq_fp RX3 "<init>" 12 3 0 := ⟨RX3, TX3, 1, rfl, by decide, lwX3, bq_at 405 (by decide +kernel) (by decide +kernel), Or.inr ⟨rfl, rfl, rfl⟩⟩
theorem pX4_9 (nm : String) : bq_fp RX4 nm 9 4 0 := ⟨RX4, TX4, 9, rfl, by decide, lwX4, bq_at 170 (by decide +kernel) (by decide +kernel), Or.inl rfl⟩
theorem pX4_15 (nm : String) : bq_fp RX4 nm 15 4 1 := ⟨RX4, TX4, 9, rfl, by decide, lwX4, bq_at 172 (by decide +kernel) (by decide +kernel), Or.inl rfl⟩
theorem pX4_18 (nm : String) : bq_fp RX4 nm 18 4 2 := ⟨RX4, TX4, 9, rfl, by decide, lwX4, bq_at 176 (by decide +kernel) (by decide +kernel), Or.inl rfl⟩
theorem pX4_21 (nm : String) : bq_fp RX4 nm 21 4 3 := ⟨RX4, TX4, 9, rfl, by decide, lwX4, bq_at 178 (by decide +kernel) (by decide +kernel), Or.inl rfl⟩
theorem pX4_24 (nm : String) : bq_fp RX4 nm 24 4 4 := ⟨RX4, TX4, 9, rfl, by decide, lwX4, bq_at 180 (by decide +kernel) (by decide +kernel), Or.inl rfl⟩
theorem pX4_27 (nm : String) : bq_fp RX4 nm 27 4 5 := ⟨RX4, TX4, 9, rfl, by decide, lwX4, bq_at 184 (by decide +kernel) (by decide +kernel), Or.inl rfl⟩
theorem pX4_30 (nm : String) : bq_fp RX4 nm 30 4 6 := ⟨RX4, TX4, 9, rfl, by decide, lwX4, bq_at 186 (by decide +kernel) (by decide +kernel), Or.inl rfl⟩
theorem pX4_33 (nm : String) : bq_fp RX4 nm 33 4 7 := ⟨RX4, TX4, 9, rfl, by decide, lwX4, bq_at 189 (by decide +kernel) (by decide +kernel), Or.inl rfl⟩
theorem pX4_36 (nm : String) : bq_fp RX4 nm 36 4 8 := ⟨RX4, TX4, 9, rfl, by decide, lwX4, bq_at 192 (by decide +kernel) (by decide +kernel), Or.inl rfl⟩
theorem pX5_9 (nm : String) : bq_fp RX5 nm 9 5 0 := ⟨RX5, TX5, 7, rfl, by decide, lwX5, bq_at 372 (by decide +kernel) (by decide +kernel), Or.inl rfl⟩
theorem pX5_15 : bq_fp RX5 "<init>" 15 5 1 := ⟨RX5, TX5, 7, rfl, by decide, lwX5, bq_at 374 (by decide +kernel) (by decide +kernel), Or.inr ⟨rfl, rfl, rfl⟩⟩
theorem pX5_19 : bq_fp RX5 "<init>" 19 5 2 := ⟨RX5, TX5, 7, rfl, by decide, lwX5, bq_at 376 (by decide +kernel) (by decide +kernel), Or.inr ⟨rfl, rfl, rfl⟩⟩
theorem pX5_22 (nm : String) : bq_fp RX5 nm 22 5 3 := ⟨RX5, TX5, 7, rfl, by decide, lwX5, bq_at 378 (by decide +kernel) (by decide +kernel), Or.inl rfl⟩
theorem pX5_25 : bq_fp RX5 "<init>" 25 5 4 := ⟨RX5, TX5, 7, rfl, by decide, lwX5, bq_at 379 (by decide +kernel) (by decide +kernel), Or.inr ⟨rfl, rfl, rfl⟩⟩
theorem pX5_30 : bq_fp RX5 "<init>" 30 5 5 := ⟨RX5, TX5, 7, rfl, by decide, lwX5, bq_at 380 (by decide +kernel) (by decide +kernel), Or.inr ⟨rfl, rfl, rfl⟩⟩
theorem pX5_37 : bq_fp RX5 "<init>" 37 5 6 := ⟨RX5, TX5, 7, rfl, by decide, lwX5, bq_at 381 (by decide +kernel) (by decide +kernel), Or.inr ⟨rfl, rfl, rfl⟩⟩
theorem pX6_12 : bq_fp RX6 "<init>" 12 6 0 := ⟨RX6, TX6, 2, rfl, by decide, lwX6, bq_at 361 (by decide +kernel) (by decide +kernel), Or.inr ⟨rfl, rfl, rfl⟩⟩
theorem pX6_18 : bq_fp RX6 "<init>" 18 6 1 := ⟨RX6, TX6, 2, rfl, by decide, lwX6, bq_at 365 (by decide +kernel) (by decide +kernel), Or.inr ⟨rfl, rfl, rfl⟩⟩
theorem pX7_7 (nm : String) : bq_fp RX7 nm 7 7 0 := ⟨RX7, TX7, 3, rfl, by decide, lwX7, bq_at 149 (by decide +kernel) (by decide +kernel), Or.inl rfl⟩
theorem pX7_13 (nm : String) : bq_fp RX7 nm 13 7 1 := ⟨RX7, TX7, 3, rfl, by decide, lwX7, bq_at 152 (by decide +kernel) (by decide +kernel), Or.inl rfl⟩
theorem pX7_16 (nm : String) : bq_fp RX7 nm 16 7 2 := ⟨RX7, TX7, 3, rfl, by decide, lwX7, bq_at 155 (by decide +kernel) (by decide +kernel), Or.inl rfl⟩
theorem pX8_9 (nm : String) : bq_fp RX8 nm 9 8 0 := ⟨RX8, TX8, 17, rfl, by decide, lwX8, bq_at 214 (by decide +kernel) (by decide +kernel), Or.inl rfl⟩
theorem pX8_15 (nm : String) : bq_fp RX8 nm 15 8 1 := ⟨RX8, TX8, 17, rfl, by decide, lwX8, bq_at 216 (by decide +kernel) (by decide +kernel), Or.inl rfl⟩
theorem pX8_20 : bq_fp RX8 "<init>" 20 8 2 := ⟨RX8, TX8, 17, rfl, by decide, lwX8, bq_at 218 (by decide +kernel) (by decide +kernel), Or.inr ⟨rfl, rfl, rfl⟩⟩
theorem pX8_24 (nm : String) : bq_fp RX8 nm 24 8 3 := ⟨RX8, TX8, 17, rfl, by decide, lwX8, bq_at 221 (by decide +kernel) (by decide +kernel), Or.inl rfl⟩
theorem pX8_27 : bq_fp RX8 "<init>" 27 8 4 := ⟨RX8, TX8, 17, rfl, by decide, lwX8, bq_at 223 (by decide +kernel) (by decide +kernel), Or.inr ⟨rfl, rfl, rfl⟩⟩
theorem pX8_31 : bq_fp RX8 "<init>" 31 8 5 := ⟨RX8, TX8, 17, rfl, by decide, lwX8, bq_at 226 (by decide +kernel) (by decide +kernel), Or.inr ⟨rfl, rfl, rfl⟩⟩
theorem pX8_37 : bq_fp RX8 "<init>" 37 8 6 := ⟨RX8, TX8, 17, rfl, by decide, lwX8, bq_at 228 (by decide +kernel) (by decide +kernel), Or.inr ⟨rfl, rfl, rfl⟩⟩
theorem pX8_41 : bq_fp RX8 "<init>" 41 8 7 := ⟨RX8, TX8, 17, rfl, by decide, lwX8, bq_at 230 (by decide +kernel) (by decide +kernel), Or.inr ⟨rfl, rfl, rfl⟩⟩
theorem pX8_44 : bq_fp RX8 "<init>" 44 8 8 := ⟨RX8, TX8, 17, rfl, by decide, lwX8, bq_at 232 (by decide +kernel) (by decide +kernel), Or.inr ⟨rfl, rfl, rfl⟩⟩
theorem pX8_47 : bq_fp RX8 "<init>" 47 8 9 := ⟨RX8, TX8, 17, rfl, by decide, lwX8, bq_at 234 (by decide +kernel) (by decide +kernel), Or.inr ⟨rfl, rfl, rfl⟩⟩
theorem pX8_50 (nm : String) : bq_fp RX8 nm 50 8 10 := ⟨RX8, TX8, 17, rfl, by decide, lwX8, bq_at 236 (by decide +kernel) (by decide +kernel), Or.inl rfl⟩
theorem pX8_55 : bq_fp RX8 "<init>" 55 8 11 := ⟨RX8, TX8, 17, rfl, by decide, lwX8, bq_at 238 (by decide +kernel) (by decide +kernel), Or.inr ⟨rfl, rfl, rfl⟩⟩
theorem pX8_59 (nm : String) : bq_fp RX8 nm 59 8 12 := ⟨RX8, TX8, 17, rfl, by decide, lwX8, bq_at 240 (by decide +kernel) (by decide +kernel), Or.inl rfl⟩
theorem pX8_64 : bq_fp RX8 "<init>" 64 8 13 := ⟨RX8, TX8, 17, rfl, by decide, lwX8, bq_at 243 (by decide +kernel) (by decide +kernel), Or.inr ⟨rfl, rfl, rfl⟩⟩
theorem pX8_68 (nm : String) : bq_fp RX8 nm 68 8 14 := ⟨RX8, TX8, 17, rfl, by decide, lwX8, bq_at 246 (by decide +kernel) (by decide +kernel), Or.inl rfl⟩
theorem pX8_72 (nm : String) : bq_fp RX8 nm 72 8 15 := ⟨RX8, TX8, 17, rfl, by decide, lwX8, bq_at 248 (by decide +kernel) (by decide +kernel), Or.inl rfl⟩
theorem pX8_78 : bq_fp RX8 "<init>" 78 8 16 := ⟨RX8, TX8, 17, rfl, by decide, lwX8, bq_at 250 (by decide +kernel) (by decide +kernel), Or.inr ⟨rfl, rfl, rfl⟩⟩
theorem pX9_9 (nm : String) : bq_fp RX9 nm 9 9 0 := ⟨RX9, TX9, 4, rfl, by decide, lwX9, bq_at 124 (by decide +kernel) (by decide +kernel), Or.inl rfl⟩
theorem pX9_15 (nm : String) : bq_fp RX9 nm 15 9 1 := ⟨RX9, TX9, 4, rfl, by decide, lwX9, bq_at 126 (by decide +kernel) (by decide +kernel), Or.inl rfl⟩
theorem pX9_18 (nm : String) : bq_fp RX9 nm 18 9 2 := ⟨RX9, TX9, 4, rfl, by decide, lwX9, bq_at 129 (by decide +kernel) (by decide +kernel), Or.inl rfl⟩
theorem pX9_24 : bq_fp RX9 "<init>" 24 9 3 := ⟨RX9, TX9, 4, rfl, by decide, lwX9, bq_at 131 (by decide +kernel) (by decide +kernel), Or.inr ⟨rfl, rfl, rfl⟩⟩
theorem pX10_9 (nm : String) : bq_fp RX10 nm 9 10 0 := ⟨RX10, TX10, 6, rfl, by decide, lwX10, bq_at 322 (by decide +kernel) (by decide +kernel), Or.inl rfl⟩
theorem pX10_15 : bq_fp RX10 "<init>" 15 10 1 := ⟨RX10, TX10, 6, rfl, by decide, lwX10, bq_at 324 (by decide +kernel) (by decide +kernel), Or.inr ⟨rfl, rfl, rfl⟩⟩
theorem pX10_19 (nm : String) : bq_fp RX10 nm 19 10 2 := ⟨RX10, TX10, 6, rfl, by decide, lwX10, bq_at 325 (by decide +kernel) (by decide +kernel), Or.inl rfl⟩
theorem pX10_22 (nm : String) : bq_fp RX10 nm 22 10 3 := ⟨RX10, TX10, 6, rfl, by decide, lwX10, bq_at 327 (by decide +kernel) (by decide +kernel), Or.inl rfl⟩
theorem pX10_26 (nm : String) : bq_fp RX10 nm 26 10 4 := ⟨RX10, TX10, 6, rfl, by decide, lwX10, bq_at 328 (by decide +kernel) (by decide +kernel), Or.inl rfl⟩
theorem pX10_31 : bq_fp RX10 "<init>" 31 10 5 := ⟨RX10, TX10, 6, rfl, by decide, lwX10, bq_at 330 (by decide +kernel) (by decide +kernel), Or.inr ⟨rfl, rfl, rfl⟩⟩
theorem pX10_48 (nm : String) : bq_fp RX10 nm 48 1 0 := ⟨RX1, TX1, 4, rfl, by decide, lwX1, bq_at 302 (by decide +kernel) (by decide +kernel), Or.inl rfl⟩
theorem pX10_54 (nm : String) : bq_fp RX10 nm 54 1 1 := ⟨RX1, TX1, 4, rfl, by decide, lwX1, bq_at 305 (by decide +kernel) (by decide +kernel), Or.inl rfl⟩
theorem pX10_57 (nm : String) : bq_fp RX10 nm 57 1 2 := ⟨RX1, TX1, 4, rfl, by decide, lwX1, bq_at 308 (by decide +kernel) (by decide +kernel), Or.inl rfl⟩
theorem pX10_63 (nm : String) : bq_fp RX10 nm 63 1 3 := ⟨RX1, TX1, 4, rfl, by decide, lwX1, bq_at 311 (by decide +kernel) (by decide +kernel), Or.inl rfl⟩
theorem pX11_10 : bq_fp RX11 "<init>" 10 11 0 := ⟨RX11, TX11, 11, rfl, by decide, lwX11, bq_at 411 (by decide +kernel) (by decide +kernel), Or.inr ⟨rfl, rfl, rfl⟩⟩
theorem pX11_16 : bq_fp RX11 "<init>" 16 11 1 := ⟨RX11, TX11, 11, rfl, by decide, lwX11, bq_at 412 (by decide +kernel) (by decide +kernel), Or.inr ⟨rfl, rfl, rfl⟩⟩
theorem pX11_20 (nm : String) : bq_fp RX11 nm 20 11 2 := ⟨RX11, TX11, 11, rfl, by decide, lwX11, bq_at 413 (by decide +kernel) (by decide +kernel), Or.inl rfl⟩
theorem pX11_24 : bq_fp RX11 "<init>" 24 11 3 := ⟨RX11, TX11, 11, rfl, by decide, lwX11, bq_at 414 (by decide +kernel) (by decide +kernel), Or.inr ⟨rfl, rfl, rfl⟩⟩
theorem pX11_27 (nm : String) : bq_fp RX11 nm 27 11 4 := ⟨RX11, TX11, 11, rfl, by decide, lwX11, bq_at 415 (by decide +kernel) (by decide +kernel), Or.inl rfl⟩
theorem pX11_34 : bq_fp RX11 "<init>" 34 11 5 := ⟨RX11, TX11, 11, rfl, by decide, lwX11, bq_at 416 (by decide +kernel) (by decide +kernel), Or.inr ⟨rfl, rfl, rfl⟩⟩
theorem pX11_41 : bq_fp RX11 "<init>" 41 11 6 := ⟨RX11, TX11, 11, rfl, by decide, lwX11, bq_at 417 (by decide +kernel) (by decide +kernel), Or.inr ⟨rfl, rfl, rfl⟩⟩
theorem pX11_48 : bq_fp RX11 "<init>" 48 11 7 := ⟨RX11, TX11, 11, rfl, by decide, lwX11, bq_at 418 (by decide +kernel) (by decide +kernel), Or.inr ⟨rfl, rfl, rfl⟩⟩
theorem pX11_55 : bq_fp RX11 "<init>" 55 11 8 := ⟨RX11, TX11, 11, rfl, by decide, lwX11, bq_at 419 (by decide +kernel) (by decide +kernel), Or.inr ⟨rfl, rfl, rfl⟩⟩
theorem pX11_59 : bq_fp RX11 "<init>" 59 11 9 := ⟨RX11, TX11, 11, rfl, by decide, lwX11, bq_at 420 (by decide +kernel) (by decide +kernel), Or.inr ⟨rfl, rfl, rfl⟩⟩
theorem pX11_62 (nm : String) : bq_fp RX11 nm 62 11 10 := ⟨RX11, TX11, 11, rfl, by decide, lwX11, bq_at 421 (by decide +kernel) (by decide +kernel), Or.inl rfl⟩
theorem pX11_92 (nm : String) : bq_fp RX11 nm 92 9 0 := ⟨RX9, TX9, 4, rfl, by decide, lwX9, bq_at 125 (by decide +kernel) (by decide +kernel), Or.inl rfl⟩
theorem pX11_101 (nm : String) : bq_fp RX11 nm 101 9 1 := ⟨RX9, TX9, 4, rfl, by decide, lwX9, bq_at 127 (by decide +kernel) (by decide +kernel), Or.inl rfl⟩
theorem pX11_129 (nm : String) : bq_fp RX11 nm 129 8 1 := ⟨RX8, TX8, 17, rfl, by decide, lwX8, bq_at 217 (by decide +kernel) (by decide +kernel), Or.inl rfl⟩
theorem pX11_139 (nm : String) : bq_fp RX11 nm 139 7 0 := ⟨RX7, TX7, 3, rfl, by decide, lwX7, bq_at 150 (by decide +kernel) (by decide +kernel), Or.inl rfl⟩
theorem pX11_144 (nm : String) : bq_fp RX11 nm 144 7 1 := ⟨RX7, TX7, 3, rfl, by decide, lwX7, bq_at 153 (by decide +kernel) (by decide +kernel), Or.inl rfl⟩
theorem pX11_147 (nm : String) : bq_fp RX11 nm 147 7 2 := ⟨RX7, TX7, 3, rfl, by decide, lwX7, bq_at 156 (by decide +kernel) (by decide +kernel), Or.inl rfl⟩
theorem pX11_132 (nm : String) : bq_fp RX11 nm 132 8 10 := ⟨RX8, TX8, 17, rfl, by decide, lwX8, bq_at 237 (by decide +kernel) (by decide +kernel), Or.inl rfl⟩
theorem pX11_158 (nm : String) : bq_fp RX11 nm 158 4 0 := ⟨RX4, TX4, 9, rfl, by decide, lwX4, bq_at 171 (by decide +kernel) (by decide +kernel), Or.inl rfl⟩
theorem pX11_163 (nm : String) : bq_fp RX11 nm 163 4 1 := ⟨RX4, TX4, 9, rfl, by decide, lwX4, bq_at 174 (by decide +kernel) (by decide +kernel), Or.inl rfl⟩
theorem pX11_166 (nm : String) : bq_fp RX11 nm 166 4 2 := ⟨RX4, TX4, 9, rfl, by decide, lwX4, bq_at 177 (by decide +kernel) (by decide +kernel), Or.inl rfl⟩
theorem pX11_169 (nm : String) : bq_fp RX11 nm 169 4 3 := ⟨RX4, TX4, 9, rfl, by decide, lwX4, bq_at 179 (by decide +kernel) (by decide +kernel), Or.inl rfl⟩
theorem pX11_172 (nm : String) : bq_fp RX11 nm 172 4 4 := ⟨RX4, TX4, 9, rfl, by decide, lwX4, bq_at 182 (by decide +kernel) (by decide +kernel), Or.inl rfl⟩
theorem pX11_150 (nm : String) : bq_fp RX11 nm 150 8 12 := ⟨RX8, TX8, 17, rfl, by decide, lwX8, bq_at 242 (by decide +kernel) (by decide +kernel), Or.inl rfl⟩
theorem pX11_207 (nm : String) : bq_fp RX11 nm 207 10 0 := ⟨RX10, TX10, 6, rfl, by decide, lwX10, bq_at 323 (by decide +kernel) (by decide +kernel), Or.inl rfl⟩
theorem pX11_284 (nm : String) : bq_fp RX11 nm 284 8 15 := ⟨RX8, TX8, 17, rfl, by decide, lwX8, bq_at 249 (by decide +kernel) (by decide +kernel), Or.inl rfl⟩
theorem pX11_366 (nm : String) : bq_fp RX11 nm 366 4 6 := ⟨RX4, TX4, 9, rfl, by decide, lwX4, bq_at 188 (by decide +kernel) (by decide +kernel), Or.inl rfl⟩
theorem pX11_369 (nm : String) : bq_fp RX11 nm 369 4 7 := ⟨RX4, TX4, 9, rfl, by decide, lwX4, bq_at 191 (by decide +kernel) (by decide +kernel), Or.inl rfl⟩
theorem pX11_372 (nm : String) : bq_fp RX11 nm 372 4 8 := ⟨RX4, TX4, 9, rfl, by decide, lwX4, bq_at 194 (by decide +kernel) (by decide +kernel), Or.inl rfl⟩
theorem pX11_270 (nm : String) : bq_fp RX11 nm 270 4 5 := ⟨RX4, TX4, 9, rfl, by decide, lwX4, bq_at 185 (by decide +kernel) (by decide +kernel), Or.inl rfl⟩
theorem pX11_276 (nm : String) : bq_fp RX11 nm 276 8 14 := ⟨RX8, TX8, 17, rfl, by decide, lwX8, bq_at 247 (by decide +kernel) (by decide +kernel), Or.inl rfl⟩
theorem pX11_239 (nm : String) : bq_fp RX11 nm 239 9 2 := ⟨RX9, TX9, 4, rfl, by decide, lwX9, bq_at 130 (by decide +kernel) (by decide +kernel), Or.inl rfl⟩
theorem pX11_157 (nm : String) : bq_fp RX11 nm 157 8 0 := ⟨RX8, TX8, 17, rfl, by decide, lwX8, bq_at 215 (by decide +kernel) (by decide +kernel), Or.inl rfl⟩
theorem pX12_9 : bq_fp RX12 "<init>" 9 12 0 := ⟨RX12, TX12, 21, rfl, by decide, lwX12, bq_at 867 (by decide +kernel) (by decide +kernel), Or.inr ⟨rfl, rfl, rfl⟩⟩
theorem pX12_13 : bq_fp RX12 "<init>" 13 12 1 := ⟨RX12, TX12, 21, rfl, by decide, lwX12, bq_at 868 (by decide +kernel) (by decide +kernel), Or.inr ⟨rfl, rfl, rfl⟩⟩
theorem pX12_16 : bq_fp RX12 "<init>" 16 12 3 := ⟨RX12, TX12, 21, rfl, by decide, lwX12, bq_at 870 (by decide +kernel) (by decide +kernel), Or.inr ⟨rfl, rfl, rfl⟩⟩
theorem pX12_19 : bq_fp RX12 "<init>" 19 12 5 := ⟨RX12, TX12, 21, rfl, by decide, lwX12, bq_at 872 (by decide +kernel) (by decide +kernel), Or.inr ⟨rfl, rfl, rfl⟩⟩
theorem pX12_22 : bq_fp RX12 "<init>" 22 12 8 := ⟨RX12, TX12, 21, rfl, by decide, lwX12, bq_at 875 (by decide +kernel) (by decide +kernel), Or.inr ⟨rfl, rfl, rfl⟩⟩
theorem pX12_25 : bq_fp RX12 "<init>" 25 12 10 := ⟨RX12, TX12, 21, rfl, by decide, lwX12, bq_at 877 (by decide +kernel) (by decide +kernel), Or.inr ⟨rfl, rfl, rfl⟩⟩
theorem pX12_28 : bq_fp RX12 "<init>" 28 12 11 := ⟨RX12, TX12, 21, rfl, by decide, lwX12, bq_at 878 (by decide +kernel) (by decide +kernel), Or.inr ⟨rfl, rfl, rfl⟩⟩
theorem pX12_31 : bq_fp RX12 "<init>" 31 12 12 := ⟨RX12, TX12, 21, rfl, by decide, lwX12, bq_at 879 (by decide +kernel) (by decide +kernel), Or.inr ⟨rfl, rfl, rfl⟩⟩
theorem pX12_34 : bq_fp RX12 "<init>" 34 12 13 := ⟨RX12, TX12, 21, rfl, by decide, lwX12, bq_at 880 (by decide +kernel) (by decide +kernel), Or.inr ⟨rfl, rfl, rfl⟩⟩
theorem pX12_37 : bq_fp RX12 "<init>" 37 12 14 := ⟨RX12, TX12, 21, rfl, by decide, lwX12, bq_at 881 (by decide +kernel) (by decide +kernel), Or.inr ⟨rfl, rfl, rfl⟩⟩
theorem pX12_40 : bq_fp RX12 "<init>" 40 12 15 := ⟨RX12, TX12, 21, rfl, by decide, lwX12, bq_at 882 (by decide +kernel) (by decide +kernel), Or.inr ⟨rfl, rfl, rfl⟩⟩
theorem pX12_44 : bq_fp RX12 "<init>" 44 12 16 := ⟨RX12, TX12, 21, rfl, by decide, lwX12, bq_at 883 (by decide +kernel) (by decide +kernel), Or.inr ⟨rfl, rfl, rfl⟩⟩
theorem pX12_47 : bq_fp RX12 "<init>" 47 12 20 := ⟨RX12, TX12, 21, rfl, by decide, lwX12, bq_at 887 (by decide +kernel) (by decide +kernel), Or.inr ⟨rfl, rfl, rfl⟩⟩
theorem pX12_50 (nm : String) : bq_fp RX12 nm 50 12 7 := ⟨RX12, TX12, 21, rfl, by decide, lwX12, bq_at 874 (by decide +kernel) (by decide +kernel), Or.inl rfl⟩
theorem pX12_54 (nm : String) : bq_fp RX12 nm 54 12 2 := ⟨RX12, TX12, 21, rfl, by decide, lwX12, bq_at 869 (by decide +kernel) (by decide +kernel), Or.inl rfl⟩
theorem pX12_160 (nm : String) : bq_fp RX12 nm 160 12 17 := ⟨RX12, TX12, 21, rfl, by decide, lwX12, bq_at 884 (by decide +kernel) (by decide +kernel), Or.inl rfl⟩
theorem pX12_175 (nm : String) : bq_fp RX12 nm 175 12 9 := ⟨RX12, TX12, 21, rfl, by decide, lwX12, bq_at 876 (by decide +kernel) (by decide +kernel), Or.inl rfl⟩
theorem pX12_181 (nm : String) : bq_fp RX12 nm 181 12 19 := ⟨RX12, TX12, 21, rfl, by decide, lwX12, bq_at 886 (by decide +kernel) (by decide +kernel), Or.inl rfl⟩
theorem pX12_178 (nm : String) : bq_fp RX12 nm 178 12 18 := ⟨RX12, TX12, 21, rfl, by decide, lwX12, bq_at 885 (by decide +kernel) (by decide +kernel), Or.inl rfl⟩
theorem pX12_61 (nm : String) : bq_fp RX12 nm 61 12 6 := ⟨RX12, TX12, 21, rfl, by decide, lwX12, bq_at 873 (by decide +kernel) (by decide +kernel), Or.inl rfl⟩
theorem pX12_246 (nm : String) : bq_fp RX12 nm 246 12 4 := ⟨RX12, TX12, 21, rfl, by decide, lwX12, bq_at 871 (by decide +kernel) (by decide +kernel), Or.inl rfl⟩
theorem kX0_3 : Cond.methodLink RX0 3 objectInit ∈ bq_TB ∧ Cond.instanceMethod objectInit ∈ bq_TB ∧ Cond.code objectInit ⟨#[0xb1]⟩ 1 none ∈ bq_TB := ⟨bq_at 90 (by decide +kernel) (by decide +kernel), bq_at 75 (by decide +kernel) (by decide +kernel), bq_at 76 (by decide +kernel) (by decide +kernel)⟩
theorem kX0_15 : Cond.methodLink RX0 15 arraycopyName ∈ bq_TB ∧ Cond.native arraycopyName ∈ bq_TB ∧ Cond.static arraycopyName ∈ bq_TB ∧ Cond.initialized "java/lang/System" ∈ bq_TB := ⟨bq_at 481 (by decide +kernel) (by decide +kernel), bq_at 483 (by decide +kernel) (by decide +kernel), bq_at 482 (by decide +kernel) (by decide +kernel), bq_at 67 (by decide +kernel) (by decide +kernel)⟩
theorem kX0_21 : bq_cV RX0 21 mX0_total 0 := ⟨bq_at 612 (by decide +kernel) (by decide +kernel), bq_at 458 (by decide +kernel) (by decide +kernel), bq_at 459 (by decide +kernel) (by decide +kernel), bq_at 56 (by decide +kernel) (by decide +kernel), bq_at 460 (by decide +kernel) (by decide +kernel), ⟨by decide +kernel, by decide +kernel, by decide +kernel⟩⟩
theorem kX0_25 : bq_cV RX0 25 mX0_alcohol 1 := ⟨bq_at 613 (by decide +kernel) (by decide +kernel), bq_at 614 (by decide +kernel) (by decide +kernel), bq_at 615 (by decide +kernel) (by decide +kernel), bq_at 56 (by decide +kernel) (by decide +kernel), bq_at 616 (by decide +kernel) (by decide +kernel), ⟨by decide +kernel, by decide +kernel, by decide +kernel⟩⟩
theorem kX1_1 : Cond.methodLink RX1 1 objectInit ∈ bq_TB ∧ Cond.instanceMethod objectInit ∈ bq_TB ∧ Cond.code objectInit ⟨#[0xb1]⟩ 1 none ∈ bq_TB := ⟨bq_at 300 (by decide +kernel) (by decide +kernel), bq_at 75 (by decide +kernel) (by decide +kernel), bq_at 76 (by decide +kernel) (by decide +kernel)⟩
theorem kX2_3 : Cond.methodLink RX2 3 objectInit ∈ bq_TB ∧ Cond.instanceMethod objectInit ∈ bq_TB ∧ Cond.code objectInit ⟨#[0xb1]⟩ 1 none ∈ bq_TB := ⟨bq_at 108 (by decide +kernel) (by decide +kernel), bq_at 75 (by decide +kernel) (by decide +kernel), bq_at 76 (by decide +kernel) (by decide +kernel)⟩
theorem kX2_19 : Cond.methodLink RX2 19 arraycopyName ∈ bq_TB ∧ Cond.native arraycopyName ∈ bq_TB ∧ Cond.static arraycopyName ∈ bq_TB ∧ Cond.initialized "java/lang/System" ∈ bq_TB := ⟨bq_at 498 (by decide +kernel) (by decide +kernel), bq_at 483 (by decide +kernel) (by decide +kernel), bq_at 482 (by decide +kernel) (by decide +kernel), bq_at 67 (by decide +kernel) (by decide +kernel)⟩
theorem kX2_25 : bq_cT RX2 25 mX11_outside 3 := ⟨by decide +kernel, bq_at 454 (by decide +kernel) (by decide +kernel), bq_at 54 (by decide +kernel) (by decide +kernel), bq_at 455 (by decide +kernel) (by decide +kernel), ⟨by decide +kernel, by decide +kernel, by decide +kernel⟩⟩
theorem kX3_3 : Cond.methodLink RX3 3 objectInit ∈ bq_TB ∧ Cond.instanceMethod objectInit ∈ bq_TB ∧ Cond.code objectInit ⟨#[0xb1]⟩ 1 none ∈ bq_TB := ⟨bq_at 402 (by decide +kernel) (by decide +kernel), bq_at 75 (by decide +kernel) (by decide +kernel), bq_at 76 (by decide +kernel) (by decide +kernel)⟩
theorem kX3_11 : bq_cJ RX3 11 mX6_init 0 := ⟨by decide +kernel, bq_at 356 (by decide +kernel) (by decide +kernel), rfl, bq_at 64 (by decide +kernel) (by decide +kernel), bq_at 357 (by decide +kernel) (by decide +kernel), ⟨by decide +kernel, by decide +kernel, by decide +kernel⟩⟩
theorem kX3_18 : bq_cV RX3 18 mX0_total 0 := ⟨bq_at 758 (by decide +kernel) (by decide +kernel), bq_at 458 (by decide +kernel) (by decide +kernel), bq_at 459 (by decide +kernel) (by decide +kernel), bq_at 56 (by decide +kernel) (by decide +kernel), bq_at 460 (by decide +kernel) (by decide +kernel), ⟨by decide +kernel, by decide +kernel, by decide +kernel⟩⟩
theorem kX3_24 : bq_wmaxL RX3 24 := ⟨bq_at 759 (by decide +kernel) (by decide +kernel), bq_at 760 (by decide +kernel) (by decide +kernel), bq_at 68 (by decide +kernel) (by decide +kernel), bq_at 761 (by decide +kernel) (by decide +kernel)⟩
theorem kX3_30 : bq_wminL RX3 30 := ⟨bq_at 762 (by decide +kernel) (by decide +kernel), bq_at 763 (by decide +kernel) (by decide +kernel), bq_at 68 (by decide +kernel) (by decide +kernel), bq_at 764 (by decide +kernel) (by decide +kernel)⟩
theorem kX3_33 : bq_cV RX3 33 mX0_alcohol 1 := ⟨bq_at 765 (by decide +kernel) (by decide +kernel), bq_at 614 (by decide +kernel) (by decide +kernel), bq_at 615 (by decide +kernel) (by decide +kernel), bq_at 56 (by decide +kernel) (by decide +kernel), bq_at 616 (by decide +kernel) (by decide +kernel), ⟨by decide +kernel, by decide +kernel, by decide +kernel⟩⟩
theorem kX3_37 : bq_cV RX3 37 mX0_sumOfStrengths 1 := ⟨bq_at 766 (by decide +kernel) (by decide +kernel), bq_at 767 (by decide +kernel) (by decide +kernel), bq_at 768 (by decide +kernel) (by decide +kernel), bq_at 56 (by decide +kernel) (by decide +kernel), bq_at 769 (by decide +kernel) (by decide +kernel), ⟨by decide +kernel, by decide +kernel, by decide +kernel⟩⟩
theorem kX3_40 : bq_cV RX3 40 mX3_distanceAt 6 := ⟨bq_at 770 (by decide +kernel) (by decide +kernel), bq_at 772 (by decide +kernel) (by decide +kernel), bq_at 19 (by decide +kernel) (by decide +kernel), bq_at 65 (by decide +kernel) (by decide +kernel), bq_at 773 (by decide +kernel) (by decide +kernel), ⟨by decide +kernel, by decide +kernel, by decide +kernel⟩⟩
theorem kX3_44 : bq_wabsL RX3 44 := ⟨bq_at 775 (by decide +kernel) (by decide +kernel), bq_at 776 (by decide +kernel) (by decide +kernel), bq_at 68 (by decide +kernel) (by decide +kernel), bq_at 777 (by decide +kernel) (by decide +kernel)⟩
theorem kX3_48 : bq_cV RX3 48 mX6_take 2 := ⟨bq_at 774 (by decide +kernel) (by decide +kernel), bq_at 533 (by decide +kernel) (by decide +kernel), bq_at 534 (by decide +kernel) (by decide +kernel), bq_at 64 (by decide +kernel) (by decide +kernel), bq_at 535 (by decide +kernel) (by decide +kernel), ⟨by decide +kernel, by decide +kernel, by decide +kernel⟩⟩
theorem kX4_3 : Cond.methodLink RX4 3 objectInit ∈ bq_TB ∧ Cond.instanceMethod objectInit ∈ bq_TB ∧ Cond.code objectInit ⟨#[0xb1]⟩ 1 none ∈ bq_TB := ⟨bq_at 169 (by decide +kernel) (by decide +kernel), bq_at 75 (by decide +kernel) (by decide +kernel), bq_at 76 (by decide +kernel) (by decide +kernel)⟩
theorem kX5_3 : Cond.methodLink RX5 3 objectInit ∈ bq_TB ∧ Cond.instanceMethod objectInit ∈ bq_TB ∧ Cond.code objectInit ⟨#[0xb1]⟩ 1 none ∈ bq_TB := ⟨bq_at 350 (by decide +kernel) (by decide +kernel), bq_at 75 (by decide +kernel) (by decide +kernel), bq_at 76 (by decide +kernel) (by decide +kernel)⟩
theorem kX5_36 : bq_cJ RX5 36 mX6_init 0 := ⟨by decide +kernel, bq_at 356 (by decide +kernel) (by decide +kernel), rfl, bq_at 64 (by decide +kernel) (by decide +kernel), bq_at 357 (by decide +kernel) (by decide +kernel), ⟨by decide +kernel, by decide +kernel, by decide +kernel⟩⟩
theorem kX5_41 : bq_cJ RX5 41 mX0_init 0 := ⟨by decide +kernel, bq_at 88 (by decide +kernel) (by decide +kernel), rfl, bq_at 56 (by decide +kernel) (by decide +kernel), bq_at 89 (by decide +kernel) (by decide +kernel), ⟨by decide +kernel, by decide +kernel, by decide +kernel⟩⟩
theorem kX5_42 : bq_cV RX5 42 mX5_queueOpenOrders 1 := ⟨bq_at 641 (by decide +kernel) (by decide +kernel), bq_at 643 (by decide +kernel) (by decide +kernel), bq_at 8 (by decide +kernel) (by decide +kernel), bq_at 63 (by decide +kernel) (by decide +kernel), bq_at 644 (by decide +kernel) (by decide +kernel), ⟨by decide +kernel, by decide +kernel, by decide +kernel⟩⟩
theorem kX5_57 : bq_cV RX5 57 mX0_copyFrom 1 := ⟨bq_at 649 (by decide +kernel) (by decide +kernel), bq_at 478 (by decide +kernel) (by decide +kernel), bq_at 479 (by decide +kernel) (by decide +kernel), bq_at 56 (by decide +kernel) (by decide +kernel), bq_at 480 (by decide +kernel) (by decide +kernel), ⟨by decide +kernel, by decide +kernel, by decide +kernel⟩⟩
theorem kX5_67 : bq_cV RX5 67 mX5_bestTank 2 := ⟨bq_at 650 (by decide +kernel) (by decide +kernel), bq_at 652 (by decide +kernel) (by decide +kernel), bq_at 9 (by decide +kernel) (by decide +kernel), bq_at 63 (by decide +kernel) (by decide +kernel), bq_at 653 (by decide +kernel) (by decide +kernel), ⟨by decide +kernel, by decide +kernel, by decide +kernel⟩⟩
theorem kX5_76 : bq_cV RX5 76 mX6_take 2 := ⟨bq_at 657 (by decide +kernel) (by decide +kernel), bq_at 533 (by decide +kernel) (by decide +kernel), bq_at 534 (by decide +kernel) (by decide +kernel), bq_at 64 (by decide +kernel) (by decide +kernel), bq_at 535 (by decide +kernel) (by decide +kernel), ⟨by decide +kernel, by decide +kernel, by decide +kernel⟩⟩
theorem kX5_83 : bq_cV RX5 83 mX0_remove 1 := ⟨bq_at 658 (by decide +kernel) (by decide +kernel), bq_at 546 (by decide +kernel) (by decide +kernel), bq_at 547 (by decide +kernel) (by decide +kernel), bq_at 56 (by decide +kernel) (by decide +kernel), bq_at 548 (by decide +kernel) (by decide +kernel), ⟨by decide +kernel, by decide +kernel, by decide +kernel⟩⟩
theorem kX5_92 : bq_cV RX5 92 mX4_aheadOf 1 := ⟨bq_at 645 (by decide +kernel) (by decide +kernel), bq_at 646 (by decide +kernel) (by decide +kernel), bq_at 647 (by decide +kernel) (by decide +kernel), bq_at 60 (by decide +kernel) (by decide +kernel), bq_at 648 (by decide +kernel) (by decide +kernel), ⟨by decide +kernel, by decide +kernel, by decide +kernel⟩⟩
theorem kX5_96 : bq_cV RX5 96 mX0_total 0 := ⟨bq_at 654 (by decide +kernel) (by decide +kernel), bq_at 458 (by decide +kernel) (by decide +kernel), bq_at 459 (by decide +kernel) (by decide +kernel), bq_at 56 (by decide +kernel) (by decide +kernel), bq_at 460 (by decide +kernel) (by decide +kernel), ⟨by decide +kernel, by decide +kernel, by decide +kernel⟩⟩
theorem kX5_100 : bq_cV RX5 100 mX0_strength 1 := ⟨bq_at 655 (by decide +kernel) (by decide +kernel), bq_at 609 (by decide +kernel) (by decide +kernel), bq_at 610 (by decide +kernel) (by decide +kernel), bq_at 56 (by decide +kernel) (by decide +kernel), bq_at 611 (by decide +kernel) (by decide +kernel), ⟨by decide +kernel, by decide +kernel, by decide +kernel⟩⟩
theorem kX5_104 : bq_cV RX5 104 mX4_allows 1 := ⟨bq_at 656 (by decide +kernel) (by decide +kernel), bq_at 618 (by decide +kernel) (by decide +kernel), bq_at 619 (by decide +kernel) (by decide +kernel), bq_at 60 (by decide +kernel) (by decide +kernel), bq_at 620 (by decide +kernel) (by decide +kernel), ⟨by decide +kernel, by decide +kernel, by decide +kernel⟩⟩
theorem kX6_3 : Cond.methodLink RX6 3 objectInit ∈ bq_TB ∧ Cond.instanceMethod objectInit ∈ bq_TB ∧ Cond.code objectInit ⟨#[0xb1]⟩ 1 none ∈ bq_TB := ⟨bq_at 358 (by decide +kernel) (by decide +kernel), bq_at 75 (by decide +kernel) (by decide +kernel), bq_at 76 (by decide +kernel) (by decide +kernel)⟩
theorem kX6_11 : bq_cJ RX6 11 mX0_init 0 := ⟨by decide +kernel, bq_at 88 (by decide +kernel) (by decide +kernel), rfl, bq_at 56 (by decide +kernel) (by decide +kernel), bq_at 89 (by decide +kernel) (by decide +kernel), ⟨by decide +kernel, by decide +kernel, by decide +kernel⟩⟩
theorem kX6_22 : bq_cV RX6 22 mX0_total 0 := ⟨bq_at 536 (by decide +kernel) (by decide +kernel), bq_at 458 (by decide +kernel) (by decide +kernel), bq_at 459 (by decide +kernel) (by decide +kernel), bq_at 56 (by decide +kernel) (by decide +kernel), bq_at 460 (by decide +kernel) (by decide +kernel), ⟨by decide +kernel, by decide +kernel, by decide +kernel⟩⟩
theorem kX6_29 : bq_cV RX6 29 mX6_takeOneMore 0 := ⟨bq_at 537 (by decide +kernel) (by decide +kernel), bq_at 539 (by decide +kernel) (by decide +kernel), bq_at 4 (by decide +kernel) (by decide +kernel), bq_at 64 (by decide +kernel) (by decide +kernel), bq_at 540 (by decide +kernel) (by decide +kernel), ⟨by decide +kernel, by decide +kernel, by decide +kernel⟩⟩
theorem kX7_1 : Cond.methodLink RX7 1 objectInit ∈ bq_TB ∧ Cond.instanceMethod objectInit ∈ bq_TB ∧ Cond.code objectInit ⟨#[0xb1]⟩ 1 none ∈ bq_TB := ⟨bq_at 148 (by decide +kernel) (by decide +kernel), bq_at 75 (by decide +kernel) (by decide +kernel), bq_at 76 (by decide +kernel) (by decide +kernel)⟩
theorem kX8_3 : Cond.methodLink RX8 3 objectInit ∈ bq_TB ∧ Cond.instanceMethod objectInit ∈ bq_TB ∧ Cond.code objectInit ⟨#[0xb1]⟩ 1 none ∈ bq_TB := ⟨bq_at 82 (by decide +kernel) (by decide +kernel), bq_at 75 (by decide +kernel) (by decide +kernel), bq_at 76 (by decide +kernel) (by decide +kernel)⟩
theorem kX8_36 : bq_cJ RX8 36 mX0_init 0 := ⟨by decide +kernel, bq_at 88 (by decide +kernel) (by decide +kernel), rfl, bq_at 56 (by decide +kernel) (by decide +kernel), bq_at 89 (by decide +kernel) (by decide +kernel), ⟨by decide +kernel, by decide +kernel, by decide +kernel⟩⟩
theorem kX8_77 : bq_cJ RX8 77 mX2_init 0 := ⟨by decide +kernel, bq_at 106 (by decide +kernel) (by decide +kernel), rfl, bq_at 57 (by decide +kernel) (by decide +kernel), bq_at 107 (by decide +kernel) (by decide +kernel), ⟨by decide +kernel, by decide +kernel, by decide +kernel⟩⟩
theorem kX8_82 : bq_cJ RX8 82 mX9_init 0 := ⟨by decide +kernel, bq_at 119 (by decide +kernel) (by decide +kernel), rfl, bq_at 58 (by decide +kernel) (by decide +kernel), bq_at 120 (by decide +kernel) (by decide +kernel), ⟨by decide +kernel, by decide +kernel, by decide +kernel⟩⟩
theorem kX8_83 : bq_cJ RX8 83 mX7_init 0 := ⟨by decide +kernel, bq_at 146 (by decide +kernel) (by decide +kernel), rfl, bq_at 59 (by decide +kernel) (by decide +kernel), bq_at 147 (by decide +kernel) (by decide +kernel), ⟨by decide +kernel, by decide +kernel, by decide +kernel⟩⟩
theorem kX8_84 : bq_cJ RX8 84 mX4_init 0 := ⟨by decide +kernel, bq_at 167 (by decide +kernel) (by decide +kernel), rfl, bq_at 60 (by decide +kernel) (by decide +kernel), bq_at 168 (by decide +kernel) (by decide +kernel), ⟨by decide +kernel, by decide +kernel, by decide +kernel⟩⟩
theorem kX8_85 : bq_cV RX8 85 mX9_copyFrom 1 := ⟨bq_at 473 (by decide +kernel) (by decide +kernel), bq_at 474 (by decide +kernel) (by decide +kernel), bq_at 475 (by decide +kernel) (by decide +kernel), bq_at 58 (by decide +kernel) (by decide +kernel), bq_at 476 (by decide +kernel) (by decide +kernel), ⟨by decide +kernel, by decide +kernel, by decide +kernel⟩⟩
theorem kX8_89 : Cond.methodLink RX8 89 arraycopyName ∈ bq_TB ∧ Cond.native arraycopyName ∈ bq_TB ∧ Cond.static arraycopyName ∈ bq_TB ∧ Cond.initialized "java/lang/System" ∈ bq_TB := ⟨bq_at 484 (by decide +kernel) (by decide +kernel), bq_at 483 (by decide +kernel) (by decide +kernel), bq_at 482 (by decide +kernel) (by decide +kernel), bq_at 67 (by decide +kernel) (by decide +kernel)⟩
theorem kX8_95 : bq_cV RX8 95 mX0_copyFrom 1 := ⟨bq_at 485 (by decide +kernel) (by decide +kernel), bq_at 478 (by decide +kernel) (by decide +kernel), bq_at 479 (by decide +kernel) (by decide +kernel), bq_at 56 (by decide +kernel) (by decide +kernel), bq_at 480 (by decide +kernel) (by decide +kernel), ⟨by decide +kernel, by decide +kernel, by decide +kernel⟩⟩
theorem kX8_98 : bq_cV RX8 98 mX7_copyFrom 1 := ⟨bq_at 486 (by decide +kernel) (by decide +kernel), bq_at 487 (by decide +kernel) (by decide +kernel), bq_at 488 (by decide +kernel) (by decide +kernel), bq_at 59 (by decide +kernel) (by decide +kernel), bq_at 489 (by decide +kernel) (by decide +kernel), ⟨by decide +kernel, by decide +kernel, by decide +kernel⟩⟩
theorem kX8_101 : bq_cV RX8 101 mX4_copyFrom 1 := ⟨bq_at 490 (by decide +kernel) (by decide +kernel), bq_at 491 (by decide +kernel) (by decide +kernel), bq_at 492 (by decide +kernel) (by decide +kernel), bq_at 60 (by decide +kernel) (by decide +kernel), bq_at 493 (by decide +kernel) (by decide +kernel), ⟨by decide +kernel, by decide +kernel, by decide +kernel⟩⟩
theorem kX8_104 : bq_cV RX8 104 mX2_copyFrom 1 := ⟨bq_at 494 (by decide +kernel) (by decide +kernel), bq_at 495 (by decide +kernel) (by decide +kernel), bq_at 496 (by decide +kernel) (by decide +kernel), bq_at 57 (by decide +kernel) (by decide +kernel), bq_at 497 (by decide +kernel) (by decide +kernel), ⟨by decide +kernel, by decide +kernel, by decide +kernel⟩⟩
theorem kX8_107 : bq_cT RX8 107 mX11_outside 3 := ⟨by decide +kernel, bq_at 454 (by decide +kernel) (by decide +kernel), bq_at 54 (by decide +kernel) (by decide +kernel), bq_at 455 (by decide +kernel) (by decide +kernel), ⟨by decide +kernel, by decide +kernel, by decide +kernel⟩⟩
theorem kX8_111 : bq_cV RX8 111 mX2_write 4 := ⟨bq_at 520 (by decide +kernel) (by decide +kernel), bq_at 521 (by decide +kernel) (by decide +kernel), bq_at 522 (by decide +kernel) (by decide +kernel), bq_at 57 (by decide +kernel) (by decide +kernel), bq_at 523 (by decide +kernel) (by decide +kernel), ⟨by decide +kernel, by decide +kernel, by decide +kernel⟩⟩
theorem kX8_118 : bq_cV RX8 118 mX0_add 1 := ⟨bq_at 554 (by decide +kernel) (by decide +kernel), bq_at 555 (by decide +kernel) (by decide +kernel), bq_at 556 (by decide +kernel) (by decide +kernel), bq_at 56 (by decide +kernel) (by decide +kernel), bq_at 557 (by decide +kernel) (by decide +kernel), ⟨by decide +kernel, by decide +kernel, by decide +kernel⟩⟩
theorem kX8_121 : bq_cV RX8 121 mX8_note 3 := ⟨bq_at 558 (by decide +kernel) (by decide +kernel), bq_at 517 (by decide +kernel) (by decide +kernel), bq_at 518 (by decide +kernel) (by decide +kernel), bq_at 55 (by decide +kernel) (by decide +kernel), bq_at 519 (by decide +kernel) (by decide +kernel), ⟨by decide +kernel, by decide +kernel, by decide +kernel⟩⟩
theorem kX8_128 : bq_cV RX8 128 mX0_total 0 := ⟨bq_at 831 (by decide +kernel) (by decide +kernel), bq_at 458 (by decide +kernel) (by decide +kernel), bq_at 459 (by decide +kernel) (by decide +kernel), bq_at 56 (by decide +kernel) (by decide +kernel), bq_at 460 (by decide +kernel) (by decide +kernel), ⟨by decide +kernel, by decide +kernel, by decide +kernel⟩⟩
theorem kX8_132 : bq_cV RX8 132 mX0_alcohol 1 := ⟨bq_at 836 (by decide +kernel) (by decide +kernel), bq_at 614 (by decide +kernel) (by decide +kernel), bq_at 615 (by decide +kernel) (by decide +kernel), bq_at 56 (by decide +kernel) (by decide +kernel), bq_at 616 (by decide +kernel) (by decide +kernel), ⟨by decide +kernel, by decide +kernel, by decide +kernel⟩⟩
theorem kX8_155 : bq_cV RX8 155 mX8_rateFor 2 := ⟨bq_at 627 (by decide +kernel) (by decide +kernel), bq_at 628 (by decide +kernel) (by decide +kernel), bq_at 629 (by decide +kernel) (by decide +kernel), bq_at 55 (by decide +kernel) (by decide +kernel), bq_at 630 (by decide +kernel) (by decide +kernel), ⟨by decide +kernel, by decide +kernel, by decide +kernel⟩⟩
theorem kX8_169 : bq_cV RX8 169 mX8_dutyOn 1 := ⟨bq_at 803 (by decide +kernel) (by decide +kernel), bq_at 624 (by decide +kernel) (by decide +kernel), bq_at 625 (by decide +kernel) (by decide +kernel), bq_at 55 (by decide +kernel) (by decide +kernel), bq_at 626 (by decide +kernel) (by decide +kernel), ⟨by decide +kernel, by decide +kernel, by decide +kernel⟩⟩
theorem kX8_173 : bq_cV RX8 173 mX8_dutyNow 0 := ⟨bq_at 808 (by decide +kernel) (by decide +kernel), bq_at 800 (by decide +kernel) (by decide +kernel), bq_at 801 (by decide +kernel) (by decide +kernel), bq_at 55 (by decide +kernel) (by decide +kernel), bq_at 802 (by decide +kernel) (by decide +kernel), ⟨by decide +kernel, by decide +kernel, by decide +kernel⟩⟩
theorem kX9_3 : Cond.methodLink RX9 3 objectInit ∈ bq_TB ∧ Cond.instanceMethod objectInit ∈ bq_TB ∧ Cond.code objectInit ⟨#[0xb1]⟩ 1 none ∈ bq_TB := ⟨bq_at 121 (by decide +kernel) (by decide +kernel), bq_at 75 (by decide +kernel) (by decide +kernel), bq_at 76 (by decide +kernel) (by decide +kernel)⟩
theorem kX9_23 : bq_cJ RX9 23 mX0_init 0 := ⟨by decide +kernel, bq_at 88 (by decide +kernel) (by decide +kernel), rfl, bq_at 56 (by decide +kernel) (by decide +kernel), bq_at 89 (by decide +kernel) (by decide +kernel), ⟨by decide +kernel, by decide +kernel, by decide +kernel⟩⟩
theorem kX9_28 : bq_cV RX9 28 mX0_copyFrom 1 := ⟨bq_at 477 (by decide +kernel) (by decide +kernel), bq_at 478 (by decide +kernel) (by decide +kernel), bq_at 479 (by decide +kernel) (by decide +kernel), bq_at 56 (by decide +kernel) (by decide +kernel), bq_at 480 (by decide +kernel) (by decide +kernel), ⟨by decide +kernel, by decide +kernel, by decide +kernel⟩⟩
theorem kX9_32 : bq_cV RX9 32 mX0_total 0 := ⟨bq_at 511 (by decide +kernel) (by decide +kernel), bq_at 458 (by decide +kernel) (by decide +kernel), bq_at 459 (by decide +kernel) (by decide +kernel), bq_at 56 (by decide +kernel) (by decide +kernel), bq_at 460 (by decide +kernel) (by decide +kernel), ⟨by decide +kernel, by decide +kernel, by decide +kernel⟩⟩
theorem kX9_36 : bq_cV RX9 36 mX0_remove 1 := ⟨bq_at 545 (by decide +kernel) (by decide +kernel), bq_at 546 (by decide +kernel) (by decide +kernel), bq_at 547 (by decide +kernel) (by decide +kernel), bq_at 56 (by decide +kernel) (by decide +kernel), bq_at 548 (by decide +kernel) (by decide +kernel), ⟨by decide +kernel, by decide +kernel, by decide +kernel⟩⟩
theorem kX9_39 : bq_cV RX9 39 mX0_add 1 := ⟨bq_at 563 (by decide +kernel) (by decide +kernel), bq_at 555 (by decide +kernel) (by decide +kernel), bq_at 556 (by decide +kernel) (by decide +kernel), bq_at 56 (by decide +kernel) (by decide +kernel), bq_at 557 (by decide +kernel) (by decide +kernel), ⟨by decide +kernel, by decide +kernel, by decide +kernel⟩⟩
theorem kX10_3 : Cond.methodLink RX10 3 objectInit ∈ bq_TB ∧ Cond.instanceMethod objectInit ∈ bq_TB ∧ Cond.code objectInit ⟨#[0xb1]⟩ 1 none ∈ bq_TB := ⟨bq_at 293 (by decide +kernel) (by decide +kernel), bq_at 75 (by decide +kernel) (by decide +kernel), bq_at 76 (by decide +kernel) (by decide +kernel)⟩
theorem kX10_35 : bq_cJ RX10 35 mX1_init 0 := ⟨by decide +kernel, bq_at 298 (by decide +kernel) (by decide +kernel), rfl, bq_at 62 (by decide +kernel) (by decide +kernel), bq_at 299 (by decide +kernel) (by decide +kernel), ⟨by decide +kernel, by decide +kernel, by decide +kernel⟩⟩
theorem kX10_36 : bq_cV RX10 36 mX10_readCommand 1 := ⟨bq_at 694 (by decide +kernel) (by decide +kernel), bq_at 696 (by decide +kernel) (by decide +kernel), bq_at 12 (by decide +kernel) (by decide +kernel), bq_at 61 (by decide +kernel) (by decide +kernel), bq_at 697 (by decide +kernel) (by decide +kernel), ⟨by decide +kernel, by decide +kernel, by decide +kernel⟩⟩
theorem kX10_40 : bq_cV RX10 40 mX10_readSign 1 := ⟨bq_at 710 (by decide +kernel) (by decide +kernel), bq_at 712 (by decide +kernel) (by decide +kernel), bq_at 16 (by decide +kernel) (by decide +kernel), bq_at 61 (by decide +kernel) (by decide +kernel), bq_at 713 (by decide +kernel) (by decide +kernel), ⟨by decide +kernel, by decide +kernel, by decide +kernel⟩⟩
theorem kX10_44 : bq_cV RX10 44 mX10_next 0 := ⟨bq_at 698 (by decide +kernel) (by decide +kernel), bq_at 700 (by decide +kernel) (by decide +kernel), bq_at 13 (by decide +kernel) (by decide +kernel), bq_at 61 (by decide +kernel) (by decide +kernel), bq_at 701 (by decide +kernel) (by decide +kernel), ⟨by decide +kernel, by decide +kernel, by decide +kernel⟩⟩
theorem kX10_51 : bq_cV RX10 51 mX10_readDigit 0 := ⟨bq_at 702 (by decide +kernel) (by decide +kernel), bq_at 704 (by decide +kernel) (by decide +kernel), bq_at 14 (by decide +kernel) (by decide +kernel), bq_at 61 (by decide +kernel) (by decide +kernel), bq_at 705 (by decide +kernel) (by decide +kernel), ⟨by decide +kernel, by decide +kernel, by decide +kernel⟩⟩
theorem kX10_60 : bq_cV RX10 60 mX10_readNumber 0 := ⟨bq_at 714 (by decide +kernel) (by decide +kernel), bq_at 716 (by decide +kernel) (by decide +kernel), bq_at 17 (by decide +kernel) (by decide +kernel), bq_at 61 (by decide +kernel) (by decide +kernel), bq_at 717 (by decide +kernel) (by decide +kernel), ⟨by decide +kernel, by decide +kernel, by decide +kernel⟩⟩
theorem kX10_66 : bq_cV RX10 66 mX10_digitNext 0 := ⟨bq_at 706 (by decide +kernel) (by decide +kernel), bq_at 708 (by decide +kernel) (by decide +kernel), bq_at 15 (by decide +kernel) (by decide +kernel), bq_at 61 (by decide +kernel) (by decide +kernel), bq_at 709 (by decide +kernel) (by decide +kernel), ⟨by decide +kernel, by decide +kernel, by decide +kernel⟩⟩
theorem kX11_1 : Cond.methodLink RX11 1 objectInit ∈ bq_TB ∧ Cond.instanceMethod objectInit ∈ bq_TB ∧ Cond.code objectInit ⟨#[0xb1]⟩ 1 none ∈ bq_TB := ⟨bq_at 74 (by decide +kernel) (by decide +kernel), bq_at 75 (by decide +kernel) (by decide +kernel), bq_at 76 (by decide +kernel) (by decide +kernel)⟩
theorem kX11_9 : bq_cI RX11 9 mX8_init 0 := ⟨bq_at 79 (by decide +kernel) (by decide +kernel), bq_at 80 (by decide +kernel) (by decide +kernel), rfl, bq_at 55 (by decide +kernel) (by decide +kernel), bq_at 81 (by decide +kernel) (by decide +kernel), ⟨by decide +kernel, by decide +kernel, by decide +kernel⟩⟩
theorem kX11_33 : bq_cI RX11 33 mX10_init 0 := ⟨bq_at 290 (by decide +kernel) (by decide +kernel), bq_at 291 (by decide +kernel) (by decide +kernel), rfl, bq_at 61 (by decide +kernel) (by decide +kernel), bq_at 292 (by decide +kernel) (by decide +kernel), ⟨by decide +kernel, by decide +kernel, by decide +kernel⟩⟩
theorem kX11_40 : bq_cI RX11 40 mX5_init 0 := ⟨bq_at 347 (by decide +kernel) (by decide +kernel), bq_at 348 (by decide +kernel) (by decide +kernel), rfl, bq_at 63 (by decide +kernel) (by decide +kernel), bq_at 349 (by decide +kernel) (by decide +kernel), ⟨by decide +kernel, by decide +kernel, by decide +kernel⟩⟩
theorem kX11_47 : bq_cJ RX11 47 mX3_init 0 := ⟨by decide +kernel, bq_at 400 (by decide +kernel) (by decide +kernel), rfl, bq_at 65 (by decide +kernel) (by decide +kernel), bq_at 401 (by decide +kernel) (by decide +kernel), ⟨by decide +kernel, by decide +kernel, by decide +kernel⟩⟩
theorem kX11_54 : bq_cJ RX11 54 mX6_init 0 := ⟨by decide +kernel, bq_at 356 (by decide +kernel) (by decide +kernel), rfl, bq_at 64 (by decide +kernel) (by decide +kernel), bq_at 357 (by decide +kernel) (by decide +kernel), ⟨by decide +kernel, by decide +kernel, by decide +kernel⟩⟩
theorem kX11_65 : bq_cV RX11 65 mX8_tankAt 1 := ⟨bq_at 449 (by decide +kernel) (by decide +kernel), bq_at 450 (by decide +kernel) (by decide +kernel), bq_at 451 (by decide +kernel) (by decide +kernel), bq_at 55 (by decide +kernel) (by decide +kernel), bq_at 452 (by decide +kernel) (by decide +kernel), ⟨by decide +kernel, by decide +kernel, by decide +kernel⟩⟩
theorem kX11_69 : bq_cS RX11 69 mX11_outside 3 := ⟨bq_at 456 (by decide +kernel) (by decide +kernel), bq_at 454 (by decide +kernel) (by decide +kernel), bq_at 54 (by decide +kernel) (by decide +kernel), bq_at 455 (by decide +kernel) (by decide +kernel), ⟨by decide +kernel, by decide +kernel, by decide +kernel⟩⟩
theorem kX11_79 : bq_cV RX11 79 mX0_total 0 := ⟨bq_at 457 (by decide +kernel) (by decide +kernel), bq_at 458 (by decide +kernel) (by decide +kernel), bq_at 459 (by decide +kernel) (by decide +kernel), bq_at 56 (by decide +kernel) (by decide +kernel), bq_at 460 (by decide +kernel) (by decide +kernel), ⟨by decide +kernel, by decide +kernel, by decide +kernel⟩⟩
theorem kX11_85 : bq_cV RX11 85 mX11_refuse 1 := ⟨bq_at 461 (by decide +kernel) (by decide +kernel), bq_at 463 (by decide +kernel) (by decide +kernel), bq_at 0 (by decide +kernel) (by decide +kernel), bq_at 54 (by decide +kernel) (by decide +kernel), bq_at 464 (by decide +kernel) (by decide +kernel), ⟨by decide +kernel, by decide +kernel, by decide +kernel⟩⟩
theorem kX11_89 : bq_cV RX11 89 mX11_putBy 0 := ⟨bq_at 465 (by decide +kernel) (by decide +kernel), bq_at 467 (by decide +kernel) (by decide +kernel), bq_at 1 (by decide +kernel) (by decide +kernel), bq_at 54 (by decide +kernel) (by decide +kernel), bq_at 468 (by decide +kernel) (by decide +kernel), ⟨by decide +kernel, by decide +kernel, by decide +kernel⟩⟩
theorem kX11_95 : bq_cV RX11 95 mX11_changed 1 := ⟨bq_at 499 (by decide +kernel) (by decide +kernel), bq_at 501 (by decide +kernel) (by decide +kernel), bq_at 2 (by decide +kernel) (by decide +kernel), bq_at 54 (by decide +kernel) (by decide +kernel), bq_at 502 (by decide +kernel) (by decide +kernel), ⟨by decide +kernel, by decide +kernel, by decide +kernel⟩⟩
theorem kX11_104 : bq_cV RX11 104 mX9_room 0 := ⟨bq_at 507 (by decide +kernel) (by decide +kernel), bq_at 508 (by decide +kernel) (by decide +kernel), bq_at 509 (by decide +kernel) (by decide +kernel), bq_at 58 (by decide +kernel) (by decide +kernel), bq_at 510 (by decide +kernel) (by decide +kernel), ⟨by decide +kernel, by decide +kernel, by decide +kernel⟩⟩
theorem kX11_107 : bq_cV RX11 107 mX8_addBatch 2 := ⟨bq_at 512 (by decide +kernel) (by decide +kernel), bq_at 513 (by decide +kernel) (by decide +kernel), bq_at 514 (by decide +kernel) (by decide +kernel), bq_at 55 (by decide +kernel) (by decide +kernel), bq_at 515 (by decide +kernel) (by decide +kernel), ⟨by decide +kernel, by decide +kernel, by decide +kernel⟩⟩
theorem kX11_115 : bq_cV RX11 115 mX8_note 3 := ⟨bq_at 516 (by decide +kernel) (by decide +kernel), bq_at 517 (by decide +kernel) (by decide +kernel), bq_at 518 (by decide +kernel) (by decide +kernel), bq_at 55 (by decide +kernel) (by decide +kernel), bq_at 519 (by decide +kernel) (by decide +kernel), ⟨by decide +kernel, by decide +kernel, by decide +kernel⟩⟩
theorem kX11_119 : bq_cV RX11 119 mX11_pour 3 := ⟨bq_at 528 (by decide +kernel) (by decide +kernel), bq_at 530 (by decide +kernel) (by decide +kernel), bq_at 3 (by decide +kernel) (by decide +kernel), bq_at 54 (by decide +kernel) (by decide +kernel), bq_at 531 (by decide +kernel) (by decide +kernel), ⟨by decide +kernel, by decide +kernel, by decide +kernel⟩⟩
theorem kX11_123 : bq_cV RX11 123 mX11_settle 1 := ⟨bq_at 564 (by decide +kernel) (by decide +kernel), bq_at 566 (by decide +kernel) (by decide +kernel), bq_at 5 (by decide +kernel) (by decide +kernel), bq_at 54 (by decide +kernel) (by decide +kernel), bq_at 567 (by decide +kernel) (by decide +kernel), ⟨by decide +kernel, by decide +kernel, by decide +kernel⟩⟩
theorem kX11_126 : bq_cV RX11 126 mX11_spill 3 := ⟨bq_at 572 (by decide +kernel) (by decide +kernel), bq_at 574 (by decide +kernel) (by decide +kernel), bq_at 6 (by decide +kernel) (by decide +kernel), bq_at 54 (by decide +kernel) (by decide +kernel), bq_at 575 (by decide +kernel) (by decide +kernel), ⟨by decide +kernel, by decide +kernel, by decide +kernel⟩⟩
theorem kX11_175 : bq_cV RX11 175 mX8_orderAt 1 := ⟨bq_at 592 (by decide +kernel) (by decide +kernel), bq_at 593 (by decide +kernel) (by decide +kernel), bq_at 594 (by decide +kernel) (by decide +kernel), bq_at 55 (by decide +kernel) (by decide +kernel), bq_at 595 (by decide +kernel) (by decide +kernel), ⟨by decide +kernel, by decide +kernel, by decide +kernel⟩⟩
theorem kX11_179 : bq_cV RX11 179 mX8_openOrders 0 := ⟨bq_at 596 (by decide +kernel) (by decide +kernel), bq_at 597 (by decide +kernel) (by decide +kernel), bq_at 598 (by decide +kernel) (by decide +kernel), bq_at 55 (by decide +kernel) (by decide +kernel), bq_at 599 (by decide +kernel) (by decide +kernel), ⟨by decide +kernel, by decide +kernel, by decide +kernel⟩⟩
theorem kX11_182 : bq_cV RX11 182 mX11_deliver 2 := ⟨bq_at 604 (by decide +kernel) (by decide +kernel), bq_at 606 (by decide +kernel) (by decide +kernel), bq_at 7 (by decide +kernel) (by decide +kernel), bq_at 54 (by decide +kernel) (by decide +kernel), bq_at 607 (by decide +kernel) (by decide +kernel), ⟨by decide +kernel, by decide +kernel, by decide +kernel⟩⟩
theorem kX11_185 : bq_cV RX11 185 mX5_reckon 1 := ⟨bq_at 637 (by decide +kernel) (by decide +kernel), bq_at 638 (by decide +kernel) (by decide +kernel), bq_at 639 (by decide +kernel) (by decide +kernel), bq_at 63 (by decide +kernel) (by decide +kernel), bq_at 640 (by decide +kernel) (by decide +kernel), ⟨by decide +kernel, by decide +kernel, by decide +kernel⟩⟩
theorem kX11_197 : bq_cV RX11 197 mX11_scrub 1 := ⟨bq_at 663 (by decide +kernel) (by decide +kernel), bq_at 665 (by decide +kernel) (by decide +kernel), bq_at 10 (by decide +kernel) (by decide +kernel), bq_at 54 (by decide +kernel) (by decide +kernel), bq_at 666 (by decide +kernel) (by decide +kernel), ⟨by decide +kernel, by decide +kernel, by decide +kernel⟩⟩
theorem kX11_200 : bq_cV RX11 200 mX11_letPass 1 := ⟨bq_at 671 (by decide +kernel) (by decide +kernel), bq_at 673 (by decide +kernel) (by decide +kernel), bq_at 11 (by decide +kernel) (by decide +kernel), bq_at 54 (by decide +kernel) (by decide +kernel), bq_at 674 (by decide +kernel) (by decide +kernel), ⟨by decide +kernel, by decide +kernel, by decide +kernel⟩⟩
theorem kX11_203 : bq_cS RX11 203 mX11_noByte 1 := ⟨bq_at 679 (by decide +kernel) (by decide +kernel), bq_at 680 (by decide +kernel) (by decide +kernel), bq_at 54 (by decide +kernel) (by decide +kernel), bq_at 681 (by decide +kernel) (by decide +kernel), ⟨by decide +kernel, by decide +kernel, by decide +kernel⟩⟩
theorem kX11_208 : bq_cV RX11 208 mX10_append 1 := ⟨bq_at 682 (by decide +kernel) (by decide +kernel), bq_at 683 (by decide +kernel) (by decide +kernel), bq_at 684 (by decide +kernel) (by decide +kernel), bq_at 61 (by decide +kernel) (by decide +kernel), bq_at 685 (by decide +kernel) (by decide +kernel), ⟨by decide +kernel, by decide +kernel, by decide +kernel⟩⟩
theorem kX11_212 : bq_cV RX11 212 mX10_readCommands 0 := ⟨bq_at 690 (by decide +kernel) (by decide +kernel), bq_at 691 (by decide +kernel) (by decide +kernel), bq_at 692 (by decide +kernel) (by decide +kernel), bq_at 61 (by decide +kernel) (by decide +kernel), bq_at 693 (by decide +kernel) (by decide +kernel), ⟨by decide +kernel, by decide +kernel, by decide +kernel⟩⟩
theorem kX11_226 : bq_cV RX11 226 mX11_perform 1 := ⟨bq_at 718 (by decide +kernel) (by decide +kernel), bq_at 720 (by decide +kernel) (by decide +kernel), bq_at 18 (by decide +kernel) (by decide +kernel), bq_at 54 (by decide +kernel) (by decide +kernel), bq_at 721 (by decide +kernel) (by decide +kernel), ⟨by decide +kernel, by decide +kernel, by decide +kernel⟩⟩
theorem kX11_230 : bq_cV RX11 230 mX8_copyFrom 1 := ⟨bq_at 469 (by decide +kernel) (by decide +kernel), bq_at 470 (by decide +kernel) (by decide +kernel), bq_at 471 (by decide +kernel) (by decide +kernel), bq_at 55 (by decide +kernel) (by decide +kernel), bq_at 472 (by decide +kernel) (by decide +kernel), ⟨by decide +kernel, by decide +kernel, by decide +kernel⟩⟩
theorem kX11_236 : bq_cV RX11 236 mX0_strength 1 := ⟨bq_at 608 (by decide +kernel) (by decide +kernel), bq_at 609 (by decide +kernel) (by decide +kernel), bq_at 610 (by decide +kernel) (by decide +kernel), bq_at 56 (by decide +kernel) (by decide +kernel), bq_at 611 (by decide +kernel) (by decide +kernel), ⟨by decide +kernel, by decide +kernel, by decide +kernel⟩⟩
theorem kX11_242 : bq_cV RX11 242 mX0_batches 0 := ⟨bq_at 730 (by decide +kernel) (by decide +kernel), bq_at 731 (by decide +kernel) (by decide +kernel), bq_at 732 (by decide +kernel) (by decide +kernel), bq_at 56 (by decide +kernel) (by decide +kernel), bq_at 733 (by decide +kernel) (by decide +kernel), ⟨by decide +kernel, by decide +kernel, by decide +kernel⟩⟩
theorem kX11_248 : bq_cV RX11 248 mX8_inTanks 1 := ⟨bq_at 742 (by decide +kernel) (by decide +kernel), bq_at 743 (by decide +kernel) (by decide +kernel), bq_at 744 (by decide +kernel) (by decide +kernel), bq_at 55 (by decide +kernel) (by decide +kernel), bq_at 745 (by decide +kernel) (by decide +kernel), ⟨by decide +kernel, by decide +kernel, by decide +kernel⟩⟩
theorem kX11_260 : bq_cV RX11 260 mX8_tanksWith 1 := ⟨bq_at 746 (by decide +kernel) (by decide +kernel), bq_at 747 (by decide +kernel) (by decide +kernel), bq_at 748 (by decide +kernel) (by decide +kernel), bq_at 55 (by decide +kernel) (by decide +kernel), bq_at 749 (by decide +kernel) (by decide +kernel), ⟨by decide +kernel, by decide +kernel, by decide +kernel⟩⟩
theorem kX11_263 : bq_cV RX11 263 mX3_nearest 5 := ⟨bq_at 754 (by decide +kernel) (by decide +kernel), bq_at 755 (by decide +kernel) (by decide +kernel), bq_at 756 (by decide +kernel) (by decide +kernel), bq_at 65 (by decide +kernel) (by decide +kernel), bq_at 757 (by decide +kernel) (by decide +kernel), ⟨by decide +kernel, by decide +kernel, by decide +kernel⟩⟩
theorem kX11_267 : bq_cV RX11 267 mX5_tankOf 1 := ⟨bq_at 782 (by decide +kernel) (by decide +kernel), bq_at 783 (by decide +kernel) (by decide +kernel), bq_at 784 (by decide +kernel) (by decide +kernel), bq_at 63 (by decide +kernel) (by decide +kernel), bq_at 785 (by decide +kernel) (by decide +kernel), ⟨by decide +kernel, by decide +kernel, by decide +kernel⟩⟩
theorem kX11_273 : bq_cV RX11 273 mX8_rateFor 2 := ⟨bq_at 794 (by decide +kernel) (by decide +kernel), bq_at 628 (by decide +kernel) (by decide +kernel), bq_at 629 (by decide +kernel) (by decide +kernel), bq_at 55 (by decide +kernel) (by decide +kernel), bq_at 630 (by decide +kernel) (by decide +kernel), ⟨by decide +kernel, by decide +kernel, by decide +kernel⟩⟩
theorem kX11_280 : bq_cV RX11 280 mX8_dutyNow 0 := ⟨bq_at 799 (by decide +kernel) (by decide +kernel), bq_at 800 (by decide +kernel) (by decide +kernel), bq_at 801 (by decide +kernel) (by decide +kernel), bq_at 55 (by decide +kernel) (by decide +kernel), bq_at 802 (by decide +kernel) (by decide +kernel), ⟨by decide +kernel, by decide +kernel, by decide +kernel⟩⟩
theorem kX11_287 : bq_cV RX11 287 mX8_stillDue 0 := ⟨bq_at 804 (by decide +kernel) (by decide +kernel), bq_at 805 (by decide +kernel) (by decide +kernel), bq_at 806 (by decide +kernel) (by decide +kernel), bq_at 55 (by decide +kernel) (by decide +kernel), bq_at 807 (by decide +kernel) (by decide +kernel), ⟨by decide +kernel, by decide +kernel, by decide +kernel⟩⟩
theorem kX11_303 : bq_cV RX11 303 mX2_part 2 := ⟨bq_at 818 (by decide +kernel) (by decide +kernel), bq_at 819 (by decide +kernel) (by decide +kernel), bq_at 820 (by decide +kernel) (by decide +kernel), bq_at 57 (by decide +kernel) (by decide +kernel), bq_at 821 (by decide +kernel) (by decide +kernel), ⟨by decide +kernel, by decide +kernel, by decide +kernel⟩⟩
theorem kX11_306 : bq_cV RX11 306 mX8_litresInTanks 0 := ⟨bq_at 827 (by decide +kernel) (by decide +kernel), bq_at 828 (by decide +kernel) (by decide +kernel), bq_at 829 (by decide +kernel) (by decide +kernel), bq_at 55 (by decide +kernel) (by decide +kernel), bq_at 830 (by decide +kernel) (by decide +kernel), ⟨by decide +kernel, by decide +kernel, by decide +kernel⟩⟩
theorem kX11_312 : bq_cV RX11 312 mX0_alcohol 1 := ⟨bq_at 622 (by decide +kernel) (by decide +kernel), bq_at 614 (by decide +kernel) (by decide +kernel), bq_at 615 (by decide +kernel) (by decide +kernel), bq_at 56 (by decide +kernel) (by decide +kernel), bq_at 616 (by decide +kernel) (by decide +kernel), ⟨by decide +kernel, by decide +kernel, by decide +kernel⟩⟩
theorem kX11_316 : bq_cV RX11 316 mX8_alcoholInTanks 0 := ⟨bq_at 832 (by decide +kernel) (by decide +kernel), bq_at 833 (by decide +kernel) (by decide +kernel), bq_at 834 (by decide +kernel) (by decide +kernel), bq_at 55 (by decide +kernel) (by decide +kernel), bq_at 835 (by decide +kernel) (by decide +kernel), ⟨by decide +kernel, by decide +kernel, by decide +kernel⟩⟩
theorem kX11_319 : bq_cV RX11 319 mX8_openLitres 0 := ⟨bq_at 837 (by decide +kernel) (by decide +kernel), bq_at 838 (by decide +kernel) (by decide +kernel), bq_at 839 (by decide +kernel) (by decide +kernel), bq_at 55 (by decide +kernel) (by decide +kernel), bq_at 840 (by decide +kernel) (by decide +kernel), ⟨by decide +kernel, by decide +kernel, by decide +kernel⟩⟩
theorem kX11_322 : bq_cV RX11 322 mX8_tanksInPhase 1 := ⟨bq_at 857 (by decide +kernel) (by decide +kernel), bq_at 858 (by decide +kernel) (by decide +kernel), bq_at 859 (by decide +kernel) (by decide +kernel), bq_at 55 (by decide +kernel) (by decide +kernel), bq_at 860 (by decide +kernel) (by decide +kernel), ⟨by decide +kernel, by decide +kernel, by decide +kernel⟩⟩
theorem kX11_339 : bq_cV RX11 339 mX6_take 2 := ⟨bq_at 532 (by decide +kernel) (by decide +kernel), bq_at 533 (by decide +kernel) (by decide +kernel), bq_at 534 (by decide +kernel) (by decide +kernel), bq_at 64 (by decide +kernel) (by decide +kernel), bq_at 535 (by decide +kernel) (by decide +kernel), ⟨by decide +kernel, by decide +kernel, by decide +kernel⟩⟩
theorem kX11_346 : bq_cV RX11 346 mX9_giveOut 1 := ⟨bq_at 541 (by decide +kernel) (by decide +kernel), bq_at 542 (by decide +kernel) (by decide +kernel), bq_at 543 (by decide +kernel) (by decide +kernel), bq_at 58 (by decide +kernel) (by decide +kernel), bq_at 544 (by decide +kernel) (by decide +kernel), ⟨by decide +kernel, by decide +kernel, by decide +kernel⟩⟩
theorem kX11_350 : bq_cV RX11 350 mX0_remove 1 := ⟨bq_at 549 (by decide +kernel) (by decide +kernel), bq_at 546 (by decide +kernel) (by decide +kernel), bq_at 547 (by decide +kernel) (by decide +kernel), bq_at 56 (by decide +kernel) (by decide +kernel), bq_at 548 (by decide +kernel) (by decide +kernel), ⟨by decide +kernel, by decide +kernel, by decide +kernel⟩⟩
theorem kX11_353 : bq_cV RX11 353 mX8_writeOff 4 := ⟨bq_at 550 (by decide +kernel) (by decide +kernel), bq_at 551 (by decide +kernel) (by decide +kernel), bq_at 552 (by decide +kernel) (by decide +kernel), bq_at 55 (by decide +kernel) (by decide +kernel), bq_at 553 (by decide +kernel) (by decide +kernel), ⟨by decide +kernel, by decide +kernel, by decide +kernel⟩⟩
theorem kX11_357 : bq_cV RX11 357 mX9_takeIn 1 := ⟨bq_at 559 (by decide +kernel) (by decide +kernel), bq_at 560 (by decide +kernel) (by decide +kernel), bq_at 561 (by decide +kernel) (by decide +kernel), bq_at 58 (by decide +kernel) (by decide +kernel), bq_at 562 (by decide +kernel) (by decide +kernel), ⟨by decide +kernel, by decide +kernel, by decide +kernel⟩⟩
theorem kX11_360 : bq_cV RX11 360 mX4_allows 1 := ⟨bq_at 617 (by decide +kernel) (by decide +kernel), bq_at 618 (by decide +kernel) (by decide +kernel), bq_at 619 (by decide +kernel) (by decide +kernel), bq_at 60 (by decide +kernel) (by decide +kernel), bq_at 620 (by decide +kernel) (by decide +kernel), ⟨by decide +kernel, by decide +kernel, by decide +kernel⟩⟩
theorem kX11_363 : bq_cV RX11 363 mX0_add 1 := ⟨bq_at 621 (by decide +kernel) (by decide +kernel), bq_at 555 (by decide +kernel) (by decide +kernel), bq_at 556 (by decide +kernel) (by decide +kernel), bq_at 56 (by decide +kernel) (by decide +kernel), bq_at 557 (by decide +kernel) (by decide +kernel), ⟨by decide +kernel, by decide +kernel, by decide +kernel⟩⟩
theorem kX11_375 : bq_cV RX11 375 mX8_dutyOn 1 := ⟨bq_at 623 (by decide +kernel) (by decide +kernel), bq_at 624 (by decide +kernel) (by decide +kernel), bq_at 625 (by decide +kernel) (by decide +kernel), bq_at 55 (by decide +kernel) (by decide +kernel), bq_at 626 (by decide +kernel) (by decide +kernel), ⟨by decide +kernel, by decide +kernel, by decide +kernel⟩⟩
theorem kX12_1 : Cond.methodLink RX12 1 objectInit ∈ bq_TB ∧ Cond.instanceMethod objectInit ∈ bq_TB ∧ Cond.code objectInit ⟨#[0xb1]⟩ 1 none ∈ bq_TB := ⟨bq_at 866 (by decide +kernel) (by decide +kernel), bq_at 75 (by decide +kernel) (by decide +kernel), bq_at 76 (by decide +kernel) (by decide +kernel)⟩
theorem kX12_57 : bq_cS RX12 57 mX12_copy 4 := ⟨bq_at 966 (by decide +kernel) (by decide +kernel), bq_at 967 (by decide +kernel) (by decide +kernel), bq_at 66 (by decide +kernel) (by decide +kernel), bq_at 968 (by decide +kernel) (by decide +kernel), ⟨by decide +kernel, by decide +kernel, by decide +kernel⟩⟩
theorem kX12_65 : bq_cV RX12 65 mX12_remembersRow 1 := ⟨bq_at 962 (by decide +kernel) (by decide +kernel), bq_at 964 (by decide +kernel) (by decide +kernel), bq_at 25 (by decide +kernel) (by decide +kernel), bq_at 66 (by decide +kernel) (by decide +kernel), bq_at 965 (by decide +kernel) (by decide +kernel), ⟨by decide +kernel, by decide +kernel, by decide +kernel⟩⟩
theorem kX12_69 : bq_cS RX12 69 mX12_in 3 := ⟨bq_at 939 (by decide +kernel) (by decide +kernel), bq_at 940 (by decide +kernel) (by decide +kernel), bq_at 66 (by decide +kernel) (by decide +kernel), bq_at 941 (by decide +kernel) (by decide +kernel), ⟨by decide +kernel, by decide +kernel, by decide +kernel⟩⟩
theorem kX12_73 : bq_cV RX12 73 mX12_tankAt 2 := ⟨bq_at 950 (by decide +kernel) (by decide +kernel), bq_at 952 (by decide +kernel) (by decide +kernel), bq_at 22 (by decide +kernel) (by decide +kernel), bq_at 66 (by decide +kernel) (by decide +kernel), bq_at 953 (by decide +kernel) (by decide +kernel), ⟨by decide +kernel, by decide +kernel, by decide +kernel⟩⟩
theorem kX12_77 : bq_cV RX12 77 mX12_partAt 2 := ⟨bq_at 946 (by decide +kernel) (by decide +kernel), bq_at 948 (by decide +kernel) (by decide +kernel), bq_at 21 (by decide +kernel) (by decide +kernel), bq_at 66 (by decide +kernel) (by decide +kernel), bq_at 949 (by decide +kernel) (by decide +kernel), ⟨by decide +kernel, by decide +kernel, by decide +kernel⟩⟩
theorem kX12_80 : bq_cV RX12 80 mX12_strengthOf 1 := ⟨bq_at 1048 (by decide +kernel) (by decide +kernel), bq_at 1050 (by decide +kernel) (by decide +kernel), bq_at 37 (by decide +kernel) (by decide +kernel), bq_at 66 (by decide +kernel) (by decide +kernel), bq_at 1051 (by decide +kernel) (by decide +kernel), ⟨by decide +kernel, by decide +kernel, by decide +kernel⟩⟩
theorem kX12_84 : bq_cS RX12 84 mX12_sumOf 1 := ⟨bq_at 989 (by decide +kernel) (by decide +kernel), bq_at 990 (by decide +kernel) (by decide +kernel), bq_at 66 (by decide +kernel) (by decide +kernel), bq_at 991 (by decide +kernel) (by decide +kernel), ⟨by decide +kernel, by decide +kernel, by decide +kernel⟩⟩
theorem kX12_88 : bq_cV RX12 88 mX12_litresIn 1 := ⟨bq_at 942 (by decide +kernel) (by decide +kernel), bq_at 944 (by decide +kernel) (by decide +kernel), bq_at 20 (by decide +kernel) (by decide +kernel), bq_at 66 (by decide +kernel) (by decide +kernel), bq_at 945 (by decide +kernel) (by decide +kernel), ⟨by decide +kernel, by decide +kernel, by decide +kernel⟩⟩
theorem kX12_91 : bq_cV RX12 91 mX12_notes 3 := ⟨bq_at 973 (by decide +kernel) (by decide +kernel), bq_at 975 (by decide +kernel) (by decide +kernel), bq_at 26 (by decide +kernel) (by decide +kernel), bq_at 66 (by decide +kernel) (by decide +kernel), bq_at 976 (by decide +kernel) (by decide +kernel), ⟨by decide +kernel, by decide +kernel, by decide +kernel⟩⟩
theorem kX12_95 : bq_cS RX12 95 mX12_isTank 1 := ⟨bq_at 936 (by decide +kernel) (by decide +kernel), bq_at 937 (by decide +kernel) (by decide +kernel), bq_at 66 (by decide +kernel) (by decide +kernel), bq_at 938 (by decide +kernel) (by decide +kernel), ⟨by decide +kernel, by decide +kernel, by decide +kernel⟩⟩
theorem kX12_99 : bq_cV RX12 99 mX12_refuses 1 := ⟨bq_at 954 (by decide +kernel) (by decide +kernel), bq_at 956 (by decide +kernel) (by decide +kernel), bq_at 23 (by decide +kernel) (by decide +kernel), bq_at 66 (by decide +kernel) (by decide +kernel), bq_at 957 (by decide +kernel) (by decide +kernel), ⟨by decide +kernel, by decide +kernel, by decide +kernel⟩⟩
theorem kX12_102 : bq_cV RX12 102 mX12_remembers 0 := ⟨bq_at 958 (by decide +kernel) (by decide +kernel), bq_at 960 (by decide +kernel) (by decide +kernel), bq_at 24 (by decide +kernel) (by decide +kernel), bq_at 66 (by decide +kernel) (by decide +kernel), bq_at 961 (by decide +kernel) (by decide +kernel), ⟨by decide +kernel, by decide +kernel, by decide +kernel⟩⟩
theorem kX12_105 : bq_cV RX12 105 mX12_looksAt 1 := ⟨bq_at 981 (by decide +kernel) (by decide +kernel), bq_at 983 (by decide +kernel) (by decide +kernel), bq_at 27 (by decide +kernel) (by decide +kernel), bq_at 66 (by decide +kernel) (by decide +kernel), bq_at 984 (by decide +kernel) (by decide +kernel), ⟨by decide +kernel, by decide +kernel, by decide +kernel⟩⟩
theorem kX12_109 : bq_cV RX12 109 mX12_takes 1 := ⟨bq_at 985 (by decide +kernel) (by decide +kernel), bq_at 987 (by decide +kernel) (by decide +kernel), bq_at 28 (by decide +kernel) (by decide +kernel), bq_at 66 (by decide +kernel) (by decide +kernel), bq_at 988 (by decide +kernel) (by decide +kernel), ⟨by decide +kernel, by decide +kernel, by decide +kernel⟩⟩
theorem kX12_112 : bq_cV RX12 112 mX12_leaves 1 := ⟨bq_at 992 (by decide +kernel) (by decide +kernel), bq_at 994 (by decide +kernel) (by decide +kernel), bq_at 29 (by decide +kernel) (by decide +kernel), bq_at 66 (by decide +kernel) (by decide +kernel), bq_at 995 (by decide +kernel) (by decide +kernel), ⟨by decide +kernel, by decide +kernel, by decide +kernel⟩⟩
theorem kX12_115 : bq_cV RX12 115 mX12_loses 3 := ⟨bq_at 996 (by decide +kernel) (by decide +kernel), bq_at 998 (by decide +kernel) (by decide +kernel), bq_at 30 (by decide +kernel) (by decide +kernel), bq_at 66 (by decide +kernel) (by decide +kernel), bq_at 999 (by decide +kernel) (by decide +kernel), ⟨by decide +kernel, by decide +kernel, by decide +kernel⟩⟩
theorem kX12_118 : bq_cV RX12 118 mX12_orderAt 2 := ⟨bq_at 1024 (by decide +kernel) (by decide +kernel), bq_at 1026 (by decide +kernel) (by decide +kernel), bq_at 32 (by decide +kernel) (by decide +kernel), bq_at 66 (by decide +kernel) (by decide +kernel), bq_at 1027 (by decide +kernel) (by decide +kernel), ⟨by decide +kernel, by decide +kernel, by decide +kernel⟩⟩
theorem kX12_121 : bq_cV RX12 121 mX12_isOpen 1 := ⟨bq_at 1020 (by decide +kernel) (by decide +kernel), bq_at 1022 (by decide +kernel) (by decide +kernel), bq_at 31 (by decide +kernel) (by decide +kernel), bq_at 66 (by decide +kernel) (by decide +kernel), bq_at 1023 (by decide +kernel) (by decide +kernel), ⟨by decide +kernel, by decide +kernel, by decide +kernel⟩⟩
theorem kX12_124 : bq_cV RX12 124 mX12_openMany 0 := ⟨bq_at 1028 (by decide +kernel) (by decide +kernel), bq_at 1030 (by decide +kernel) (by decide +kernel), bq_at 33 (by decide +kernel) (by decide +kernel), bq_at 66 (by decide +kernel) (by decide +kernel), bq_at 1031 (by decide +kernel) (by decide +kernel), ⟨by decide +kernel, by decide +kernel, by decide +kernel⟩⟩
theorem kX12_128 : bq_cV RX12 128 mX12_rateFor 2 := ⟨bq_at 1060 (by decide +kernel) (by decide +kernel), bq_at 1062 (by decide +kernel) (by decide +kernel), bq_at 40 (by decide +kernel) (by decide +kernel), bq_at 66 (by decide +kernel) (by decide +kernel), bq_at 1063 (by decide +kernel) (by decide +kernel), ⟨by decide +kernel, by decide +kernel, by decide +kernel⟩⟩
theorem kX12_135 : bq_cV RX12 135 mX12_alcoholOf 1 := ⟨bq_at 1044 (by decide +kernel) (by decide +kernel), bq_at 1046 (by decide +kernel) (by decide +kernel), bq_at 36 (by decide +kernel) (by decide +kernel), bq_at 66 (by decide +kernel) (by decide +kernel), bq_at 1047 (by decide +kernel) (by decide +kernel), ⟨by decide +kernel, by decide +kernel, by decide +kernel⟩⟩
theorem kX12_139 : bq_cV RX12 139 mX12_blend 0 := ⟨bq_at 1040 (by decide +kernel) (by decide +kernel), bq_at 1042 (by decide +kernel) (by decide +kernel), bq_at 35 (by decide +kernel) (by decide +kernel), bq_at 66 (by decide +kernel) (by decide +kernel), bq_at 1043 (by decide +kernel) (by decide +kernel), ⟨by decide +kernel, by decide +kernel, by decide +kernel⟩⟩
theorem kX12_142 : bq_cV RX12 142 mX12_dutyFor 3 := ⟨bq_at 1056 (by decide +kernel) (by decide +kernel), bq_at 1058 (by decide +kernel) (by decide +kernel), bq_at 39 (by decide +kernel) (by decide +kernel), bq_at 66 (by decide +kernel) (by decide +kernel), bq_at 1059 (by decide +kernel) (by decide +kernel), ⟨by decide +kernel, by decide +kernel, by decide +kernel⟩⟩
theorem kX12_146 : bq_cV RX12 146 mX12_hinders 1 := ⟨bq_at 1036 (by decide +kernel) (by decide +kernel), bq_at 1038 (by decide +kernel) (by decide +kernel), bq_at 34 (by decide +kernel) (by decide +kernel), bq_at 66 (by decide +kernel) (by decide +kernel), bq_at 1039 (by decide +kernel) (by decide +kernel), ⟨by decide +kernel, by decide +kernel, by decide +kernel⟩⟩
theorem kX12_149 : bq_cV RX12 149 mX12_fills 2 := ⟨bq_at 1052 (by decide +kernel) (by decide +kernel), bq_at 1054 (by decide +kernel) (by decide +kernel), bq_at 38 (by decide +kernel) (by decide +kernel), bq_at 66 (by decide +kernel) (by decide +kernel), bq_at 1055 (by decide +kernel) (by decide +kernel), ⟨by decide +kernel, by decide +kernel, by decide +kernel⟩⟩
theorem kX12_153 : bq_cV RX12 153 mX12_isAhead 2 := ⟨bq_at 1078 (by decide +kernel) (by decide +kernel), bq_at 1080 (by decide +kernel) (by decide +kernel), bq_at 43 (by decide +kernel) (by decide +kernel), bq_at 66 (by decide +kernel) (by decide +kernel), bq_at 1081 (by decide +kernel) (by decide +kernel), ⟨by decide +kernel, by decide +kernel, by decide +kernel⟩⟩
theorem kX12_157 : bq_cV RX12 157 mX12_looksAtPlan 1 := ⟨bq_at 1086 (by decide +kernel) (by decide +kernel), bq_at 1088 (by decide +kernel) (by decide +kernel), bq_at 45 (by decide +kernel) (by decide +kernel), bq_at 66 (by decide +kernel) (by decide +kernel), bq_at 1089 (by decide +kernel) (by decide +kernel), ⟨by decide +kernel, by decide +kernel, by decide +kernel⟩⟩
theorem kX12_163 : bq_cV RX12 163 mX12_nextOrder 0 := ⟨bq_at 1074 (by decide +kernel) (by decide +kernel), bq_at 1076 (by decide +kernel) (by decide +kernel), bq_at 42 (by decide +kernel) (by decide +kernel), bq_at 66 (by decide +kernel) (by decide +kernel), bq_at 1077 (by decide +kernel) (by decide +kernel), ⟨by decide +kernel, by decide +kernel, by decide +kernel⟩⟩
theorem kX12_166 : bq_cV RX12 166 mX12_tankFor 1 := ⟨bq_at 1082 (by decide +kernel) (by decide +kernel), bq_at 1084 (by decide +kernel) (by decide +kernel), bq_at 44 (by decide +kernel) (by decide +kernel), bq_at 66 (by decide +kernel) (by decide +kernel), bq_at 1085 (by decide +kernel) (by decide +kernel), ⟨by decide +kernel, by decide +kernel, by decide +kernel⟩⟩
theorem kX12_169 : bq_cV RX12 169 mX12_plans 0 := ⟨bq_at 1070 (by decide +kernel) (by decide +kernel), bq_at 1072 (by decide +kernel) (by decide +kernel), bq_at 41 (by decide +kernel) (by decide +kernel), bq_at 66 (by decide +kernel) (by decide +kernel), bq_at 1073 (by decide +kernel) (by decide +kernel), ⟨by decide +kernel, by decide +kernel, by decide +kernel⟩⟩
theorem kX12_172 : bq_cS RX12 172 mX12_isByte 1 := ⟨bq_at 1102 (by decide +kernel) (by decide +kernel), bq_at 1103 (by decide +kernel) (by decide +kernel), bq_at 66 (by decide +kernel) (by decide +kernel), bq_at 1104 (by decide +kernel) (by decide +kernel), ⟨by decide +kernel, by decide +kernel, by decide +kernel⟩⟩
theorem kX12_184 : bq_cV RX12 184 mX12_here 0 := ⟨bq_at 1113 (by decide +kernel) (by decide +kernel), bq_at 1115 (by decide +kernel) (by decide +kernel), bq_at 47 (by decide +kernel) (by decide +kernel), bq_at 66 (by decide +kernel) (by decide +kernel), bq_at 1116 (by decide +kernel) (by decide +kernel), ⟨by decide +kernel, by decide +kernel, by decide +kernel⟩⟩
theorem kX12_187 : bq_cV RX12 187 mX12_readsDigits 1 := ⟨bq_at 1117 (by decide +kernel) (by decide +kernel), bq_at 1119 (by decide +kernel) (by decide +kernel), bq_at 48 (by decide +kernel) (by decide +kernel), bq_at 66 (by decide +kernel) (by decide +kernel), bq_at 1120 (by decide +kernel) (by decide +kernel), ⟨by decide +kernel, by decide +kernel, by decide +kernel⟩⟩
theorem kX12_190 : bq_cV RX12 190 mX12_reads 1 := ⟨bq_at 1121 (by decide +kernel) (by decide +kernel), bq_at 1123 (by decide +kernel) (by decide +kernel), bq_at 49 (by decide +kernel) (by decide +kernel), bq_at 66 (by decide +kernel) (by decide +kernel), bq_at 1124 (by decide +kernel) (by decide +kernel), ⟨by decide +kernel, by decide +kernel, by decide +kernel⟩⟩
theorem kX12_194 : bq_cV RX12 194 mX12_transfer 3 := ⟨bq_at 1129 (by decide +kernel) (by decide +kernel), bq_at 978 (by decide +kernel) (by decide +kernel), bq_at 979 (by decide +kernel) (by decide +kernel), bq_at 66 (by decide +kernel) (by decide +kernel), bq_at 980 (by decide +kernel) (by decide +kernel), ⟨by decide +kernel, by decide +kernel, by decide +kernel⟩⟩
theorem kX12_197 : bq_cV RX12 197 mX12_lose 3 := ⟨bq_at 1130 (by decide +kernel) (by decide +kernel), bq_at 1001 (by decide +kernel) (by decide +kernel), bq_at 1002 (by decide +kernel) (by decide +kernel), bq_at 66 (by decide +kernel) (by decide +kernel), bq_at 1003 (by decide +kernel) (by decide +kernel), ⟨by decide +kernel, by decide +kernel, by decide +kernel⟩⟩
theorem kX12_200 : bq_cV RX12 200 mX12_fill 2 := ⟨bq_at 1131 (by decide +kernel) (by decide +kernel), bq_at 1033 (by decide +kernel) (by decide +kernel), bq_at 1034 (by decide +kernel) (by decide +kernel), bq_at 66 (by decide +kernel) (by decide +kernel), bq_at 1035 (by decide +kernel) (by decide +kernel), ⟨by decide +kernel, by decide +kernel, by decide +kernel⟩⟩
theorem kX12_203 : bq_cV RX12 203 mX12_clean 1 := ⟨bq_at 1132 (by decide +kernel) (by decide +kernel), bq_at 1091 (by decide +kernel) (by decide +kernel), bq_at 1092 (by decide +kernel) (by decide +kernel), bq_at 66 (by decide +kernel) (by decide +kernel), bq_at 1093 (by decide +kernel) (by decide +kernel), ⟨by decide +kernel, by decide +kernel, by decide +kernel⟩⟩
theorem kX12_206 : bq_cV RX12 206 mX12_pass 1 := ⟨bq_at 1133 (by decide +kernel) (by decide +kernel), bq_at 1095 (by decide +kernel) (by decide +kernel), bq_at 1096 (by decide +kernel) (by decide +kernel), bq_at 66 (by decide +kernel) (by decide +kernel), bq_at 1097 (by decide +kernel) (by decide +kernel), ⟨by decide +kernel, by decide +kernel, by decide +kernel⟩⟩
theorem kX12_209 : bq_cV RX12 209 mX12_readsCommand 1 := ⟨bq_at 1109 (by decide +kernel) (by decide +kernel), bq_at 1111 (by decide +kernel) (by decide +kernel), bq_at 46 (by decide +kernel) (by decide +kernel), bq_at 66 (by decide +kernel) (by decide +kernel), bq_at 1112 (by decide +kernel) (by decide +kernel), ⟨by decide +kernel, by decide +kernel, by decide +kernel⟩⟩
theorem kX12_212 : bq_cV RX12 212 mX12_does 1 := ⟨bq_at 1125 (by decide +kernel) (by decide +kernel), bq_at 1127 (by decide +kernel) (by decide +kernel), bq_at 50 (by decide +kernel) (by decide +kernel), bq_at 66 (by decide +kernel) (by decide +kernel), bq_at 1128 (by decide +kernel) (by decide +kernel), ⟨by decide +kernel, by decide +kernel, by decide +kernel⟩⟩
theorem kX12_215 : bq_wmax RX12 215 := ⟨bq_at 1154 (by decide +kernel) (by decide +kernel), bq_at 1155 (by decide +kernel) (by decide +kernel), bq_at 68 (by decide +kernel) (by decide +kernel), bq_at 1156 (by decide +kernel) (by decide +kernel)⟩
theorem kX12_220 : bq_wmin RX12 220 := ⟨bq_at 1157 (by decide +kernel) (by decide +kernel), bq_at 1158 (by decide +kernel) (by decide +kernel), bq_at 68 (by decide +kernel) (by decide +kernel), bq_at 1159 (by decide +kernel) (by decide +kernel)⟩
theorem kX12_223 : bq_cV RX12 223 mX12_alcoholBy 2 := ⟨bq_at 1160 (by decide +kernel) (by decide +kernel), bq_at 1162 (by decide +kernel) (by decide +kernel), bq_at 51 (by decide +kernel) (by decide +kernel), bq_at 66 (by decide +kernel) (by decide +kernel), bq_at 1163 (by decide +kernel) (by decide +kernel), ⟨by decide +kernel, by decide +kernel, by decide +kernel⟩⟩
theorem kX12_227 : bq_wabsL RX12 227 := ⟨bq_at 1164 (by decide +kernel) (by decide +kernel), bq_at 776 (by decide +kernel) (by decide +kernel), bq_at 68 (by decide +kernel) (by decide +kernel), bq_at 777 (by decide +kernel) (by decide +kernel)⟩
theorem kX12_235 : bq_cV RX12 235 mX12_excised 1 := ⟨bq_at 1182 (by decide +kernel) (by decide +kernel), bq_at 1184 (by decide +kernel) (by decide +kernel), bq_at 52 (by decide +kernel) (by decide +kernel), bq_at 66 (by decide +kernel) (by decide +kernel), bq_at 1185 (by decide +kernel) (by decide +kernel), ⟨by decide +kernel, by decide +kernel, by decide +kernel⟩⟩
theorem kX12_239 : bq_cV RX12 239 mX12_excise 1 := ⟨bq_at 1190 (by decide +kernel) (by decide +kernel), bq_at 1178 (by decide +kernel) (by decide +kernel), bq_at 1179 (by decide +kernel) (by decide +kernel), bq_at 66 (by decide +kernel) (by decide +kernel), bq_at 1180 (by decide +kernel) (by decide +kernel), ⟨by decide +kernel, by decide +kernel, by decide +kernel⟩⟩
theorem kX12_243 : bq_cV RX12 243 mX12_ofBatch 2 := ⟨bq_at 1199 (by decide +kernel) (by decide +kernel), bq_at 1147 (by decide +kernel) (by decide +kernel), bq_at 1148 (by decide +kernel) (by decide +kernel), bq_at 66 (by decide +kernel) (by decide +kernel), bq_at 1149 (by decide +kernel) (by decide +kernel), ⟨by decide +kernel, by decide +kernel, by decide +kernel⟩⟩
theorem kL_9 : bq_cI RL 9 mX11_init 0 := ⟨bq_at 71 (by decide +kernel) (by decide +kernel), bq_at 72 (by decide +kernel) (by decide +kernel), rfl, bq_at 54 (by decide +kernel) (by decide +kernel), bq_at 73 (by decide +kernel) (by decide +kernel), ⟨by decide +kernel, by decide +kernel, by decide +kernel⟩⟩
theorem kL_12 : bq_cI RL 12 mX12_init 0 := ⟨bq_at 863 (by decide +kernel) (by decide +kernel), bq_at 864 (by decide +kernel) (by decide +kernel), rfl, bq_at 66 (by decide +kernel) (by decide +kernel), bq_at 865 (by decide +kernel) (by decide +kernel), ⟨by decide +kernel, by decide +kernel, by decide +kernel⟩⟩
theorem kL_13 : bq_cV RL 13 mX11_size 2 := ⟨bq_at 445 (by decide +kernel) (by decide +kernel), bq_at 446 (by decide +kernel) (by decide +kernel), bq_at 447 (by decide +kernel) (by decide +kernel), bq_at 54 (by decide +kernel) (by decide +kernel), bq_at 448 (by decide +kernel) (by decide +kernel), ⟨by decide +kernel, by decide +kernel, by decide +kernel⟩⟩
theorem kL_17 : bq_cV RL 17 mX12_size 2 := ⟨bq_at 932 (by decide +kernel) (by decide +kernel), bq_at 933 (by decide +kernel) (by decide +kernel), bq_at 934 (by decide +kernel) (by decide +kernel), bq_at 66 (by decide +kernel) (by decide +kernel), bq_at 935 (by decide +kernel) (by decide +kernel), ⟨by decide +kernel, by decide +kernel, by decide +kernel⟩⟩
theorem kL_18 : bq_cV RL 18 mX11_brew 3 := ⟨bq_at 503 (by decide +kernel) (by decide +kernel), bq_at 504 (by decide +kernel) (by decide +kernel), bq_at 505 (by decide +kernel) (by decide +kernel), bq_at 54 (by decide +kernel) (by decide +kernel), bq_at 506 (by decide +kernel) (by decide +kernel), ⟨by decide +kernel, by decide +kernel, by decide +kernel⟩⟩
theorem kL_22 : bq_cV RL 22 mX12_brew 3 := ⟨bq_at 969 (by decide +kernel) (by decide +kernel), bq_at 970 (by decide +kernel) (by decide +kernel), bq_at 971 (by decide +kernel) (by decide +kernel), bq_at 66 (by decide +kernel) (by decide +kernel), bq_at 972 (by decide +kernel) (by decide +kernel), ⟨by decide +kernel, by decide +kernel, by decide +kernel⟩⟩
theorem kL_23 : bq_cV RL 23 mX11_transfer 3 := ⟨bq_at 524 (by decide +kernel) (by decide +kernel), bq_at 525 (by decide +kernel) (by decide +kernel), bq_at 526 (by decide +kernel) (by decide +kernel), bq_at 54 (by decide +kernel) (by decide +kernel), bq_at 527 (by decide +kernel) (by decide +kernel), ⟨by decide +kernel, by decide +kernel, by decide +kernel⟩⟩
theorem kL_26 : bq_cV RL 26 mX12_transfer 3 := ⟨bq_at 977 (by decide +kernel) (by decide +kernel), bq_at 978 (by decide +kernel) (by decide +kernel), bq_at 979 (by decide +kernel) (by decide +kernel), bq_at 66 (by decide +kernel) (by decide +kernel), bq_at 980 (by decide +kernel) (by decide +kernel), ⟨by decide +kernel, by decide +kernel, by decide +kernel⟩⟩
theorem kL_27 : bq_cV RL 27 mX11_lose 3 := ⟨bq_at 568 (by decide +kernel) (by decide +kernel), bq_at 569 (by decide +kernel) (by decide +kernel), bq_at 570 (by decide +kernel) (by decide +kernel), bq_at 54 (by decide +kernel) (by decide +kernel), bq_at 571 (by decide +kernel) (by decide +kernel), ⟨by decide +kernel, by decide +kernel, by decide +kernel⟩⟩
theorem kL_30 : bq_cV RL 30 mX12_lose 3 := ⟨bq_at 1000 (by decide +kernel) (by decide +kernel), bq_at 1001 (by decide +kernel) (by decide +kernel), bq_at 1002 (by decide +kernel) (by decide +kernel), bq_at 66 (by decide +kernel) (by decide +kernel), bq_at 1003 (by decide +kernel) (by decide +kernel), ⟨by decide +kernel, by decide +kernel, by decide +kernel⟩⟩
theorem kL_31 : bq_cV RL 31 mX11_setLoss 1 := ⟨bq_at 576 (by decide +kernel) (by decide +kernel), bq_at 577 (by decide +kernel) (by decide +kernel), bq_at 578 (by decide +kernel) (by decide +kernel), bq_at 54 (by decide +kernel) (by decide +kernel), bq_at 579 (by decide +kernel) (by decide +kernel), ⟨by decide +kernel, by decide +kernel, by decide +kernel⟩⟩
theorem kL_35 : bq_cV RL 35 mX12_setLoss 1 := ⟨bq_at 1004 (by decide +kernel) (by decide +kernel), bq_at 1005 (by decide +kernel) (by decide +kernel), bq_at 1006 (by decide +kernel) (by decide +kernel), bq_at 66 (by decide +kernel) (by decide +kernel), bq_at 1007 (by decide +kernel) (by decide +kernel), ⟨by decide +kernel, by decide +kernel, by decide +kernel⟩⟩
theorem kL_36 : bq_cV RL 36 mX11_rate 3 := ⟨bq_at 580 (by decide +kernel) (by decide +kernel), bq_at 581 (by decide +kernel) (by decide +kernel), bq_at 582 (by decide +kernel) (by decide +kernel), bq_at 54 (by decide +kernel) (by decide +kernel), bq_at 583 (by decide +kernel) (by decide +kernel), ⟨by decide +kernel, by decide +kernel, by decide +kernel⟩⟩
theorem kL_39 : bq_cV RL 39 mX12_rate 3 := ⟨bq_at 1008 (by decide +kernel) (by decide +kernel), bq_at 1009 (by decide +kernel) (by decide +kernel), bq_at 1010 (by decide +kernel) (by decide +kernel), bq_at 66 (by decide +kernel) (by decide +kernel), bq_at 1011 (by decide +kernel) (by decide +kernel), ⟨by decide +kernel, by decide +kernel, by decide +kernel⟩⟩
theorem kL_40 : bq_cV RL 40 mX11_order 4 := ⟨bq_at 584 (by decide +kernel) (by decide +kernel), bq_at 585 (by decide +kernel) (by decide +kernel), bq_at 586 (by decide +kernel) (by decide +kernel), bq_at 54 (by decide +kernel) (by decide +kernel), bq_at 587 (by decide +kernel) (by decide +kernel), ⟨by decide +kernel, by decide +kernel, by decide +kernel⟩⟩
theorem kL_44 : bq_cV RL 44 mX12_order 4 := ⟨bq_at 1012 (by decide +kernel) (by decide +kernel), bq_at 1013 (by decide +kernel) (by decide +kernel), bq_at 1014 (by decide +kernel) (by decide +kernel), bq_at 66 (by decide +kernel) (by decide +kernel), bq_at 1015 (by decide +kernel) (by decide +kernel), ⟨by decide +kernel, by decide +kernel, by decide +kernel⟩⟩
theorem kL_45 : bq_cV RL 45 mX11_drop 1 := ⟨bq_at 588 (by decide +kernel) (by decide +kernel), bq_at 589 (by decide +kernel) (by decide +kernel), bq_at 590 (by decide +kernel) (by decide +kernel), bq_at 54 (by decide +kernel) (by decide +kernel), bq_at 591 (by decide +kernel) (by decide +kernel), ⟨by decide +kernel, by decide +kernel, by decide +kernel⟩⟩
theorem kL_48 : bq_cV RL 48 mX12_drop 1 := ⟨bq_at 1016 (by decide +kernel) (by decide +kernel), bq_at 1017 (by decide +kernel) (by decide +kernel), bq_at 1018 (by decide +kernel) (by decide +kernel), bq_at 66 (by decide +kernel) (by decide +kernel), bq_at 1019 (by decide +kernel) (by decide +kernel), ⟨by decide +kernel, by decide +kernel, by decide +kernel⟩⟩
theorem kL_49 : bq_cV RL 49 mX11_fill 2 := ⟨bq_at 600 (by decide +kernel) (by decide +kernel), bq_at 601 (by decide +kernel) (by decide +kernel), bq_at 602 (by decide +kernel) (by decide +kernel), bq_at 54 (by decide +kernel) (by decide +kernel), bq_at 603 (by decide +kernel) (by decide +kernel), ⟨by decide +kernel, by decide +kernel, by decide +kernel⟩⟩
theorem kL_52 : bq_cV RL 52 mX12_fill 2 := ⟨bq_at 1032 (by decide +kernel) (by decide +kernel), bq_at 1033 (by decide +kernel) (by decide +kernel), bq_at 1034 (by decide +kernel) (by decide +kernel), bq_at 66 (by decide +kernel) (by decide +kernel), bq_at 1035 (by decide +kernel) (by decide +kernel), ⟨by decide +kernel, by decide +kernel, by decide +kernel⟩⟩
theorem kL_53 : bq_cV RL 53 mX11_fillAll 0 := ⟨bq_at 633 (by decide +kernel) (by decide +kernel), bq_at 634 (by decide +kernel) (by decide +kernel), bq_at 635 (by decide +kernel) (by decide +kernel), bq_at 54 (by decide +kernel) (by decide +kernel), bq_at 636 (by decide +kernel) (by decide +kernel), ⟨by decide +kernel, by decide +kernel, by decide +kernel⟩⟩
theorem kL_57 : bq_cV RL 57 mX12_fillAll 0 := ⟨bq_at 1066 (by decide +kernel) (by decide +kernel), bq_at 1067 (by decide +kernel) (by decide +kernel), bq_at 1068 (by decide +kernel) (by decide +kernel), bq_at 66 (by decide +kernel) (by decide +kernel), bq_at 1069 (by decide +kernel) (by decide +kernel), ⟨by decide +kernel, by decide +kernel, by decide +kernel⟩⟩
theorem kL_58 : bq_cV RL 58 mX11_clean 1 := ⟨bq_at 659 (by decide +kernel) (by decide +kernel), bq_at 660 (by decide +kernel) (by decide +kernel), bq_at 661 (by decide +kernel) (by decide +kernel), bq_at 54 (by decide +kernel) (by decide +kernel), bq_at 662 (by decide +kernel) (by decide +kernel), ⟨by decide +kernel, by decide +kernel, by decide +kernel⟩⟩
theorem kL_61 : bq_cV RL 61 mX12_clean 1 := ⟨bq_at 1090 (by decide +kernel) (by decide +kernel), bq_at 1091 (by decide +kernel) (by decide +kernel), bq_at 1092 (by decide +kernel) (by decide +kernel), bq_at 66 (by decide +kernel) (by decide +kernel), bq_at 1093 (by decide +kernel) (by decide +kernel), ⟨by decide +kernel, by decide +kernel, by decide +kernel⟩⟩
theorem kL_62 : bq_cV RL 62 mX11_pass 1 := ⟨bq_at 667 (by decide +kernel) (by decide +kernel), bq_at 668 (by decide +kernel) (by decide +kernel), bq_at 669 (by decide +kernel) (by decide +kernel), bq_at 54 (by decide +kernel) (by decide +kernel), bq_at 670 (by decide +kernel) (by decide +kernel), ⟨by decide +kernel, by decide +kernel, by decide +kernel⟩⟩
theorem kL_65 : bq_cV RL 65 mX12_pass 1 := ⟨bq_at 1094 (by decide +kernel) (by decide +kernel), bq_at 1095 (by decide +kernel) (by decide +kernel), bq_at 1096 (by decide +kernel) (by decide +kernel), bq_at 66 (by decide +kernel) (by decide +kernel), bq_at 1097 (by decide +kernel) (by decide +kernel), ⟨by decide +kernel, by decide +kernel, by decide +kernel⟩⟩
theorem kL_66 : bq_cV RL 66 mX11_feed 6 := ⟨bq_at 675 (by decide +kernel) (by decide +kernel), bq_at 676 (by decide +kernel) (by decide +kernel), bq_at 677 (by decide +kernel) (by decide +kernel), bq_at 54 (by decide +kernel) (by decide +kernel), bq_at 678 (by decide +kernel) (by decide +kernel), ⟨by decide +kernel, by decide +kernel, by decide +kernel⟩⟩
theorem kL_70 : bq_cV RL 70 mX12_feed 6 := ⟨bq_at 1098 (by decide +kernel) (by decide +kernel), bq_at 1099 (by decide +kernel) (by decide +kernel), bq_at 1100 (by decide +kernel) (by decide +kernel), bq_at 66 (by decide +kernel) (by decide +kernel), bq_at 1101 (by decide +kernel) (by decide +kernel), ⟨by decide +kernel, by decide +kernel, by decide +kernel⟩⟩
theorem kL_71 : bq_cV RL 71 mX11_run 0 := ⟨bq_at 686 (by decide +kernel) (by decide +kernel), bq_at 687 (by decide +kernel) (by decide +kernel), bq_at 688 (by decide +kernel) (by decide +kernel), bq_at 54 (by decide +kernel) (by decide +kernel), bq_at 689 (by decide +kernel) (by decide +kernel), ⟨by decide +kernel, by decide +kernel, by decide +kernel⟩⟩
theorem kL_74 : bq_cV RL 74 mX12_run 0 := ⟨bq_at 1105 (by decide +kernel) (by decide +kernel), bq_at 1106 (by decide +kernel) (by decide +kernel), bq_at 1107 (by decide +kernel) (by decide +kernel), bq_at 66 (by decide +kernel) (by decide +kernel), bq_at 1108 (by decide +kernel) (by decide +kernel), ⟨by decide +kernel, by decide +kernel, by decide +kernel⟩⟩
theorem kL_75 : bq_cV RL 75 mX11_reason 0 := ⟨bq_at 722 (by decide +kernel) (by decide +kernel), bq_at 723 (by decide +kernel) (by decide +kernel), bq_at 724 (by decide +kernel) (by decide +kernel), bq_at 54 (by decide +kernel) (by decide +kernel), bq_at 725 (by decide +kernel) (by decide +kernel), ⟨by decide +kernel, by decide +kernel, by decide +kernel⟩⟩
theorem kL_78 : bq_cV RL 78 mX12_reason 0 := ⟨bq_at 1134 (by decide +kernel) (by decide +kernel), bq_at 1135 (by decide +kernel) (by decide +kernel), bq_at 1136 (by decide +kernel) (by decide +kernel), bq_at 66 (by decide +kernel) (by decide +kernel), bq_at 1137 (by decide +kernel) (by decide +kernel), ⟨by decide +kernel, by decide +kernel, by decide +kernel⟩⟩
theorem kL_79 : bq_cV RL 79 mX11_ofTank 2 := ⟨bq_at 726 (by decide +kernel) (by decide +kernel), bq_at 727 (by decide +kernel) (by decide +kernel), bq_at 728 (by decide +kernel) (by decide +kernel), bq_at 54 (by decide +kernel) (by decide +kernel), bq_at 729 (by decide +kernel) (by decide +kernel), ⟨by decide +kernel, by decide +kernel, by decide +kernel⟩⟩
theorem kL_82 : bq_cV RL 82 mX12_ofTank 2 := ⟨bq_at 1138 (by decide +kernel) (by decide +kernel), bq_at 1139 (by decide +kernel) (by decide +kernel), bq_at 1140 (by decide +kernel) (by decide +kernel), bq_at 66 (by decide +kernel) (by decide +kernel), bq_at 1141 (by decide +kernel) (by decide +kernel), ⟨by decide +kernel, by decide +kernel, by decide +kernel⟩⟩
theorem kL_83 : bq_cV RL 83 mX11_litres 2 := ⟨bq_at 734 (by decide +kernel) (by decide +kernel), bq_at 735 (by decide +kernel) (by decide +kernel), bq_at 736 (by decide +kernel) (by decide +kernel), bq_at 54 (by decide +kernel) (by decide +kernel), bq_at 737 (by decide +kernel) (by decide +kernel), ⟨by decide +kernel, by decide +kernel, by decide +kernel⟩⟩
theorem kL_86 : bq_cV RL 86 mX12_litres 2 := ⟨bq_at 1142 (by decide +kernel) (by decide +kernel), bq_at 1143 (by decide +kernel) (by decide +kernel), bq_at 1144 (by decide +kernel) (by decide +kernel), bq_at 66 (by decide +kernel) (by decide +kernel), bq_at 1145 (by decide +kernel) (by decide +kernel), ⟨by decide +kernel, by decide +kernel, by decide +kernel⟩⟩
theorem kL_87 : bq_cV RL 87 mX11_ofBatch 2 := ⟨bq_at 738 (by decide +kernel) (by decide +kernel), bq_at 739 (by decide +kernel) (by decide +kernel), bq_at 740 (by decide +kernel) (by decide +kernel), bq_at 54 (by decide +kernel) (by decide +kernel), bq_at 741 (by decide +kernel) (by decide +kernel), ⟨by decide +kernel, by decide +kernel, by decide +kernel⟩⟩
theorem kL_90 : bq_cV RL 90 mX12_ofBatch 2 := ⟨bq_at 1146 (by decide +kernel) (by decide +kernel), bq_at 1147 (by decide +kernel) (by decide +kernel), bq_at 1148 (by decide +kernel) (by decide +kernel), bq_at 66 (by decide +kernel) (by decide +kernel), bq_at 1149 (by decide +kernel) (by decide +kernel), ⟨by decide +kernel, by decide +kernel, by decide +kernel⟩⟩
theorem kL_91 : bq_cV RL 91 mX11_mix 4 := ⟨bq_at 750 (by decide +kernel) (by decide +kernel), bq_at 751 (by decide +kernel) (by decide +kernel), bq_at 752 (by decide +kernel) (by decide +kernel), bq_at 54 (by decide +kernel) (by decide +kernel), bq_at 753 (by decide +kernel) (by decide +kernel), ⟨by decide +kernel, by decide +kernel, by decide +kernel⟩⟩
theorem kL_94 : bq_cV RL 94 mX12_mix 4 := ⟨bq_at 1150 (by decide +kernel) (by decide +kernel), bq_at 1151 (by decide +kernel) (by decide +kernel), bq_at 1152 (by decide +kernel) (by decide +kernel), bq_at 66 (by decide +kernel) (by decide +kernel), bq_at 1153 (by decide +kernel) (by decide +kernel), ⟨by decide +kernel, by decide +kernel, by decide +kernel⟩⟩
theorem kL_95 : bq_cV RL 95 mX11_ofOrder 2 := ⟨bq_at 778 (by decide +kernel) (by decide +kernel), bq_at 779 (by decide +kernel) (by decide +kernel), bq_at 780 (by decide +kernel) (by decide +kernel), bq_at 54 (by decide +kernel) (by decide +kernel), bq_at 781 (by decide +kernel) (by decide +kernel), ⟨by decide +kernel, by decide +kernel, by decide +kernel⟩⟩
theorem kL_98 : bq_cV RL 98 mX12_ofOrder 2 := ⟨bq_at 1165 (by decide +kernel) (by decide +kernel), bq_at 1166 (by decide +kernel) (by decide +kernel), bq_at 1167 (by decide +kernel) (by decide +kernel), bq_at 66 (by decide +kernel) (by decide +kernel), bq_at 1168 (by decide +kernel) (by decide +kernel), ⟨by decide +kernel, by decide +kernel, by decide +kernel⟩⟩
theorem kL_99 : bq_cV RL 99 mX11_planned 1 := ⟨bq_at 786 (by decide +kernel) (by decide +kernel), bq_at 787 (by decide +kernel) (by decide +kernel), bq_at 788 (by decide +kernel) (by decide +kernel), bq_at 54 (by decide +kernel) (by decide +kernel), bq_at 789 (by decide +kernel) (by decide +kernel), ⟨by decide +kernel, by decide +kernel, by decide +kernel⟩⟩
theorem kL_102 : bq_cV RL 102 mX12_planned 1 := ⟨bq_at 1169 (by decide +kernel) (by decide +kernel), bq_at 1170 (by decide +kernel) (by decide +kernel), bq_at 1171 (by decide +kernel) (by decide +kernel), bq_at 66 (by decide +kernel) (by decide +kernel), bq_at 1172 (by decide +kernel) (by decide +kernel), ⟨by decide +kernel, by decide +kernel, by decide +kernel⟩⟩
theorem kL_103 : bq_cV RL 103 mX11_holds 2 := ⟨bq_at 790 (by decide +kernel) (by decide +kernel), bq_at 791 (by decide +kernel) (by decide +kernel), bq_at 792 (by decide +kernel) (by decide +kernel), bq_at 54 (by decide +kernel) (by decide +kernel), bq_at 793 (by decide +kernel) (by decide +kernel), ⟨by decide +kernel, by decide +kernel, by decide +kernel⟩⟩
theorem kL_106 : bq_cV RL 106 mX12_holds 2 := ⟨bq_at 1173 (by decide +kernel) (by decide +kernel), bq_at 1174 (by decide +kernel) (by decide +kernel), bq_at 1175 (by decide +kernel) (by decide +kernel), bq_at 66 (by decide +kernel) (by decide +kernel), bq_at 1176 (by decide +kernel) (by decide +kernel), ⟨by decide +kernel, by decide +kernel, by decide +kernel⟩⟩
theorem kL_107 : bq_cV RL 107 mX11_excise 1 := ⟨bq_at 795 (by decide +kernel) (by decide +kernel), bq_at 796 (by decide +kernel) (by decide +kernel), bq_at 797 (by decide +kernel) (by decide +kernel), bq_at 54 (by decide +kernel) (by decide +kernel), bq_at 798 (by decide +kernel) (by decide +kernel), ⟨by decide +kernel, by decide +kernel, by decide +kernel⟩⟩
theorem kL_111 : bq_cV RL 111 mX12_excise 1 := ⟨bq_at 1177 (by decide +kernel) (by decide +kernel), bq_at 1178 (by decide +kernel) (by decide +kernel), bq_at 1179 (by decide +kernel) (by decide +kernel), bq_at 66 (by decide +kernel) (by decide +kernel), bq_at 1180 (by decide +kernel) (by decide +kernel), ⟨by decide +kernel, by decide +kernel, by decide +kernel⟩⟩
theorem kL_112 : bq_cV RL 112 mX11_correct 0 := ⟨bq_at 810 (by decide +kernel) (by decide +kernel), bq_at 811 (by decide +kernel) (by decide +kernel), bq_at 812 (by decide +kernel) (by decide +kernel), bq_at 54 (by decide +kernel) (by decide +kernel), bq_at 813 (by decide +kernel) (by decide +kernel), ⟨by decide +kernel, by decide +kernel, by decide +kernel⟩⟩
theorem kL_115 : bq_cV RL 115 mX12_correct 0 := ⟨bq_at 1186 (by decide +kernel) (by decide +kernel), bq_at 1187 (by decide +kernel) (by decide +kernel), bq_at 1188 (by decide +kernel) (by decide +kernel), bq_at 66 (by decide +kernel) (by decide +kernel), bq_at 1189 (by decide +kernel) (by decide +kernel), ⟨by decide +kernel, by decide +kernel, by decide +kernel⟩⟩
theorem kL_116 : bq_cV RL 116 mX11_entry 2 := ⟨bq_at 814 (by decide +kernel) (by decide +kernel), bq_at 815 (by decide +kernel) (by decide +kernel), bq_at 816 (by decide +kernel) (by decide +kernel), bq_at 54 (by decide +kernel) (by decide +kernel), bq_at 817 (by decide +kernel) (by decide +kernel), ⟨by decide +kernel, by decide +kernel, by decide +kernel⟩⟩
theorem kL_119 : bq_cV RL 119 mX12_entry 2 := ⟨bq_at 1191 (by decide +kernel) (by decide +kernel), bq_at 1192 (by decide +kernel) (by decide +kernel), bq_at 1193 (by decide +kernel) (by decide +kernel), bq_at 66 (by decide +kernel) (by decide +kernel), bq_at 1194 (by decide +kernel) (by decide +kernel), ⟨by decide +kernel, by decide +kernel, by decide +kernel⟩⟩
theorem kL_120 : bq_cV RL 120 mX11_account 1 := ⟨bq_at 823 (by decide +kernel) (by decide +kernel), bq_at 824 (by decide +kernel) (by decide +kernel), bq_at 825 (by decide +kernel) (by decide +kernel), bq_at 54 (by decide +kernel) (by decide +kernel), bq_at 826 (by decide +kernel) (by decide +kernel), ⟨by decide +kernel, by decide +kernel, by decide +kernel⟩⟩
theorem kL_123 : bq_cV RL 123 mX12_account 1 := ⟨bq_at 1195 (by decide +kernel) (by decide +kernel), bq_at 1196 (by decide +kernel) (by decide +kernel), bq_at 1197 (by decide +kernel) (by decide +kernel), bq_at 66 (by decide +kernel) (by decide +kernel), bq_at 1198 (by decide +kernel) (by decide +kernel), ⟨by decide +kernel, by decide +kernel, by decide +kernel⟩⟩
theorem kL_124 : bq_cV RL 124 mX11_back 0 := ⟨bq_at 841 (by decide +kernel) (by decide +kernel), bq_at 842 (by decide +kernel) (by decide +kernel), bq_at 843 (by decide +kernel) (by decide +kernel), bq_at 54 (by decide +kernel) (by decide +kernel), bq_at 844 (by decide +kernel) (by decide +kernel), ⟨by decide +kernel, by decide +kernel, by decide +kernel⟩⟩
theorem kL_127 : bq_cV RL 127 mX12_back 0 := ⟨bq_at 1200 (by decide +kernel) (by decide +kernel), bq_at 1201 (by decide +kernel) (by decide +kernel), bq_at 1202 (by decide +kernel) (by decide +kernel), bq_at 66 (by decide +kernel) (by decide +kernel), bq_at 1203 (by decide +kernel) (by decide +kernel), ⟨by decide +kernel, by decide +kernel, by decide +kernel⟩⟩
theorem kL_128 : bq_cV RL 128 mX11_image 0 := ⟨bq_at 845 (by decide +kernel) (by decide +kernel), bq_at 846 (by decide +kernel) (by decide +kernel), bq_at 847 (by decide +kernel) (by decide +kernel), bq_at 54 (by decide +kernel) (by decide +kernel), bq_at 848 (by decide +kernel) (by decide +kernel), ⟨by decide +kernel, by decide +kernel, by decide +kernel⟩⟩
theorem kL_131 : bq_cV RL 131 mX12_image 0 := ⟨bq_at 1204 (by decide +kernel) (by decide +kernel), bq_at 1205 (by decide +kernel) (by decide +kernel), bq_at 1206 (by decide +kernel) (by decide +kernel), bq_at 66 (by decide +kernel) (by decide +kernel), bq_at 1207 (by decide +kernel) (by decide +kernel), ⟨by decide +kernel, by decide +kernel, by decide +kernel⟩⟩
theorem kL_132 : bq_cV RL 132 mX11_undo 0 := ⟨bq_at 849 (by decide +kernel) (by decide +kernel), bq_at 850 (by decide +kernel) (by decide +kernel), bq_at 851 (by decide +kernel) (by decide +kernel), bq_at 54 (by decide +kernel) (by decide +kernel), bq_at 852 (by decide +kernel) (by decide +kernel), ⟨by decide +kernel, by decide +kernel, by decide +kernel⟩⟩
theorem kL_135 : bq_cV RL 135 mX12_undo 0 := ⟨bq_at 1208 (by decide +kernel) (by decide +kernel), bq_at 1209 (by decide +kernel) (by decide +kernel), bq_at 1210 (by decide +kernel) (by decide +kernel), bq_at 66 (by decide +kernel) (by decide +kernel), bq_at 1211 (by decide +kernel) (by decide +kernel), ⟨by decide +kernel, by decide +kernel, by decide +kernel⟩⟩
theorem kL_136 : bq_cV RL 136 mX11_count 1 := ⟨bq_at 853 (by decide +kernel) (by decide +kernel), bq_at 854 (by decide +kernel) (by decide +kernel), bq_at 855 (by decide +kernel) (by decide +kernel), bq_at 54 (by decide +kernel) (by decide +kernel), bq_at 856 (by decide +kernel) (by decide +kernel), ⟨by decide +kernel, by decide +kernel, by decide +kernel⟩⟩
theorem kL_139 : bq_cV RL 139 mX12_count 1 := ⟨bq_at 1212 (by decide +kernel) (by decide +kernel), bq_at 1213 (by decide +kernel) (by decide +kernel), bq_at 1214 (by decide +kernel) (by decide +kernel), bq_at 66 (by decide +kernel) (by decide +kernel), bq_at 1215 (by decide +kernel) (by decide +kernel), ⟨by decide +kernel, by decide +kernel, by decide +kernel⟩⟩
theorem nL_7 : bq_nw RL 7 11 11 := ⟨RX11, TX11, rfl, lwX11, bq_at 69 (by decide +kernel) (by decide +kernel), bq_at 70 (by decide +kernel) (by decide +kernel), bq_at 54 (by decide +kernel) (by decide +kernel)⟩
theorem qL_7 : Cond.classLink RL 7 RX11 ∈ bq_TB := bq_at 69 (by decide +kernel) (by decide +kernel)
theorem nX11_7 : bq_nw RX11 7 8 17 := ⟨RX8, TX8, rfl, lwX8, bq_at 77 (by decide +kernel) (by decide +kernel), bq_at 78 (by decide +kernel) (by decide +kernel), bq_at 55 (by decide +kernel) (by decide +kernel)⟩
theorem qX11_7 : Cond.classLink RX11 7 RX8 ∈ bq_TB := bq_at 77 (by decide +kernel) (by decide +kernel)
theorem nX8_18 : bq_nw RX8 18 9 4 := ⟨RX9, TX9, rfl, lwX9, bq_at 83 (by decide +kernel) (by decide +kernel), bq_at 117 (by decide +kernel) (by decide +kernel), bq_at 58 (by decide +kernel) (by decide +kernel)⟩
theorem qX8_18 : Cond.classLink RX8 18 RX9 ∈ bq_TB := bq_at 83 (by decide +kernel) (by decide +kernel)
theorem nX8_34 : bq_nw RX8 34 0 1 := ⟨RX0, TX0, rfl, lwX0, bq_at 85 (by decide +kernel) (by decide +kernel), bq_at 86 (by decide +kernel) (by decide +kernel), bq_at 56 (by decide +kernel) (by decide +kernel)⟩
theorem qX8_34 : Cond.classLink RX8 34 RX0 ∈ bq_TB := bq_at 85 (by decide +kernel) (by decide +kernel)
theorem nX8_53 : bq_nw RX8 53 7 3 := ⟨RX7, TX7, rfl, lwX7, bq_at 99 (by decide +kernel) (by decide +kernel), bq_at 144 (by decide +kernel) (by decide +kernel), bq_at 59 (by decide +kernel) (by decide +kernel)⟩
theorem qX8_53 : Cond.classLink RX8 53 RX7 ∈ bq_TB := bq_at 99 (by decide +kernel) (by decide +kernel)
theorem nX8_62 : bq_nw RX8 62 4 9 := ⟨RX4, TX4, rfl, lwX4, bq_at 101 (by decide +kernel) (by decide +kernel), bq_at 165 (by decide +kernel) (by decide +kernel), bq_at 60 (by decide +kernel) (by decide +kernel)⟩
theorem qX8_62 : Cond.classLink RX8 62 RX4 ∈ bq_TB := bq_at 101 (by decide +kernel) (by decide +kernel)
theorem nX8_75 : bq_nw RX8 75 2 2 := ⟨RX2, TX2, rfl, lwX2, bq_at 103 (by decide +kernel) (by decide +kernel), bq_at 104 (by decide +kernel) (by decide +kernel), bq_at 57 (by decide +kernel) (by decide +kernel)⟩
theorem qX8_75 : Cond.classLink RX8 75 RX2 ∈ bq_TB := bq_at 103 (by decide +kernel) (by decide +kernel)
theorem nX9_21 : bq_nw RX9 21 0 1 := ⟨RX0, TX0, rfl, lwX0, bq_at 122 (by decide +kernel) (by decide +kernel), bq_at 86 (by decide +kernel) (by decide +kernel), bq_at 56 (by decide +kernel) (by decide +kernel)⟩
theorem qX9_21 : Cond.classLink RX9 21 RX0 ∈ bq_TB := bq_at 122 (by decide +kernel) (by decide +kernel)
theorem nX11_31 : bq_nw RX11 31 10 6 := ⟨RX10, TX10, rfl, lwX10, bq_at 288 (by decide +kernel) (by decide +kernel), bq_at 289 (by decide +kernel) (by decide +kernel), bq_at 61 (by decide +kernel) (by decide +kernel)⟩
theorem qX11_31 : Cond.classLink RX11 31 RX10 ∈ bq_TB := bq_at 288 (by decide +kernel) (by decide +kernel)
theorem nX10_29 : bq_nw RX10 29 1 4 := ⟨RX1, TX1, rfl, lwX1, bq_at 294 (by decide +kernel) (by decide +kernel), bq_at 296 (by decide +kernel) (by decide +kernel), bq_at 62 (by decide +kernel) (by decide +kernel)⟩
theorem qX10_29 : Cond.classLink RX10 29 RX1 ∈ bq_TB := bq_at 294 (by decide +kernel) (by decide +kernel)
theorem nX11_38 : bq_nw RX11 38 5 7 := ⟨RX5, TX5, rfl, lwX5, bq_at 345 (by decide +kernel) (by decide +kernel), bq_at 346 (by decide +kernel) (by decide +kernel), bq_at 63 (by decide +kernel) (by decide +kernel)⟩
theorem qX11_38 : Cond.classLink RX11 38 RX5 ∈ bq_TB := bq_at 345 (by decide +kernel) (by decide +kernel)
theorem nX5_28 : bq_nw RX5 28 0 1 := ⟨RX0, TX0, rfl, lwX0, bq_at 351 (by decide +kernel) (by decide +kernel), bq_at 86 (by decide +kernel) (by decide +kernel), bq_at 56 (by decide +kernel) (by decide +kernel)⟩
theorem qX5_28 : Cond.classLink RX5 28 RX0 ∈ bq_TB := bq_at 351 (by decide +kernel) (by decide +kernel)
theorem nX5_34 : bq_nw RX5 34 6 2 := ⟨RX6, TX6, rfl, lwX6, bq_at 353 (by decide +kernel) (by decide +kernel), bq_at 354 (by decide +kernel) (by decide +kernel), bq_at 64 (by decide +kernel) (by decide +kernel)⟩
theorem qX5_34 : Cond.classLink RX5 34 RX6 ∈ bq_TB := bq_at 353 (by decide +kernel) (by decide +kernel)
theorem nX6_9 : bq_nw RX6 9 0 1 := ⟨RX0, TX0, rfl, lwX0, bq_at 359 (by decide +kernel) (by decide +kernel), bq_at 86 (by decide +kernel) (by decide +kernel), bq_at 56 (by decide +kernel) (by decide +kernel)⟩
theorem qX6_9 : Cond.classLink RX6 9 RX0 ∈ bq_TB := bq_at 359 (by decide +kernel) (by decide +kernel)
theorem nX11_45 : bq_nw RX11 45 3 1 := ⟨RX3, TX3, rfl, lwX3, bq_at 397 (by decide +kernel) (by decide +kernel), bq_at 398 (by decide +kernel) (by decide +kernel), bq_at 65 (by decide +kernel) (by decide +kernel)⟩
theorem qX11_45 : Cond.classLink RX11 45 RX3 ∈ bq_TB := bq_at 397 (by decide +kernel) (by decide +kernel)
theorem nX3_9 : bq_nw RX3 9 6 2 := ⟨RX6, TX6, rfl, lwX6, bq_at 403 (by decide +kernel) (by decide +kernel), bq_at 354 (by decide +kernel) (by decide +kernel), bq_at 64 (by decide +kernel) (by decide +kernel)⟩
theorem qX3_9 : Cond.classLink RX3 9 RX6 ∈ bq_TB := bq_at 403 (by decide +kernel) (by decide +kernel)
theorem nX11_52 : bq_nw RX11 52 6 2 := ⟨RX6, TX6, rfl, lwX6, bq_at 409 (by decide +kernel) (by decide +kernel), bq_at 354 (by decide +kernel) (by decide +kernel), bq_at 64 (by decide +kernel) (by decide +kernel)⟩
theorem qX11_52 : Cond.classLink RX11 52 RX6 ∈ bq_TB := bq_at 409 (by decide +kernel) (by decide +kernel)
theorem lX8_165 : Cond.constantLong RX8 165 (9999) ∈ bq_TB := bq_at 631 (by decide +kernel) (by decide +kernel)
theorem lX8_167 : Cond.constantLong RX8 167 (10000) ∈ bq_TB := bq_at 632 (by decide +kernel) (by decide +kernel)
theorem lX11_292 : Cond.constantLong RX11 292 (-9223372036854775808) ∈ bq_TB := bq_at 809 (by decide +kernel) (by decide +kernel)
theorem nL_10 : bq_nw RL 10 12 21 := ⟨RX12, TX12, rfl, lwX12, bq_at 861 (by decide +kernel) (by decide +kernel), bq_at 862 (by decide +kernel) (by decide +kernel), bq_at 66 (by decide +kernel) (by decide +kernel)⟩
theorem qL_10 : Cond.classLink RL 10 RX12 ∈ bq_TB := bq_at 861 (by decide +kernel) (by decide +kernel)
theorem lX12_131 : Cond.constantLong RX12 131 (9999) ∈ bq_TB := bq_at 1064 (by decide +kernel) (by decide +kernel)
theorem lX12_133 : Cond.constantLong RX12 133 (10000) ∈ bq_TB := bq_at 1065 (by decide +kernel) (by decide +kernel)
theorem lX12_233 : Cond.constantLong RX12 233 (-9223372036854775808) ∈ bq_TB := bq_at 1181 (by decide +kernel) (by decide +kernel)
theorem aI : Cond.arrayClass .int ∈ bq_TB := bq_at 98 (by decide +kernel) (by decide +kernel)
theorem aZ : Cond.arrayClass .boolean ∈ bq_TB := bq_at 931 (by decide +kernel) (by decide +kernel)
end
section
theorem i_vc : Claimed_1_1 ∧ Claimed_1_2 := sorry
end
