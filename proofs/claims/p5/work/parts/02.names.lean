-- ===== PART A: goes FIRST, ahead of the names: the tables' words, and 'selects' of the private methods out of them =====
/-- a private method of a class that the tables say can be made, by its rows of tables_1 -/
def lw_okq (q : MethodName × Nat) : Prop := (q.1.cls ≠ "java/lang/invoke/MethodHandle" ∧ q.1.cls ≠ "java/lang/invoke/VarHandle") ∧ Cond.instantiable q.1.cls q.2 ∈ tables_1 ∧ Cond.privateMethod q.1 ∈ tables_1 ∧ Cond.instanceMethod q.1 ∈ tables_1
theorem lw_p0 : lw_okq (⟨"BaleTallies$Cargo", "takeBill", "(LBaleTallies$Tape;)Z"⟩, 17) := ⟨⟨by decide +kernel, by decide +kernel⟩, List.mem_of_getElem? (i := 24) (by decide +kernel), List.mem_of_getElem? (i := 556) (by decide +kernel), List.mem_of_getElem? (i := 557) (by decide +kernel)⟩
theorem lw_p1 : lw_okq (⟨"BaleTallies$Cargo", "isTold", "(J)Z"⟩, 17) := ⟨⟨by decide +kernel, by decide +kernel⟩, List.mem_of_getElem? (i := 24) (by decide +kernel), List.mem_of_getElem? (i := 581) (by decide +kernel), List.mem_of_getElem? (i := 582) (by decide +kernel)⟩
theorem lw_p2 : lw_okq (⟨"BaleTallies$Cargo", "takeCouple", "(LBaleTallies$Tape;)Z"⟩, 17) := ⟨⟨by decide +kernel, by decide +kernel⟩, List.mem_of_getElem? (i := 24) (by decide +kernel), List.mem_of_getElem? (i := 607) (by decide +kernel), List.mem_of_getElem? (i := 608) (by decide +kernel)⟩
theorem lw_p3 : lw_okq (⟨"BaleTallies$Cargo", "takeLine", "(LBaleTallies$Tape;)Z"⟩, 17) := ⟨⟨by decide +kernel, by decide +kernel⟩, List.mem_of_getElem? (i := 24) (by decide +kernel), List.mem_of_getElem? (i := 627) (by decide +kernel), List.mem_of_getElem? (i := 628) (by decide +kernel)⟩
theorem lw_p4 : lw_okq (⟨"BaleTallies$Cargo", "keepMeasured", "(I)V"⟩, 17) := ⟨⟨by decide +kernel, by decide +kernel⟩, List.mem_of_getElem? (i := 24) (by decide +kernel), List.mem_of_getElem? (i := 636) (by decide +kernel), List.mem_of_getElem? (i := 637) (by decide +kernel)⟩
theorem lw_p5 : lw_okq (⟨"BaleTallies", "noteDeed", "(IIII)LBaleTallies$Deed;"⟩, 11) := ⟨⟨by decide +kernel, by decide +kernel⟩, List.mem_of_getElem? (i := 16) (by decide +kernel), List.mem_of_getElem? (i := 653) (by decide +kernel), List.mem_of_getElem? (i := 654) (by decide +kernel)⟩
theorem lw_p6 : lw_okq (⟨"BaleTallies", "forgetAnswers", "()V"⟩, 11) := ⟨⟨by decide +kernel, by decide +kernel⟩, List.mem_of_getElem? (i := 16) (by decide +kernel), List.mem_of_getElem? (i := 658) (by decide +kernel), List.mem_of_getElem? (i := 659) (by decide +kernel)⟩
theorem lw_p7 : lw_okq (⟨"BaleTallies$Law", "takeSum", "(LBaleTallies$Tape;I)Z"⟩, 4) := ⟨⟨by decide +kernel, by decide +kernel⟩, List.mem_of_getElem? (i := 64) (by decide +kernel), List.mem_of_getElem? (i := 671) (by decide +kernel), List.mem_of_getElem? (i := 672) (by decide +kernel)⟩
theorem lw_p8 : lw_okq (⟨"BaleTallies$Law", "takeProduct", "(LBaleTallies$Tape;I)Z"⟩, 4) := ⟨⟨by decide +kernel, by decide +kernel⟩, List.mem_of_getElem? (i := 64) (by decide +kernel), List.mem_of_getElem? (i := 675) (by decide +kernel), List.mem_of_getElem? (i := 676) (by decide +kernel)⟩
theorem lw_p9 : lw_okq (⟨"BaleTallies$Law", "takeThing", "(LBaleTallies$Tape;I)Z"⟩, 4) := ⟨⟨by decide +kernel, by decide +kernel⟩, List.mem_of_getElem? (i := 64) (by decide +kernel), List.mem_of_getElem? (i := 679) (by decide +kernel), List.mem_of_getElem? (i := 680) (by decide +kernel)⟩
theorem lw_p10 : lw_okq (⟨"BaleTallies$Law", "add", "(I)V"⟩, 4) := ⟨⟨by decide +kernel, by decide +kernel⟩, List.mem_of_getElem? (i := 64) (by decide +kernel), List.mem_of_getElem? (i := 688) (by decide +kernel), List.mem_of_getElem? (i := 689) (by decide +kernel)⟩
theorem lw_p11 : lw_okq (⟨"BaleTallies$Tallies", "count", "(I)V"⟩, 8) := ⟨⟨by decide +kernel, by decide +kernel⟩, List.mem_of_getElem? (i := 281) (by decide +kernel), List.mem_of_getElem? (i := 710) (by decide +kernel), List.mem_of_getElem? (i := 711) (by decide +kernel)⟩
theorem lw_p12 : lw_okq (⟨"BaleTallies$Tallies", "heapOf", "(I)I"⟩, 8) := ⟨⟨by decide +kernel, by decide +kernel⟩, List.mem_of_getElem? (i := 281) (by decide +kernel), List.mem_of_getElem? (i := 729) (by decide +kernel), List.mem_of_getElem? (i := 730) (by decide +kernel)⟩
theorem lw_p13 : lw_okq (⟨"BaleTallies", "isBill", "(I)Z"⟩, 11) := ⟨⟨by decide +kernel, by decide +kernel⟩, List.mem_of_getElem? (i := 16) (by decide +kernel), List.mem_of_getElem? (i := 755) (by decide +kernel), List.mem_of_getElem? (i := 756) (by decide +kernel)⟩
theorem lw_p14 : lw_okq (⟨"BaleTallies", "isLine", "(I)Z"⟩, 11) := ⟨⟨by decide +kernel, by decide +kernel⟩, List.mem_of_getElem? (i := 16) (by decide +kernel), List.mem_of_getElem? (i := 770) (by decide +kernel), List.mem_of_getElem? (i := 771) (by decide +kernel)⟩
theorem lw_p15 : lw_okq (⟨"BaleTallies", "matchAll", "()V"⟩, 11) := ⟨⟨by decide +kernel, by decide +kernel⟩, List.mem_of_getElem? (i := 16) (by decide +kernel), List.mem_of_getElem? (i := 792) (by decide +kernel), List.mem_of_getElem? (i := 793) (by decide +kernel)⟩
def lw_privs_1 : List (MethodName × Nat) := [(⟨"BaleTallies$Cargo", "takeBill", "(LBaleTallies$Tape;)Z"⟩, 17), (⟨"BaleTallies$Cargo", "isTold", "(J)Z"⟩, 17), (⟨"BaleTallies$Cargo", "takeCouple", "(LBaleTallies$Tape;)Z"⟩, 17), (⟨"BaleTallies$Cargo", "takeLine", "(LBaleTallies$Tape;)Z"⟩, 17), (⟨"BaleTallies$Cargo", "keepMeasured", "(I)V"⟩, 17), (⟨"BaleTallies", "noteDeed", "(IIII)LBaleTallies$Deed;"⟩, 11), (⟨"BaleTallies", "forgetAnswers", "()V"⟩, 11), (⟨"BaleTallies$Law", "takeSum", "(LBaleTallies$Tape;I)Z"⟩, 4), (⟨"BaleTallies$Law", "takeProduct", "(LBaleTallies$Tape;I)Z"⟩, 4), (⟨"BaleTallies$Law", "takeThing", "(LBaleTallies$Tape;I)Z"⟩, 4), (⟨"BaleTallies$Law", "add", "(I)V"⟩, 4), (⟨"BaleTallies$Tallies", "count", "(I)V"⟩, 8), (⟨"BaleTallies$Tallies", "heapOf", "(I)I"⟩, 8), (⟨"BaleTallies", "isBill", "(I)Z"⟩, 11), (⟨"BaleTallies", "isLine", "(I)Z"⟩, 11), (⟨"BaleTallies", "matchAll", "()V"⟩, 11)]
theorem lw_r1 : ∀ q ∈ lw_privs_1, lw_okq q := List.forall_mem_cons.mpr ⟨lw_p0, List.forall_mem_cons.mpr ⟨lw_p1, List.forall_mem_cons.mpr ⟨lw_p2, List.forall_mem_cons.mpr ⟨lw_p3, List.forall_mem_cons.mpr ⟨lw_p4, List.forall_mem_cons.mpr ⟨lw_p5, List.forall_mem_cons.mpr ⟨lw_p6, List.forall_mem_cons.mpr ⟨lw_p7, List.forall_mem_cons.mpr ⟨lw_p8, List.forall_mem_cons.mpr ⟨lw_p9, List.forall_mem_cons.mpr ⟨lw_p10, List.forall_mem_cons.mpr ⟨lw_p11, List.forall_mem_cons.mpr ⟨lw_p12, List.forall_mem_cons.mpr ⟨lw_p13, List.forall_mem_cons.mpr ⟨lw_p14, List.forall_mem_cons.mpr ⟨lw_p15, fun _ h => absurd h List.not_mem_nil⟩⟩⟩⟩⟩⟩⟩⟩⟩⟩⟩⟩⟩⟩⟩⟩
theorem lw_p16 : lw_okq (⟨"BaleTallies$Matching", "weighBills", "()V"⟩, 12) := ⟨⟨by decide +kernel, by decide +kernel⟩, List.mem_of_getElem? (i := 325) (by decide +kernel), List.mem_of_getElem? (i := 800) (by decide +kernel), List.mem_of_getElem? (i := 801) (by decide +kernel)⟩
theorem lw_p17 : lw_okq (⟨"BaleTallies$Matching", "measure", "(I)V"⟩, 12) := ⟨⟨by decide +kernel, by decide +kernel⟩, List.mem_of_getElem? (i := 325) (by decide +kernel), List.mem_of_getElem? (i := 810) (by decide +kernel), List.mem_of_getElem? (i := 811) (by decide +kernel)⟩
theorem lw_p18 : lw_okq (⟨"BaleTallies$Matching", "moveFrom", "(II)V"⟩, 12) := ⟨⟨by decide +kernel, by decide +kernel⟩, List.mem_of_getElem? (i := 325) (by decide +kernel), List.mem_of_getElem? (i := 816) (by decide +kernel), List.mem_of_getElem? (i := 817) (by decide +kernel)⟩
theorem lw_p19 : lw_okq (⟨"BaleTallies$Flow", "begin", "()V"⟩, 11) := ⟨⟨by decide +kernel, by decide +kernel⟩, List.mem_of_getElem? (i := 382) (by decide +kernel), List.mem_of_getElem? (i := 846) (by decide +kernel), List.mem_of_getElem? (i := 847) (by decide +kernel)⟩
theorem lw_p20 : lw_okq (⟨"BaleTallies$Flow", "cheapestEnd", "()I"⟩, 11) := ⟨⟨by decide +kernel, by decide +kernel⟩, List.mem_of_getElem? (i := 382) (by decide +kernel), List.mem_of_getElem? (i := 850) (by decide +kernel), List.mem_of_getElem? (i := 851) (by decide +kernel)⟩
theorem lw_p21 : lw_okq (⟨"BaleTallies$Flow", "goStraight", "()V"⟩, 11) := ⟨⟨by decide +kernel, by decide +kernel⟩, List.mem_of_getElem? (i := 382) (by decide +kernel), List.mem_of_getElem? (i := 854) (by decide +kernel), List.mem_of_getElem? (i := 855) (by decide +kernel)⟩
theorem lw_p22 : lw_okq (⟨"BaleTallies$Flow", "reaches", "(II)Z"⟩, 11) := ⟨⟨by decide +kernel, by decide +kernel⟩, List.mem_of_getElem? (i := 382) (by decide +kernel), List.mem_of_getElem? (i := 859) (by decide +kernel), List.mem_of_getElem? (i := 860) (by decide +kernel)⟩
theorem lw_p23 : lw_okq (⟨"BaleTallies$Flow", "goRound", "()Z"⟩, 11) := ⟨⟨by decide +kernel, by decide +kernel⟩, List.mem_of_getElem? (i := 382) (by decide +kernel), List.mem_of_getElem? (i := 863) (by decide +kernel), List.mem_of_getElem? (i := 864) (by decide +kernel)⟩
theorem lw_p24 : lw_okq (⟨"BaleTallies$Flow", "turn", "(II)Z"⟩, 11) := ⟨⟨by decide +kernel, by decide +kernel⟩, List.mem_of_getElem? (i := 382) (by decide +kernel), List.mem_of_getElem? (i := 867) (by decide +kernel), List.mem_of_getElem? (i := 868) (by decide +kernel)⟩
theorem lw_p25 : lw_okq (⟨"BaleTallies$Flow", "bringTo", "(I)V"⟩, 11) := ⟨⟨by decide +kernel, by decide +kernel⟩, List.mem_of_getElem? (i := 382) (by decide +kernel), List.mem_of_getElem? (i := 871) (by decide +kernel), List.mem_of_getElem? (i := 872) (by decide +kernel)⟩
theorem lw_p26 : lw_okq (⟨"BaleTallies$Flow", "mostTo", "(I)I"⟩, 11) := ⟨⟨by decide +kernel, by decide +kernel⟩, List.mem_of_getElem? (i := 382) (by decide +kernel), List.mem_of_getElem? (i := 875) (by decide +kernel), List.mem_of_getElem? (i := 876) (by decide +kernel)⟩
theorem lw_p27 : lw_okq (⟨"BaleTallies", "paidFor", "(I)I"⟩, 11) := ⟨⟨by decide +kernel, by decide +kernel⟩, List.mem_of_getElem? (i := 16) (by decide +kernel), List.mem_of_getElem? (i := 912) (by decide +kernel), List.mem_of_getElem? (i := 913) (by decide +kernel)⟩
theorem lw_p28 : lw_okq (⟨"BaleTallies$Cargo", "isIn", "(III)Z"⟩, 17) := ⟨⟨by decide +kernel, by decide +kernel⟩, List.mem_of_getElem? (i := 24) (by decide +kernel), List.mem_of_getElem? (i := 932) (by decide +kernel), List.mem_of_getElem? (i := 933) (by decide +kernel)⟩
theorem lw_p29 : lw_okq (⟨"BaleTallies$Cargo", "setAgainstShore", "(LBaleTallies$Line;I)V"⟩, 17) := ⟨⟨by decide +kernel, by decide +kernel⟩, List.mem_of_getElem? (i := 24) (by decide +kernel), List.mem_of_getElem? (i := 939) (by decide +kernel), List.mem_of_getElem? (i := 940) (by decide +kernel)⟩
theorem lw_p30 : lw_okq (⟨"BaleTallies$Cargo", "firstSeen", "(II)Z"⟩, 17) := ⟨⟨by decide +kernel, by decide +kernel⟩, List.mem_of_getElem? (i := 24) (by decide +kernel), List.mem_of_getElem? (i := 962) (by decide +kernel), List.mem_of_getElem? (i := 963) (by decide +kernel)⟩
theorem lw_p31 : lw_okq (⟨"BaleTallies", "balesInShed", "(I)I"⟩, 11) := ⟨⟨by decide +kernel, by decide +kernel⟩, List.mem_of_getElem? (i := 16) (by decide +kernel), List.mem_of_getElem? (i := 1010) (by decide +kernel), List.mem_of_getElem? (i := 1011) (by decide +kernel)⟩
def lw_privs_2 : List (MethodName × Nat) := [(⟨"BaleTallies$Matching", "weighBills", "()V"⟩, 12), (⟨"BaleTallies$Matching", "measure", "(I)V"⟩, 12), (⟨"BaleTallies$Matching", "moveFrom", "(II)V"⟩, 12), (⟨"BaleTallies$Flow", "begin", "()V"⟩, 11), (⟨"BaleTallies$Flow", "cheapestEnd", "()I"⟩, 11), (⟨"BaleTallies$Flow", "goStraight", "()V"⟩, 11), (⟨"BaleTallies$Flow", "reaches", "(II)Z"⟩, 11), (⟨"BaleTallies$Flow", "goRound", "()Z"⟩, 11), (⟨"BaleTallies$Flow", "turn", "(II)Z"⟩, 11), (⟨"BaleTallies$Flow", "bringTo", "(I)V"⟩, 11), (⟨"BaleTallies$Flow", "mostTo", "(I)I"⟩, 11), (⟨"BaleTallies", "paidFor", "(I)I"⟩, 11), (⟨"BaleTallies$Cargo", "isIn", "(III)Z"⟩, 17), (⟨"BaleTallies$Cargo", "setAgainstShore", "(LBaleTallies$Line;I)V"⟩, 17), (⟨"BaleTallies$Cargo", "firstSeen", "(II)Z"⟩, 17), (⟨"BaleTallies", "balesInShed", "(I)I"⟩, 11)]
theorem lw_r2 : ∀ q ∈ lw_privs_2, lw_okq q := List.forall_mem_cons.mpr ⟨lw_p16, List.forall_mem_cons.mpr ⟨lw_p17, List.forall_mem_cons.mpr ⟨lw_p18, List.forall_mem_cons.mpr ⟨lw_p19, List.forall_mem_cons.mpr ⟨lw_p20, List.forall_mem_cons.mpr ⟨lw_p21, List.forall_mem_cons.mpr ⟨lw_p22, List.forall_mem_cons.mpr ⟨lw_p23, List.forall_mem_cons.mpr ⟨lw_p24, List.forall_mem_cons.mpr ⟨lw_p25, List.forall_mem_cons.mpr ⟨lw_p26, List.forall_mem_cons.mpr ⟨lw_p27, List.forall_mem_cons.mpr ⟨lw_p28, List.forall_mem_cons.mpr ⟨lw_p29, List.forall_mem_cons.mpr ⟨lw_p30, List.forall_mem_cons.mpr ⟨lw_p31, fun _ h => absurd h List.not_mem_nil⟩⟩⟩⟩⟩⟩⟩⟩⟩⟩⟩⟩⟩⟩⟩⟩
theorem lw_p32 : lw_okq (⟨"BaleTallies$Settling", "isNearest", "(II)Z"⟩, 7) := ⟨⟨by decide +kernel, by decide +kernel⟩, List.mem_of_getElem? (i := 426) (by decide +kernel), List.mem_of_getElem? (i := 1046) (by decide +kernel), List.mem_of_getElem? (i := 1047) (by decide +kernel)⟩
theorem lw_p33 : lw_okq (⟨"BaleTallies$Settling", "weigh", "(I)V"⟩, 7) := ⟨⟨by decide +kernel, by decide +kernel⟩, List.mem_of_getElem? (i := 426) (by decide +kernel), List.mem_of_getElem? (i := 1051) (by decide +kernel), List.mem_of_getElem? (i := 1052) (by decide +kernel)⟩
theorem lw_p34 : lw_okq (⟨"BaleTallies$Settling", "balesOf", "(II)I"⟩, 7) := ⟨⟨by decide +kernel, by decide +kernel⟩, List.mem_of_getElem? (i := 426) (by decide +kernel), List.mem_of_getElem? (i := 1056) (by decide +kernel), List.mem_of_getElem? (i := 1057) (by decide +kernel)⟩
theorem lw_p35 : lw_okq (⟨"BaleTallies$Settling", "leastWith", "(II)I"⟩, 7) := ⟨⟨by decide +kernel, by decide +kernel⟩, List.mem_of_getElem? (i := 426) (by decide +kernel), List.mem_of_getElem? (i := 1067) (by decide +kernel), List.mem_of_getElem? (i := 1068) (by decide +kernel)⟩
theorem lw_p36 : lw_okq (⟨"BaleTallies$Settling", "fixFirst", "(II)I"⟩, 7) := ⟨⟨by decide +kernel, by decide +kernel⟩, List.mem_of_getElem? (i := 426) (by decide +kernel), List.mem_of_getElem? (i := 1077) (by decide +kernel), List.mem_of_getElem? (i := 1078) (by decide +kernel)⟩
theorem lw_p37 : lw_okq (⟨"BaleTallies$Settling", "allowOnly", "(II)V"⟩, 7) := ⟨⟨by decide +kernel, by decide +kernel⟩, List.mem_of_getElem? (i := 426) (by decide +kernel), List.mem_of_getElem? (i := 1081) (by decide +kernel), List.mem_of_getElem? (i := 1082) (by decide +kernel)⟩
theorem lw_p38 : lw_okq (⟨"BaleTallies$Cargo", "isCure", "(III)Z"⟩, 17) := ⟨⟨by decide +kernel, by decide +kernel⟩, List.mem_of_getElem? (i := 24) (by decide +kernel), List.mem_of_getElem? (i := 1094) (by decide +kernel), List.mem_of_getElem? (i := 1095) (by decide +kernel)⟩
theorem lw_p39 : lw_okq (⟨"BaleTallies$Deed", "swapLaw", "(LBaleTallies$Cargo;)V"⟩, 6) := ⟨⟨by decide +kernel, by decide +kernel⟩, List.mem_of_getElem? (i := 456) (by decide +kernel), List.mem_of_getElem? (i := 1121) (by decide +kernel), List.mem_of_getElem? (i := 1122) (by decide +kernel)⟩
theorem lw_p40 : lw_okq (⟨"BaleTallies", "put", "(I)V"⟩, 11) := ⟨⟨by decide +kernel, by decide +kernel⟩, List.mem_of_getElem? (i := 16) (by decide +kernel), List.mem_of_getElem? (i := 1133) (by decide +kernel), List.mem_of_getElem? (i := 1134) (by decide +kernel)⟩
theorem lw_p41 : lw_okq (⟨"BaleTallies", "putNumber", "(I)V"⟩, 11) := ⟨⟨by decide +kernel, by decide +kernel⟩, List.mem_of_getElem? (i := 16) (by decide +kernel), List.mem_of_getElem? (i := 1137) (by decide +kernel), List.mem_of_getElem? (i := 1138) (by decide +kernel)⟩
theorem lw_p42 : lw_okq (⟨"BaleTalliesModel", "four", "(I)V"⟩, 52) := ⟨⟨by decide +kernel, by decide +kernel⟩, List.mem_of_getElem? (i := 1145) (by decide +kernel), List.mem_of_getElem? (i := 1318) (by decide +kernel), List.mem_of_getElem? (i := 1319) (by decide +kernel)⟩
theorem lw_p43 : lw_okq (⟨"BaleTalliesModel", "countItems", "()I"⟩, 52) := ⟨⟨by decide +kernel, by decide +kernel⟩, List.mem_of_getElem? (i := 1145) (by decide +kernel), List.mem_of_getElem? (i := 1337) (by decide +kernel), List.mem_of_getElem? (i := 1338) (by decide +kernel)⟩
theorem lw_p44 : lw_okq (⟨"BaleTalliesModel", "readText", "()Z"⟩, 52) := ⟨⟨by decide +kernel, by decide +kernel⟩, List.mem_of_getElem? (i := 1145) (by decide +kernel), List.mem_of_getElem? (i := 1341) (by decide +kernel), List.mem_of_getElem? (i := 1342) (by decide +kernel)⟩
theorem lw_p45 : lw_okq (⟨"BaleTalliesModel", "here", "()I"⟩, 52) := ⟨⟨by decide +kernel, by decide +kernel⟩, List.mem_of_getElem? (i := 1145) (by decide +kernel), List.mem_of_getElem? (i := 1345) (by decide +kernel), List.mem_of_getElem? (i := 1346) (by decide +kernel)⟩
theorem lw_p46 : lw_okq (⟨"BaleTalliesModel", "readBill", "(I)Z"⟩, 52) := ⟨⟨by decide +kernel, by decide +kernel⟩, List.mem_of_getElem? (i := 1145) (by decide +kernel), List.mem_of_getElem? (i := 1349) (by decide +kernel), List.mem_of_getElem? (i := 1350) (by decide +kernel)⟩
theorem lw_p47 : lw_okq (⟨"BaleTalliesModel", "fails", "(I)Z"⟩, 52) := ⟨⟨by decide +kernel, by decide +kernel⟩, List.mem_of_getElem? (i := 1145) (by decide +kernel), List.mem_of_getElem? (i := 1353) (by decide +kernel), List.mem_of_getElem? (i := 1354) (by decide +kernel)⟩
def lw_privs_3 : List (MethodName × Nat) := [(⟨"BaleTallies$Settling", "isNearest", "(II)Z"⟩, 7), (⟨"BaleTallies$Settling", "weigh", "(I)V"⟩, 7), (⟨"BaleTallies$Settling", "balesOf", "(II)I"⟩, 7), (⟨"BaleTallies$Settling", "leastWith", "(II)I"⟩, 7), (⟨"BaleTallies$Settling", "fixFirst", "(II)I"⟩, 7), (⟨"BaleTallies$Settling", "allowOnly", "(II)V"⟩, 7), (⟨"BaleTallies$Cargo", "isCure", "(III)Z"⟩, 17), (⟨"BaleTallies$Deed", "swapLaw", "(LBaleTallies$Cargo;)V"⟩, 6), (⟨"BaleTallies", "put", "(I)V"⟩, 11), (⟨"BaleTallies", "putNumber", "(I)V"⟩, 11), (⟨"BaleTalliesModel", "four", "(I)V"⟩, 52), (⟨"BaleTalliesModel", "countItems", "()I"⟩, 52), (⟨"BaleTalliesModel", "readText", "()Z"⟩, 52), (⟨"BaleTalliesModel", "here", "()I"⟩, 52), (⟨"BaleTalliesModel", "readBill", "(I)Z"⟩, 52), (⟨"BaleTalliesModel", "fails", "(I)Z"⟩, 52)]
theorem lw_r3 : ∀ q ∈ lw_privs_3, lw_okq q := List.forall_mem_cons.mpr ⟨lw_p32, List.forall_mem_cons.mpr ⟨lw_p33, List.forall_mem_cons.mpr ⟨lw_p34, List.forall_mem_cons.mpr ⟨lw_p35, List.forall_mem_cons.mpr ⟨lw_p36, List.forall_mem_cons.mpr ⟨lw_p37, List.forall_mem_cons.mpr ⟨lw_p38, List.forall_mem_cons.mpr ⟨lw_p39, List.forall_mem_cons.mpr ⟨lw_p40, List.forall_mem_cons.mpr ⟨lw_p41, List.forall_mem_cons.mpr ⟨lw_p42, List.forall_mem_cons.mpr ⟨lw_p43, List.forall_mem_cons.mpr ⟨lw_p44, List.forall_mem_cons.mpr ⟨lw_p45, List.forall_mem_cons.mpr ⟨lw_p46, List.forall_mem_cons.mpr ⟨lw_p47, fun _ h => absurd h List.not_mem_nil⟩⟩⟩⟩⟩⟩⟩⟩⟩⟩⟩⟩⟩⟩⟩⟩
theorem lw_p48 : lw_okq (⟨"BaleTalliesModel", "readMark", "(IIZ)Z"⟩, 52) := ⟨⟨by decide +kernel, by decide +kernel⟩, List.mem_of_getElem? (i := 1145) (by decide +kernel), List.mem_of_getElem? (i := 1360) (by decide +kernel), List.mem_of_getElem? (i := 1361) (by decide +kernel)⟩
theorem lw_p49 : lw_okq (⟨"BaleTalliesModel", "isSame", "(IIII)Z"⟩, 52) := ⟨⟨by decide +kernel, by decide +kernel⟩, List.mem_of_getElem? (i := 1145) (by decide +kernel), List.mem_of_getElem? (i := 1370) (by decide +kernel), List.mem_of_getElem? (i := 1371) (by decide +kernel)⟩
theorem lw_p50 : lw_okq (⟨"BaleTalliesModel", "takes", "(I)Z"⟩, 52) := ⟨⟨by decide +kernel, by decide +kernel⟩, List.mem_of_getElem? (i := 1145) (by decide +kernel), List.mem_of_getElem? (i := 1374) (by decide +kernel), List.mem_of_getElem? (i := 1375) (by decide +kernel)⟩
theorem lw_p51 : lw_okq (⟨"BaleTalliesModel", "readCount", "(I)Z"⟩, 52) := ⟨⟨by decide +kernel, by decide +kernel⟩, List.mem_of_getElem? (i := 1145) (by decide +kernel), List.mem_of_getElem? (i := 1378) (by decide +kernel), List.mem_of_getElem? (i := 1379) (by decide +kernel)⟩
theorem lw_p52 : lw_okq (⟨"BaleTalliesModel", "readDigits", "(I)Z"⟩, 52) := ⟨⟨by decide +kernel, by decide +kernel⟩, List.mem_of_getElem? (i := 1145) (by decide +kernel), List.mem_of_getElem? (i := 1382) (by decide +kernel), List.mem_of_getElem? (i := 1383) (by decide +kernel)⟩
theorem lw_p53 : lw_okq (⟨"BaleTalliesModel", "readCouple", "(I)Z"⟩, 52) := ⟨⟨by decide +kernel, by decide +kernel⟩, List.mem_of_getElem? (i := 1145) (by decide +kernel), List.mem_of_getElem? (i := 1386) (by decide +kernel), List.mem_of_getElem? (i := 1387) (by decide +kernel)⟩
theorem lw_p54 : lw_okq (⟨"BaleTalliesModel", "isLike", "(II)Z"⟩, 52) := ⟨⟨by decide +kernel, by decide +kernel⟩, List.mem_of_getElem? (i := 1145) (by decide +kernel), List.mem_of_getElem? (i := 1390) (by decide +kernel), List.mem_of_getElem? (i := 1391) (by decide +kernel)⟩
theorem lw_p55 : lw_okq (⟨"BaleTalliesModel", "readLine", "(I)Z"⟩, 52) := ⟨⟨by decide +kernel, by decide +kernel⟩, List.mem_of_getElem? (i := 1145) (by decide +kernel), List.mem_of_getElem? (i := 1394) (by decide +kernel), List.mem_of_getElem? (i := 1395) (by decide +kernel)⟩
theorem lw_p56 : lw_okq (⟨"BaleTalliesModel", "readOne", "(I)Z"⟩, 52) := ⟨⟨by decide +kernel, by decide +kernel⟩, List.mem_of_getElem? (i := 1145) (by decide +kernel), List.mem_of_getElem? (i := 1401) (by decide +kernel), List.mem_of_getElem? (i := 1402) (by decide +kernel)⟩
theorem lw_p57 : lw_okq (⟨"BaleTalliesModel", "deed", "()V"⟩, 52) := ⟨⟨by decide +kernel, by decide +kernel⟩, List.mem_of_getElem? (i := 1145) (by decide +kernel), List.mem_of_getElem? (i := 1405) (by decide +kernel), List.mem_of_getElem? (i := 1406) (by decide +kernel)⟩
theorem lw_p58 : lw_okq (⟨"BaleTalliesModel", "readLaw", "()Z"⟩, 52) := ⟨⟨by decide +kernel, by decide +kernel⟩, List.mem_of_getElem? (i := 1145) (by decide +kernel), List.mem_of_getElem? (i := 1413) (by decide +kernel), List.mem_of_getElem? (i := 1414) (by decide +kernel)⟩
theorem lw_p59 : lw_okq (⟨"BaleTalliesModel", "readThing", "()I"⟩, 52) := ⟨⟨by decide +kernel, by decide +kernel⟩, List.mem_of_getElem? (i := 1145) (by decide +kernel), List.mem_of_getElem? (i := 1417) (by decide +kernel), List.mem_of_getElem? (i := 1418) (by decide +kernel)⟩
theorem lw_p60 : lw_okq (⟨"BaleTalliesModel", "does", "(I)V"⟩, 52) := ⟨⟨by decide +kernel, by decide +kernel⟩, List.mem_of_getElem? (i := 1145) (by decide +kernel), List.mem_of_getElem? (i := 1424) (by decide +kernel), List.mem_of_getElem? (i := 1425) (by decide +kernel)⟩
theorem lw_p61 : lw_okq (⟨"BaleTalliesModel", "goesOn", "()Z"⟩, 52) := ⟨⟨by decide +kernel, by decide +kernel⟩, List.mem_of_getElem? (i := 1145) (by decide +kernel), List.mem_of_getElem? (i := 1428) (by decide +kernel), List.mem_of_getElem? (i := 1429) (by decide +kernel)⟩
theorem lw_p62 : lw_okq (⟨"BaleTalliesModel", "isProductSign", "()Z"⟩, 52) := ⟨⟨by decide +kernel, by decide +kernel⟩, List.mem_of_getElem? (i := 1145) (by decide +kernel), List.mem_of_getElem? (i := 1432) (by decide +kernel), List.mem_of_getElem? (i := 1433) (by decide +kernel)⟩
theorem lw_p63 : lw_okq (⟨"BaleTalliesModel", "isLine", "(I)Z"⟩, 52) := ⟨⟨by decide +kernel, by decide +kernel⟩, List.mem_of_getElem? (i := 1145) (by decide +kernel), List.mem_of_getElem? (i := 1440) (by decide +kernel), List.mem_of_getElem? (i := 1441) (by decide +kernel)⟩
def lw_privs_4 : List (MethodName × Nat) := [(⟨"BaleTalliesModel", "readMark", "(IIZ)Z"⟩, 52), (⟨"BaleTalliesModel", "isSame", "(IIII)Z"⟩, 52), (⟨"BaleTalliesModel", "takes", "(I)Z"⟩, 52), (⟨"BaleTalliesModel", "readCount", "(I)Z"⟩, 52), (⟨"BaleTalliesModel", "readDigits", "(I)Z"⟩, 52), (⟨"BaleTalliesModel", "readCouple", "(I)Z"⟩, 52), (⟨"BaleTalliesModel", "isLike", "(II)Z"⟩, 52), (⟨"BaleTalliesModel", "readLine", "(I)Z"⟩, 52), (⟨"BaleTalliesModel", "readOne", "(I)Z"⟩, 52), (⟨"BaleTalliesModel", "deed", "()V"⟩, 52), (⟨"BaleTalliesModel", "readLaw", "()Z"⟩, 52), (⟨"BaleTalliesModel", "readThing", "()I"⟩, 52), (⟨"BaleTalliesModel", "does", "(I)V"⟩, 52), (⟨"BaleTalliesModel", "goesOn", "()Z"⟩, 52), (⟨"BaleTalliesModel", "isProductSign", "()Z"⟩, 52), (⟨"BaleTalliesModel", "isLine", "(I)Z"⟩, 52)]
theorem lw_r4 : ∀ q ∈ lw_privs_4, lw_okq q := List.forall_mem_cons.mpr ⟨lw_p48, List.forall_mem_cons.mpr ⟨lw_p49, List.forall_mem_cons.mpr ⟨lw_p50, List.forall_mem_cons.mpr ⟨lw_p51, List.forall_mem_cons.mpr ⟨lw_p52, List.forall_mem_cons.mpr ⟨lw_p53, List.forall_mem_cons.mpr ⟨lw_p54, List.forall_mem_cons.mpr ⟨lw_p55, List.forall_mem_cons.mpr ⟨lw_p56, List.forall_mem_cons.mpr ⟨lw_p57, List.forall_mem_cons.mpr ⟨lw_p58, List.forall_mem_cons.mpr ⟨lw_p59, List.forall_mem_cons.mpr ⟨lw_p60, List.forall_mem_cons.mpr ⟨lw_p61, List.forall_mem_cons.mpr ⟨lw_p62, List.forall_mem_cons.mpr ⟨lw_p63, fun _ h => absurd h List.not_mem_nil⟩⟩⟩⟩⟩⟩⟩⟩⟩⟩⟩⟩⟩⟩⟩⟩
theorem lw_p64 : lw_okq (⟨"BaleTalliesModel", "isBill", "(I)Z"⟩, 52) := ⟨⟨by decide +kernel, by decide +kernel⟩, List.mem_of_getElem? (i := 1145) (by decide +kernel), List.mem_of_getElem? (i := 1444) (by decide +kernel), List.mem_of_getElem? (i := 1445) (by decide +kernel)⟩
theorem lw_p65 : lw_okq (⟨"BaleTalliesModel", "lineApart", "(II)I"⟩, 52) := ⟨⟨by decide +kernel, by decide +kernel⟩, List.mem_of_getElem? (i := 1145) (by decide +kernel), List.mem_of_getElem? (i := 1448) (by decide +kernel), List.mem_of_getElem? (i := 1449) (by decide +kernel)⟩
theorem lw_p66 : lw_okq (⟨"BaleTalliesModel", "apartOf", "(IIII)I"⟩, 52) := ⟨⟨by decide +kernel, by decide +kernel⟩, List.mem_of_getElem? (i := 1145) (by decide +kernel), List.mem_of_getElem? (i := 1452) (by decide +kernel), List.mem_of_getElem? (i := 1453) (by decide +kernel)⟩
theorem lw_p67 : lw_okq (⟨"BaleTalliesModel", "change", "(II)I"⟩, 52) := ⟨⟨by decide +kernel, by decide +kernel⟩, List.mem_of_getElem? (i := 1145) (by decide +kernel), List.mem_of_getElem? (i := 1456) (by decide +kernel), List.mem_of_getElem? (i := 1457) (by decide +kernel)⟩
theorem lw_p68 : lw_okq (⟨"BaleTalliesModel", "lineRead", "(I)I"⟩, 52) := ⟨⟨by decide +kernel, by decide +kernel⟩, List.mem_of_getElem? (i := 1145) (by decide +kernel), List.mem_of_getElem? (i := 1467) (by decide +kernel), List.mem_of_getElem? (i := 1468) (by decide +kernel)⟩
theorem lw_p69 : lw_okq (⟨"BaleTalliesModel", "readOf", "(II)I"⟩, 52) := ⟨⟨by decide +kernel, by decide +kernel⟩, List.mem_of_getElem? (i := 1145) (by decide +kernel), List.mem_of_getElem? (i := 1471) (by decide +kernel), List.mem_of_getElem? (i := 1472) (by decide +kernel)⟩
theorem lw_p70 : lw_okq (⟨"BaleTalliesModel", "layNear", "(II)V"⟩, 52) := ⟨⟨by decide +kernel, by decide +kernel⟩, List.mem_of_getElem? (i := 1145) (by decide +kernel), List.mem_of_getElem? (i := 1475) (by decide +kernel), List.mem_of_getElem? (i := 1476) (by decide +kernel)⟩
theorem lw_p71 : lw_okq (⟨"BaleTalliesModel", "layReads", "()V"⟩, 52) := ⟨⟨by decide +kernel, by decide +kernel⟩, List.mem_of_getElem? (i := 1145) (by decide +kernel), List.mem_of_getElem? (i := 1487) (by decide +kernel), List.mem_of_getElem? (i := 1488) (by decide +kernel)⟩
theorem lw_p72 : lw_okq (⟨"BaleTalliesModel", "heapAt", "(I)I"⟩, 52) := ⟨⟨by decide +kernel, by decide +kernel⟩, List.mem_of_getElem? (i := 1145) (by decide +kernel), List.mem_of_getElem? (i := 1491) (by decide +kernel), List.mem_of_getElem? (i := 1492) (by decide +kernel)⟩
theorem lw_p73 : lw_okq (⟨"BaleTalliesModel", "agree", "(III)I"⟩, 52) := ⟨⟨by decide +kernel, by decide +kernel⟩, List.mem_of_getElem? (i := 1145) (by decide +kernel), List.mem_of_getElem? (i := 1495) (by decide +kernel), List.mem_of_getElem? (i := 1496) (by decide +kernel)⟩
theorem lw_p74 : lw_okq (⟨"BaleTalliesModel", "countReads", "(I)I"⟩, 52) := ⟨⟨by decide +kernel, by decide +kernel⟩, List.mem_of_getElem? (i := 1145) (by decide +kernel), List.mem_of_getElem? (i := 1506) (by decide +kernel), List.mem_of_getElem? (i := 1507) (by decide +kernel)⟩
theorem lw_p75 : lw_okq (⟨"BaleTalliesModel", "layMatched", "()V"⟩, 52) := ⟨⟨by decide +kernel, by decide +kernel⟩, List.mem_of_getElem? (i := 1145) (by decide +kernel), List.mem_of_getElem? (i := 1522) (by decide +kernel), List.mem_of_getElem? (i := 1523) (by decide +kernel)⟩
theorem lw_p76 : lw_okq (⟨"BaleTalliesModel", "layShort", "()V"⟩, 52) := ⟨⟨by decide +kernel, by decide +kernel⟩, List.mem_of_getElem? (i := 1145) (by decide +kernel), List.mem_of_getElem? (i := 1526) (by decide +kernel), List.mem_of_getElem? (i := 1527) (by decide +kernel)⟩
theorem lw_p77 : lw_okq (⟨"BaleTalliesModel", "due", "(I)I"⟩, 52) := ⟨⟨by decide +kernel, by decide +kernel⟩, List.mem_of_getElem? (i := 1145) (by decide +kernel), List.mem_of_getElem? (i := 1530) (by decide +kernel), List.mem_of_getElem? (i := 1531) (by decide +kernel)⟩
theorem lw_p78 : lw_okq (⟨"BaleTalliesModel", "isSource", "(I)Z"⟩, 52) := ⟨⟨by decide +kernel, by decide +kernel⟩, List.mem_of_getElem? (i := 1145) (by decide +kernel), List.mem_of_getElem? (i := 1534) (by decide +kernel), List.mem_of_getElem? (i := 1535) (by decide +kernel)⟩
theorem lw_p79 : lw_okq (⟨"BaleTalliesModel", "apartFrom", "(II)I"⟩, 52) := ⟨⟨by decide +kernel, by decide +kernel⟩, List.mem_of_getElem? (i := 1145) (by decide +kernel), List.mem_of_getElem? (i := 1538) (by decide +kernel), List.mem_of_getElem? (i := 1539) (by decide +kernel)⟩
def lw_privs_5 : List (MethodName × Nat) := [(⟨"BaleTalliesModel", "isBill", "(I)Z"⟩, 52), (⟨"BaleTalliesModel", "lineApart", "(II)I"⟩, 52), (⟨"BaleTalliesModel", "apartOf", "(IIII)I"⟩, 52), (⟨"BaleTalliesModel", "change", "(II)I"⟩, 52), (⟨"BaleTalliesModel", "lineRead", "(I)I"⟩, 52), (⟨"BaleTalliesModel", "readOf", "(II)I"⟩, 52), (⟨"BaleTalliesModel", "layNear", "(II)V"⟩, 52), (⟨"BaleTalliesModel", "layReads", "()V"⟩, 52), (⟨"BaleTalliesModel", "heapAt", "(I)I"⟩, 52), (⟨"BaleTalliesModel", "agree", "(III)I"⟩, 52), (⟨"BaleTalliesModel", "countReads", "(I)I"⟩, 52), (⟨"BaleTalliesModel", "layMatched", "()V"⟩, 52), (⟨"BaleTalliesModel", "layShort", "()V"⟩, 52), (⟨"BaleTalliesModel", "due", "(I)I"⟩, 52), (⟨"BaleTalliesModel", "isSource", "(I)Z"⟩, 52), (⟨"BaleTalliesModel", "apartFrom", "(II)I"⟩, 52)]
theorem lw_r5 : ∀ q ∈ lw_privs_5, lw_okq q := List.forall_mem_cons.mpr ⟨lw_p64, List.forall_mem_cons.mpr ⟨lw_p65, List.forall_mem_cons.mpr ⟨lw_p66, List.forall_mem_cons.mpr ⟨lw_p67, List.forall_mem_cons.mpr ⟨lw_p68, List.forall_mem_cons.mpr ⟨lw_p69, List.forall_mem_cons.mpr ⟨lw_p70, List.forall_mem_cons.mpr ⟨lw_p71, List.forall_mem_cons.mpr ⟨lw_p72, List.forall_mem_cons.mpr ⟨lw_p73, List.forall_mem_cons.mpr ⟨lw_p74, List.forall_mem_cons.mpr ⟨lw_p75, List.forall_mem_cons.mpr ⟨lw_p76, List.forall_mem_cons.mpr ⟨lw_p77, List.forall_mem_cons.mpr ⟨lw_p78, List.forall_mem_cons.mpr ⟨lw_p79, fun _ h => absurd h List.not_mem_nil⟩⟩⟩⟩⟩⟩⟩⟩⟩⟩⟩⟩⟩⟩⟩⟩
theorem lw_p80 : lw_okq (⟨"BaleTalliesModel", "billApart", "(II)I"⟩, 52) := ⟨⟨by decide +kernel, by decide +kernel⟩, List.mem_of_getElem? (i := 1145) (by decide +kernel), List.mem_of_getElem? (i := 1542) (by decide +kernel), List.mem_of_getElem? (i := 1543) (by decide +kernel)⟩
theorem lw_p81 : lw_okq (⟨"BaleTalliesModel", "matchedTo", "(I)I"⟩, 52) := ⟨⟨by decide +kernel, by decide +kernel⟩, List.mem_of_getElem? (i := 1145) (by decide +kernel), List.mem_of_getElem? (i := 1546) (by decide +kernel), List.mem_of_getElem? (i := 1547) (by decide +kernel)⟩
theorem lw_p82 : lw_okq (⟨"BaleTalliesModel", "layBest", "()V"⟩, 52) := ⟨⟨by decide +kernel, by decide +kernel⟩, List.mem_of_getElem? (i := 1145) (by decide +kernel), List.mem_of_getElem? (i := 1566) (by decide +kernel), List.mem_of_getElem? (i := 1567) (by decide +kernel)⟩
theorem lw_p83 : lw_okq (⟨"BaleTalliesModel", "layWays", "()V"⟩, 52) := ⟨⟨by decide +kernel, by decide +kernel⟩, List.mem_of_getElem? (i := 1145) (by decide +kernel), List.mem_of_getElem? (i := 1570) (by decide +kernel), List.mem_of_getElem? (i := 1571) (by decide +kernel)⟩
theorem lw_p84 : lw_okq (⟨"BaleTalliesModel", "goAlong", "(I)V"⟩, 52) := ⟨⟨by decide +kernel, by decide +kernel⟩, List.mem_of_getElem? (i := 1145) (by decide +kernel), List.mem_of_getElem? (i := 1574) (by decide +kernel), List.mem_of_getElem? (i := 1575) (by decide +kernel)⟩
theorem lw_p85 : lw_okq (⟨"BaleTalliesModel", "become", "(II)I"⟩, 52) := ⟨⟨by decide +kernel, by decide +kernel⟩, List.mem_of_getElem? (i := 1145) (by decide +kernel), List.mem_of_getElem? (i := 1590) (by decide +kernel), List.mem_of_getElem? (i := 1591) (by decide +kernel)⟩
theorem lw_p86 : lw_okq (⟨"BaleTalliesModel", "paidFor", "(I)I"⟩, 52) := ⟨⟨by decide +kernel, by decide +kernel⟩, List.mem_of_getElem? (i := 1145) (by decide +kernel), List.mem_of_getElem? (i := 1610) (by decide +kernel), List.mem_of_getElem? (i := 1611) (by decide +kernel)⟩
theorem lw_p87 : lw_okq (⟨"BaleTalliesModel", "layHold", "(I)V"⟩, 52) := ⟨⟨by decide +kernel, by decide +kernel⟩, List.mem_of_getElem? (i := 1145) (by decide +kernel), List.mem_of_getElem? (i := 1621) (by decide +kernel), List.mem_of_getElem? (i := 1622) (by decide +kernel)⟩
theorem lw_p88 : lw_okq (⟨"BaleTalliesModel", "layAgainst", "()V"⟩, 52) := ⟨⟨by decide +kernel, by decide +kernel⟩, List.mem_of_getElem? (i := 1145) (by decide +kernel), List.mem_of_getElem? (i := 1625) (by decide +kernel), List.mem_of_getElem? (i := 1626) (by decide +kernel)⟩
theorem lw_p89 : lw_okq (⟨"BaleTalliesModel", "bearing", "(I)I"⟩, 52) := ⟨⟨by decide +kernel, by decide +kernel⟩, List.mem_of_getElem? (i := 1145) (by decide +kernel), List.mem_of_getElem? (i := 1629) (by decide +kernel), List.mem_of_getElem? (i := 1630) (by decide +kernel)⟩
theorem lw_p90 : lw_okq (⟨"BaleTalliesModel", "standing", "(II)I"⟩, 52) := ⟨⟨by decide +kernel, by decide +kernel⟩, List.mem_of_getElem? (i := 1145) (by decide +kernel), List.mem_of_getElem? (i := 1633) (by decide +kernel), List.mem_of_getElem? (i := 1634) (by decide +kernel)⟩
theorem lw_p91 : lw_okq (⟨"BaleTalliesModel", "offers", "(II)V"⟩, 52) := ⟨⟨by decide +kernel, by decide +kernel⟩, List.mem_of_getElem? (i := 1145) (by decide +kernel), List.mem_of_getElem? (i := 1637) (by decide +kernel), List.mem_of_getElem? (i := 1638) (by decide +kernel)⟩
theorem lw_p92 : lw_okq (⟨"BaleTalliesModel", "isAgain", "(I)Z"⟩, 52) := ⟨⟨by decide +kernel, by decide +kernel⟩, List.mem_of_getElem? (i := 1145) (by decide +kernel), List.mem_of_getElem? (i := 1645) (by decide +kernel), List.mem_of_getElem? (i := 1646) (by decide +kernel)⟩
theorem lw_p93 : lw_okq (⟨"BaleTalliesModel", "difference", "(I)I"⟩, 52) := ⟨⟨by decide +kernel, by decide +kernel⟩, List.mem_of_getElem? (i := 1145) (by decide +kernel), List.mem_of_getElem? (i := 1653) (by decide +kernel), List.mem_of_getElem? (i := 1654) (by decide +kernel)⟩
theorem lw_p94 : lw_okq (⟨"BaleTalliesModel", "readSpare", "(II)I"⟩, 52) := ⟨⟨by decide +kernel, by decide +kernel⟩, List.mem_of_getElem? (i := 1145) (by decide +kernel), List.mem_of_getElem? (i := 1666) (by decide +kernel), List.mem_of_getElem? (i := 1667) (by decide +kernel)⟩
theorem lw_p95 : lw_okq (⟨"BaleTalliesModel", "spareApart", "(III)I"⟩, 52) := ⟨⟨by decide +kernel, by decide +kernel⟩, List.mem_of_getElem? (i := 1145) (by decide +kernel), List.mem_of_getElem? (i := 1670) (by decide +kernel), List.mem_of_getElem? (i := 1671) (by decide +kernel)⟩
def lw_privs_6 : List (MethodName × Nat) := [(⟨"BaleTalliesModel", "billApart", "(II)I"⟩, 52), (⟨"BaleTalliesModel", "matchedTo", "(I)I"⟩, 52), (⟨"BaleTalliesModel", "layBest", "()V"⟩, 52), (⟨"BaleTalliesModel", "layWays", "()V"⟩, 52), (⟨"BaleTalliesModel", "goAlong", "(I)V"⟩, 52), (⟨"BaleTalliesModel", "become", "(II)I"⟩, 52), (⟨"BaleTalliesModel", "paidFor", "(I)I"⟩, 52), (⟨"BaleTalliesModel", "layHold", "(I)V"⟩, 52), (⟨"BaleTalliesModel", "layAgainst", "()V"⟩, 52), (⟨"BaleTalliesModel", "bearing", "(I)I"⟩, 52), (⟨"BaleTalliesModel", "standing", "(II)I"⟩, 52), (⟨"BaleTalliesModel", "offers", "(II)V"⟩, 52), (⟨"BaleTalliesModel", "isAgain", "(I)Z"⟩, 52), (⟨"BaleTalliesModel", "difference", "(I)I"⟩, 52), (⟨"BaleTalliesModel", "readSpare", "(II)I"⟩, 52), (⟨"BaleTalliesModel", "spareApart", "(III)I"⟩, 52)]
theorem lw_r6 : ∀ q ∈ lw_privs_6, lw_okq q := List.forall_mem_cons.mpr ⟨lw_p80, List.forall_mem_cons.mpr ⟨lw_p81, List.forall_mem_cons.mpr ⟨lw_p82, List.forall_mem_cons.mpr ⟨lw_p83, List.forall_mem_cons.mpr ⟨lw_p84, List.forall_mem_cons.mpr ⟨lw_p85, List.forall_mem_cons.mpr ⟨lw_p86, List.forall_mem_cons.mpr ⟨lw_p87, List.forall_mem_cons.mpr ⟨lw_p88, List.forall_mem_cons.mpr ⟨lw_p89, List.forall_mem_cons.mpr ⟨lw_p90, List.forall_mem_cons.mpr ⟨lw_p91, List.forall_mem_cons.mpr ⟨lw_p92, List.forall_mem_cons.mpr ⟨lw_p93, List.forall_mem_cons.mpr ⟨lw_p94, List.forall_mem_cons.mpr ⟨lw_p95, fun _ h => absurd h List.not_mem_nil⟩⟩⟩⟩⟩⟩⟩⟩⟩⟩⟩⟩⟩⟩⟩⟩
theorem lw_p96 : lw_okq (⟨"BaleTalliesModel", "shedOf", "(I)I"⟩, 52) := ⟨⟨by decide +kernel, by decide +kernel⟩, List.mem_of_getElem? (i := 1145) (by decide +kernel), List.mem_of_getElem? (i := 1682) (by decide +kernel), List.mem_of_getElem? (i := 1683) (by decide +kernel)⟩
theorem lw_p97 : lw_okq (⟨"BaleTalliesModel", "charge", "()I"⟩, 52) := ⟨⟨by decide +kernel, by decide +kernel⟩, List.mem_of_getElem? (i := 1145) (by decide +kernel), List.mem_of_getElem? (i := 1694) (by decide +kernel), List.mem_of_getElem? (i := 1695) (by decide +kernel)⟩
theorem lw_p98 : lw_okq (⟨"BaleTalliesModel", "laySettled", "()Z"⟩, 52) := ⟨⟨by decide +kernel, by decide +kernel⟩, List.mem_of_getElem? (i := 1145) (by decide +kernel), List.mem_of_getElem? (i := 1710) (by decide +kernel), List.mem_of_getElem? (i := 1711) (by decide +kernel)⟩
theorem lw_p99 : lw_okq (⟨"BaleTalliesModel", "offOf", "(I)I"⟩, 52) := ⟨⟨by decide +kernel, by decide +kernel⟩, List.mem_of_getElem? (i := 1145) (by decide +kernel), List.mem_of_getElem? (i := 1714) (by decide +kernel), List.mem_of_getElem? (i := 1715) (by decide +kernel)⟩
theorem lw_p100 : lw_okq (⟨"BaleTalliesModel", "isNear", "(II)Z"⟩, 52) := ⟨⟨by decide +kernel, by decide +kernel⟩, List.mem_of_getElem? (i := 1145) (by decide +kernel), List.mem_of_getElem? (i := 1718) (by decide +kernel), List.mem_of_getElem? (i := 1719) (by decide +kernel)⟩
theorem lw_p101 : lw_okq (⟨"BaleTalliesModel", "takes", "(III)I"⟩, 52) := ⟨⟨by decide +kernel, by decide +kernel⟩, List.mem_of_getElem? (i := 1145) (by decide +kernel), List.mem_of_getElem? (i := 1722) (by decide +kernel), List.mem_of_getElem? (i := 1723) (by decide +kernel)⟩
theorem lw_p102 : lw_okq (⟨"BaleTalliesModel", "comesTo", "(III)V"⟩, 52) := ⟨⟨by decide +kernel, by decide +kernel⟩, List.mem_of_getElem? (i := 1145) (by decide +kernel), List.mem_of_getElem? (i := 1726) (by decide +kernel), List.mem_of_getElem? (i := 1727) (by decide +kernel)⟩
theorem lw_p103 : lw_okq (⟨"BaleTalliesModel", "isCure", "(III)Z"⟩, 52) := ⟨⟨by decide +kernel, by decide +kernel⟩, List.mem_of_getElem? (i := 1145) (by decide +kernel), List.mem_of_getElem? (i := 1734) (by decide +kernel), List.mem_of_getElem? (i := 1735) (by decide +kernel)⟩
theorem lw_p104 : lw_okq (⟨"BaleTalliesModel", "writes", "(I)V"⟩, 52) := ⟨⟨by decide +kernel, by decide +kernel⟩, List.mem_of_getElem? (i := 1145) (by decide +kernel), List.mem_of_getElem? (i := 1746) (by decide +kernel), List.mem_of_getElem? (i := 1747) (by decide +kernel)⟩
theorem lw_p105 : lw_okq (⟨"BaleTalliesModel", "writeNumber", "(I)V"⟩, 52) := ⟨⟨by decide +kernel, by decide +kernel⟩, List.mem_of_getElem? (i := 1145) (by decide +kernel), List.mem_of_getElem? (i := 1750) (by decide +kernel), List.mem_of_getElem? (i := 1751) (by decide +kernel)⟩
def lw_privs_7 : List (MethodName × Nat) := [(⟨"BaleTalliesModel", "shedOf", "(I)I"⟩, 52), (⟨"BaleTalliesModel", "charge", "()I"⟩, 52), (⟨"BaleTalliesModel", "laySettled", "()Z"⟩, 52), (⟨"BaleTalliesModel", "offOf", "(I)I"⟩, 52), (⟨"BaleTalliesModel", "isNear", "(II)Z"⟩, 52), (⟨"BaleTalliesModel", "takes", "(III)I"⟩, 52), (⟨"BaleTalliesModel", "comesTo", "(III)V"⟩, 52), (⟨"BaleTalliesModel", "isCure", "(III)Z"⟩, 52), (⟨"BaleTalliesModel", "writes", "(I)V"⟩, 52), (⟨"BaleTalliesModel", "writeNumber", "(I)V"⟩, 52)]
theorem lw_r7 : ∀ q ∈ lw_privs_7, lw_okq q := List.forall_mem_cons.mpr ⟨lw_p96, List.forall_mem_cons.mpr ⟨lw_p97, List.forall_mem_cons.mpr ⟨lw_p98, List.forall_mem_cons.mpr ⟨lw_p99, List.forall_mem_cons.mpr ⟨lw_p100, List.forall_mem_cons.mpr ⟨lw_p101, List.forall_mem_cons.mpr ⟨lw_p102, List.forall_mem_cons.mpr ⟨lw_p103, List.forall_mem_cons.mpr ⟨lw_p104, List.forall_mem_cons.mpr ⟨lw_p105, fun _ h => absurd h List.not_mem_nil⟩⟩⟩⟩⟩⟩⟩⟩⟩⟩
def lw_privs : List (MethodName × Nat) := lw_privs_1 ++ (lw_privs_2 ++ (lw_privs_3 ++ (lw_privs_4 ++ (lw_privs_5 ++ (lw_privs_6 ++ (lw_privs_7))))))
def lw_tbl : List Cond := k2_sels lw_privs ++ tables_1
theorem lw_privs_ok : ∀ q ∈ lw_privs, lw_okq q := by
  show ∀ q ∈ lw_privs_1 ++ (lw_privs_2 ++ (lw_privs_3 ++ (lw_privs_4 ++ (lw_privs_5 ++ (lw_privs_6 ++ (lw_privs_7)))))), lw_okq q
  exact List.forall_mem_append.mpr ⟨lw_r1, List.forall_mem_append.mpr ⟨lw_r2, List.forall_mem_append.mpr ⟨lw_r3, List.forall_mem_append.mpr ⟨lw_r4, List.forall_mem_append.mpr ⟨lw_r5, List.forall_mem_append.mpr ⟨lw_r6, lw_r7⟩⟩⟩⟩⟩⟩

def RX0 : String := "BaleTallies$Bill"
def TX0 : u_T := fun k => match k with
  | 0 => ("BaleTallies$Bill", "mark", "J", false)
  | 1 => ("BaleTallies$Bill", "count", "I", false)
  | 2 => ("BaleTallies$Bill", "worth", "I", false)
  | 3 => ("BaleTallies$Bill", "claim", "I", false)
  | 4 => ("BaleTallies$Bill", "delivered", "I", false)
  | 5 => ("BaleTallies$Bill", "remarks", "I", false)
  | 6 => ("BaleTallies$Bill", "kinds", "[I", true)
  | _ => ("BaleTallies$Bill", "amounts", "[I", true)
def tyX0 : Nat → FieldType := fun k => match k with
  | 0 => .long
  | 1 => .int
  | 2 => .int
  | 3 => .int
  | 4 => .int
  | 5 => .int
  | 6 => .array .int
  | _ => .array .int
abbrev wsX00 : List Cond := u_ws RX0 TX0 8
theorem nmX0 : ∀ a, a < 8 → ∀ b, b < 8 → a ≠ b → (TX0 a).2.1 ≠ (TX0 b).2.1 := by decide +kernel
theorem tyX0_ok : ∀ k, k < 8 → parseFieldDescriptor (TX0 k).2.2.1 = some (tyX0 k) := by decide +kernel
def RX1 : String := "BaleTallies$Cargo"
def TX1 : u_T := fun k => match k with
  | 0 => ("BaleTallies$Cargo", "signs", "LBaleTallies$Signs;", true)
  | 1 => ("BaleTallies$Cargo", "bills", "[LBaleTallies$Bill;", true)
  | 2 => ("BaleTallies$Cargo", "billCount", "I", false)
  | 3 => ("BaleTallies$Cargo", "lines", "[LBaleTallies$Line;", true)
  | 4 => ("BaleTallies$Cargo", "lineCount", "I", false)
  | 5 => ("BaleTallies$Cargo", "law", "LBaleTallies$Law;", false)
  | 6 => ("BaleTallies$Cargo", "spareLaw", "LBaleTallies$Law;", false)
  | 7 => ("BaleTallies$Cargo", "limit", "I", false)
  | 8 => ("BaleTallies$Cargo", "far", "I", false)
  | 9 => ("BaleTallies$Cargo", "pack", "I", false)
  | 10 => ("BaleTallies$Cargo", "day", "I", false)
  | 11 => ("BaleTallies$Cargo", "free", "I", false)
  | 12 => ("BaleTallies$Cargo", "rate", "I", false)
  | 13 => ("BaleTallies$Cargo", "charges", "I", false)
  | 14 => ("BaleTallies$Cargo", "trial", "[I", true)
  | 15 => ("BaleTallies$Cargo", "shoreLines", "[I", true)
  | _ => ("BaleTallies$Cargo", "row", "[I", true)
def tyX1 : Nat → FieldType := fun k => match k with
  | 0 => .object "BaleTallies$Signs"
  | 1 => .array (.object "BaleTallies$Bill")
  | 2 => .int
  | 3 => .array (.object "BaleTallies$Line")
  | 4 => .int
  | 5 => .object "BaleTallies$Law"
  | 6 => .object "BaleTallies$Law"
  | 7 => .int
  | 8 => .int
  | 9 => .int
  | 10 => .int
  | 11 => .int
  | 12 => .int
  | 13 => .int
  | 14 => .array .int
  | 15 => .array .int
  | _ => .array .int
abbrev wsX10 : List Cond := u_ws RX1 TX1 17
theorem nmX1 : ∀ a, a < 17 → ∀ b, b < 17 → a ≠ b → (TX1 a).2.1 ≠ (TX1 b).2.1 := by decide +kernel
theorem tyX1_ok : ∀ k, k < 17 → parseFieldDescriptor (TX1 k).2.2.1 = some (tyX1 k) := by decide +kernel
def RX2 : String := "BaleTallies$Deed"
def TX2 : u_T := fun k => match k with
  | 0 => ("BaleTallies$Deed", "kind", "I", false)
  | 1 => ("BaleTallies$Deed", "a", "I", false)
  | 2 => ("BaleTallies$Deed", "b", "I", false)
  | 3 => ("BaleTallies$Deed", "c", "I", false)
  | 4 => ("BaleTallies$Deed", "law", "LBaleTallies$Law;", false)
  | _ => ("BaleTallies$Deed", "line", "LBaleTallies$Line;", false)
def tyX2 : Nat → FieldType := fun k => match k with
  | 0 => .int
  | 1 => .int
  | 2 => .int
  | 3 => .int
  | 4 => .object "BaleTallies$Law"
  | _ => .object "BaleTallies$Line"
abbrev wsX20 : List Cond := u_ws RX2 TX2 6
theorem nmX2 : ∀ a, a < 6 → ∀ b, b < 6 → a ≠ b → (TX2 a).2.1 ≠ (TX2 b).2.1 := by decide +kernel
theorem tyX2_ok : ∀ k, k < 6 → parseFieldDescriptor (TX2 k).2.2.1 = some (tyX2 k) := by decide +kernel
def RX3 : String := "BaleTallies$Flow"
def TX3 : u_T := fun k => match k with
  | 0 => ("BaleTallies$Flow", "cargo", "LBaleTallies$Cargo;", true)
  | 1 => ("BaleTallies$Flow", "matching", "LBaleTallies$Matching;", true)
  | 2 => ("BaleTallies$Flow", "fresh", "Z", false)
  | 3 => ("BaleTallies$Flow", "yet", "[I", true)
  | 4 => ("BaleTallies$Flow", "lack", "[I", true)
  | 5 => ("BaleTallies$Flow", "sent", "[[I", true)
  | 6 => ("BaleTallies$Flow", "way", "[I", true)
  | 7 => ("BaleTallies$Flow", "giver", "[I", true)
  | 8 => ("BaleTallies$Flow", "turned", "[I", true)
  | 9 => ("BaleTallies$Flow", "bales", "I", false)
  | _ => ("BaleTallies$Flow", "apartInAll", "I", false)
def tyX3 : Nat → FieldType := fun k => match k with
  | 0 => .object "BaleTallies$Cargo"
  | 1 => .object "BaleTallies$Matching"
  | 2 => .boolean
  | 3 => .array .int
  | 4 => .array .int
  | 5 => .array (.array .int)
  | 6 => .array .int
  | 7 => .array .int
  | 8 => .array .int
  | 9 => .int
  | _ => .int
abbrev wsX30 : List Cond := u_ws RX3 TX3 11
theorem nmX3 : ∀ a, a < 11 → ∀ b, b < 11 → a ≠ b → (TX3 a).2.1 ≠ (TX3 b).2.1 := by decide +kernel
theorem tyX3_ok : ∀ k, k < 11 → parseFieldDescriptor (TX3 k).2.2.1 = some (tyX3 k) := by decide +kernel
def RX4 : String := "BaleTallies$Law"
def TX4 : u_T := fun k => match k with
  | 0 => ("BaleTallies$Law", "code", "[I", true)
  | 1 => ("BaleTallies$Law", "stack", "[I", true)
  | 2 => ("BaleTallies$Law", "size", "I", false)
  | _ => ("BaleTallies$Law", "things", "I", false)
def tyX4 : Nat → FieldType := fun k => match k with
  | 0 => .array .int
  | 1 => .array .int
  | 2 => .int
  | _ => .int
abbrev wsX40 : List Cond := u_ws RX4 TX4 4
theorem nmX4 : ∀ a, a < 4 → ∀ b, b < 4 → a ≠ b → (TX4 a).2.1 ≠ (TX4 b).2.1 := by decide +kernel
theorem tyX4_ok : ∀ k, k < 4 → parseFieldDescriptor (TX4 k).2.2.1 = some (tyX4 k) := by decide +kernel
def RX5 : String := "BaleTallies$Line"
def TX5 : u_T := fun k => match k with
  | 0 => ("BaleTallies$Line", "side", "I", false)
  | 1 => ("BaleTallies$Line", "hold", "I", false)
  | 2 => ("BaleTallies$Line", "n", "I", false)
  | 3 => ("BaleTallies$Line", "seen", "J", false)
  | 4 => ("BaleTallies$Line", "measured", "I", false)
  | _ => ("BaleTallies$Line", "gaps", "[I", true)
def tyX5 : Nat → FieldType := fun k => match k with
  | 0 => .int
  | 1 => .int
  | 2 => .int
  | 3 => .long
  | 4 => .int
  | _ => .array .int
abbrev wsX50 : List Cond := u_ws RX5 TX5 6
theorem nmX5 : ∀ a, a < 6 → ∀ b, b < 6 → a ≠ b → (TX5 a).2.1 ≠ (TX5 b).2.1 := by decide +kernel
theorem tyX5_ok : ∀ k, k < 6 → parseFieldDescriptor (TX5 k).2.2.1 = some (tyX5 k) := by decide +kernel
def RX6 : String := "BaleTallies$Matching"
def TX6 : u_T := fun k => match k with
  | 0 => ("BaleTallies$Matching", "cargo", "LBaleTallies$Cargo;", true)
  | 1 => ("BaleTallies$Matching", "tallies", "LBaleTallies$Tallies;", true)
  | 2 => ("BaleTallies$Matching", "fresh", "Z", false)
  | 3 => ("BaleTallies$Matching", "offered", "[I", true)
  | 4 => ("BaleTallies$Matching", "wanted", "[I", true)
  | 5 => ("BaleTallies$Matching", "gaps", "[[I", true)
  | 6 => ("BaleTallies$Matching", "sources", "I", false)
  | 7 => ("BaleTallies$Matching", "yet", "[I", true)
  | 8 => ("BaleTallies$Matching", "lack", "[I", true)
  | 9 => ("BaleTallies$Matching", "moved", "[[I", true)
  | 10 => ("BaleTallies$Matching", "bales", "I", false)
  | _ => ("BaleTallies$Matching", "apartInAll", "I", false)
def tyX6 : Nat → FieldType := fun k => match k with
  | 0 => .object "BaleTallies$Cargo"
  | 1 => .object "BaleTallies$Tallies"
  | 2 => .boolean
  | 3 => .array .int
  | 4 => .array .int
  | 5 => .array (.array .int)
  | 6 => .int
  | 7 => .array .int
  | 8 => .array .int
  | 9 => .array (.array .int)
  | 10 => .int
  | _ => .int
abbrev wsX60 : List Cond := u_ws RX6 TX6 12
theorem nmX6 : ∀ a, a < 12 → ∀ b, b < 12 → a ≠ b → (TX6 a).2.1 ≠ (TX6 b).2.1 := by decide +kernel
theorem tyX6_ok : ∀ k, k < 12 → parseFieldDescriptor (TX6 k).2.2.1 = some (tyX6 k) := by decide +kernel
def RX7 : String := "BaleTallies$Settling"
def TX7 : u_T := fun k => match k with
  | 0 => ("BaleTallies$Settling", "cargo", "LBaleTallies$Cargo;", true)
  | 1 => ("BaleTallies$Settling", "tallies", "LBaleTallies$Tallies;", true)
  | 2 => ("BaleTallies$Settling", "doubtful", "[I", true)
  | 3 => ("BaleTallies$Settling", "count", "I", false)
  | 4 => ("BaleTallies$Settling", "allowed", "[I", true)
  | 5 => ("BaleTallies$Settling", "costs", "[[I", true)
  | _ => ("BaleTallies$Settling", "row", "[I", true)
def tyX7 : Nat → FieldType := fun k => match k with
  | 0 => .object "BaleTallies$Cargo"
  | 1 => .object "BaleTallies$Tallies"
  | 2 => .array .int
  | 3 => .int
  | 4 => .array .int
  | 5 => .array (.array .int)
  | _ => .array .int
abbrev wsX70 : List Cond := u_ws RX7 TX7 7
theorem nmX7 : ∀ a, a < 7 → ∀ b, b < 7 → a ≠ b → (TX7 a).2.1 ≠ (TX7 b).2.1 := by decide +kernel
theorem tyX7_ok : ∀ k, k < 7 → parseFieldDescriptor (TX7 k).2.2.1 = some (tyX7 k) := by decide +kernel
def RX8 : String := "BaleTallies$Signs"
def TX8 : u_T := fun k => match k with
  | 0 => ("BaleTallies$Signs", "costs", "[[I", true)
  | 1 => ("BaleTallies$Signs", "ones", "[I", true)
  | 2 => ("BaleTallies$Signs", "others", "[I", true)
  | 3 => ("BaleTallies$Signs", "couples", "I", false)
  | 4 => ("BaleTallies$Signs", "row", "[I", true)
  | _ => ("BaleTallies$Signs", "across", "[I", true)
def tyX8 : Nat → FieldType := fun k => match k with
  | 0 => .array (.array .int)
  | 1 => .array .int
  | 2 => .array .int
  | 3 => .int
  | 4 => .array .int
  | _ => .array .int
abbrev wsX80 : List Cond := u_ws RX8 TX8 6
theorem nmX8 : ∀ a, a < 6 → ∀ b, b < 6 → a ≠ b → (TX8 a).2.1 ≠ (TX8 b).2.1 := by decide +kernel
theorem tyX8_ok : ∀ k, k < 6 → parseFieldDescriptor (TX8 k).2.2.1 = some (tyX8 k) := by decide +kernel
def RX9 : String := "BaleTallies$Tallies"
def TX9 : u_T := fun k => match k with
  | 0 => ("BaleTallies$Tallies", "cargo", "LBaleTallies$Cargo;", true)
  | 1 => ("BaleTallies$Tallies", "fresh", "Z", false)
  | 2 => ("BaleTallies$Tallies", "reading", "[I", true)
  | 3 => ("BaleTallies$Tallies", "firstLine", "[I", true)
  | 4 => ("BaleTallies$Tallies", "heapCount", "I", false)
  | 5 => ("BaleTallies$Tallies", "ship", "[I", true)
  | 6 => ("BaleTallies$Tallies", "shore", "[I", true)
  | _ => ("BaleTallies$Tallies", "agreed", "[I", true)
def tyX9 : Nat → FieldType := fun k => match k with
  | 0 => .object "BaleTallies$Cargo"
  | 1 => .boolean
  | 2 => .array .int
  | 3 => .array .int
  | 4 => .int
  | 5 => .array .int
  | 6 => .array .int
  | _ => .array .int
abbrev wsX90 : List Cond := u_ws RX9 TX9 8
theorem nmX9 : ∀ a, a < 8 → ∀ b, b < 8 → a ≠ b → (TX9 a).2.1 ≠ (TX9 b).2.1 := by decide +kernel
theorem tyX9_ok : ∀ k, k < 8 → parseFieldDescriptor (TX9 k).2.2.1 = some (tyX9 k) := by decide +kernel
def RX10 : String := "BaleTallies$Tape"
def TX10 : u_T := fun k => match k with
  | 0 => ("BaleTallies$Tape", "bytes", "[I", true)
  | 1 => ("BaleTallies$Tape", "size", "I", false)
  | 2 => ("BaleTallies$Tape", "at", "I", false)
  | _ => ("BaleTallies$Tape", "fault", "I", false)
def tyX10 : Nat → FieldType := fun k => match k with
  | 0 => .array .int
  | 1 => .int
  | 2 => .int
  | _ => .int
abbrev wsX100 : List Cond := u_ws RX10 TX10 4
theorem nmX10 : ∀ a, a < 4 → ∀ b, b < 4 → a ≠ b → (TX10 a).2.1 ≠ (TX10 b).2.1 := by decide +kernel
theorem tyX10_ok : ∀ k, k < 4 → parseFieldDescriptor (TX10 k).2.2.1 = some (tyX10 k) := by decide +kernel
def RX11 : String := "BaleTallies"
def TX11 : u_T := fun k => match k with
  | 0 => ("BaleTallies", "cargo", "LBaleTallies$Cargo;", true)
  | 1 => ("BaleTallies", "tape", "LBaleTallies$Tape;", true)
  | 2 => ("BaleTallies", "tallies", "LBaleTallies$Tallies;", true)
  | 3 => ("BaleTallies", "matching", "LBaleTallies$Matching;", true)
  | 4 => ("BaleTallies", "flow", "LBaleTallies$Flow;", true)
  | 5 => ("BaleTallies", "settling", "LBaleTallies$Settling;", true)
  | 6 => ("BaleTallies", "deeds", "[LBaleTallies$Deed;", true)
  | 7 => ("BaleTallies", "deedCount", "I", false)
  | 8 => ("BaleTallies", "latestDeed", "I", false)
  | 9 => ("BaleTallies", "written", "[I", true)
  | _ => ("BaleTallies", "writtenSize", "I", false)
def tyX11 : Nat → FieldType := fun k => match k with
  | 0 => .object "BaleTallies$Cargo"
  | 1 => .object "BaleTallies$Tape"
  | 2 => .object "BaleTallies$Tallies"
  | 3 => .object "BaleTallies$Matching"
  | 4 => .object "BaleTallies$Flow"
  | 5 => .object "BaleTallies$Settling"
  | 6 => .array (.object "BaleTallies$Deed")
  | 7 => .int
  | 8 => .int
  | 9 => .array .int
  | _ => .int
abbrev wsX110 : List Cond := u_ws RX11 TX11 11
theorem nmX11 : ∀ a, a < 11 → ∀ b, b < 11 → a ≠ b → (TX11 a).2.1 ≠ (TX11 b).2.1 := by decide +kernel
theorem tyX11_ok : ∀ k, k < 11 → parseFieldDescriptor (TX11 k).2.2.1 = some (tyX11 k) := by decide +kernel
def RX12 : String := "BaleTalliesModel"
def TX12 : u_T := fun k => match k with
  | 0 => ("BaleTalliesModel", "all", "[I", true)
  | 1 => ("BaleTalliesModel", "kept", "[I", true)
  | 2 => ("BaleTalliesModel", "deeds", "I", false)
  | 3 => ("BaleTalliesModel", "tape", "[B", true)
  | 4 => ("BaleTalliesModel", "taped", "I", false)
  | 5 => ("BaleTalliesModel", "at", "I", false)
  | 6 => ("BaleTalliesModel", "faultPlace", "I", false)
  | 7 => ("BaleTalliesModel", "number", "I", false)
  | 8 => ("BaleTalliesModel", "ahead", "[I", true)
  | 9 => ("BaleTalliesModel", "newDoing", "[I", true)
  | 10 => ("BaleTalliesModel", "newDoings", "I", false)
  | 11 => ("BaleTalliesModel", "newThings", "I", false)
  | 12 => ("BaleTalliesModel", "sumSign", "[I", true)
  | 13 => ("BaleTalliesModel", "productSign", "[I", true)
  | 14 => ("BaleTalliesModel", "opened", "I", false)
  | 15 => ("BaleTalliesModel", "pile", "[I", true)
  | 16 => ("BaleTalliesModel", "costs", "[I", true)
  | 17 => ("BaleTalliesModel", "nearFar", "I", false)
  | 18 => ("BaleTalliesModel", "nearFirst", "I", false)
  | 19 => ("BaleTalliesModel", "nearMany", "I", false)
  | 20 => ("BaleTalliesModel", "reads", "[I", true)
  | 21 => ("BaleTalliesModel", "heapFirst", "[I", true)
  | 22 => ("BaleTalliesModel", "heapOf", "[I", true)
  | 23 => ("BaleTalliesModel", "shipOf", "[I", true)
  | 24 => ("BaleTalliesModel", "shoreOf", "[I", true)
  | 25 => ("BaleTalliesModel", "agreed", "[I", true)
  | 26 => ("BaleTalliesModel", "heaps", "I", false)
  | 27 => ("BaleTalliesModel", "has", "[I", true)
  | 28 => ("BaleTalliesModel", "wants", "[I", true)
  | 29 => ("BaleTalliesModel", "brings", "[I", true)
  | 30 => ("BaleTalliesModel", "farOf", "[I", true)
  | 31 => ("BaleTalliesModel", "bales", "I", false)
  | 32 => ("BaleTalliesModel", "apartAll", "I", false)
  | 33 => ("BaleTalliesModel", "wayTo", "[I", true)
  | 34 => ("BaleTalliesModel", "wayFrom", "[I", true)
  | 35 => ("BaleTalliesModel", "shipLine", "[I", true)
  | 36 => ("BaleTalliesModel", "shoreLine", "[I", true)
  | 37 => ("BaleTalliesModel", "rowCost", "[I", true)
  | 38 => ("BaleTalliesModel", "rowLeft", "[I", true)
  | 39 => ("BaleTalliesModel", "ships", "I", false)
  | 40 => ("BaleTalliesModel", "shores", "I", false)
  | 41 => ("BaleTalliesModel", "someCost", "I", false)
  | 42 => ("BaleTalliesModel", "someLeft", "I", false)
  | 43 => ("BaleTalliesModel", "spare", "[I", true)
  | 44 => ("BaleTalliesModel", "doubted", "[I", true)
  | 45 => ("BaleTalliesModel", "tried", "[I", true)
  | 46 => ("BaleTalliesModel", "chosen", "[I", true)
  | 47 => ("BaleTalliesModel", "doubts", "I", false)
  | 48 => ("BaleTalliesModel", "settledFar", "I", false)
  | 49 => ("BaleTalliesModel", "near", "[Z", true)
  | 50 => ("BaleTalliesModel", "written", "[B", true)
  | _ => ("BaleTalliesModel", "writtenLong", "I", false)
def tyX12 : Nat → FieldType := fun k => match k with
  | 0 => .array .int
  | 1 => .array .int
  | 2 => .int
  | 3 => .array .byte
  | 4 => .int
  | 5 => .int
  | 6 => .int
  | 7 => .int
  | 8 => .array .int
  | 9 => .array .int
  | 10 => .int
  | 11 => .int
  | 12 => .array .int
  | 13 => .array .int
  | 14 => .int
  | 15 => .array .int
  | 16 => .array .int
  | 17 => .int
  | 18 => .int
  | 19 => .int
  | 20 => .array .int
  | 21 => .array .int
  | 22 => .array .int
  | 23 => .array .int
  | 24 => .array .int
  | 25 => .array .int
  | 26 => .int
  | 27 => .array .int
  | 28 => .array .int
  | 29 => .array .int
  | 30 => .array .int
  | 31 => .int
  | 32 => .int
  | 33 => .array .int
  | 34 => .array .int
  | 35 => .array .int
  | 36 => .array .int
  | 37 => .array .int
  | 38 => .array .int
  | 39 => .int
  | 40 => .int
  | 41 => .int
  | 42 => .int
  | 43 => .array .int
  | 44 => .array .int
  | 45 => .array .int
  | 46 => .array .int
  | 47 => .int
  | 48 => .int
  | 49 => .array .boolean
  | 50 => .array .byte
  | _ => .int
abbrev wsX120 : List Cond := u_ws RX12 TX12 52
theorem nmX12 : ∀ a, a < 52 → ∀ b, b < 52 → a ≠ b → (TX12 a).2.1 ≠ (TX12 b).2.1 := by decide +kernel
theorem tyX12_ok : ∀ k, k < 52 → parseFieldDescriptor (TX12 k).2.2.1 = some (tyX12 k) := by decide +kernel
abbrev cX0_init : ByteArray := prog_2_method_1_code
def yX0_init : MethodName := ⟨RX0, "<init>", "()V"⟩
abbrev cX0_begin : ByteArray := prog_2_method_2_code
def yX0_begin : MethodName := ⟨RX0, "begin", "(JII)V"⟩
abbrev cX0_addRemark : ByteArray := prog_2_method_3_code
def yX0_addRemark : MethodName := ⟨RX0, "addRemark", "(II)V"⟩
abbrev cX0_dueBales : ByteArray := prog_2_method_4_code
def yX0_dueBales : MethodName := ⟨RX0, "dueBales", "()I"⟩
abbrev cX0_worthOf : ByteArray := prog_2_method_5_code
def yX0_worthOf : MethodName := ⟨RX0, "worthOf", "(II)I"⟩
abbrev cX1_init : ByteArray := prog_3_method_1_code
def yX1_init : MethodName := ⟨RX1, "<init>", "()V"⟩
abbrev cX1_takeItems : ByteArray := prog_3_method_2_code
def yX1_takeItems : MethodName := ⟨RX1, "takeItems", "(LBaleTallies$Tape;)I"⟩
abbrev cX1_takeBill : ByteArray := prog_3_method_3_code
def yX1_takeBill : MethodName := ⟨RX1, "takeBill", "(LBaleTallies$Tape;)Z"⟩
abbrev cX1_isTold : ByteArray := prog_3_method_4_code
def yX1_isTold : MethodName := ⟨RX1, "isTold", "(J)Z"⟩
abbrev cX1_takeCouple : ByteArray := prog_3_method_5_code
def yX1_takeCouple : MethodName := ⟨RX1, "takeCouple", "(LBaleTallies$Tape;)Z"⟩
abbrev cX1_takeLine : ByteArray := prog_3_method_6_code
def yX1_takeLine : MethodName := ⟨RX1, "takeLine", "(LBaleTallies$Tape;)Z"⟩
abbrev cX1_cutTo : ByteArray := prog_3_method_7_code
def yX1_cutTo : MethodName := ⟨RX1, "cutTo", "(III)V"⟩
abbrev cX1_keepMeasured : ByteArray := prog_3_method_8_code
def yX1_keepMeasured : MethodName := ⟨RX1, "keepMeasured", "(I)V"⟩
abbrev cX1_takeOut : ByteArray := prog_3_method_9_code
def yX1_takeOut : MethodName := ⟨RX1, "takeOut", "(ILBaleTallies$Line;)LBaleTallies$Line;"⟩
abbrev cX1_putBack : ByteArray := prog_3_method_10_code
def yX1_putBack : MethodName := ⟨RX1, "putBack", "(ILBaleTallies$Line;)LBaleTallies$Line;"⟩
abbrev cX1_gapsOf : ByteArray := prog_3_method_11_code
def yX1_gapsOf : MethodName := ⟨RX1, "gapsOf", "(I)[I"⟩
abbrev cX1_readBy : ByteArray := prog_3_method_12_code
def yX1_readBy : MethodName := ⟨RX1, "readBy", "([II)I"⟩
abbrev cX1_readSeen : ByteArray := prog_3_method_13_code
def yX1_readSeen : MethodName := ⟨RX1, "readSeen", "(J)I"⟩
abbrev cX1_cureFor : ByteArray := prog_3_method_14_code
def yX1_cureFor : MethodName := ⟨RX1, "cureFor", "(II)I"⟩
abbrev cX1_isCure : ByteArray := prog_3_method_15_code
def yX1_isCure : MethodName := ⟨RX1, "isCure", "(III)Z"⟩
abbrev cX1_chargeEach : ByteArray := prog_3_method_16_code
def yX1_chargeEach : MethodName := ⟨RX1, "chargeEach", "()I"⟩
abbrev cX1_balesIn : ByteArray := prog_3_method_17_code
def yX1_balesIn : MethodName := ⟨RX1, "balesIn", "(II)I"⟩
abbrev cX1_linesIn : ByteArray := prog_3_method_18_code
def yX1_linesIn : MethodName := ⟨RX1, "linesIn", "(II)I"⟩
abbrev cX1_marksIn : ByteArray := prog_3_method_19_code
def yX1_marksIn : MethodName := ⟨RX1, "marksIn", "(I)I"⟩
abbrev cX1_firstSeen : ByteArray := prog_3_method_20_code
def yX1_firstSeen : MethodName := ⟨RX1, "firstSeen", "(II)Z"⟩
abbrev cX1_surplusIn : ByteArray := prog_3_method_21_code
def yX1_surplusIn : MethodName := ⟨RX1, "surplusIn", "(I)I"⟩
abbrev cX1_isIn : ByteArray := prog_3_method_22_code
def yX1_isIn : MethodName := ⟨RX1, "isIn", "(III)Z"⟩
abbrev cX1_setAgainst : ByteArray := prog_3_method_23_code
def yX1_setAgainst : MethodName := ⟨RX1, "setAgainst", "(I)I"⟩
abbrev cX1_leavingOut : ByteArray := prog_3_method_24_code
def yX1_leavingOut : MethodName := ⟨RX1, "leavingOut", "(LBaleTallies$Line;)I"⟩
abbrev cX1_setAgainstShore : ByteArray := prog_3_method_25_code
def yX1_setAgainstShore : MethodName := ⟨RX1, "setAgainstShore", "(LBaleTallies$Line;I)V"⟩
abbrev cX2_init : ByteArray := prog_4_method_1_code
def yX2_init : MethodName := ⟨RX2, "<init>", "()V"⟩
abbrev cX2_undo : ByteArray := prog_4_method_2_code
def yX2_undo : MethodName := ⟨RX2, "undo", "(LBaleTallies$Cargo;)V"⟩
abbrev cX2_swapLaw : ByteArray := prog_4_method_3_code
def yX2_swapLaw : MethodName := ⟨RX2, "swapLaw", "(LBaleTallies$Cargo;)V"⟩
abbrev cX3_init : ByteArray := prog_5_method_1_code
def yX3_init : MethodName := ⟨RX3, "<init>", "(LBaleTallies$Cargo;LBaleTallies$Matching;)V"⟩
abbrev cX3_refresh : ByteArray := prog_5_method_2_code
def yX3_refresh : MethodName := ⟨RX3, "refresh", "()V"⟩
abbrev cX3_begin : ByteArray := prog_5_method_3_code
def yX3_begin : MethodName := ⟨RX3, "begin", "()V"⟩
abbrev cX3_reaches : ByteArray := prog_5_method_4_code
def yX3_reaches : MethodName := ⟨RX3, "reaches", "(II)Z"⟩
abbrev cX3_cheapestEnd : ByteArray := prog_5_method_5_code
def yX3_cheapestEnd : MethodName := ⟨RX3, "cheapestEnd", "()I"⟩
abbrev cX3_goStraight : ByteArray := prog_5_method_6_code
def yX3_goStraight : MethodName := ⟨RX3, "goStraight", "()V"⟩
abbrev cX3_goRound : ByteArray := prog_5_method_7_code
def yX3_goRound : MethodName := ⟨RX3, "goRound", "()Z"⟩
abbrev cX3_turn : ByteArray := prog_5_method_8_code
def yX3_turn : MethodName := ⟨RX3, "turn", "(II)Z"⟩
abbrev cX3_bringTo : ByteArray := prog_5_method_9_code
def yX3_bringTo : MethodName := ⟨RX3, "bringTo", "(I)V"⟩
abbrev cX3_mostTo : ByteArray := prog_5_method_10_code
def yX3_mostTo : MethodName := ⟨RX3, "mostTo", "(I)I"⟩
abbrev cX4_init : ByteArray := prog_6_method_1_code
def yX4_init : MethodName := ⟨RX4, "<init>", "()V"⟩
abbrev cX4_takeFrom : ByteArray := prog_6_method_2_code
def yX4_takeFrom : MethodName := ⟨RX4, "takeFrom", "(LBaleTallies$Tape;)I"⟩
abbrev cX4_takeSum : ByteArray := prog_6_method_3_code
def yX4_takeSum : MethodName := ⟨RX4, "takeSum", "(LBaleTallies$Tape;I)Z"⟩
abbrev cX4_takeProduct : ByteArray := prog_6_method_4_code
def yX4_takeProduct : MethodName := ⟨RX4, "takeProduct", "(LBaleTallies$Tape;I)Z"⟩
abbrev cX4_takeThing : ByteArray := prog_6_method_5_code
def yX4_takeThing : MethodName := ⟨RX4, "takeThing", "(LBaleTallies$Tape;I)Z"⟩
abbrev cX4_isSumSign : ByteArray := prog_6_method_6_code
def yX4_isSumSign : MethodName := ⟨RX4, "isSumSign", "(I)Z"⟩
abbrev cX4_isProductSign : ByteArray := prog_6_method_7_code
def yX4_isProductSign : MethodName := ⟨RX4, "isProductSign", "(I)Z"⟩
abbrev cX4_add : ByteArray := prog_6_method_8_code
def yX4_add : MethodName := ⟨RX4, "add", "(I)V"⟩
abbrev cX4_agree : ByteArray := prog_6_method_9_code
def yX4_agree : MethodName := ⟨RX4, "agree", "(III)I"⟩
abbrev cX4_valueOf : ByteArray := prog_6_method_10_code
def yX4_valueOf : MethodName := ⟨RX4, "valueOf", "(IIII)I"⟩
abbrev cX4_join : ByteArray := prog_6_method_11_code
def yX4_join : MethodName := ⟨RX4, "join", "(III)I"⟩
abbrev cX5_init : ByteArray := prog_7_method_1_code
def yX5_init : MethodName := ⟨RX5, "<init>", "()V"⟩
abbrev cX5_couldMend : ByteArray := prog_7_method_2_code
def yX5_couldMend : MethodName := ⟨RX5, "couldMend", "(I)Z"⟩
abbrev cX6_init : ByteArray := prog_8_method_1_code
def yX6_init : MethodName := ⟨RX6, "<init>", "(LBaleTallies$Cargo;LBaleTallies$Tallies;)V"⟩
abbrev cX6_refresh : ByteArray := prog_8_method_2_code
def yX6_refresh : MethodName := ⟨RX6, "refresh", "()V"⟩
abbrev cX6_weighBills : ByteArray := prog_8_method_3_code
def yX6_weighBills : MethodName := ⟨RX6, "weighBills", "()V"⟩
abbrev cX6_measure : ByteArray := prog_8_method_4_code
def yX6_measure : MethodName := ⟨RX6, "measure", "(I)V"⟩
abbrev cX6_moveFrom : ByteArray := prog_8_method_5_code
def yX6_moveFrom : MethodName := ⟨RX6, "moveFrom", "(II)V"⟩
abbrev cX6_broughtTo : ByteArray := prog_8_method_6_code
def yX6_broughtTo : MethodName := ⟨RX6, "broughtTo", "(I)I"⟩
abbrev cX7_init : ByteArray := prog_9_method_1_code
def yX7_init : MethodName := ⟨RX7, "<init>", "(LBaleTallies$Cargo;LBaleTallies$Tallies;)V"⟩
abbrev cX7_gather : ByteArray := prog_9_method_2_code
def yX7_gather : MethodName := ⟨RX7, "gather", "()Z"⟩
abbrev cX7_isNearest : ByteArray := prog_9_method_3_code
def yX7_isNearest : MethodName := ⟨RX7, "isNearest", "(II)Z"⟩
abbrev cX7_weigh : ByteArray := prog_9_method_4_code
def yX7_weigh : MethodName := ⟨RX7, "weigh", "(I)V"⟩
abbrev cX7_balesOf : ByteArray := prog_9_method_5_code
def yX7_balesOf : MethodName := ⟨RX7, "balesOf", "(II)I"⟩
abbrev cX7_leastInAll : ByteArray := prog_9_method_6_code
def yX7_leastInAll : MethodName := ⟨RX7, "leastInAll", "()I"⟩
abbrev cX7_leastWith : ByteArray := prog_9_method_7_code
def yX7_leastWith : MethodName := ⟨RX7, "leastWith", "(II)I"⟩
abbrev cX7_billFor : ByteArray := prog_9_method_8_code
def yX7_billFor : MethodName := ⟨RX7, "billFor", "(I)I"⟩
abbrev cX7_fixFirst : ByteArray := prog_9_method_9_code
def yX7_fixFirst : MethodName := ⟨RX7, "fixFirst", "(II)I"⟩
abbrev cX7_allowOnly : ByteArray := prog_9_method_10_code
def yX7_allowOnly : MethodName := ⟨RX7, "allowOnly", "(II)V"⟩
abbrev cX8_init : ByteArray := prog_10_method_1_code
def yX8_init : MethodName := ⟨RX8, "<init>", "()V"⟩
abbrev cX8_codeOf : ByteArray := prog_10_method_2_code
def yX8_codeOf : MethodName := ⟨RX8, "codeOf", "(I)I"⟩
abbrev cX8_octetOf : ByteArray := prog_10_method_3_code
def yX8_octetOf : MethodName := ⟨RX8, "octetOf", "(I)I"⟩
abbrev cX8_append : ByteArray := prog_10_method_4_code
def yX8_append : MethodName := ⟨RX8, "append", "(JI)J"⟩
abbrev cX8_sizeOf : ByteArray := prog_10_method_5_code
def yX8_sizeOf : MethodName := ⟨RX8, "sizeOf", "(J)I"⟩
abbrev cX8_signAt : ByteArray := prog_10_method_6_code
def yX8_signAt : MethodName := ⟨RX8, "signAt", "(JI)I"⟩
abbrev cX8_has : ByteArray := prog_10_method_7_code
def yX8_has : MethodName := ⟨RX8, "has", "(JI)Z"⟩
abbrev cX8_wearAt : ByteArray := prog_10_method_8_code
def yX8_wearAt : MethodName := ⟨RX8, "wearAt", "(JI)J"⟩
abbrev cX8_octetAt : ByteArray := prog_10_method_9_code
def yX8_octetAt : MethodName := ⟨RX8, "octetAt", "(JI)I"⟩
abbrev cX8_areLike : ByteArray := prog_10_method_10_code
def yX8_areLike : MethodName := ⟨RX8, "areLike", "(II)Z"⟩
abbrev cX8_setCost : ByteArray := prog_10_method_11_code
def yX8_setCost : MethodName := ⟨RX8, "setCost", "(III)V"⟩
abbrev cX8_addCouple : ByteArray := prog_10_method_12_code
def yX8_addCouple : MethodName := ⟨RX8, "addCouple", "(II)V"⟩
abbrev cX8_cutCouples : ByteArray := prog_10_method_13_code
def yX8_cutCouples : MethodName := ⟨RX8, "cutCouples", "(I)V"⟩
abbrev cX8_gap : ByteArray := prog_10_method_14_code
def yX8_gap : MethodName := ⟨RX8, "gap", "(JJ)I"⟩
abbrev cX9_init : ByteArray := prog_11_method_1_code
def yX9_init : MethodName := ⟨RX9, "<init>", "(LBaleTallies$Cargo;)V"⟩
abbrev cX9_refresh : ByteArray := prog_11_method_2_code
def yX9_refresh : MethodName := ⟨RX9, "refresh", "()V"⟩
abbrev cX9_count : ByteArray := prog_11_method_3_code
def yX9_count : MethodName := ⟨RX9, "count", "(I)V"⟩
abbrev cX9_heapOf : ByteArray := prog_11_method_4_code
def yX9_heapOf : MethodName := ⟨RX9, "heapOf", "(I)I"⟩
abbrev cX9_linesThatAre : ByteArray := prog_11_method_5_code
def yX9_linesThatAre : MethodName := ⟨RX9, "linesThatAre", "(I)I"⟩
abbrev cX9_unreadIn : ByteArray := prog_11_method_6_code
def yX9_unreadIn : MethodName := ⟨RX9, "unreadIn", "(I)I"⟩
abbrev cX10_init : ByteArray := prog_12_method_1_code
def yX10_init : MethodName := ⟨RX10, "<init>", "()V"⟩
abbrev cX10_add : ByteArray := prog_12_method_2_code
def yX10_add : MethodName := ⟨RX10, "add", "(I)V"⟩
abbrev cX10_rewind : ByteArray := prog_12_method_3_code
def yX10_rewind : MethodName := ⟨RX10, "rewind", "()V"⟩
abbrev cX10_next : ByteArray := prog_12_method_4_code
def yX10_next : MethodName := ⟨RX10, "next", "()I"⟩
abbrev cX10_fail : ByteArray := prog_12_method_5_code
def yX10_fail : MethodName := ⟨RX10, "fail", "(I)Z"⟩
abbrev cX10_skip : ByteArray := prog_12_method_6_code
def yX10_skip : MethodName := ⟨RX10, "skip", "(I)Z"⟩
abbrev cX10_isDigit : ByteArray := prog_12_method_7_code
def yX10_isDigit : MethodName := ⟨RX10, "isDigit", "(I)Z"⟩
abbrev cX10_digitUpTo : ByteArray := prog_12_method_8_code
def yX10_digitUpTo : MethodName := ⟨RX10, "digitUpTo", "(I)I"⟩
abbrev cX10_digits : ByteArray := prog_12_method_9_code
def yX10_digits : MethodName := ⟨RX10, "digits", "(I)I"⟩
abbrev cX10_amount : ByteArray := prog_12_method_10_code
def yX10_amount : MethodName := ⟨RX10, "amount", "(I)I"⟩
abbrev cX10_sign : ByteArray := prog_12_method_11_code
def yX10_sign : MethodName := ⟨RX10, "sign", "()I"⟩
abbrev cX10_signs : ByteArray := prog_12_method_12_code
def yX10_signs : MethodName := ⟨RX10, "signs", "(Z)J"⟩
abbrev cX11_init : ByteArray := prog_1_method_1_code
def yX11_init : MethodName := ⟨RX11, "<init>", "()V"⟩
abbrev cX11_feed : ByteArray := prog_1_method_2_code
def yX11_feed : MethodName := ⟨RX11, "feed", "(IIIII)I"⟩
abbrev cX11_end : ByteArray := prog_1_method_3_code
def yX11_end : MethodName := ⟨RX11, "end", "(I)I"⟩
abbrev cX11_text : ByteArray := prog_1_method_4_code
def yX11_text : MethodName := ⟨RX11, "text", "()I"⟩
abbrev cX11_law : ByteArray := prog_1_method_5_code
def yX11_law : MethodName := ⟨RX11, "law", "()I"⟩
abbrev cX11_fault : ByteArray := prog_1_method_6_code
def yX11_fault : MethodName := ⟨RX11, "fault", "()I"⟩
abbrev cX11_is : ByteArray := prog_1_method_7_code
def yX11_is : MethodName := ⟨RX11, "is", "(I)I"⟩
abbrev cX11_bill : ByteArray := prog_1_method_8_code
def yX11_bill : MethodName := ⟨RX11, "bill", "(II)I"⟩
abbrev cX11_line : ByteArray := prog_1_method_9_code
def yX11_line : MethodName := ⟨RX11, "line", "(II)I"⟩
abbrev cX11_apart : ByteArray := prog_1_method_10_code
def yX11_apart : MethodName := ⟨RX11, "apart", "(II)I"⟩
abbrev cX11_read : ByteArray := prog_1_method_11_code
def yX11_read : MethodName := ⟨RX11, "read", "(I)I"⟩
abbrev cX11_least : ByteArray := prog_1_method_12_code
def yX11_least : MethodName := ⟨RX11, "least", "(I)I"⟩
abbrev cX11_heap : ByteArray := prog_1_method_13_code
def yX11_heap : MethodName := ⟨RX11, "heap", "(II)I"⟩
abbrev cX11_tally : ByteArray := prog_1_method_14_code
def yX11_tally : MethodName := ⟨RX11, "tally", "(II)I"⟩
abbrev cX11_brought : ByteArray := prog_1_method_15_code
def yX11_brought : MethodName := ⟨RX11, "brought", "(II)I"⟩
abbrev cX11_matched : ByteArray := prog_1_method_16_code
def yX11_matched : MethodName := ⟨RX11, "matched", "(I)I"⟩
abbrev cX11_best : ByteArray := prog_1_method_17_code
def yX11_best : MethodName := ⟨RX11, "best", "(I)I"⟩
abbrev cX11_remark : ByteArray := prog_1_method_18_code
def yX11_remark : MethodName := ⟨RX11, "remark", "(III)I"⟩
abbrev cX11_remarked : ByteArray := prog_1_method_19_code
def yX11_remarked : MethodName := ⟨RX11, "remarked", "(III)I"⟩
abbrev cX11_claim : ByteArray := prog_1_method_20_code
def yX11_claim : MethodName := ⟨RX11, "claim", "(II)I"⟩
abbrev cX11_limit : ByteArray := prog_1_method_21_code
def yX11_limit : MethodName := ⟨RX11, "limit", "(I)I"⟩
abbrev cX11_far : ByteArray := prog_1_method_22_code
def yX11_far : MethodName := ⟨RX11, "far", "(I)I"⟩
abbrev cX11_pack : ByteArray := prog_1_method_23_code
def yX11_pack : MethodName := ⟨RX11, "pack", "(I)I"⟩
abbrev cX11_paid : ByteArray := prog_1_method_24_code
def yX11_paid : MethodName := ⟨RX11, "paid", "(I)I"⟩
abbrev cX11_against : ByteArray := prog_1_method_25_code
def yX11_against : MethodName := ⟨RX11, "against", "(II)I"⟩
abbrev cX11_hold : ByteArray := prog_1_method_26_code
def yX11_hold : MethodName := ⟨RX11, "hold", "(II)I"⟩
abbrev cX11_close : ByteArray := prog_1_method_27_code
def yX11_close : MethodName := ⟨RX11, "close", "(I)I"⟩
abbrev cX11_blame : ByteArray := prog_1_method_28_code
def yX11_blame : MethodName := ⟨RX11, "blame", "(II)I"⟩
abbrev cX11_worn : ByteArray := prog_1_method_29_code
def yX11_worn : MethodName := ⟨RX11, "worn", "(II)I"⟩
abbrev cX11_twin : ByteArray := prog_1_method_30_code
def yX11_twin : MethodName := ⟨RX11, "twin", "(II)I"⟩
abbrev cX11_shed : ByteArray := prog_1_method_31_code
def yX11_shed : MethodName := ⟨RX11, "shed", "(I)I"⟩
abbrev cX11_days : ByteArray := prog_1_method_32_code
def yX11_days : MethodName := ⟨RX11, "days", "(I)I"⟩
abbrev cX11_rate : ByteArray := prog_1_method_33_code
def yX11_rate : MethodName := ⟨RX11, "rate", "(II)I"⟩
abbrev cX11_deliver : ByteArray := prog_1_method_34_code
def yX11_deliver : MethodName := ⟨RX11, "deliver", "(II)I"⟩
abbrev cX11_gone : ByteArray := prog_1_method_35_code
def yX11_gone : MethodName := ⟨RX11, "gone", "(I)I"⟩
abbrev cX11_settled : ByteArray := prog_1_method_36_code
def yX11_settled : MethodName := ⟨RX11, "settled", "(I)I"⟩
abbrev cX11_cure : ByteArray := prog_1_method_37_code
def yX11_cure : MethodName := ⟨RX11, "cure", "(I)I"⟩
abbrev cX11_strike : ByteArray := prog_1_method_38_code
def yX11_strike : MethodName := ⟨RX11, "strike", "(I)I"⟩
abbrev cX11_back : ByteArray := prog_1_method_39_code
def yX11_back : MethodName := ⟨RX11, "back", "()I"⟩
abbrev cX11_write : ByteArray := prog_1_method_40_code
def yX11_write : MethodName := ⟨RX11, "write", "()I"⟩
abbrev cX11_octet : ByteArray := prog_1_method_41_code
def yX11_octet : MethodName := ⟨RX11, "octet", "(I)I"⟩
abbrev cX11_within : ByteArray := prog_1_method_42_code
def yX11_within : MethodName := ⟨RX11, "within", "(III)Z"⟩
abbrev cX11_isBill : ByteArray := prog_1_method_43_code
def yX11_isBill : MethodName := ⟨RX11, "isBill", "(I)Z"⟩
abbrev cX11_isLine : ByteArray := prog_1_method_44_code
def yX11_isLine : MethodName := ⟨RX11, "isLine", "(I)Z"⟩
abbrev cX11_isHold : ByteArray := prog_1_method_45_code
def yX11_isHold : MethodName := ⟨RX11, "isHold", "(I)Z"⟩
abbrev cX11_put : ByteArray := prog_1_method_46_code
def yX11_put : MethodName := ⟨RX11, "put", "(I)V"⟩
abbrev cX11_putNumber : ByteArray := prog_1_method_47_code
def yX11_putNumber : MethodName := ⟨RX11, "putNumber", "(I)V"⟩
abbrev cX11_matchAll : ByteArray := prog_1_method_48_code
def yX11_matchAll : MethodName := ⟨RX11, "matchAll", "()V"⟩
abbrev cX11_paidFor : ByteArray := prog_1_method_49_code
def yX11_paidFor : MethodName := ⟨RX11, "paidFor", "(I)I"⟩
abbrev cX11_balesInShed : ByteArray := prog_1_method_50_code
def yX11_balesInShed : MethodName := ⟨RX11, "balesInShed", "(I)I"⟩
abbrev cX11_noteDeed : ByteArray := prog_1_method_51_code
def yX11_noteDeed : MethodName := ⟨RX11, "noteDeed", "(IIII)LBaleTallies$Deed;"⟩
abbrev cX11_forgetAnswers : ByteArray := prog_1_method_52_code
def yX11_forgetAnswers : MethodName := ⟨RX11, "forgetAnswers", "()V"⟩
abbrev cX12_isIn : ByteArray := prog_14_method_1_code
def yX12_isIn : MethodName := ⟨RX12, "isIn", "(III)Z"⟩
abbrev cX12_init : ByteArray := prog_14_method_2_code
def yX12_init : MethodName := ⟨RX12, "<init>", "()V"⟩
abbrev cX12_deed : ByteArray := prog_14_method_3_code
def yX12_deed : MethodName := ⟨RX12, "deed", "()V"⟩
abbrev cX12_back : ByteArray := prog_14_method_4_code
def yX12_back : MethodName := ⟨RX12, "back", "()I"⟩
abbrev cX12_four : ByteArray := prog_14_method_5_code
def yX12_four : MethodName := ⟨RX12, "four", "(I)V"⟩
abbrev cX12_feed : ByteArray := prog_14_method_6_code
def yX12_feed : MethodName := ⟨RX12, "feed", "(IIIII)I"⟩
abbrev cX12_end : ByteArray := prog_14_method_7_code
def yX12_end : MethodName := ⟨RX12, "end", "(I)I"⟩
abbrev cX12_here : ByteArray := prog_14_method_8_code
def yX12_here : MethodName := ⟨RX12, "here", "()I"⟩
abbrev cX12_isFigure : ByteArray := prog_14_method_9_code
def yX12_isFigure : MethodName := ⟨RX12, "isFigure", "(I)Z"⟩
abbrev cX12_isSign : ByteArray := prog_14_method_10_code
def yX12_isSign : MethodName := ⟨RX12, "isSign", "(I)Z"⟩
abbrev cX12_fails : ByteArray := prog_14_method_11_code
def yX12_fails : MethodName := ⟨RX12, "fails", "(I)Z"⟩
abbrev cX12_takes : ByteArray := prog_14_method_12_code
def yX12_takes : MethodName := ⟨RX12, "takes", "(I)Z"⟩
abbrev cX12_fault : ByteArray := prog_14_method_13_code
def yX12_fault : MethodName := ⟨RX12, "fault", "()I"⟩
abbrev cX12_readDigits : ByteArray := prog_14_method_14_code
def yX12_readDigits : MethodName := ⟨RX12, "readDigits", "(I)Z"⟩
abbrev cX12_readCount : ByteArray := prog_14_method_15_code
def yX12_readCount : MethodName := ⟨RX12, "readCount", "(I)Z"⟩
abbrev cX12_readOne : ByteArray := prog_14_method_16_code
def yX12_readOne : MethodName := ⟨RX12, "readOne", "(I)Z"⟩
abbrev cX12_readMark : ByteArray := prog_14_method_17_code
def yX12_readMark : MethodName := ⟨RX12, "readMark", "(IIZ)Z"⟩
abbrev cX12_isLike : ByteArray := prog_14_method_18_code
def yX12_isLike : MethodName := ⟨RX12, "isLike", "(II)Z"⟩
abbrev cX12_billAt : ByteArray := prog_14_method_19_code
def yX12_billAt : MethodName := ⟨RX12, "billAt", "(I)I"⟩
abbrev cX12_lineAt : ByteArray := prog_14_method_20_code
def yX12_lineAt : MethodName := ⟨RX12, "lineAt", "(I)I"⟩
abbrev cX12_isSame : ByteArray := prog_14_method_21_code
def yX12_isSame : MethodName := ⟨RX12, "isSame", "(IIII)Z"⟩
abbrev cX12_readBill : ByteArray := prog_14_method_22_code
def yX12_readBill : MethodName := ⟨RX12, "readBill", "(I)Z"⟩
abbrev cX12_readCouple : ByteArray := prog_14_method_23_code
def yX12_readCouple : MethodName := ⟨RX12, "readCouple", "(I)Z"⟩
abbrev cX12_readLine : ByteArray := prog_14_method_24_code
def yX12_readLine : MethodName := ⟨RX12, "readLine", "(I)Z"⟩
abbrev cX12_readText : ByteArray := prog_14_method_25_code
def yX12_readText : MethodName := ⟨RX12, "readText", "()Z"⟩
abbrev cX12_countItems : ByteArray := prog_14_method_26_code
def yX12_countItems : MethodName := ⟨RX12, "countItems", "()I"⟩
abbrev cX12_text : ByteArray := prog_14_method_27_code
def yX12_text : MethodName := ⟨RX12, "text", "()I"⟩
abbrev cX12_does : ByteArray := prog_14_method_28_code
def yX12_does : MethodName := ⟨RX12, "does", "(I)V"⟩
abbrev cX12_nameOf : ByteArray := prog_14_method_29_code
def yX12_nameOf : MethodName := ⟨RX12, "nameOf", "(I)I"⟩
abbrev cX12_readThing : ByteArray := prog_14_method_30_code
def yX12_readThing : MethodName := ⟨RX12, "readThing", "()I"⟩
abbrev cX12_isProductSign : ByteArray := prog_14_method_31_code
def yX12_isProductSign : MethodName := ⟨RX12, "isProductSign", "()Z"⟩
abbrev cX12_goesOn : ByteArray := prog_14_method_32_code
def yX12_goesOn : MethodName := ⟨RX12, "goesOn", "()Z"⟩
abbrev cX12_readLaw : ByteArray := prog_14_method_33_code
def yX12_readLaw : MethodName := ⟨RX12, "readLaw", "()Z"⟩
abbrev cX12_law : ByteArray := prog_14_method_34_code
def yX12_law : MethodName := ⟨RX12, "law", "()I"⟩
abbrev cX12_joined : ByteArray := prog_14_method_35_code
def yX12_joined : MethodName := ⟨RX12, "joined", "(III)I"⟩
abbrev cX12_lesser : ByteArray := prog_14_method_36_code
def yX12_lesser : MethodName := ⟨RX12, "lesser", "(II)I"⟩
abbrev cX12_most : ByteArray := prog_14_method_37_code
def yX12_most : MethodName := ⟨RX12, "most", "(II)I"⟩
abbrev cX12_agree : ByteArray := prog_14_method_38_code
def yX12_agree : MethodName := ⟨RX12, "agree", "(III)I"⟩
abbrev cX12_change : ByteArray := prog_14_method_39_code
def yX12_change : MethodName := ⟨RX12, "change", "(II)I"⟩
abbrev cX12_apartOf : ByteArray := prog_14_method_40_code
def yX12_apartOf : MethodName := ⟨RX12, "apartOf", "(IIII)I"⟩
abbrev cX12_lineApart : ByteArray := prog_14_method_41_code
def yX12_lineApart : MethodName := ⟨RX12, "lineApart", "(II)I"⟩
abbrev cX12_billApart : ByteArray := prog_14_method_42_code
def yX12_billApart : MethodName := ⟨RX12, "billApart", "(II)I"⟩
abbrev cX12_isBill : ByteArray := prog_14_method_43_code
def yX12_isBill : MethodName := ⟨RX12, "isBill", "(I)Z"⟩
abbrev cX12_isLine : ByteArray := prog_14_method_44_code
def yX12_isLine : MethodName := ⟨RX12, "isLine", "(I)Z"⟩
abbrev cX12_apart : ByteArray := prog_14_method_45_code
def yX12_apart : MethodName := ⟨RX12, "apart", "(II)I"⟩
abbrev cX12_layNear : ByteArray := prog_14_method_46_code
def yX12_layNear : MethodName := ⟨RX12, "layNear", "(II)V"⟩
abbrev cX12_readOf : ByteArray := prog_14_method_47_code
def yX12_readOf : MethodName := ⟨RX12, "readOf", "(II)I"⟩
abbrev cX12_lineRead : ByteArray := prog_14_method_48_code
def yX12_lineRead : MethodName := ⟨RX12, "lineRead", "(I)I"⟩
abbrev cX12_read : ByteArray := prog_14_method_49_code
def yX12_read : MethodName := ⟨RX12, "read", "(I)I"⟩
abbrev cX12_least : ByteArray := prog_14_method_50_code
def yX12_least : MethodName := ⟨RX12, "least", "(I)I"⟩
abbrev cX12_heapAt : ByteArray := prog_14_method_51_code
def yX12_heapAt : MethodName := ⟨RX12, "heapAt", "(I)I"⟩
abbrev cX12_layReads : ByteArray := prog_14_method_52_code
def yX12_layReads : MethodName := ⟨RX12, "layReads", "()V"⟩
abbrev cX12_due : ByteArray := prog_14_method_53_code
def yX12_due : MethodName := ⟨RX12, "due", "(I)I"⟩
abbrev cX12_countReads : ByteArray := prog_14_method_54_code
def yX12_countReads : MethodName := ⟨RX12, "countReads", "(I)I"⟩
abbrev cX12_is : ByteArray := prog_14_method_55_code
def yX12_is : MethodName := ⟨RX12, "is", "(I)I"⟩
abbrev cX12_bill : ByteArray := prog_14_method_56_code
def yX12_bill : MethodName := ⟨RX12, "bill", "(II)I"⟩
abbrev cX12_line : ByteArray := prog_14_method_57_code
def yX12_line : MethodName := ⟨RX12, "line", "(II)I"⟩
abbrev cX12_apartFrom : ByteArray := prog_14_method_58_code
def yX12_apartFrom : MethodName := ⟨RX12, "apartFrom", "(II)I"⟩
abbrev cX12_isSource : ByteArray := prog_14_method_59_code
def yX12_isSource : MethodName := ⟨RX12, "isSource", "(I)Z"⟩
abbrev cX12_layShort : ByteArray := prog_14_method_60_code
def yX12_layShort : MethodName := ⟨RX12, "layShort", "()V"⟩
abbrev cX12_layMatched : ByteArray := prog_14_method_61_code
def yX12_layMatched : MethodName := ⟨RX12, "layMatched", "()V"⟩
abbrev cX12_matchedTo : ByteArray := prog_14_method_62_code
def yX12_matchedTo : MethodName := ⟨RX12, "matchedTo", "(I)I"⟩
abbrev cX12_tally : ByteArray := prog_14_method_63_code
def yX12_tally : MethodName := ⟨RX12, "tally", "(II)I"⟩
abbrev cX12_heap : ByteArray := prog_14_method_64_code
def yX12_heap : MethodName := ⟨RX12, "heap", "(II)I"⟩
abbrev cX12_brought : ByteArray := prog_14_method_65_code
def yX12_brought : MethodName := ⟨RX12, "brought", "(II)I"⟩
abbrev cX12_matched : ByteArray := prog_14_method_66_code
def yX12_matched : MethodName := ⟨RX12, "matched", "(I)I"⟩
abbrev cX12_layWays : ByteArray := prog_14_method_67_code
def yX12_layWays : MethodName := ⟨RX12, "layWays", "()V"⟩
abbrev cX12_goAlong : ByteArray := prog_14_method_68_code
def yX12_goAlong : MethodName := ⟨RX12, "goAlong", "(I)V"⟩
abbrev cX12_layBest : ByteArray := prog_14_method_69_code
def yX12_layBest : MethodName := ⟨RX12, "layBest", "()V"⟩
abbrev cX12_best : ByteArray := prog_14_method_70_code
def yX12_best : MethodName := ⟨RX12, "best", "(I)I"⟩
abbrev cX12_remark : ByteArray := prog_14_method_71_code
def yX12_remark : MethodName := ⟨RX12, "remark", "(III)I"⟩
abbrev cX12_remarked : ByteArray := prog_14_method_72_code
def yX12_remarked : MethodName := ⟨RX12, "remarked", "(III)I"⟩
abbrev cX12_become : ByteArray := prog_14_method_73_code
def yX12_become : MethodName := ⟨RX12, "become", "(II)I"⟩
abbrev cX12_claim : ByteArray := prog_14_method_74_code
def yX12_claim : MethodName := ⟨RX12, "claim", "(II)I"⟩
abbrev cX12_limit : ByteArray := prog_14_method_75_code
def yX12_limit : MethodName := ⟨RX12, "limit", "(I)I"⟩
abbrev cX12_far : ByteArray := prog_14_method_76_code
def yX12_far : MethodName := ⟨RX12, "far", "(I)I"⟩
abbrev cX12_pack : ByteArray := prog_14_method_77_code
def yX12_pack : MethodName := ⟨RX12, "pack", "(I)I"⟩
abbrev cX12_paidFor : ByteArray := prog_14_method_78_code
def yX12_paidFor : MethodName := ⟨RX12, "paidFor", "(I)I"⟩
abbrev cX12_paid : ByteArray := prog_14_method_79_code
def yX12_paid : MethodName := ⟨RX12, "paid", "(I)I"⟩
abbrev cX12_layHold : ByteArray := prog_14_method_80_code
def yX12_layHold : MethodName := ⟨RX12, "layHold", "(I)V"⟩
abbrev cX12_bearing : ByteArray := prog_14_method_81_code
def yX12_bearing : MethodName := ⟨RX12, "bearing", "(I)I"⟩
abbrev cX12_standing : ByteArray := prog_14_method_82_code
def yX12_standing : MethodName := ⟨RX12, "standing", "(II)I"⟩
abbrev cX12_offers : ByteArray := prog_14_method_83_code
def yX12_offers : MethodName := ⟨RX12, "offers", "(II)V"⟩
abbrev cX12_layAgainst : ByteArray := prog_14_method_84_code
def yX12_layAgainst : MethodName := ⟨RX12, "layAgainst", "()V"⟩
abbrev cX12_isHold : ByteArray := prog_14_method_85_code
def yX12_isHold : MethodName := ⟨RX12, "isHold", "(I)Z"⟩
abbrev cX12_against : ByteArray := prog_14_method_86_code
def yX12_against : MethodName := ⟨RX12, "against", "(II)I"⟩
abbrev cX12_difference : ByteArray := prog_14_method_87_code
def yX12_difference : MethodName := ⟨RX12, "difference", "(I)I"⟩
abbrev cX12_isAgain : ByteArray := prog_14_method_88_code
def yX12_isAgain : MethodName := ⟨RX12, "isAgain", "(I)Z"⟩
abbrev cX12_hold : ByteArray := prog_14_method_89_code
def yX12_hold : MethodName := ⟨RX12, "hold", "(II)I"⟩
abbrev cX12_close : ByteArray := prog_14_method_90_code
def yX12_close : MethodName := ⟨RX12, "close", "(I)I"⟩
abbrev cX12_blame : ByteArray := prog_14_method_91_code
def yX12_blame : MethodName := ⟨RX12, "blame", "(II)I"⟩
abbrev cX12_worn : ByteArray := prog_14_method_92_code
def yX12_worn : MethodName := ⟨RX12, "worn", "(II)I"⟩
abbrev cX12_readSpare : ByteArray := prog_14_method_93_code
def yX12_readSpare : MethodName := ⟨RX12, "readSpare", "(II)I"⟩
abbrev cX12_spareApart : ByteArray := prog_14_method_94_code
def yX12_spareApart : MethodName := ⟨RX12, "spareApart", "(III)I"⟩
abbrev cX12_twin : ByteArray := prog_14_method_95_code
def yX12_twin : MethodName := ⟨RX12, "twin", "(II)I"⟩
abbrev cX12_shedOf : ByteArray := prog_14_method_96_code
def yX12_shedOf : MethodName := ⟨RX12, "shedOf", "(I)I"⟩
abbrev cX12_shed : ByteArray := prog_14_method_97_code
def yX12_shed : MethodName := ⟨RX12, "shed", "(I)I"⟩
abbrev cX12_days : ByteArray := prog_14_method_98_code
def yX12_days : MethodName := ⟨RX12, "days", "(I)I"⟩
abbrev cX12_charge : ByteArray := prog_14_method_99_code
def yX12_charge : MethodName := ⟨RX12, "charge", "()I"⟩
abbrev cX12_rate : ByteArray := prog_14_method_100_code
def yX12_rate : MethodName := ⟨RX12, "rate", "(II)I"⟩
abbrev cX12_deliver : ByteArray := prog_14_method_101_code
def yX12_deliver : MethodName := ⟨RX12, "deliver", "(II)I"⟩
abbrev cX12_gone : ByteArray := prog_14_method_102_code
def yX12_gone : MethodName := ⟨RX12, "gone", "(I)I"⟩
abbrev cX12_isNear : ByteArray := prog_14_method_103_code
def yX12_isNear : MethodName := ⟨RX12, "isNear", "(II)Z"⟩
abbrev cX12_comesTo : ByteArray := prog_14_method_104_code
def yX12_comesTo : MethodName := ⟨RX12, "comesTo", "(III)V"⟩
abbrev cX12_offOf : ByteArray := prog_14_method_105_code
def yX12_offOf : MethodName := ⟨RX12, "offOf", "(I)I"⟩
abbrev cX12_laySettled : ByteArray := prog_14_method_106_code
def yX12_laySettled : MethodName := ⟨RX12, "laySettled", "()Z"⟩
abbrev cX12_takes_ : ByteArray := prog_14_method_107_code
def yX12_takes_ : MethodName := ⟨RX12, "takes", "(III)I"⟩
abbrev cX12_settled : ByteArray := prog_14_method_108_code
def yX12_settled : MethodName := ⟨RX12, "settled", "(I)I"⟩
abbrev cX12_isCure : ByteArray := prog_14_method_109_code
def yX12_isCure : MethodName := ⟨RX12, "isCure", "(III)Z"⟩
abbrev cX12_cure : ByteArray := prog_14_method_110_code
def yX12_cure : MethodName := ⟨RX12, "cure", "(I)I"⟩
abbrev cX12_strike : ByteArray := prog_14_method_111_code
def yX12_strike : MethodName := ⟨RX12, "strike", "(I)I"⟩
abbrev cX12_writes : ByteArray := prog_14_method_112_code
def yX12_writes : MethodName := ⟨RX12, "writes", "(I)V"⟩
abbrev cX12_writeNumber : ByteArray := prog_14_method_113_code
def yX12_writeNumber : MethodName := ⟨RX12, "writeNumber", "(I)V"⟩
abbrev cX12_write : ByteArray := prog_14_method_114_code
def yX12_write : MethodName := ⟨RX12, "write", "()I"⟩
abbrev cX12_octet : ByteArray := prog_14_method_115_code
def yX12_octet : MethodName := ⟨RX12, "octet", "(I)I"⟩
def RJ9 : String := "java/lang/Math"
abbrev cJ9_abs_0f7a4 : ByteArray := prog_15_method_59_code
def yJ9_abs_0f7a4 : MethodName := ⟨RJ9, "abs", "(I)I"⟩
abbrev cJ9_max_7cf53 : ByteArray := prog_15_method_65_code
def yJ9_max_7cf53 : MethodName := ⟨RJ9, "max", "(II)I"⟩
abbrev cJ9_min_7cf53 : ByteArray := prog_15_method_69_code
def yJ9_min_7cf53 : MethodName := ⟨RJ9, "min", "(II)I"⟩
def RL : String := "BaleTalliesLaw"
abbrev cL_law : ByteArray := code
def yL_law : MethodName := ⟨RL, "law", "([I)Z"⟩
abbrev vwCl : List vw_C := [(RX0, TX0, 8), (RX1, TX1, 17), (RX2, TX2, 6), (RX3, TX3, 11), (RX4, TX4, 4), (RX5, TX5, 6), (RX6, TX6, 12), (RX7, TX7, 7), (RX8, TX8, 6), (RX9, TX9, 8), (RX10, TX10, 4), (RX11, TX11, 11), (RX12, TX12, 52)]
/-- the cells with which objects begin -/
def zini (c : Nat) : zC := match c with
  | 0 => (0, 8, 0, (.branch 4 (.branch 2 (.branch 1 (.leaf (zl 0)) (.leaf (zi 0))) (.branch 3 (.leaf (zi 0)) (.leaf (zi 0)))) (.branch 6 (.branch 5 (.leaf (zi 0)) (.leaf (zi 0))) (.branch 7 (.leaf (zr 0)) (.leaf (zr 0))))))
  | 1 => (1, 17, 0, (.branch 16 (.branch 8 (.branch 4 (.branch 2 (.branch 1 (.leaf (zr 0)) (.leaf (zr 0))) (.branch 3 (.leaf (zi 0)) (.leaf (zr 0)))) (.branch 6 (.branch 5 (.leaf (zi 0)) (.leaf (zr 0))) (.branch 7 (.leaf (zr 0)) (.leaf (zi 0))))) (.branch 12 (.branch 10 (.branch 9 (.leaf (zi 0)) (.leaf (zi 0))) (.branch 11 (.leaf (zi 0)) (.leaf (zi 0)))) (.branch 14 (.branch 13 (.leaf (zi 0)) (.leaf (zi 0))) (.branch 15 (.leaf (zr 0)) (.leaf (zr 0)))))) (.branch 24 (.branch 20 (.branch 18 (.branch 17 (.leaf (zr 0)) (.leaf (zr 0))) (.branch 19 (.leaf (zr 0)) (.leaf (zr 0)))) (.branch 22 (.branch 21 (.leaf (zr 0)) (.leaf (zr 0))) (.branch 23 (.leaf (zr 0)) (.leaf (zr 0))))) (.branch 28 (.branch 26 (.branch 25 (.leaf (zr 0)) (.leaf (zr 0))) (.branch 27 (.leaf (zr 0)) (.leaf (zr 0)))) (.branch 30 (.branch 29 (.leaf (zr 0)) (.leaf (zr 0))) (.branch 31 (.leaf (zr 0)) (.leaf (zr 0))))))))
  | 2 => (2, 6, 0, (.branch 4 (.branch 2 (.branch 1 (.leaf (zi 0)) (.leaf (zi 0))) (.branch 3 (.leaf (zi 0)) (.leaf (zi 0)))) (.branch 6 (.branch 5 (.leaf (zr 0)) (.leaf (zr 0))) (.branch 7 (.leaf (zr 0)) (.leaf (zr 0))))))
  | 3 => (3, 11, 0, (.branch 8 (.branch 4 (.branch 2 (.branch 1 (.leaf (zr 0)) (.leaf (zr 0))) (.branch 3 (.leaf (zi 0)) (.leaf (zr 0)))) (.branch 6 (.branch 5 (.leaf (zr 0)) (.leaf (zr 0))) (.branch 7 (.leaf (zr 0)) (.leaf (zr 0))))) (.branch 12 (.branch 10 (.branch 9 (.leaf (zr 0)) (.leaf (zi 0))) (.branch 11 (.leaf (zi 0)) (.leaf (zr 0)))) (.branch 14 (.branch 13 (.leaf (zr 0)) (.leaf (zr 0))) (.branch 15 (.leaf (zr 0)) (.leaf (zr 0)))))))
  | 4 => (4, 4, 0, (.branch 2 (.branch 1 (.leaf (zr 0)) (.leaf (zr 0))) (.branch 3 (.leaf (zi 0)) (.leaf (zi 0)))))
  | 5 => (5, 6, 0, (.branch 4 (.branch 2 (.branch 1 (.leaf (zi 0)) (.leaf (zi 0))) (.branch 3 (.leaf (zi 0)) (.leaf (zl 0)))) (.branch 6 (.branch 5 (.leaf (zi 0)) (.leaf (zr 0))) (.branch 7 (.leaf (zr 0)) (.leaf (zr 0))))))
  | 6 => (6, 12, 0, (.branch 8 (.branch 4 (.branch 2 (.branch 1 (.leaf (zr 0)) (.leaf (zr 0))) (.branch 3 (.leaf (zi 0)) (.leaf (zr 0)))) (.branch 6 (.branch 5 (.leaf (zr 0)) (.leaf (zr 0))) (.branch 7 (.leaf (zi 0)) (.leaf (zr 0))))) (.branch 12 (.branch 10 (.branch 9 (.leaf (zr 0)) (.leaf (zr 0))) (.branch 11 (.leaf (zi 0)) (.leaf (zi 0)))) (.branch 14 (.branch 13 (.leaf (zr 0)) (.leaf (zr 0))) (.branch 15 (.leaf (zr 0)) (.leaf (zr 0)))))))
  | 7 => (7, 7, 0, (.branch 4 (.branch 2 (.branch 1 (.leaf (zr 0)) (.leaf (zr 0))) (.branch 3 (.leaf (zr 0)) (.leaf (zi 0)))) (.branch 6 (.branch 5 (.leaf (zr 0)) (.leaf (zr 0))) (.branch 7 (.leaf (zr 0)) (.leaf (zr 0))))))
  | 8 => (8, 6, 0, (.branch 4 (.branch 2 (.branch 1 (.leaf (zr 0)) (.leaf (zr 0))) (.branch 3 (.leaf (zr 0)) (.leaf (zi 0)))) (.branch 6 (.branch 5 (.leaf (zr 0)) (.leaf (zr 0))) (.branch 7 (.leaf (zr 0)) (.leaf (zr 0))))))
  | 9 => (9, 8, 0, (.branch 4 (.branch 2 (.branch 1 (.leaf (zr 0)) (.leaf (zi 0))) (.branch 3 (.leaf (zr 0)) (.leaf (zr 0)))) (.branch 6 (.branch 5 (.leaf (zi 0)) (.leaf (zr 0))) (.branch 7 (.leaf (zr 0)) (.leaf (zr 0))))))
  | 10 => (10, 4, 0, (.branch 2 (.branch 1 (.leaf (zr 0)) (.leaf (zi 0))) (.branch 3 (.leaf (zi 0)) (.leaf (zi 0)))))
  | 11 => (11, 11, 0, (.branch 8 (.branch 4 (.branch 2 (.branch 1 (.leaf (zr 0)) (.leaf (zr 0))) (.branch 3 (.leaf (zr 0)) (.leaf (zr 0)))) (.branch 6 (.branch 5 (.leaf (zr 0)) (.leaf (zr 0))) (.branch 7 (.leaf (zr 0)) (.leaf (zi 0))))) (.branch 12 (.branch 10 (.branch 9 (.leaf (zi 0)) (.leaf (zr 0))) (.branch 11 (.leaf (zi 0)) (.leaf (zr 0)))) (.branch 14 (.branch 13 (.leaf (zr 0)) (.leaf (zr 0))) (.branch 15 (.leaf (zr 0)) (.leaf (zr 0)))))))
  | 12 => (12, 52, 0, (.branch 32 (.branch 16 (.branch 8 (.branch 4 (.branch 2 (.branch 1 (.leaf (zr 0)) (.leaf (zr 0))) (.branch 3 (.leaf (zi 0)) (.leaf (zr 0)))) (.branch 6 (.branch 5 (.leaf (zi 0)) (.leaf (zi 0))) (.branch 7 (.leaf (zi 0)) (.leaf (zi 0))))) (.branch 12 (.branch 10 (.branch 9 (.leaf (zr 0)) (.leaf (zr 0))) (.branch 11 (.leaf (zi 0)) (.leaf (zi 0)))) (.branch 14 (.branch 13 (.leaf (zr 0)) (.leaf (zr 0))) (.branch 15 (.leaf (zi 0)) (.leaf (zr 0)))))) (.branch 24 (.branch 20 (.branch 18 (.branch 17 (.leaf (zr 0)) (.leaf (zi 0))) (.branch 19 (.leaf (zi 0)) (.leaf (zi 0)))) (.branch 22 (.branch 21 (.leaf (zr 0)) (.leaf (zr 0))) (.branch 23 (.leaf (zr 0)) (.leaf (zr 0))))) (.branch 28 (.branch 26 (.branch 25 (.leaf (zr 0)) (.leaf (zr 0))) (.branch 27 (.leaf (zi 0)) (.leaf (zr 0)))) (.branch 30 (.branch 29 (.leaf (zr 0)) (.leaf (zr 0))) (.branch 31 (.leaf (zr 0)) (.leaf (zi 0))))))) (.branch 48 (.branch 40 (.branch 36 (.branch 34 (.branch 33 (.leaf (zi 0)) (.leaf (zr 0))) (.branch 35 (.leaf (zr 0)) (.leaf (zr 0)))) (.branch 38 (.branch 37 (.leaf (zr 0)) (.leaf (zr 0))) (.branch 39 (.leaf (zr 0)) (.leaf (zi 0))))) (.branch 44 (.branch 42 (.branch 41 (.leaf (zi 0)) (.leaf (zi 0))) (.branch 43 (.leaf (zi 0)) (.leaf (zr 0)))) (.branch 46 (.branch 45 (.leaf (zr 0)) (.leaf (zr 0))) (.branch 47 (.leaf (zr 0)) (.leaf (zi 0)))))) (.branch 56 (.branch 52 (.branch 50 (.branch 49 (.leaf (zi 0)) (.leaf (zr 0))) (.branch 51 (.leaf (zr 0)) (.leaf (zi 0)))) (.branch 54 (.branch 53 (.leaf (zr 0)) (.leaf (zr 0))) (.branch 55 (.leaf (zr 0)) (.leaf (zr 0))))) (.branch 60 (.branch 58 (.branch 57 (.leaf (zr 0)) (.leaf (zr 0))) (.branch 59 (.leaf (zr 0)) (.leaf (zr 0)))) (.branch 62 (.branch 61 (.leaf (zr 0)) (.leaf (zr 0))) (.branch 63 (.leaf (zr 0)) (.leaf (zr 0)))))))))
  | _ => (99, 0, 0, .leaf (zr 0))
