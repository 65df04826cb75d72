section
-- ===== PART A: goes FIRST, ahead of the names: the tables' words, and 'selects' of the private methods out of them =====
/-- a private method of a class that the tables say can be made, by its rows of tables_1 -/
def lw_okq (q : MethodName × Nat) : Prop := (q.1.cls ≠ "java/lang/invoke/MethodHandle" ∧ q.1.cls ≠ "java/lang/invoke/VarHandle") ∧ Cond.instantiable q.1.cls q.2 ∈ tables_1 ∧ Cond.privateMethod q.1 ∈ tables_1 ∧ Cond.instanceMethod q.1 ∈ tables_1
theorem lw_p0 : lw_okq (⟨"LiveryYard$Tokens", "readWord", "()V"⟩, 5) := ⟨⟨by decide +kernel, by decide +kernel⟩, List.mem_of_getElem? (i := 119) (by decide +kernel), List.mem_of_getElem? (i := 441) (by decide +kernel), List.mem_of_getElem? (i := 442) (by decide +kernel)⟩
theorem lw_p1 : lw_okq (⟨"LiveryYard$Tokens", "wordNumber", "()I"⟩, 5) := ⟨⟨by decide +kernel, by decide +kernel⟩, List.mem_of_getElem? (i := 119) (by decide +kernel), List.mem_of_getElem? (i := 448) (by decide +kernel), List.mem_of_getElem? (i := 449) (by decide +kernel)⟩
theorem lw_p2 : lw_okq (⟨"LiveryYard$Tokens", "letterHere", "(I)I"⟩, 5) := ⟨⟨by decide +kernel, by decide +kernel⟩, List.mem_of_getElem? (i := 119) (by decide +kernel), List.mem_of_getElem? (i := 504) (by decide +kernel), List.mem_of_getElem? (i := 505) (by decide +kernel)⟩
theorem lw_p3 : lw_okq (⟨"LiveryYard$Tokens", "readNumber", "()V"⟩, 5) := ⟨⟨by decide +kernel, by decide +kernel⟩, List.mem_of_getElem? (i := 119) (by decide +kernel), List.mem_of_getElem? (i := 508) (by decide +kernel), List.mem_of_getElem? (i := 509) (by decide +kernel)⟩
theorem lw_p4 : lw_okq (⟨"LiveryYard$Parser", "refuse", "(I)Z"⟩, 6) := ⟨⟨by decide +kernel, by decide +kernel⟩, List.mem_of_getElem? (i := 117) (by decide +kernel), List.mem_of_getElem? (i := 519) (by decide +kernel), List.mem_of_getElem? (i := 520) (by decide +kernel)⟩
theorem lw_p5 : lw_okq (⟨"LiveryYard$Parser", "readEither", "(I)Z"⟩, 6) := ⟨⟨by decide +kernel, by decide +kernel⟩, List.mem_of_getElem? (i := 117) (by decide +kernel), List.mem_of_getElem? (i := 528) (by decide +kernel), List.mem_of_getElem? (i := 529) (by decide +kernel)⟩
theorem lw_p6 : lw_okq (⟨"LiveryYard$Parser", "readBoth", "(I)Z"⟩, 6) := ⟨⟨by decide +kernel, by decide +kernel⟩, List.mem_of_getElem? (i := 117) (by decide +kernel), List.mem_of_getElem? (i := 532) (by decide +kernel), List.mem_of_getElem? (i := 533) (by decide +kernel)⟩
theorem lw_p7 : lw_okq (⟨"LiveryYard$Parser", "readOne", "(I)Z"⟩, 6) := ⟨⟨by decide +kernel, by decide +kernel⟩, List.mem_of_getElem? (i := 117) (by decide +kernel), List.mem_of_getElem? (i := 536) (by decide +kernel), List.mem_of_getElem? (i := 537) (by decide +kernel)⟩
theorem lw_p8 : lw_okq (⟨"LiveryYard$Parser", "readComparison", "(I)Z"⟩, 6) := ⟨⟨by decide +kernel, by decide +kernel⟩, List.mem_of_getElem? (i := 117) (by decide +kernel), List.mem_of_getElem? (i := 540) (by decide +kernel), List.mem_of_getElem? (i := 541) (by decide +kernel)⟩
theorem lw_p9 : lw_okq (⟨"LiveryYard$Parser", "readSum", "(I)Z"⟩, 6) := ⟨⟨by decide +kernel, by decide +kernel⟩, List.mem_of_getElem? (i := 117) (by decide +kernel), List.mem_of_getElem? (i := 544) (by decide +kernel), List.mem_of_getElem? (i := 545) (by decide +kernel)⟩
theorem lw_p10 : lw_okq (⟨"LiveryYard$Parser", "readTerm", "(I)Z"⟩, 6) := ⟨⟨by decide +kernel, by decide +kernel⟩, List.mem_of_getElem? (i := 117) (by decide +kernel), List.mem_of_getElem? (i := 548) (by decide +kernel), List.mem_of_getElem? (i := 549) (by decide +kernel)⟩
theorem lw_p11 : lw_okq (⟨"LiveryYard$Parser", "takeOperand", "()Z"⟩, 6) := ⟨⟨by decide +kernel, by decide +kernel⟩, List.mem_of_getElem? (i := 117) (by decide +kernel), List.mem_of_getElem? (i := 552) (by decide +kernel), List.mem_of_getElem? (i := 553) (by decide +kernel)⟩
theorem lw_p12 : lw_okq (⟨"LiveryYard$Judge", "tellOfOne", "(IIII)V"⟩, 4) := ⟨⟨by decide +kernel, by decide +kernel⟩, List.mem_of_getElem? (i := 164) (by decide +kernel), List.mem_of_getElem? (i := 607) (by decide +kernel), List.mem_of_getElem? (i := 608) (by decide +kernel)⟩
theorem lw_p13 : lw_okq (⟨"LiveryYard$Rules", "workOut", "(I[I)I"⟩, 6) := ⟨⟨by decide +kernel, by decide +kernel⟩, List.mem_of_getElem? (i := 92) (by decide +kernel), List.mem_of_getElem? (i := 635) (by decide +kernel), List.mem_of_getElem? (i := 636) (by decide +kernel)⟩
theorem lw_p14 : lw_okq (⟨"LiveryYard$Judge", "tellOfOther", "(II)V"⟩, 4) := ⟨⟨by decide +kernel, by decide +kernel⟩, List.mem_of_getElem? (i := 164) (by decide +kernel), List.mem_of_getElem? (i := 651) (by decide +kernel), List.mem_of_getElem? (i := 652) (by decide +kernel)⟩
theorem lw_p15 : lw_okq (⟨"LiveryYard$Planner", "place", "(I)I"⟩, 9) := ⟨⟨by decide +kernel, by decide +kernel⟩, List.mem_of_getElem? (i := 183) (by decide +kernel), List.mem_of_getElem? (i := 666) (by decide +kernel), List.mem_of_getElem? (i := 667) (by decide +kernel)⟩
def lw_privs_1 : List (MethodName × Nat) := [(⟨"LiveryYard$Tokens", "readWord", "()V"⟩, 5), (⟨"LiveryYard$Tokens", "wordNumber", "()I"⟩, 5), (⟨"LiveryYard$Tokens", "letterHere", "(I)I"⟩, 5), (⟨"LiveryYard$Tokens", "readNumber", "()V"⟩, 5), (⟨"LiveryYard$Parser", "refuse", "(I)Z"⟩, 6), (⟨"LiveryYard$Parser", "readEither", "(I)Z"⟩, 6), (⟨"LiveryYard$Parser", "readBoth", "(I)Z"⟩, 6), (⟨"LiveryYard$Parser", "readOne", "(I)Z"⟩, 6), (⟨"LiveryYard$Parser", "readComparison", "(I)Z"⟩, 6), (⟨"LiveryYard$Parser", "readSum", "(I)Z"⟩, 6), (⟨"LiveryYard$Parser", "readTerm", "(I)Z"⟩, 6), (⟨"LiveryYard$Parser", "takeOperand", "()Z"⟩, 6), (⟨"LiveryYard$Judge", "tellOfOne", "(IIII)V"⟩, 4), (⟨"LiveryYard$Rules", "workOut", "(I[I)I"⟩, 6), (⟨"LiveryYard$Judge", "tellOfOther", "(II)V"⟩, 4), (⟨"LiveryYard$Planner", "place", "(I)I"⟩, 9)]
theorem lw_r1 : ∀ q ∈ lw_privs_1, lw_okq q := List.forall_mem_cons.mpr ⟨lw_p0, List.forall_mem_cons.mpr ⟨lw_p1, List.forall_mem_cons.mpr ⟨lw_p2, List.forall_mem_cons.mpr ⟨lw_p3, List.forall_mem_cons.mpr ⟨lw_p4, List.forall_mem_cons.mpr ⟨lw_p5, List.forall_mem_cons.mpr ⟨lw_p6, List.forall_mem_cons.mpr ⟨lw_p7, List.forall_mem_cons.mpr ⟨lw_p8, List.forall_mem_cons.mpr ⟨lw_p9, List.forall_mem_cons.mpr ⟨lw_p10, List.forall_mem_cons.mpr ⟨lw_p11, List.forall_mem_cons.mpr ⟨lw_p12, List.forall_mem_cons.mpr ⟨lw_p13, List.forall_mem_cons.mpr ⟨lw_p14, List.forall_mem_cons.mpr ⟨lw_p15, fun _ h => absurd h List.not_mem_nil⟩⟩⟩⟩⟩⟩⟩⟩⟩⟩⟩⟩⟩⟩⟩⟩
theorem lw_p16 : lw_okq (⟨"LiveryYard$Planner", "fits", "(II)Z"⟩, 9) := ⟨⟨by decide +kernel, by decide +kernel⟩, List.mem_of_getElem? (i := 183) (by decide +kernel), List.mem_of_getElem? (i := 672) (by decide +kernel), List.mem_of_getElem? (i := 673) (by decide +kernel)⟩
theorem lw_p17 : lw_okq (⟨"LiveryYard$Planner", "mayStand", "(II)Z"⟩, 9) := ⟨⟨by decide +kernel, by decide +kernel⟩, List.mem_of_getElem? (i := 183) (by decide +kernel), List.mem_of_getElem? (i := 676) (by decide +kernel), List.mem_of_getElem? (i := 677) (by decide +kernel)⟩
theorem lw_p18 : lw_okq (⟨"LiveryYard$Planner", "mayStandBy", "(IIII)Z"⟩, 9) := ⟨⟨by decide +kernel, by decide +kernel⟩, List.mem_of_getElem? (i := 183) (by decide +kernel), List.mem_of_getElem? (i := 691) (by decide +kernel), List.mem_of_getElem? (i := 692) (by decide +kernel)⟩
theorem lw_p19 : lw_okq (⟨"LiveryYard", "mayBeAnywhere", "(I)Z"⟩, 13) := ⟨⟨by decide +kernel, by decide +kernel⟩, List.mem_of_getElem? (i := 22) (by decide +kernel), List.mem_of_getElem? (i := 719) (by decide +kernel), List.mem_of_getElem? (i := 720) (by decide +kernel)⟩
theorem lw_p20 : lw_okq (⟨"LiveryYard$Bin", "drop", "(I)V"⟩, 5) := ⟨⟨by decide +kernel, by decide +kernel⟩, List.mem_of_getElem? (i := 218) (by decide +kernel), List.mem_of_getElem? (i := 769) (by decide +kernel), List.mem_of_getElem? (i := 770) (by decide +kernel)⟩
theorem lw_p21 : lw_okq (⟨"LiveryYard", "passNightOf", "(I)I"⟩, 13) := ⟨⟨by decide +kernel, by decide +kernel⟩, List.mem_of_getElem? (i := 22) (by decide +kernel), List.mem_of_getElem? (i := 773) (by decide +kernel), List.mem_of_getElem? (i := 774) (by decide +kernel)⟩
theorem lw_p22 : lw_okq (⟨"LiveryYard$Bin", "suffices", "(II)Z"⟩, 5) := ⟨⟨by decide +kernel, by decide +kernel⟩, List.mem_of_getElem? (i := 218) (by decide +kernel), List.mem_of_getElem? (i := 827) (by decide +kernel), List.mem_of_getElem? (i := 828) (by decide +kernel)⟩
theorem lw_p23 : lw_okq (⟨"LiveryYardModel", "isHorse", "(I)Z"⟩, 60) := ⟨⟨by decide +kernel, by decide +kernel⟩, List.mem_of_getElem? (i := 891) (by decide +kernel), List.mem_of_getElem? (i := 1086) (by decide +kernel), List.mem_of_getElem? (i := 1087) (by decide +kernel)⟩
theorem lw_p24 : lw_okq (⟨"LiveryYardModel", "four", "(I)V"⟩, 60) := ⟨⟨by decide +kernel, by decide +kernel⟩, List.mem_of_getElem? (i := 891) (by decide +kernel), List.mem_of_getElem? (i := 1110) (by decide +kernel), List.mem_of_getElem? (i := 1111) (by decide +kernel)⟩
theorem lw_p25 : lw_okq (⟨"LiveryYardModel", "next", "()V"⟩, 60) := ⟨⟨by decide +kernel, by decide +kernel⟩, List.mem_of_getElem? (i := 891) (by decide +kernel), List.mem_of_getElem? (i := 1122) (by decide +kernel), List.mem_of_getElem? (i := 1123) (by decide +kernel)⟩
theorem lw_p26 : lw_okq (⟨"LiveryYardModel", "here", "(I)I"⟩, 60) := ⟨⟨by decide +kernel, by decide +kernel⟩, List.mem_of_getElem? (i := 891) (by decide +kernel), List.mem_of_getElem? (i := 1126) (by decide +kernel), List.mem_of_getElem? (i := 1127) (by decide +kernel)⟩
theorem lw_p27 : lw_okq (⟨"LiveryYardModel", "isWord", "(J)Z"⟩, 60) := ⟨⟨by decide +kernel, by decide +kernel⟩, List.mem_of_getElem? (i := 891) (by decide +kernel), List.mem_of_getElem? (i := 1140) (by decide +kernel), List.mem_of_getElem? (i := 1141) (by decide +kernel)⟩
theorem lw_p28 : lw_okq (⟨"LiveryYardModel", "wrong", "(I)V"⟩, 60) := ⟨⟨by decide +kernel, by decide +kernel⟩, List.mem_of_getElem? (i := 891) (by decide +kernel), List.mem_of_getElem? (i := 1145) (by decide +kernel), List.mem_of_getElem? (i := 1146) (by decide +kernel)⟩
theorem lw_p29 : lw_okq (⟨"LiveryYardModel", "readE", "(Z)V"⟩, 60) := ⟨⟨by decide +kernel, by decide +kernel⟩, List.mem_of_getElem? (i := 891) (by decide +kernel), List.mem_of_getElem? (i := 1149) (by decide +kernel), List.mem_of_getElem? (i := 1150) (by decide +kernel)⟩
theorem lw_p30 : lw_okq (⟨"LiveryYardModel", "isOpen", "()Z"⟩, 60) := ⟨⟨by decide +kernel, by decide +kernel⟩, List.mem_of_getElem? (i := 891) (by decide +kernel), List.mem_of_getElem? (i := 1153) (by decide +kernel), List.mem_of_getElem? (i := 1154) (by decide +kernel)⟩
theorem lw_p31 : lw_okq (⟨"LiveryYardModel", "sign", "()I"⟩, 60) := ⟨⟨by decide +kernel, by decide +kernel⟩, List.mem_of_getElem? (i := 891) (by decide +kernel), List.mem_of_getElem? (i := 1157) (by decide +kernel), List.mem_of_getElem? (i := 1158) (by decide +kernel)⟩
def lw_privs_2 : List (MethodName × Nat) := [(⟨"LiveryYard$Planner", "fits", "(II)Z"⟩, 9), (⟨"LiveryYard$Planner", "mayStand", "(II)Z"⟩, 9), (⟨"LiveryYard$Planner", "mayStandBy", "(IIII)Z"⟩, 9), (⟨"LiveryYard", "mayBeAnywhere", "(I)Z"⟩, 13), (⟨"LiveryYard$Bin", "drop", "(I)V"⟩, 5), (⟨"LiveryYard", "passNightOf", "(I)I"⟩, 13), (⟨"LiveryYard$Bin", "suffices", "(II)Z"⟩, 5), (⟨"LiveryYardModel", "isHorse", "(I)Z"⟩, 60), (⟨"LiveryYardModel", "four", "(I)V"⟩, 60), (⟨"LiveryYardModel", "next", "()V"⟩, 60), (⟨"LiveryYardModel", "here", "(I)I"⟩, 60), (⟨"LiveryYardModel", "isWord", "(J)Z"⟩, 60), (⟨"LiveryYardModel", "wrong", "(I)V"⟩, 60), (⟨"LiveryYardModel", "readE", "(Z)V"⟩, 60), (⟨"LiveryYardModel", "isOpen", "()Z"⟩, 60), (⟨"LiveryYardModel", "sign", "()I"⟩, 60)]
theorem lw_r2 : ∀ q ∈ lw_privs_2, lw_okq q := List.forall_mem_cons.mpr ⟨lw_p16, List.forall_mem_cons.mpr ⟨lw_p17, List.forall_mem_cons.mpr ⟨lw_p18, List.forall_mem_cons.mpr ⟨lw_p19, List.forall_mem_cons.mpr ⟨lw_p20, List.forall_mem_cons.mpr ⟨lw_p21, List.forall_mem_cons.mpr ⟨lw_p22, List.forall_mem_cons.mpr ⟨lw_p23, List.forall_mem_cons.mpr ⟨lw_p24, List.forall_mem_cons.mpr ⟨lw_p25, List.forall_mem_cons.mpr ⟨lw_p26, List.forall_mem_cons.mpr ⟨lw_p27, List.forall_mem_cons.mpr ⟨lw_p28, List.forall_mem_cons.mpr ⟨lw_p29, List.forall_mem_cons.mpr ⟨lw_p30, List.forall_mem_cons.mpr ⟨lw_p31, fun _ h => absurd h List.not_mem_nil⟩⟩⟩⟩⟩⟩⟩⟩⟩⟩⟩⟩⟩⟩⟩⟩
theorem lw_p32 : lw_okq (⟨"LiveryYardModel", "settle", "(I)V"⟩, 60) := ⟨⟨by decide +kernel, by decide +kernel⟩, List.mem_of_getElem? (i := 891) (by decide +kernel), List.mem_of_getElem? (i := 1161) (by decide +kernel), List.mem_of_getElem? (i := 1162) (by decide +kernel)⟩
theorem lw_p33 : lw_okq (⟨"LiveryYardModel", "step", "(II)V"⟩, 60) := ⟨⟨by decide +kernel, by decide +kernel⟩, List.mem_of_getElem? (i := 891) (by decide +kernel), List.mem_of_getElem? (i := 1165) (by decide +kernel), List.mem_of_getElem? (i := 1166) (by decide +kernel)⟩
theorem lw_p34 : lw_okq (⟨"LiveryYardModel", "hold", "(I)V"⟩, 60) := ⟨⟨by decide +kernel, by decide +kernel⟩, List.mem_of_getElem? (i := 891) (by decide +kernel), List.mem_of_getElem? (i := 1169) (by decide +kernel), List.mem_of_getElem? (i := 1170) (by decide +kernel)⟩
theorem lw_p35 : lw_okq (⟨"LiveryYardModel", "settleOnes", "(Z)V"⟩, 60) := ⟨⟨by decide +kernel, by decide +kernel⟩, List.mem_of_getElem? (i := 891) (by decide +kernel), List.mem_of_getElem? (i := 1175) (by decide +kernel), List.mem_of_getElem? (i := 1176) (by decide +kernel)⟩
theorem lw_p36 : lw_okq (⟨"LiveryYardModel", "operand", "(IZ)I"⟩, 60) := ⟨⟨by decide +kernel, by decide +kernel⟩, List.mem_of_getElem? (i := 891) (by decide +kernel), List.mem_of_getElem? (i := 1179) (by decide +kernel), List.mem_of_getElem? (i := 1180) (by decide +kernel)⟩
theorem lw_p37 : lw_okq (⟨"LiveryYardModel", "named", "()I"⟩, 60) := ⟨⟨by decide +kernel, by decide +kernel⟩, List.mem_of_getElem? (i := 891) (by decide +kernel), List.mem_of_getElem? (i := 1184) (by decide +kernel), List.mem_of_getElem? (i := 1185) (by decide +kernel)⟩
theorem lw_p38 : lw_okq (⟨"LiveryYardModel", "tell", "(II)V"⟩, 60) := ⟨⟨by decide +kernel, by decide +kernel⟩, List.mem_of_getElem? (i := 891) (by decide +kernel), List.mem_of_getElem? (i := 1210) (by decide +kernel), List.mem_of_getElem? (i := 1211) (by decide +kernel)⟩
theorem lw_p39 : lw_okq (⟨"LiveryYardModel", "hold", "(Z)Z"⟩, 60) := ⟨⟨by decide +kernel, by decide +kernel⟩, List.mem_of_getElem? (i := 891) (by decide +kernel), List.mem_of_getElem? (i := 1214) (by decide +kernel), List.mem_of_getElem? (i := 1215) (by decide +kernel)⟩
theorem lw_p40 : lw_okq (⟨"LiveryYardModel", "holds", "(I)Z"⟩, 60) := ⟨⟨by decide +kernel, by decide +kernel⟩, List.mem_of_getElem? (i := 891) (by decide +kernel), List.mem_of_getElem? (i := 1218) (by decide +kernel), List.mem_of_getElem? (i := 1219) (by decide +kernel)⟩
theorem lw_p41 : lw_okq (⟨"LiveryYardModel", "meetsFrom", "(IIIZI)Z"⟩, 60) := ⟨⟨by decide +kernel, by decide +kernel⟩, List.mem_of_getElem? (i := 891) (by decide +kernel), List.mem_of_getElem? (i := 1226) (by decide +kernel), List.mem_of_getElem? (i := 1227) (by decide +kernel)⟩
theorem lw_p42 : lw_okq (⟨"LiveryYardModel", "nextOf", "(I)I"⟩, 60) := ⟨⟨by decide +kernel, by decide +kernel⟩, List.mem_of_getElem? (i := 891) (by decide +kernel), List.mem_of_getElem? (i := 1234) (by decide +kernel), List.mem_of_getElem? (i := 1235) (by decide +kernel)⟩
theorem lw_p43 : lw_okq (⟨"LiveryYardModel", "lastOf", "(I)I"⟩, 60) := ⟨⟨by decide +kernel, by decide +kernel⟩, List.mem_of_getElem? (i := 891) (by decide +kernel), List.mem_of_getElem? (i := 1238) (by decide +kernel), List.mem_of_getElem? (i := 1239) (by decide +kernel)⟩
theorem lw_p44 : lw_okq (⟨"LiveryYardModel", "fits", "(II)Z"⟩, 60) := ⟨⟨by decide +kernel, by decide +kernel⟩, List.mem_of_getElem? (i := 891) (by decide +kernel), List.mem_of_getElem? (i := 1242) (by decide +kernel), List.mem_of_getElem? (i := 1243) (by decide +kernel)⟩
theorem lw_p45 : lw_okq (⟨"LiveryYardModel", "firstGoes", "(I)V"⟩, 60) := ⟨⟨by decide +kernel, by decide +kernel⟩, List.mem_of_getElem? (i := 891) (by decide +kernel), List.mem_of_getElem? (i := 1283) (by decide +kernel), List.mem_of_getElem? (i := 1284) (by decide +kernel)⟩
theorem lw_p46 : lw_okq (⟨"LiveryYardModel", "serve", "(II)I"⟩, 60) := ⟨⟨by decide +kernel, by decide +kernel⟩, List.mem_of_getElem? (i := 891) (by decide +kernel), List.mem_of_getElem? (i := 1287) (by decide +kernel), List.mem_of_getElem? (i := 1288) (by decide +kernel)⟩
def lw_privs_3 : List (MethodName × Nat) := [(⟨"LiveryYardModel", "settle", "(I)V"⟩, 60), (⟨"LiveryYardModel", "step", "(II)V"⟩, 60), (⟨"LiveryYardModel", "hold", "(I)V"⟩, 60), (⟨"LiveryYardModel", "settleOnes", "(Z)V"⟩, 60), (⟨"LiveryYardModel", "operand", "(IZ)I"⟩, 60), (⟨"LiveryYardModel", "named", "()I"⟩, 60), (⟨"LiveryYardModel", "tell", "(II)V"⟩, 60), (⟨"LiveryYardModel", "hold", "(Z)Z"⟩, 60), (⟨"LiveryYardModel", "holds", "(I)Z"⟩, 60), (⟨"LiveryYardModel", "meetsFrom", "(IIIZI)Z"⟩, 60), (⟨"LiveryYardModel", "nextOf", "(I)I"⟩, 60), (⟨"LiveryYardModel", "lastOf", "(I)I"⟩, 60), (⟨"LiveryYardModel", "fits", "(II)Z"⟩, 60), (⟨"LiveryYardModel", "firstGoes", "(I)V"⟩, 60), (⟨"LiveryYardModel", "serve", "(II)I"⟩, 60)]
theorem lw_r3 : ∀ q ∈ lw_privs_3, lw_okq q := List.forall_mem_cons.mpr ⟨lw_p32, List.forall_mem_cons.mpr ⟨lw_p33, List.forall_mem_cons.mpr ⟨lw_p34, List.forall_mem_cons.mpr ⟨lw_p35, List.forall_mem_cons.mpr ⟨lw_p36, List.forall_mem_cons.mpr ⟨lw_p37, List.forall_mem_cons.mpr ⟨lw_p38, List.forall_mem_cons.mpr ⟨lw_p39, List.forall_mem_cons.mpr ⟨lw_p40, List.forall_mem_cons.mpr ⟨lw_p41, List.forall_mem_cons.mpr ⟨lw_p42, List.forall_mem_cons.mpr ⟨lw_p43, List.forall_mem_cons.mpr ⟨lw_p44, List.forall_mem_cons.mpr ⟨lw_p45, List.forall_mem_cons.mpr ⟨lw_p46, fun _ h => absurd h List.not_mem_nil⟩⟩⟩⟩⟩⟩⟩⟩⟩⟩⟩⟩⟩⟩⟩
def lw_privs : List (MethodName × Nat) := lw_privs_1 ++ (lw_privs_2 ++ (lw_privs_3))
def lw_tbl : List Cond := k2_sels lw_privs ++ tables_1
theorem lw_privs_ok : ∀ q ∈ lw_privs, lw_okq q := by
  show ∀ q ∈ lw_privs_1 ++ (lw_privs_2 ++ (lw_privs_3)), lw_okq q
  exact List.forall_mem_append.mpr ⟨lw_r1, List.forall_mem_append.mpr ⟨lw_r2, lw_r3⟩⟩
end
section
/-! ===== BEGIN words of one list among another's, by their places ===== -/
theorem goodIn_r {big : List Cond} (ws : List Cond) (ps : List Nat) (hp : ws = ps.filterMap (fun i => big[i]?)) (h : ws.all goodWord = true) : GoodIn big ws := by
  intro w hw
  have h1 := List.all_eq_true.mp h w hw
  rw [hp] at hw
  obtain ⟨i, -, hi⟩ := List.mem_filterMap.mp hw
  have hm : w ∈ big := by first | exact List.mem_of_getElem? hi | exact List.getElem?_mem hi
  exact ⟨hm, good_of_word h1⟩
theorem goodIn_app {big a b : List Cond} (ha : GoodIn big a) (hb : GoodIn big b) : GoodIn big (a ++ b) := fun w h => (List.mem_append.mp h).elim (ha w) (hb w)
theorem goodIn_ca {big a b : List Cond} {c : Cond} (ha : GoodIn big (c :: a)) (hb : GoodIn big b) : GoodIn big (c :: (a ++ b)) := fun w h => (List.mem_cons.mp h).elim (fun e => ha w (List.mem_cons.mpr (Or.inl e))) (fun h => (List.mem_append.mp h).elim (fun h => ha w (List.mem_cons.mpr (Or.inr h))) (hb w))
theorem goodIn_sub {big ws : List Cond} (hm : ∀ w ∈ ws, w ∈ big) (h : ws.all goodWord = true) : GoodIn big ws := fun w hw => ⟨hm w hw, good_of_word (List.all_eq_true.mp h w hw)⟩
/-! ===== END ===== -/

/-! ===== BEGIN printed: names, fields, word lists, decode rows ===== -/
def RX0 : String := "LiveryYard$Bin"
def TX0 : u_T := fun k => match k with
  | 0 => ("LiveryYard$Bin", "amounts", "[I", true)
  | 1 => ("LiveryYard$Bin", "lasts", "[I", true)
  | 2 => ("LiveryYard$Bin", "left", "[I", true)
  | 3 => ("LiveryYard$Bin", "count", "I", false)
  | _ => ("LiveryYard$Bin", "spoiltSoFar", "I", false)
def tyX0 : Nat → FieldType := fun k => match k with
  | 0 => .array .int
  | 1 => .array .int
  | 2 => .array .int
  | 3 => .int
  | _ => .int
abbrev wsX00 : List Cond := u_ws RX0 TX0 5
theorem nmX0 : ∀ a, a < 5 → ∀ b, b < 5 → a ≠ b → (TX0 a).2.1 ≠ (TX0 b).2.1 := by decide +kernel
theorem tyX0_ok : ∀ k, k < 5 → parseFieldDescriptor (TX0 k).2.2.1 = some (tyX0 k) := by decide +kernel
abbrev cX0_init : ByteArray := prog_2_method_1_code
def yX0_init : MethodName := ⟨RX0, "<init>", "()V"⟩
abbrev cX0_count : ByteArray := prog_2_method_2_code
def yX0_count : MethodName := ⟨RX0, "count", "()I"⟩
abbrev cX0_spoiltSoFar : ByteArray := prog_2_method_3_code
def yX0_spoiltSoFar : MethodName := ⟨RX0, "spoiltSoFar", "()I"⟩
abbrev cX0_firstLast : ByteArray := prog_2_method_4_code
def yX0_firstLast : MethodName := ⟨RX0, "firstLast", "()I"⟩
abbrev cX0_total : ByteArray := prog_2_method_5_code
def yX0_total : MethodName := ⟨RX0, "total", "()I"⟩
abbrev cX0_add : ByteArray := prog_2_method_6_code
def yX0_add : MethodName := ⟨RX0, "add", "(II)I"⟩
abbrev cX0_spoil : ByteArray := prog_2_method_7_code
def yX0_spoil : MethodName := ⟨RX0, "spoil", "(I)V"⟩
abbrev cX0_take : ByteArray := prog_2_method_8_code
def yX0_take : MethodName := ⟨RX0, "take", "(I)I"⟩
abbrev cX0_nightsFor : ByteArray := prog_2_method_9_code
def yX0_nightsFor : MethodName := ⟨RX0, "nightsFor", "(II)I"⟩
abbrev cX0_suffices : ByteArray := prog_2_method_10_code
def yX0_suffices : MethodName := ⟨RX0, "suffices", "(II)Z"⟩
abbrev cX0_drop : ByteArray := prog_2_method_11_code
def yX0_drop : MethodName := ⟨RX0, "drop", "(I)V"⟩
def RX1 : String := "LiveryYard$Herd"
def TX1 : u_T := fun k => match k with
  | 0 => ("LiveryYard$Herd", "kinds", "[I", true)
  | 1 => ("LiveryYard$Herd", "ages", "[I", true)
  | 2 => ("LiveryYard$Herd", "came", "[I", true)
  | 3 => ("LiveryYard$Herd", "lames", "[Z", true)
  | 4 => ("LiveryYard$Herd", "wanted", "[I", true)
  | 5 => ("LiveryYard$Herd", "lackedSoFar", "[I", true)
  | _ => ("LiveryYard$Herd", "count", "I", false)
def tyX1 : Nat → FieldType := fun k => match k with
  | 0 => .array .int
  | 1 => .array .int
  | 2 => .array .int
  | 3 => .array .boolean
  | 4 => .array .int
  | 5 => .array .int
  | _ => .int
abbrev wsX10 : List Cond := u_ws RX1 TX1 7
theorem nmX1 : ∀ a, a < 7 → ∀ b, b < 7 → a ≠ b → (TX1 a).2.1 ≠ (TX1 b).2.1 := by decide +kernel
theorem tyX1_ok : ∀ k, k < 7 → parseFieldDescriptor (TX1 k).2.2.1 = some (tyX1 k) := by decide +kernel
abbrev cX1_init : ByteArray := prog_3_method_1_code
def yX1_init : MethodName := ⟨RX1, "<init>", "()V"⟩
abbrev cX1_count : ByteArray := prog_3_method_2_code
def yX1_count : MethodName := ⟨RX1, "count", "()I"⟩
abbrev cX1_has : ByteArray := prog_3_method_3_code
def yX1_has : MethodName := ⟨RX1, "has", "(I)Z"⟩
abbrev cX1_add : ByteArray := prog_3_method_4_code
def yX1_add : MethodName := ⟨RX1, "add", "(III)I"⟩
abbrev cX1_kindOf : ByteArray := prog_3_method_5_code
def yX1_kindOf : MethodName := ⟨RX1, "kindOf", "(I)I"⟩
abbrev cX1_ageOf : ByteArray := prog_3_method_6_code
def yX1_ageOf : MethodName := ⟨RX1, "ageOf", "(I)I"⟩
abbrev cX1_cameOf : ByteArray := prog_3_method_7_code
def yX1_cameOf : MethodName := ⟨RX1, "cameOf", "(I)I"⟩
abbrev cX1_isLame : ByteArray := prog_3_method_8_code
def yX1_isLame : MethodName := ⟨RX1, "isLame", "(I)Z"⟩
abbrev cX1_setLame : ByteArray := prog_3_method_9_code
def yX1_setLame : MethodName := ⟨RX1, "setLame", "(IZ)V"⟩
abbrev cX1_wantedOf : ByteArray := prog_3_method_10_code
def yX1_wantedOf : MethodName := ⟨RX1, "wantedOf", "(II)I"⟩
abbrev cX1_setWanted : ByteArray := prog_3_method_11_code
def yX1_setWanted : MethodName := ⟨RX1, "setWanted", "(III)V"⟩
abbrev cX1_wantedByAll : ByteArray := prog_3_method_12_code
def yX1_wantedByAll : MethodName := ⟨RX1, "wantedByAll", "(I)I"⟩
abbrev cX1_lackedOf : ByteArray := prog_3_method_13_code
def yX1_lackedOf : MethodName := ⟨RX1, "lackedOf", "(I)I"⟩
abbrev cX1_addLacked : ByteArray := prog_3_method_14_code
def yX1_addLacked : MethodName := ⟨RX1, "addLacked", "(II)V"⟩
def RX2 : String := "LiveryYard$Judge"
def TX2 : u_T := fun k => match k with
  | 0 => ("LiveryYard$Judge", "herd", "LLiveryYard$Herd;", true)
  | 1 => ("LiveryYard$Judge", "land", "LLiveryYard$Land;", true)
  | 2 => ("LiveryYard$Judge", "rules", "LLiveryYard$Rules;", true)
  | _ => ("LiveryYard$Judge", "facts", "[I", true)
def tyX2 : Nat → FieldType := fun k => match k with
  | 0 => .object "LiveryYard$Herd"
  | 1 => .object "LiveryYard$Land"
  | 2 => .object "LiveryYard$Rules"
  | _ => .array .int
abbrev wsX20 : List Cond := u_ws RX2 TX2 4
theorem nmX2 : ∀ a, a < 4 → ∀ b, b < 4 → a ≠ b → (TX2 a).2.1 ≠ (TX2 b).2.1 := by decide +kernel
theorem tyX2_ok : ∀ k, k < 4 → parseFieldDescriptor (TX2 k).2.2.1 = some (tyX2 k) := by decide +kernel
abbrev cX2_init : ByteArray := prog_4_method_1_code
def yX2_init : MethodName := ⟨RX2, "<init>", "(LLiveryYard$Herd;LLiveryYard$Land;LLiveryYard$Rules;)V"⟩
abbrev cX2_mayBe : ByteArray := prog_4_method_2_code
def yX2_mayBe : MethodName := ⟨RX2, "mayBe", "(IIII)Z"⟩
abbrev cX2_mayMeet : ByteArray := prog_4_method_3_code
def yX2_mayMeet : MethodName := ⟨RX2, "mayMeet", "(IIIIII)Z"⟩
abbrev cX2_tellOfOne : ByteArray := prog_4_method_4_code
def yX2_tellOfOne : MethodName := ⟨RX2, "tellOfOne", "(IIII)V"⟩
abbrev cX2_tellOfOther : ByteArray := prog_4_method_5_code
def yX2_tellOfOther : MethodName := ⟨RX2, "tellOfOther", "(II)V"⟩
def RX3 : String := "LiveryYard$Land"
def TX3 : u_T := fun k => match k with
  | 0 => ("LiveryYard$Land", "rooms", "[I", true)
  | 1 => ("LiveryYard$Land", "wets", "[I", true)
  | 2 => ("LiveryYard$Land", "shutUpTo", "[I", true)
  | _ => ("LiveryYard$Land", "gates", "[Z", true)
def tyX3 : Nat → FieldType := fun k => match k with
  | 0 => .array .int
  | 1 => .array .int
  | 2 => .array .int
  | _ => .array .boolean
abbrev wsX30 : List Cond := u_ws RX3 TX3 4
theorem nmX3 : ∀ a, a < 4 → ∀ b, b < 4 → a ≠ b → (TX3 a).2.1 ≠ (TX3 b).2.1 := by decide +kernel
theorem tyX3_ok : ∀ k, k < 4 → parseFieldDescriptor (TX3 k).2.2.1 = some (tyX3 k) := by decide +kernel
abbrev cX3_init : ByteArray := prog_5_method_1_code
def yX3_init : MethodName := ⟨RX3, "<init>", "()V"⟩
abbrev cX3_lay : ByteArray := prog_5_method_2_code
def yX3_lay : MethodName := ⟨RX3, "lay", "(III)V"⟩
abbrev cX3_close : ByteArray := prog_5_method_3_code
def yX3_close : MethodName := ⟨RX3, "close", "(II)V"⟩
abbrev cX3_setGate : ByteArray := prog_5_method_4_code
def yX3_setGate : MethodName := ⟨RX3, "setGate", "(IIZ)V"⟩
abbrev cX3_roomOf : ByteArray := prog_5_method_5_code
def yX3_roomOf : MethodName := ⟨RX3, "roomOf", "(I)I"⟩
abbrev cX3_wetOf : ByteArray := prog_5_method_6_code
def yX3_wetOf : MethodName := ⟨RX3, "wetOf", "(I)I"⟩
abbrev cX3_isOpen : ByteArray := prog_5_method_7_code
def yX3_isOpen : MethodName := ⟨RX3, "isOpen", "(II)Z"⟩
abbrev cX3_touch : ByteArray := prog_5_method_8_code
def yX3_touch : MethodName := ⟨RX3, "touch", "(II)Z"⟩
def RX4 : String := "LiveryYard$Nights"
def TX4 : u_T := fun k => match k with
  | 0 => ("LiveryYard$Nights", "horses", "[I", true)
  | 1 => ("LiveryYard$Nights", "days", "[I", true)
  | 2 => ("LiveryYard$Nights", "costs", "[I", true)
  | _ => ("LiveryYard$Nights", "count", "I", false)
def tyX4 : Nat → FieldType := fun k => match k with
  | 0 => .array .int
  | 1 => .array .int
  | 2 => .array .int
  | _ => .int
abbrev wsX40 : List Cond := u_ws RX4 TX4 4
theorem nmX4 : ∀ a, a < 4 → ∀ b, b < 4 → a ≠ b → (TX4 a).2.1 ≠ (TX4 b).2.1 := by decide +kernel
theorem tyX4_ok : ∀ k, k < 4 → parseFieldDescriptor (TX4 k).2.2.1 = some (tyX4 k) := by decide +kernel
abbrev cX4_init : ByteArray := prog_6_method_1_code
def yX4_init : MethodName := ⟨RX4, "<init>", "()V"⟩
abbrev cX4_count : ByteArray := prog_6_method_2_code
def yX4_count : MethodName := ⟨RX4, "count", "()I"⟩
abbrev cX4_haveRoomFor : ByteArray := prog_6_method_3_code
def yX4_haveRoomFor : MethodName := ⟨RX4, "haveRoomFor", "(I)Z"⟩
abbrev cX4_add : ByteArray := prog_6_method_4_code
def yX4_add : MethodName := ⟨RX4, "add", "(III)V"⟩
abbrev cX4_cost : ByteArray := prog_6_method_5_code
def yX4_cost : MethodName := ⟨RX4, "cost", "(IIII)I"⟩
def RX5 : String := "LiveryYard$Parser"
def TX5 : u_T := fun k => match k with
  | 0 => ("LiveryYard$Parser", "tokens", "LLiveryYard$Tokens;", true)
  | 1 => ("LiveryYard$Parser", "draft", "LLiveryYard$Rules;", true)
  | 2 => ("LiveryYard$Parser", "operands", "I", false)
  | 3 => ("LiveryYard$Parser", "inPair", "Z", false)
  | 4 => ("LiveryYard$Parser", "faultFound", "I", false)
  | _ => ("LiveryYard$Parser", "faultPlace", "I", false)
def tyX5 : Nat → FieldType := fun k => match k with
  | 0 => .object "LiveryYard$Tokens"
  | 1 => .object "LiveryYard$Rules"
  | 2 => .int
  | 3 => .boolean
  | 4 => .int
  | _ => .int
abbrev wsX50 : List Cond := u_ws RX5 TX5 6
theorem nmX5 : ∀ a, a < 6 → ∀ b, b < 6 → a ≠ b → (TX5 a).2.1 ≠ (TX5 b).2.1 := by decide +kernel
theorem tyX5_ok : ∀ k, k < 6 → parseFieldDescriptor (TX5 k).2.2.1 = some (tyX5 k) := by decide +kernel
abbrev cX5_init : ByteArray := prog_7_method_1_code
def yX5_init : MethodName := ⟨RX5, "<init>", "(LLiveryYard$Tokens;LLiveryYard$Rules;)V"⟩
abbrev cX5_faultFound : ByteArray := prog_7_method_2_code
def yX5_faultFound : MethodName := ⟨RX5, "faultFound", "()I"⟩
abbrev cX5_faultPlace : ByteArray := prog_7_method_3_code
def yX5_faultPlace : MethodName := ⟨RX5, "faultPlace", "()I"⟩
abbrev cX5_readRules : ByteArray := prog_7_method_4_code
def yX5_readRules : MethodName := ⟨RX5, "readRules", "()Z"⟩
abbrev cX5_readEither : ByteArray := prog_7_method_5_code
def yX5_readEither : MethodName := ⟨RX5, "readEither", "(I)Z"⟩
abbrev cX5_readBoth : ByteArray := prog_7_method_6_code
def yX5_readBoth : MethodName := ⟨RX5, "readBoth", "(I)Z"⟩
abbrev cX5_readOne : ByteArray := prog_7_method_7_code
def yX5_readOne : MethodName := ⟨RX5, "readOne", "(I)Z"⟩
abbrev cX5_readComparison : ByteArray := prog_7_method_8_code
def yX5_readComparison : MethodName := ⟨RX5, "readComparison", "(I)Z"⟩
abbrev cX5_readSum : ByteArray := prog_7_method_9_code
def yX5_readSum : MethodName := ⟨RX5, "readSum", "(I)Z"⟩
abbrev cX5_readTerm : ByteArray := prog_7_method_10_code
def yX5_readTerm : MethodName := ⟨RX5, "readTerm", "(I)Z"⟩
abbrev cX5_takeOperand : ByteArray := prog_7_method_11_code
def yX5_takeOperand : MethodName := ⟨RX5, "takeOperand", "()Z"⟩
abbrev cX5_refuse : ByteArray := prog_7_method_12_code
def yX5_refuse : MethodName := ⟨RX5, "refuse", "(I)Z"⟩
def RX6 : String := "LiveryYard$Planner"
def TX6 : u_T := fun k => match k with
  | 0 => ("LiveryYard$Planner", "herd", "LLiveryYard$Herd;", true)
  | 1 => ("LiveryYard$Planner", "land", "LLiveryYard$Land;", true)
  | 2 => ("LiveryYard$Planner", "judge", "LLiveryYard$Judge;", true)
  | 3 => ("LiveryYard$Planner", "spots", "[I", true)
  | 4 => ("LiveryYard$Planner", "mays", "[I", true)
  | 5 => ("LiveryYard$Planner", "meets", "[I", true)
  | 6 => ("LiveryYard$Planner", "day", "I", false)
  | 7 => ("LiveryYard$Planner", "triesMade", "I", false)
  | _ => ("LiveryYard$Planner", "hasPlan", "Z", false)
def tyX6 : Nat → FieldType := fun k => match k with
  | 0 => .object "LiveryYard$Herd"
  | 1 => .object "LiveryYard$Land"
  | 2 => .object "LiveryYard$Judge"
  | 3 => .array .int
  | 4 => .array .int
  | 5 => .array .int
  | 6 => .int
  | 7 => .int
  | _ => .boolean
abbrev wsX60 : List Cond := u_ws RX6 TX6 9
theorem nmX6 : ∀ a, a < 9 → ∀ b, b < 9 → a ≠ b → (TX6 a).2.1 ≠ (TX6 b).2.1 := by decide +kernel
theorem tyX6_ok : ∀ k, k < 9 → parseFieldDescriptor (TX6 k).2.2.1 = some (tyX6 k) := by decide +kernel
abbrev cX6_init : ByteArray := prog_8_method_1_code
def yX6_init : MethodName := ⟨RX6, "<init>", "(LLiveryYard$Herd;LLiveryYard$Land;LLiveryYard$Judge;)V"⟩
abbrev cX6_triesMade : ByteArray := prog_8_method_2_code
def yX6_triesMade : MethodName := ⟨RX6, "triesMade", "()I"⟩
abbrev cX6_hasPlan : ByteArray := prog_8_method_3_code
def yX6_hasPlan : MethodName := ⟨RX6, "hasPlan", "()Z"⟩
abbrev cX6_spotOf : ByteArray := prog_8_method_4_code
def yX6_spotOf : MethodName := ⟨RX6, "spotOf", "(I)I"⟩
abbrev cX6_forget : ByteArray := prog_8_method_5_code
def yX6_forget : MethodName := ⟨RX6, "forget", "()V"⟩
abbrev cX6_look : ByteArray := prog_8_method_6_code
def yX6_look : MethodName := ⟨RX6, "look", "(I)I"⟩
abbrev cX6_place : ByteArray := prog_8_method_7_code
def yX6_place : MethodName := ⟨RX6, "place", "(I)I"⟩
abbrev cX6_fits : ByteArray := prog_8_method_8_code
def yX6_fits : MethodName := ⟨RX6, "fits", "(II)Z"⟩
abbrev cX6_mayStand : ByteArray := prog_8_method_9_code
def yX6_mayStand : MethodName := ⟨RX6, "mayStand", "(II)Z"⟩
abbrev cX6_mayStandBy : ByteArray := prog_8_method_10_code
def yX6_mayStandBy : MethodName := ⟨RX6, "mayStandBy", "(IIII)Z"⟩
def RX7 : String := "LiveryYard$Rules"
def TX7 : u_T := fun k => match k with
  | 0 => ("LiveryYard$Rules", "codes", "[I", true)
  | 1 => ("LiveryYard$Rules", "starts", "[I", true)
  | 2 => ("LiveryYard$Rules", "ofPairs", "[Z", true)
  | 3 => ("LiveryYard$Rules", "stack", "[I", true)
  | 4 => ("LiveryYard$Rules", "length", "I", false)
  | _ => ("LiveryYard$Rules", "count", "I", false)
def tyX7 : Nat → FieldType := fun k => match k with
  | 0 => .array .int
  | 1 => .array .int
  | 2 => .array .boolean
  | 3 => .array .int
  | 4 => .int
  | _ => .int
abbrev wsX70 : List Cond := u_ws RX7 TX7 6
theorem nmX7 : ∀ a, a < 6 → ∀ b, b < 6 → a ≠ b → (TX7 a).2.1 ≠ (TX7 b).2.1 := by decide +kernel
theorem tyX7_ok : ∀ k, k < 6 → parseFieldDescriptor (TX7 k).2.2.1 = some (tyX7 k) := by decide +kernel
abbrev cX7_init : ByteArray := prog_9_method_1_code
def yX7_init : MethodName := ⟨RX7, "<init>", "()V"⟩
abbrev cX7_count : ByteArray := prog_9_method_2_code
def yX7_count : MethodName := ⟨RX7, "count", "()I"⟩
abbrev cX7_clear : ByteArray := prog_9_method_3_code
def yX7_clear : MethodName := ⟨RX7, "clear", "()V"⟩
abbrev cX7_emit : ByteArray := prog_9_method_4_code
def yX7_emit : MethodName := ⟨RX7, "emit", "(I)V"⟩
abbrev cX7_endRule : ByteArray := prog_9_method_5_code
def yX7_endRule : MethodName := ⟨RX7, "endRule", "(Z)V"⟩
abbrev cX7_copy : ByteArray := prog_9_method_6_code
def yX7_copy : MethodName := ⟨RX7, "copy", "(LLiveryYard$Rules;)V"⟩
abbrev cX7_allHold : ByteArray := prog_9_method_7_code
def yX7_allHold : MethodName := ⟨RX7, "allHold", "(Z[I)Z"⟩
abbrev cX7_workOut : ByteArray := prog_9_method_8_code
def yX7_workOut : MethodName := ⟨RX7, "workOut", "(I[I)I"⟩
def RX8 : String := "LiveryYard$Tape"
def TX8 : u_T := fun k => match k with
  | 0 => ("LiveryYard$Tape", "bytes", "[I", true)
  | _ => ("LiveryYard$Tape", "length", "I", false)
def tyX8 : Nat → FieldType := fun k => match k with
  | 0 => .array .int
  | _ => .int
abbrev wsX80 : List Cond := u_ws RX8 TX8 2
theorem nmX8 : ∀ a, a < 2 → ∀ b, b < 2 → a ≠ b → (TX8 a).2.1 ≠ (TX8 b).2.1 := by decide +kernel
theorem tyX8_ok : ∀ k, k < 2 → parseFieldDescriptor (TX8 k).2.2.1 = some (tyX8 k) := by decide +kernel
abbrev cX8_init : ByteArray := prog_10_method_1_code
def yX8_init : MethodName := ⟨RX8, "<init>", "()V"⟩
abbrev cX8_length : ByteArray := prog_10_method_2_code
def yX8_length : MethodName := ⟨RX8, "length", "()I"⟩
abbrev cX8_append : ByteArray := prog_10_method_3_code
def yX8_append : MethodName := ⟨RX8, "append", "(I)V"⟩
abbrev cX8_cut : ByteArray := prog_10_method_4_code
def yX8_cut : MethodName := ⟨RX8, "cut", "(I)V"⟩
abbrev cX8_at : ByteArray := prog_10_method_5_code
def yX8_at : MethodName := ⟨RX8, "at", "(I)I"⟩
def RX9 : String := "LiveryYard$Tokens"
def TX9 : u_T := fun k => match k with
  | 0 => ("LiveryYard$Tokens", "tape", "LLiveryYard$Tape;", true)
  | 1 => ("LiveryYard$Tokens", "next", "I", false)
  | 2 => ("LiveryYard$Tokens", "start", "I", false)
  | 3 => ("LiveryYard$Tokens", "kind", "I", false)
  | _ => ("LiveryYard$Tokens", "value", "I", false)
def tyX9 : Nat → FieldType := fun k => match k with
  | 0 => .object "LiveryYard$Tape"
  | 1 => .int
  | 2 => .int
  | 3 => .int
  | _ => .int
abbrev wsX90 : List Cond := u_ws RX9 TX9 5
theorem nmX9 : ∀ a, a < 5 → ∀ b, b < 5 → a ≠ b → (TX9 a).2.1 ≠ (TX9 b).2.1 := by decide +kernel
theorem tyX9_ok : ∀ k, k < 5 → parseFieldDescriptor (TX9 k).2.2.1 = some (tyX9 k) := by decide +kernel
abbrev cX9_init : ByteArray := prog_11_method_1_code
def yX9_init : MethodName := ⟨RX9, "<init>", "(LLiveryYard$Tape;)V"⟩
abbrev cX9_start : ByteArray := prog_11_method_2_code
def yX9_start : MethodName := ⟨RX9, "start", "()I"⟩
abbrev cX9_kind : ByteArray := prog_11_method_3_code
def yX9_kind : MethodName := ⟨RX9, "kind", "()I"⟩
abbrev cX9_value : ByteArray := prog_11_method_4_code
def yX9_value : MethodName := ⟨RX9, "value", "()I"⟩
abbrev cX9_begin : ByteArray := prog_11_method_5_code
def yX9_begin : MethodName := ⟨RX9, "begin", "()V"⟩
abbrev cX9_advance : ByteArray := prog_11_method_6_code
def yX9_advance : MethodName := ⟨RX9, "advance", "()V"⟩
abbrev cX9_readWord : ByteArray := prog_11_method_7_code
def yX9_readWord : MethodName := ⟨RX9, "readWord", "()V"⟩
abbrev cX9_readNumber : ByteArray := prog_11_method_8_code
def yX9_readNumber : MethodName := ⟨RX9, "readNumber", "()V"⟩
abbrev cX9_wordNumber : ByteArray := prog_11_method_9_code
def yX9_wordNumber : MethodName := ⟨RX9, "wordNumber", "()I"⟩
abbrev cX9_letterOf : ByteArray := prog_11_method_10_code
def yX9_letterOf : MethodName := ⟨RX9, "letterOf", "(II)I"⟩
abbrev cX9_letterHere : ByteArray := prog_11_method_11_code
def yX9_letterHere : MethodName := ⟨RX9, "letterHere", "(I)I"⟩
abbrev cX9_isBlank : ByteArray := prog_11_method_12_code
def yX9_isBlank : MethodName := ⟨RX9, "isBlank", "(I)Z"⟩
abbrev cX9_isLetter : ByteArray := prog_11_method_13_code
def yX9_isLetter : MethodName := ⟨RX9, "isLetter", "(I)Z"⟩
abbrev cX9_isDigit : ByteArray := prog_11_method_14_code
def yX9_isDigit : MethodName := ⟨RX9, "isDigit", "(I)Z"⟩
abbrev cX9_isSign : ByteArray := prog_11_method_15_code
def yX9_isSign : MethodName := ⟨RX9, "isSign", "(I)Z"⟩
def RX10 : String := "LiveryYard$Works"
def TX10 : u_T := fun k => match k with
  | 0 => ("LiveryYard$Works", "horses", "[I", true)
  | 1 => ("LiveryYard$Works", "days", "[I", true)
  | 2 => ("LiveryYard$Works", "known", "[I", true)
  | 3 => ("LiveryYard$Works", "costs", "[I", true)
  | 4 => ("LiveryYard$Works", "latest", "[I", true)
  | 5 => ("LiveryYard$Works", "fallAfter", "[I", true)
  | _ => ("LiveryYard$Works", "count", "I", false)
def tyX10 : Nat → FieldType := fun k => match k with
  | 0 => .array .int
  | 1 => .array .int
  | 2 => .array .int
  | 3 => .array .int
  | 4 => .array .int
  | 5 => .array .int
  | _ => .int
abbrev wsX100 : List Cond := u_ws RX10 TX10 7
theorem nmX10 : ∀ a, a < 7 → ∀ b, b < 7 → a ≠ b → (TX10 a).2.1 ≠ (TX10 b).2.1 := by decide +kernel
theorem tyX10_ok : ∀ k, k < 7 → parseFieldDescriptor (TX10 k).2.2.1 = some (tyX10 k) := by decide +kernel
abbrev cX10_init : ByteArray := prog_12_method_1_code
def yX10_init : MethodName := ⟨RX10, "<init>", "()V"⟩
abbrev cX10_count : ByteArray := prog_12_method_2_code
def yX10_count : MethodName := ⟨RX10, "count", "()I"⟩
abbrev cX10_begin : ByteArray := prog_12_method_3_code
def yX10_begin : MethodName := ⟨RX10, "begin", "(II)V"⟩
abbrev cX10_setFall : ByteArray := prog_12_method_4_code
def yX10_setFall : MethodName := ⟨RX10, "setFall", "(II)V"⟩
abbrev cX10_add : ByteArray := prog_12_method_5_code
def yX10_add : MethodName := ⟨RX10, "add", "(IIIII)I"⟩
abbrev cX10_dueDay : ByteArray := prog_12_method_6_code
def yX10_dueDay : MethodName := ⟨RX10, "dueDay", "(II)I"⟩
abbrev cX10_cost : ByteArray := prog_12_method_7_code
def yX10_cost : MethodName := ⟨RX10, "cost", "(IIII)I"⟩
def RX11 : String := "LiveryYard"
def TX11 : u_T := fun k => match k with
  | 0 => ("LiveryYard", "herd", "LLiveryYard$Herd;", true)
  | 1 => ("LiveryYard", "land", "LLiveryYard$Land;", true)
  | 2 => ("LiveryYard", "tape", "LLiveryYard$Tape;", true)
  | 3 => ("LiveryYard", "draft", "LLiveryYard$Rules;", true)
  | 4 => ("LiveryYard", "inForce", "LLiveryYard$Rules;", true)
  | 5 => ("LiveryYard", "parser", "LLiveryYard$Parser;", true)
  | 6 => ("LiveryYard", "judge", "LLiveryYard$Judge;", true)
  | 7 => ("LiveryYard", "planner", "LLiveryYard$Planner;", true)
  | 8 => ("LiveryYard", "bins", "[LLiveryYard$Bin;", true)
  | 9 => ("LiveryYard", "prices", "[I", true)
  | 10 => ("LiveryYard", "nights", "LLiveryYard$Nights;", true)
  | 11 => ("LiveryYard", "works", "LLiveryYard$Works;", true)
  | _ => ("LiveryYard", "today", "I", false)
def tyX11 : Nat → FieldType := fun k => match k with
  | 0 => .object "LiveryYard$Herd"
  | 1 => .object "LiveryYard$Land"
  | 2 => .object "LiveryYard$Tape"
  | 3 => .object "LiveryYard$Rules"
  | 4 => .object "LiveryYard$Rules"
  | 5 => .object "LiveryYard$Parser"
  | 6 => .object "LiveryYard$Judge"
  | 7 => .object "LiveryYard$Planner"
  | 8 => .array (.object "LiveryYard$Bin")
  | 9 => .array .int
  | 10 => .object "LiveryYard$Nights"
  | 11 => .object "LiveryYard$Works"
  | _ => .int
abbrev wsX110 : List Cond := u_ws RX11 TX11 13
theorem nmX11 : ∀ a, a < 13 → ∀ b, b < 13 → a ≠ b → (TX11 a).2.1 ≠ (TX11 b).2.1 := by decide +kernel
theorem tyX11_ok : ∀ k, k < 13 → parseFieldDescriptor (TX11 k).2.2.1 = some (tyX11 k) := by decide +kernel
abbrev cX11_init : ByteArray := prog_1_method_1_code
def yX11_init : MethodName := ⟨RX11, "<init>", "()V"⟩
abbrev cX11_horse : ByteArray := prog_1_method_2_code
def yX11_horse : MethodName := ⟨RX11, "horse", "(II)I"⟩
abbrev cX11_lame : ByteArray := prog_1_method_3_code
def yX11_lame : MethodName := ⟨RX11, "lame", "(IZ)Z"⟩
abbrev cX11_field : ByteArray := prog_1_method_4_code
def yX11_field : MethodName := ⟨RX11, "field", "(III)Z"⟩
abbrev cX11_shut : ByteArray := prog_1_method_5_code
def yX11_shut : MethodName := ⟨RX11, "shut", "(II)Z"⟩
abbrev cX11_gate : ByteArray := prog_1_method_6_code
def yX11_gate : MethodName := ⟨RX11, "gate", "(IIZ)Z"⟩
abbrev cX11_feed : ByteArray := prog_1_method_7_code
def yX11_feed : MethodName := ⟨RX11, "feed", "(IIIII)I"⟩
abbrev cX11_end : ByteArray := prog_1_method_8_code
def yX11_end : MethodName := ⟨RX11, "end", "(I)I"⟩
abbrev cX11_rules : ByteArray := prog_1_method_9_code
def yX11_rules : MethodName := ⟨RX11, "rules", "()I"⟩
abbrev cX11_fault : ByteArray := prog_1_method_10_code
def yX11_fault : MethodName := ⟨RX11, "fault", "(I)I"⟩
abbrev cX11_may : ByteArray := prog_1_method_11_code
def yX11_may : MethodName := ⟨RX11, "may", "(III)Z"⟩
abbrev cX11_meet : ByteArray := prog_1_method_12_code
def yX11_meet : MethodName := ⟨RX11, "meet", "(IIIII)Z"⟩
abbrev cX11_plan : ByteArray := prog_1_method_13_code
def yX11_plan : MethodName := ⟨RX11, "plan", "()I"⟩
abbrev cX11_tries : ByteArray := prog_1_method_14_code
def yX11_tries : MethodName := ⟨RX11, "tries", "()I"⟩
abbrev cX11_out : ByteArray := prog_1_method_15_code
def yX11_out : MethodName := ⟨RX11, "out", "(I)I"⟩
abbrev cX11_stuck : ByteArray := prog_1_method_16_code
def yX11_stuck : MethodName := ⟨RX11, "stuck", "()I"⟩
abbrev cX11_lot : ByteArray := prog_1_method_17_code
def yX11_lot : MethodName := ⟨RX11, "lot", "(III)I"⟩
abbrev cX11_takes : ByteArray := prog_1_method_18_code
def yX11_takes : MethodName := ⟨RX11, "takes", "(III)Z"⟩
abbrev cX11_price : ByteArray := prog_1_method_19_code
def yX11_price : MethodName := ⟨RX11, "price", "(II)Z"⟩
abbrev cX11_falls : ByteArray := prog_1_method_20_code
def yX11_falls : MethodName := ⟨RX11, "falls", "(II)Z"⟩
abbrev cX11_night : ByteArray := prog_1_method_21_code
def yX11_night : MethodName := ⟨RX11, "night", "()I"⟩
abbrev cX11_bin : ByteArray := prog_1_method_22_code
def yX11_bin : MethodName := ⟨RX11, "bin", "(II)I"⟩
abbrev cX11_foretold : ByteArray := prog_1_method_23_code
def yX11_foretold : MethodName := ⟨RX11, "foretold", "(I)I"⟩
abbrev cX11_work : ByteArray := prog_1_method_24_code
def yX11_work : MethodName := ⟨RX11, "work", "(III)I"⟩
abbrev cX11_due : ByteArray := prog_1_method_25_code
def yX11_due : MethodName := ⟨RX11, "due", "(II)I"⟩
abbrev cX11_bill : ByteArray := prog_1_method_26_code
def yX11_bill : MethodName := ⟨RX11, "bill", "(IIII)I"⟩
abbrev cX11_lacked : ByteArray := prog_1_method_27_code
def yX11_lacked : MethodName := ⟨RX11, "lacked", "(I)I"⟩
abbrev cX11_about : ByteArray := prog_1_method_28_code
def yX11_about : MethodName := ⟨RX11, "about", "(I)I"⟩
abbrev cX11_mayBeAnywhere : ByteArray := prog_1_method_29_code
def yX11_mayBeAnywhere : MethodName := ⟨RX11, "mayBeAnywhere", "(I)Z"⟩
abbrev cX11_passNightOf : ByteArray := prog_1_method_30_code
def yX11_passNightOf : MethodName := ⟨RX11, "passNightOf", "(I)I"⟩
abbrev cX11_isUpTo : ByteArray := prog_1_method_31_code
def yX11_isUpTo : MethodName := ⟨RX11, "isUpTo", "(II)Z"⟩
abbrev cX11_isField : ByteArray := prog_1_method_32_code
def yX11_isField : MethodName := ⟨RX11, "isField", "(I)Z"⟩
abbrev cX11_isHour : ByteArray := prog_1_method_33_code
def yX11_isHour : MethodName := ⟨RX11, "isHour", "(I)Z"⟩
abbrev cX11_isBin : ByteArray := prog_1_method_34_code
def yX11_isBin : MethodName := ⟨RX11, "isBin", "(I)Z"⟩
abbrev cX11_isSort : ByteArray := prog_1_method_35_code
def yX11_isSort : MethodName := ⟨RX11, "isSort", "(I)Z"⟩
abbrev cX11_hourOf : ByteArray := prog_1_method_36_code
def yX11_hourOf : MethodName := ⟨RX11, "hourOf", "(I)I"⟩
abbrev cX11_fieldOf : ByteArray := prog_1_method_37_code
def yX11_fieldOf : MethodName := ⟨RX11, "fieldOf", "(I)I"⟩
def RX12 : String := "LiveryYardModel"
def TX12 : u_T := fun k => match k with
  | 0 => ("LiveryYardModel", "day", "I", false)
  | 1 => ("LiveryYardModel", "horses", "I", false)
  | 2 => ("LiveryYardModel", "kind", "[I", true)
  | 3 => ("LiveryYardModel", "age", "[I", true)
  | 4 => ("LiveryYardModel", "came", "[I", true)
  | 5 => ("LiveryYardModel", "lamed", "[I", true)
  | 6 => ("LiveryYardModel", "lacking", "[I", true)
  | 7 => ("LiveryYardModel", "takes", "[I", true)
  | 8 => ("LiveryYardModel", "room", "[I", true)
  | 9 => ("LiveryYardModel", "wet", "[I", true)
  | 10 => ("LiveryYardModel", "shutTo", "[I", true)
  | 11 => ("LiveryYardModel", "gates", "[Z", true)
  | 12 => ("LiveryYardModel", "hasPlan", "Z", false)
  | 13 => ("LiveryYardModel", "steps", "[I", true)
  | 14 => ("LiveryYardModel", "numbers", "[I", true)
  | 15 => ("LiveryYardModel", "ruleAt", "[I", true)
  | 16 => ("LiveryYardModel", "isPair", "[Z", true)
  | 17 => ("LiveryYardModel", "rules", "I", false)
  | 18 => ("LiveryYardModel", "newSteps", "[I", true)
  | 19 => ("LiveryYardModel", "newNumbers", "[I", true)
  | 20 => ("LiveryYardModel", "newAt", "[I", true)
  | 21 => ("LiveryYardModel", "newPair", "[Z", true)
  | 22 => ("LiveryYardModel", "newRules", "I", false)
  | 23 => ("LiveryYardModel", "newMany", "I", false)
  | 24 => ("LiveryYardModel", "values", "I", false)
  | 25 => ("LiveryYardModel", "tape", "[I", true)
  | 26 => ("LiveryYardModel", "taped", "I", false)
  | 27 => ("LiveryYardModel", "fault", "I", false)
  | 28 => ("LiveryYardModel", "faultPlace", "I", false)
  | 29 => ("LiveryYardModel", "at", "I", false)
  | 30 => ("LiveryYardModel", "size", "I", false)
  | 31 => ("LiveryYardModel", "sort", "I", false)
  | 32 => ("LiveryYardModel", "place", "I", false)
  | 33 => ("LiveryYardModel", "number", "I", false)
  | 34 => ("LiveryYardModel", "word", "J", false)
  | 35 => ("LiveryYardModel", "waits", "[I", true)
  | 36 => ("LiveryYardModel", "waiting", "I", false)
  | 37 => ("LiveryYardModel", "deep", "I", false)
  | 38 => ("LiveryYardModel", "pile", "[I", true)
  | 39 => ("LiveryYardModel", "names", "[I", true)
  | 40 => ("LiveryYardModel", "where", "[I", true)
  | 41 => ("LiveryYardModel", "sent", "[I", true)
  | 42 => ("LiveryYardModel", "tried", "I", false)
  | 43 => ("LiveryYardModel", "lots", "[I", true)
  | 44 => ("LiveryYardModel", "lotAmount", "[I", true)
  | 45 => ("LiveryYardModel", "lotLast", "[I", true)
  | 46 => ("LiveryYardModel", "spoilt", "[I", true)
  | 47 => ("LiveryYardModel", "prices", "[I", true)
  | 48 => ("LiveryYardModel", "fallsDue", "[I", true)
  | 49 => ("LiveryYardModel", "nights", "I", false)
  | 50 => ("LiveryYardModel", "works", "I", false)
  | 51 => ("LiveryYardModel", "nightHorse", "[I", true)
  | 52 => ("LiveryYardModel", "nightDay", "[I", true)
  | 53 => ("LiveryYardModel", "nightCost", "[I", true)
  | 54 => ("LiveryYardModel", "workHorse", "[I", true)
  | 55 => ("LiveryYardModel", "workSort", "[I", true)
  | 56 => ("LiveryYardModel", "workDay", "[I", true)
  | 57 => ("LiveryYardModel", "workKnown", "[I", true)
  | 58 => ("LiveryYardModel", "workCost", "[I", true)
  | _ => ("LiveryYardModel", "left", "[I", true)
def tyX12 : Nat → FieldType := fun k => match k with
  | 0 => .int
  | 1 => .int
  | 2 => .array .int
  | 3 => .array .int
  | 4 => .array .int
  | 5 => .array .int
  | 6 => .array .int
  | 7 => .array .int
  | 8 => .array .int
  | 9 => .array .int
  | 10 => .array .int
  | 11 => .array .boolean
  | 12 => .boolean
  | 13 => .array .int
  | 14 => .array .int
  | 15 => .array .int
  | 16 => .array .boolean
  | 17 => .int
  | 18 => .array .int
  | 19 => .array .int
  | 20 => .array .int
  | 21 => .array .boolean
  | 22 => .int
  | 23 => .int
  | 24 => .int
  | 25 => .array .int
  | 26 => .int
  | 27 => .int
  | 28 => .int
  | 29 => .int
  | 30 => .int
  | 31 => .int
  | 32 => .int
  | 33 => .int
  | 34 => .long
  | 35 => .array .int
  | 36 => .int
  | 37 => .int
  | 38 => .array .int
  | 39 => .array .int
  | 40 => .array .int
  | 41 => .array .int
  | 42 => .int
  | 43 => .array .int
  | 44 => .array .int
  | 45 => .array .int
  | 46 => .array .int
  | 47 => .array .int
  | 48 => .array .int
  | 49 => .int
  | 50 => .int
  | 51 => .array .int
  | 52 => .array .int
  | 53 => .array .int
  | 54 => .array .int
  | 55 => .array .int
  | 56 => .array .int
  | 57 => .array .int
  | 58 => .array .int
  | _ => .array .int
abbrev wsX120 : List Cond := u_ws RX12 TX12 60
theorem nmX12 : ∀ a, a < 60 → ∀ b, b < 60 → a ≠ b → (TX12 a).2.1 ≠ (TX12 b).2.1 := by decide +kernel
theorem tyX12_ok : ∀ k, k < 60 → parseFieldDescriptor (TX12 k).2.2.1 = some (tyX12 k) := by decide +kernel
abbrev cX12_init : ByteArray := prog_14_method_1_code
def yX12_init : MethodName := ⟨RX12, "<init>", "()V"⟩
abbrev cX12_isHorse : ByteArray := prog_14_method_2_code
def yX12_isHorse : MethodName := ⟨RX12, "isHorse", "(I)Z"⟩
abbrev cX12_isField : ByteArray := prog_14_method_3_code
def yX12_isField : MethodName := ⟨RX12, "isField", "(I)Z"⟩
abbrev cX12_isBin : ByteArray := prog_14_method_4_code
def yX12_isBin : MethodName := ⟨RX12, "isBin", "(I)Z"⟩
abbrev cX12_horse : ByteArray := prog_14_method_5_code
def yX12_horse : MethodName := ⟨RX12, "horse", "(II)I"⟩
abbrev cX12_lame : ByteArray := prog_14_method_6_code
def yX12_lame : MethodName := ⟨RX12, "lame", "(IZ)Z"⟩
abbrev cX12_field : ByteArray := prog_14_method_7_code
def yX12_field : MethodName := ⟨RX12, "field", "(III)Z"⟩
abbrev cX12_shut : ByteArray := prog_14_method_8_code
def yX12_shut : MethodName := ⟨RX12, "shut", "(II)Z"⟩
abbrev cX12_gate : ByteArray := prog_14_method_9_code
def yX12_gate : MethodName := ⟨RX12, "gate", "(IIZ)Z"⟩
abbrev cX12_feed : ByteArray := prog_14_method_10_code
def yX12_feed : MethodName := ⟨RX12, "feed", "(IIIII)I"⟩
abbrev cX12_four : ByteArray := prog_14_method_11_code
def yX12_four : MethodName := ⟨RX12, "four", "(I)V"⟩
abbrev cX12_end : ByteArray := prog_14_method_12_code
def yX12_end : MethodName := ⟨RX12, "end", "(I)I"⟩
abbrev cX12_here : ByteArray := prog_14_method_13_code
def yX12_here : MethodName := ⟨RX12, "here", "(I)I"⟩
abbrev cX12_isLetter : ByteArray := prog_14_method_14_code
def yX12_isLetter : MethodName := ⟨RX12, "isLetter", "(I)Z"⟩
abbrev cX12_isDigit : ByteArray := prog_14_method_15_code
def yX12_isDigit : MethodName := ⟨RX12, "isDigit", "(I)Z"⟩
abbrev cX12_isSign : ByteArray := prog_14_method_16_code
def yX12_isSign : MethodName := ⟨RX12, "isSign", "(I)Z"⟩
abbrev cX12_next : ByteArray := prog_14_method_17_code
def yX12_next : MethodName := ⟨RX12, "next", "()V"⟩
abbrev cX12_wrong : ByteArray := prog_14_method_18_code
def yX12_wrong : MethodName := ⟨RX12, "wrong", "(I)V"⟩
abbrev cX12_isWord : ByteArray := prog_14_method_19_code
def yX12_isWord : MethodName := ⟨RX12, "isWord", "(J)Z"⟩
abbrev cX12_named : ByteArray := prog_14_method_20_code
def yX12_named : MethodName := ⟨RX12, "named", "()I"⟩
abbrev cX12_step : ByteArray := prog_14_method_21_code
def yX12_step : MethodName := ⟨RX12, "step", "(II)V"⟩
abbrev cX12_hold : ByteArray := prog_14_method_22_code
def yX12_hold : MethodName := ⟨RX12, "hold", "(I)V"⟩
abbrev cX12_settle : ByteArray := prog_14_method_23_code
def yX12_settle : MethodName := ⟨RX12, "settle", "(I)V"⟩
abbrev cX12_isOpen : ByteArray := prog_14_method_24_code
def yX12_isOpen : MethodName := ⟨RX12, "isOpen", "()Z"⟩
abbrev cX12_readE : ByteArray := prog_14_method_25_code
def yX12_readE : MethodName := ⟨RX12, "readE", "(Z)V"⟩
abbrev cX12_operand : ByteArray := prog_14_method_26_code
def yX12_operand : MethodName := ⟨RX12, "operand", "(IZ)I"⟩
abbrev cX12_sign : ByteArray := prog_14_method_27_code
def yX12_sign : MethodName := ⟨RX12, "sign", "()I"⟩
abbrev cX12_settleOnes : ByteArray := prog_14_method_28_code
def yX12_settleOnes : MethodName := ⟨RX12, "settleOnes", "(Z)V"⟩
abbrev cX12_rules : ByteArray := prog_14_method_29_code
def yX12_rules : MethodName := ⟨RX12, "rules", "()I"⟩
abbrev cX12_fault : ByteArray := prog_14_method_30_code
def yX12_fault : MethodName := ⟨RX12, "fault", "(I)I"⟩
abbrev cX12_tell : ByteArray := prog_14_method_31_code
def yX12_tell : MethodName := ⟨RX12, "tell", "(II)V"⟩
abbrev cX12_holds : ByteArray := prog_14_method_32_code
def yX12_holds : MethodName := ⟨RX12, "holds", "(I)Z"⟩
abbrev cX12_hold_ : ByteArray := prog_14_method_33_code
def yX12_hold_ : MethodName := ⟨RX12, "hold", "(Z)Z"⟩
abbrev cX12_may : ByteArray := prog_14_method_34_code
def yX12_may : MethodName := ⟨RX12, "may", "(III)Z"⟩
abbrev cX12_meetsFrom : ByteArray := prog_14_method_35_code
def yX12_meetsFrom : MethodName := ⟨RX12, "meetsFrom", "(IIIZI)Z"⟩
abbrev cX12_meet : ByteArray := prog_14_method_36_code
def yX12_meet : MethodName := ⟨RX12, "meet", "(IIIII)Z"⟩
abbrev cX12_plan : ByteArray := prog_14_method_37_code
def yX12_plan : MethodName := ⟨RX12, "plan", "()I"⟩
abbrev cX12_nextOf : ByteArray := prog_14_method_38_code
def yX12_nextOf : MethodName := ⟨RX12, "nextOf", "(I)I"⟩
abbrev cX12_lastOf : ByteArray := prog_14_method_39_code
def yX12_lastOf : MethodName := ⟨RX12, "lastOf", "(I)I"⟩
abbrev cX12_fits : ByteArray := prog_14_method_40_code
def yX12_fits : MethodName := ⟨RX12, "fits", "(II)Z"⟩
abbrev cX12_tries : ByteArray := prog_14_method_41_code
def yX12_tries : MethodName := ⟨RX12, "tries", "()I"⟩
abbrev cX12_out : ByteArray := prog_14_method_42_code
def yX12_out : MethodName := ⟨RX12, "out", "(I)I"⟩
abbrev cX12_stuck : ByteArray := prog_14_method_43_code
def yX12_stuck : MethodName := ⟨RX12, "stuck", "()I"⟩
abbrev cX12_lot : ByteArray := prog_14_method_44_code
def yX12_lot : MethodName := ⟨RX12, "lot", "(III)I"⟩
abbrev cX12_firstGoes : ByteArray := prog_14_method_45_code
def yX12_firstGoes : MethodName := ⟨RX12, "firstGoes", "(I)V"⟩
abbrev cX12_takes : ByteArray := prog_14_method_46_code
def yX12_takes : MethodName := ⟨RX12, "takes", "(III)Z"⟩
abbrev cX12_price : ByteArray := prog_14_method_47_code
def yX12_price : MethodName := ⟨RX12, "price", "(II)Z"⟩
abbrev cX12_falls : ByteArray := prog_14_method_48_code
def yX12_falls : MethodName := ⟨RX12, "falls", "(II)Z"⟩
abbrev cX12_serve : ByteArray := prog_14_method_49_code
def yX12_serve : MethodName := ⟨RX12, "serve", "(II)I"⟩
abbrev cX12_night : ByteArray := prog_14_method_50_code
def yX12_night : MethodName := ⟨RX12, "night", "()I"⟩
abbrev cX12_bin : ByteArray := prog_14_method_51_code
def yX12_bin : MethodName := ⟨RX12, "bin", "(II)I"⟩
abbrev cX12_foretold : ByteArray := prog_14_method_52_code
def yX12_foretold : MethodName := ⟨RX12, "foretold", "(I)I"⟩
abbrev cX12_work : ByteArray := prog_14_method_53_code
def yX12_work : MethodName := ⟨RX12, "work", "(III)I"⟩
abbrev cX12_due : ByteArray := prog_14_method_54_code
def yX12_due : MethodName := ⟨RX12, "due", "(II)I"⟩
abbrev cX12_bill : ByteArray := prog_14_method_55_code
def yX12_bill : MethodName := ⟨RX12, "bill", "(IIII)I"⟩
abbrev cX12_lacked : ByteArray := prog_14_method_56_code
def yX12_lacked : MethodName := ⟨RX12, "lacked", "(I)I"⟩
abbrev cX12_about : ByteArray := prog_14_method_57_code
def yX12_about : MethodName := ⟨RX12, "about", "(I)I"⟩
def RJ9 : String := "java/lang/Math"
def TJ9 : u_T := fun k => match k with
  | _ => ("", "", "", false)
def tyJ9 : Nat → FieldType := fun k => match k with
  | _ => .int
abbrev wsJ90 : List Cond := u_ws RJ9 TJ9 0
theorem nmJ9 : ∀ a, a < 0 → ∀ b, b < 0 → a ≠ b → (TJ9 a).2.1 ≠ (TJ9 b).2.1 := by decide +kernel
theorem tyJ9_ok : ∀ k, k < 0 → parseFieldDescriptor (TJ9 k).2.2.1 = some (tyJ9 k) := by decide +kernel
abbrev cJ9_max_7cf53 : ByteArray := prog_15_method_65_code
def yJ9_max_7cf53 : MethodName := ⟨RJ9, "max", "(II)I"⟩
abbrev cJ9_min_7cf53 : ByteArray := prog_15_method_69_code
def yJ9_min_7cf53 : MethodName := ⟨RJ9, "min", "(II)I"⟩
def RJ0 : String := "java/lang/String"
def TJ0 : u_T := fun k => match k with
  | _ => ("", "", "", false)
def tyJ0 : Nat → FieldType := fun k => match k with
  | _ => .int
abbrev wsJ00 : List Cond := u_ws RJ0 TJ0 0
theorem nmJ0 : ∀ a, a < 0 → ∀ b, b < 0 → a ≠ b → (TJ0 a).2.1 ≠ (TJ0 b).2.1 := by decide +kernel
theorem tyJ0_ok : ∀ k, k < 0 → parseFieldDescriptor (TJ0 k).2.2.1 = some (tyJ0 k) := by decide +kernel
abbrev cJ0_length_8abf5 : ByteArray := prog_16_method_54_code
def yJ0_length_8abf5 : MethodName := ⟨RJ0, "length", "()I"⟩
abbrev cJ0_charAt_5068e : ByteArray := prog_16_method_56_code
def yJ0_charAt_5068e : MethodName := ⟨RJ0, "charAt", "(I)C"⟩
abbrev cJ0_coder_7d493 : ByteArray := prog_16_method_152_code
def yJ0_coder_7d493 : MethodName := ⟨RJ0, "coder", "()B"⟩
abbrev cJ0_isLatin1_aae02 : ByteArray := prog_16_method_154_code
def yJ0_isLatin1_aae02 : MethodName := ⟨RJ0, "isLatin1", "()Z"⟩
abbrev cJ0_checkIndex_df160 : ByteArray := prog_16_method_155_code
def yJ0_checkIndex_df160 : MethodName := ⟨RJ0, "checkIndex", "(II)V"⟩
def RJ1 : String := "java/lang/StringLatin1"
def TJ1 : u_T := fun k => match k with
  | _ => ("", "", "", false)
def tyJ1 : Nat → FieldType := fun k => match k with
  | _ => .int
abbrev wsJ10 : List Cond := u_ws RJ1 TJ1 0
theorem nmJ1 : ∀ a, a < 0 → ∀ b, b < 0 → a ≠ b → (TJ1 a).2.1 ≠ (TJ1 b).2.1 := by decide +kernel
theorem tyJ1_ok : ∀ k, k < 0 → parseFieldDescriptor (TJ1 k).2.2.1 = some (tyJ1 k) := by decide +kernel
abbrev cJ1_charAt_3b067 : ByteArray := prog_17_method_2_code
def yJ1_charAt_3b067 : MethodName := ⟨RJ1, "charAt", "([BI)C"⟩
def RJ2 : String := "java/lang/StringUTF16"
def TJ2 : u_T := fun k => match k with
  | _ => ("", "", "", false)
def tyJ2 : Nat → FieldType := fun k => match k with
  | _ => .int
abbrev wsJ20 : List Cond := u_ws RJ2 TJ2 0
theorem nmJ2 : ∀ a, a < 0 → ∀ b, b < 0 → a ≠ b → (TJ2 a).2.1 ≠ (TJ2 b).2.1 := by decide +kernel
theorem tyJ2_ok : ∀ k, k < 0 → parseFieldDescriptor (TJ2 k).2.2.1 = some (tyJ2 k) := by decide +kernel
abbrev cJ2_getChar_3b067 : ByteArray := prog_18_method_5_code
def yJ2_getChar_3b067 : MethodName := ⟨RJ2, "getChar", "([BI)C"⟩
abbrev cJ2_length_9d52b : ByteArray := prog_18_method_6_code
def yJ2_length_9d52b : MethodName := ⟨RJ2, "length", "([B)I"⟩
abbrev cJ2_charAt_3b067 : ByteArray := prog_18_method_83_code
def yJ2_charAt_3b067 : MethodName := ⟨RJ2, "charAt", "([BI)C"⟩
abbrev cJ2_checkIndex_2214a : ByteArray := prog_18_method_91_code
def yJ2_checkIndex_2214a : MethodName := ⟨RJ2, "checkIndex", "(I[B)V"⟩
def RJ10 : String := "java/lang/System"
def TJ10 : u_T := fun k => match k with
  | _ => ("", "", "", false)
def tyJ10 : Nat → FieldType := fun k => match k with
  | _ => .int
abbrev wsJ100 : List Cond := u_ws RJ10 TJ10 0
theorem nmJ10 : ∀ a, a < 0 → ∀ b, b < 0 → a ≠ b → (TJ10 a).2.1 ≠ (TJ10 b).2.1 := by decide +kernel
theorem tyJ10_ok : ∀ k, k < 0 → parseFieldDescriptor (TJ10 k).2.2.1 = some (tyJ10 k) := by decide +kernel
def RJ7 : String := "java/util/Arrays"
def TJ7 : u_T := fun k => match k with
  | _ => ("", "", "", false)
def tyJ7 : Nat → FieldType := fun k => match k with
  | _ => .int
abbrev wsJ70 : List Cond := u_ws RJ7 TJ7 0
theorem nmJ7 : ∀ a, a < 0 → ∀ b, b < 0 → a ≠ b → (TJ7 a).2.1 ≠ (TJ7 b).2.1 := by decide +kernel
theorem tyJ7_ok : ∀ k, k < 0 → parseFieldDescriptor (TJ7 k).2.2.1 = some (tyJ7 k) := by decide +kernel
abbrev cJ7_fill_53178 : ByteArray := prog_20_method_103_code
def yJ7_fill_53178 : MethodName := ⟨RJ7, "fill", "([II)V"⟩
def RJ3 : String := "jdk/internal/util/Preconditions"
def TJ3 : u_T := fun k => match k with
  | _ => ("", "", "", false)
def tyJ3 : Nat → FieldType := fun k => match k with
  | _ => .int
abbrev wsJ30 : List Cond := u_ws RJ3 TJ3 0
theorem nmJ3 : ∀ a, a < 0 → ∀ b, b < 0 → a ≠ b → (TJ3 a).2.1 ≠ (TJ3 b).2.1 := by decide +kernel
theorem tyJ3_ok : ∀ k, k < 0 → parseFieldDescriptor (TJ3 k).2.2.1 = some (tyJ3 k) := by decide +kernel
abbrev cJ3_checkIndex_8e157 : ByteArray := prog_21_method_11_code
def yJ3_checkIndex_8e157 : MethodName := ⟨RJ3, "checkIndex", "(IILjava/util/function/BiFunction;)I"⟩
def RL : String := "LiveryYardLaw"
abbrev cL_law : ByteArray := code
def yL_law : MethodName := ⟨RL, "law", "([I)Z"⟩
abbrev vwCl : List vw_C := [(RX0, TX0, 5), (RX1, TX1, 7), (RX2, TX2, 4), (RX3, TX3, 4), (RX4, TX4, 4), (RX5, TX5, 6), (RX6, TX6, 9), (RX7, TX7, 6), (RX8, TX8, 2), (RX9, TX9, 5), (RX10, TX10, 7), (RX11, TX11, 13), (RX12, TX12, 60)]
end
section
theorem dX0_init_0 : decode cX0_init 0 = .ok (.aload_n 0, 1) := by decide +kernel
theorem dX0_init_1 : decode cX0_init 1 = .ok (.invokespecial 3, 3) := by decide +kernel
theorem dX0_init_4 : decode cX0_init 4 = .ok (.aload_n 0, 1) := by decide +kernel
theorem dX0_init_5 : decode cX0_init 5 = .ok (.bipush 20, 2) := by decide +kernel
theorem dX0_init_7 : decode cX0_init 7 = .ok (.newarray .int, 2) := by decide +kernel
theorem dX0_init_9 : decode cX0_init 9 = .ok (.putfield 9, 3) := by decide +kernel
theorem dX0_init_12 : decode cX0_init 12 = .ok (.aload_n 0, 1) := by decide +kernel
theorem dX0_init_13 : decode cX0_init 13 = .ok (.bipush 20, 2) := by decide +kernel
theorem dX0_init_15 : decode cX0_init 15 = .ok (.newarray .int, 2) := by decide +kernel
theorem dX0_init_17 : decode cX0_init 17 = .ok (.putfield 15, 3) := by decide +kernel
theorem dX0_init_20 : decode cX0_init 20 = .ok (.aload_n 0, 1) := by decide +kernel
theorem dX0_init_21 : decode cX0_init 21 = .ok (.bipush 20, 2) := by decide +kernel
theorem dX0_init_23 : decode cX0_init 23 = .ok (.newarray .int, 2) := by decide +kernel
theorem dX0_init_25 : decode cX0_init 25 = .ok (.putfield 18, 3) := by decide +kernel
theorem dX0_init_28 : decode cX0_init 28 = .ok (.return_, 1) := by decide +kernel
theorem dX0_count_0 : decode cX0_count 0 = .ok (.aload_n 0, 1) := by decide +kernel
theorem dX0_count_1 : decode cX0_count 1 = .ok (.getfield 21, 3) := by decide +kernel
theorem dX0_count_4 : decode cX0_count 4 = .ok (.ireturn, 1) := by decide +kernel
theorem dX0_spoiltSoFar_0 : decode cX0_spoiltSoFar 0 = .ok (.aload_n 0, 1) := by decide +kernel
theorem dX0_spoiltSoFar_1 : decode cX0_spoiltSoFar 1 = .ok (.getfield 25, 3) := by decide +kernel
theorem dX0_spoiltSoFar_4 : decode cX0_spoiltSoFar 4 = .ok (.ireturn, 1) := by decide +kernel
theorem dX0_firstLast_0 : decode cX0_firstLast 0 = .ok (.aload_n 0, 1) := by decide +kernel
theorem dX0_firstLast_1 : decode cX0_firstLast 1 = .ok (.getfield 21, 3) := by decide +kernel
theorem dX0_firstLast_4 : decode cX0_firstLast 4 = .ok (.ifCond .le 12, 3) := by decide +kernel
theorem dX0_firstLast_7 : decode cX0_firstLast 7 = .ok (.aload_n 0, 1) := by decide +kernel
theorem dX0_firstLast_8 : decode cX0_firstLast 8 = .ok (.getfield 15, 3) := by decide +kernel
theorem dX0_firstLast_11 : decode cX0_firstLast 11 = .ok (.iconst 0, 1) := by decide +kernel
theorem dX0_firstLast_12 : decode cX0_firstLast 12 = .ok (.iaload, 1) := by decide +kernel
theorem dX0_firstLast_13 : decode cX0_firstLast 13 = .ok (.goto 4, 3) := by decide +kernel
theorem dX0_firstLast_16 : decode cX0_firstLast 16 = .ok (.iconst (-1), 1) := by decide +kernel
theorem dX0_firstLast_17 : decode cX0_firstLast 17 = .ok (.ireturn, 1) := by decide +kernel
theorem dX0_total_0 : decode cX0_total 0 = .ok (.iconst 0, 1) := by decide +kernel
theorem dX0_total_1 : decode cX0_total 1 = .ok (.istore_n 1, 1) := by decide +kernel
theorem dX0_total_2 : decode cX0_total 2 = .ok (.iconst 0, 1) := by decide +kernel
theorem dX0_total_3 : decode cX0_total 3 = .ok (.istore_n 2, 1) := by decide +kernel
theorem dX0_total_4 : decode cX0_total 4 = .ok (.iload_n 2, 1) := by decide +kernel
theorem dX0_total_5 : decode cX0_total 5 = .ok (.aload_n 0, 1) := by decide +kernel
theorem dX0_total_6 : decode cX0_total 6 = .ok (.getfield 21, 3) := by decide +kernel
theorem dX0_total_9 : decode cX0_total 9 = .ok (.if_icmp .ge 18, 3) := by decide +kernel
theorem dX0_total_12 : decode cX0_total 12 = .ok (.iload_n 1, 1) := by decide +kernel
theorem dX0_total_13 : decode cX0_total 13 = .ok (.aload_n 0, 1) := by decide +kernel
theorem dX0_total_14 : decode cX0_total 14 = .ok (.getfield 9, 3) := by decide +kernel
theorem dX0_total_17 : decode cX0_total 17 = .ok (.iload_n 2, 1) := by decide +kernel
theorem dX0_total_18 : decode cX0_total 18 = .ok (.iaload, 1) := by decide +kernel
theorem dX0_total_19 : decode cX0_total 19 = .ok (.iadd, 1) := by decide +kernel
theorem dX0_total_20 : decode cX0_total 20 = .ok (.istore_n 1, 1) := by decide +kernel
theorem dX0_total_21 : decode cX0_total 21 = .ok (.iinc 2 1, 3) := by decide +kernel
theorem dX0_total_24 : decode cX0_total 24 = .ok (.goto (-20), 3) := by decide +kernel
theorem dX0_total_27 : decode cX0_total 27 = .ok (.iload_n 1, 1) := by decide +kernel
theorem dX0_total_28 : decode cX0_total 28 = .ok (.ireturn, 1) := by decide +kernel
theorem dX0_add_0 : decode cX0_add 0 = .ok (.aload_n 0, 1) := by decide +kernel
theorem dX0_add_1 : decode cX0_add 1 = .ok (.getfield 21, 3) := by decide +kernel
theorem dX0_add_4 : decode cX0_add 4 = .ok (.bipush 20, 2) := by decide +kernel
theorem dX0_add_6 : decode cX0_add 6 = .ok (.if_icmp .lt 5, 3) := by decide +kernel
theorem dX0_add_9 : decode cX0_add 9 = .ok (.iconst (-1), 1) := by decide +kernel
theorem dX0_add_10 : decode cX0_add 10 = .ok (.ireturn, 1) := by decide +kernel
theorem dX0_add_11 : decode cX0_add 11 = .ok (.aload_n 0, 1) := by decide +kernel
theorem dX0_add_12 : decode cX0_add 12 = .ok (.getfield 21, 3) := by decide +kernel
theorem dX0_add_15 : decode cX0_add 15 = .ok (.istore_n 3, 1) := by decide +kernel
theorem dX0_add_16 : decode cX0_add 16 = .ok (.iload_n 3, 1) := by decide +kernel
theorem dX0_add_17 : decode cX0_add 17 = .ok (.ifCond .le 49, 3) := by decide +kernel
theorem dX0_add_20 : decode cX0_add 20 = .ok (.aload_n 0, 1) := by decide +kernel
theorem dX0_add_21 : decode cX0_add 21 = .ok (.getfield 15, 3) := by decide +kernel
theorem dX0_add_24 : decode cX0_add 24 = .ok (.iload_n 3, 1) := by decide +kernel
theorem dX0_add_25 : decode cX0_add 25 = .ok (.iconst 1, 1) := by decide +kernel
theorem dX0_add_26 : decode cX0_add 26 = .ok (.isub, 1) := by decide +kernel
theorem dX0_add_27 : decode cX0_add 27 = .ok (.iaload, 1) := by decide +kernel
theorem dX0_add_28 : decode cX0_add 28 = .ok (.iload_n 2, 1) := by decide +kernel
theorem dX0_add_29 : decode cX0_add 29 = .ok (.if_icmp .le 37, 3) := by decide +kernel
theorem dX0_add_32 : decode cX0_add 32 = .ok (.aload_n 0, 1) := by decide +kernel
theorem dX0_add_33 : decode cX0_add 33 = .ok (.getfield 9, 3) := by decide +kernel
theorem dX0_add_36 : decode cX0_add 36 = .ok (.iload_n 3, 1) := by decide +kernel
theorem dX0_add_37 : decode cX0_add 37 = .ok (.aload_n 0, 1) := by decide +kernel
theorem dX0_add_38 : decode cX0_add 38 = .ok (.getfield 9, 3) := by decide +kernel
theorem dX0_add_41 : decode cX0_add 41 = .ok (.iload_n 3, 1) := by decide +kernel
theorem dX0_add_42 : decode cX0_add 42 = .ok (.iconst 1, 1) := by decide +kernel
theorem dX0_add_43 : decode cX0_add 43 = .ok (.isub, 1) := by decide +kernel
theorem dX0_add_44 : decode cX0_add 44 = .ok (.iaload, 1) := by decide +kernel
theorem dX0_add_45 : decode cX0_add 45 = .ok (.iastore, 1) := by decide +kernel
theorem dX0_add_46 : decode cX0_add 46 = .ok (.aload_n 0, 1) := by decide +kernel
theorem dX0_add_47 : decode cX0_add 47 = .ok (.getfield 15, 3) := by decide +kernel
theorem dX0_add_50 : decode cX0_add 50 = .ok (.iload_n 3, 1) := by decide +kernel
theorem dX0_add_51 : decode cX0_add 51 = .ok (.aload_n 0, 1) := by decide +kernel
theorem dX0_add_52 : decode cX0_add 52 = .ok (.getfield 15, 3) := by decide +kernel
theorem dX0_add_55 : decode cX0_add 55 = .ok (.iload_n 3, 1) := by decide +kernel
theorem dX0_add_56 : decode cX0_add 56 = .ok (.iconst 1, 1) := by decide +kernel
theorem dX0_add_57 : decode cX0_add 57 = .ok (.isub, 1) := by decide +kernel
theorem dX0_add_58 : decode cX0_add 58 = .ok (.iaload, 1) := by decide +kernel
theorem dX0_add_59 : decode cX0_add 59 = .ok (.iastore, 1) := by decide +kernel
theorem dX0_add_60 : decode cX0_add 60 = .ok (.iinc 3 (-1), 3) := by decide +kernel
theorem dX0_add_63 : decode cX0_add 63 = .ok (.goto (-47), 3) := by decide +kernel
theorem dX0_add_66 : decode cX0_add 66 = .ok (.aload_n 0, 1) := by decide +kernel
theorem dX0_add_67 : decode cX0_add 67 = .ok (.getfield 9, 3) := by decide +kernel
theorem dX0_add_70 : decode cX0_add 70 = .ok (.iload_n 3, 1) := by decide +kernel
theorem dX0_add_71 : decode cX0_add 71 = .ok (.iload_n 1, 1) := by decide +kernel
theorem dX0_add_72 : decode cX0_add 72 = .ok (.iastore, 1) := by decide +kernel
theorem dX0_add_73 : decode cX0_add 73 = .ok (.aload_n 0, 1) := by decide +kernel
theorem dX0_add_74 : decode cX0_add 74 = .ok (.getfield 15, 3) := by decide +kernel
theorem dX0_add_77 : decode cX0_add 77 = .ok (.iload_n 3, 1) := by decide +kernel
theorem dX0_add_78 : decode cX0_add 78 = .ok (.iload_n 2, 1) := by decide +kernel
theorem dX0_add_79 : decode cX0_add 79 = .ok (.iastore, 1) := by decide +kernel
theorem dX0_add_80 : decode cX0_add 80 = .ok (.aload_n 0, 1) := by decide +kernel
theorem dX0_add_81 : decode cX0_add 81 = .ok (.dup, 1) := by decide +kernel
theorem dX0_add_82 : decode cX0_add 82 = .ok (.getfield 21, 3) := by decide +kernel
theorem dX0_add_85 : decode cX0_add 85 = .ok (.iconst 1, 1) := by decide +kernel
theorem dX0_add_86 : decode cX0_add 86 = .ok (.iadd, 1) := by decide +kernel
theorem dX0_add_87 : decode cX0_add 87 = .ok (.putfield 21, 3) := by decide +kernel
theorem dX0_add_90 : decode cX0_add 90 = .ok (.aload_n 0, 1) := by decide +kernel
theorem dX0_add_91 : decode cX0_add 91 = .ok (.getfield 21, 3) := by decide +kernel
theorem dX0_add_94 : decode cX0_add 94 = .ok (.ireturn, 1) := by decide +kernel
theorem dX0_spoil_0 : decode cX0_spoil 0 = .ok (.iconst 0, 1) := by decide +kernel
theorem dX0_spoil_1 : decode cX0_spoil 1 = .ok (.istore_n 2, 1) := by decide +kernel
theorem dX0_spoil_2 : decode cX0_spoil 2 = .ok (.iload_n 2, 1) := by decide +kernel
theorem dX0_spoil_3 : decode cX0_spoil 3 = .ok (.aload_n 0, 1) := by decide +kernel
theorem dX0_spoil_4 : decode cX0_spoil 4 = .ok (.getfield 21, 3) := by decide +kernel
theorem dX0_spoil_7 : decode cX0_spoil 7 = .ok (.if_icmp .ge 34, 3) := by decide +kernel
theorem dX0_spoil_10 : decode cX0_spoil 10 = .ok (.aload_n 0, 1) := by decide +kernel
theorem dX0_spoil_11 : decode cX0_spoil 11 = .ok (.getfield 15, 3) := by decide +kernel
theorem dX0_spoil_14 : decode cX0_spoil 14 = .ok (.iload_n 2, 1) := by decide +kernel
theorem dX0_spoil_15 : decode cX0_spoil 15 = .ok (.iaload, 1) := by decide +kernel
theorem dX0_spoil_16 : decode cX0_spoil 16 = .ok (.iload_n 1, 1) := by decide +kernel
theorem dX0_spoil_17 : decode cX0_spoil 17 = .ok (.if_icmp .ge 24, 3) := by decide +kernel
theorem dX0_spoil_20 : decode cX0_spoil 20 = .ok (.aload_n 0, 1) := by decide +kernel
theorem dX0_spoil_21 : decode cX0_spoil 21 = .ok (.dup, 1) := by decide +kernel
theorem dX0_spoil_22 : decode cX0_spoil 22 = .ok (.getfield 25, 3) := by decide +kernel
theorem dX0_spoil_25 : decode cX0_spoil 25 = .ok (.aload_n 0, 1) := by decide +kernel
theorem dX0_spoil_26 : decode cX0_spoil 26 = .ok (.getfield 9, 3) := by decide +kernel
theorem dX0_spoil_29 : decode cX0_spoil 29 = .ok (.iload_n 2, 1) := by decide +kernel
theorem dX0_spoil_30 : decode cX0_spoil 30 = .ok (.iaload, 1) := by decide +kernel
theorem dX0_spoil_31 : decode cX0_spoil 31 = .ok (.iadd, 1) := by decide +kernel
theorem dX0_spoil_32 : decode cX0_spoil 32 = .ok (.putfield 25, 3) := by decide +kernel
theorem dX0_spoil_35 : decode cX0_spoil 35 = .ok (.iinc 2 1, 3) := by decide +kernel
theorem dX0_spoil_38 : decode cX0_spoil 38 = .ok (.goto (-36), 3) := by decide +kernel
theorem dX0_spoil_41 : decode cX0_spoil 41 = .ok (.aload_n 0, 1) := by decide +kernel
theorem dX0_spoil_42 : decode cX0_spoil 42 = .ok (.iload_n 2, 1) := by decide +kernel
theorem dX0_spoil_43 : decode cX0_spoil 43 = .ok (.invokevirtual 28, 3) := by decide +kernel
theorem dX0_spoil_46 : decode cX0_spoil 46 = .ok (.return_, 1) := by decide +kernel
theorem dX0_take_0 : decode cX0_take 0 = .ok (.iload_n 1, 1) := by decide +kernel
theorem dX0_take_1 : decode cX0_take 1 = .ok (.istore_n 2, 1) := by decide +kernel
theorem dX0_take_2 : decode cX0_take 2 = .ok (.iconst 0, 1) := by decide +kernel
theorem dX0_take_3 : decode cX0_take 3 = .ok (.istore_n 3, 1) := by decide +kernel
theorem dX0_take_4 : decode cX0_take 4 = .ok (.iload_n 3, 1) := by decide +kernel
theorem dX0_take_5 : decode cX0_take 5 = .ok (.aload_n 0, 1) := by decide +kernel
theorem dX0_take_6 : decode cX0_take 6 = .ok (.getfield 21, 3) := by decide +kernel
theorem dX0_take_9 : decode cX0_take 9 = .ok (.if_icmp .ge 28, 3) := by decide +kernel
theorem dX0_take_12 : decode cX0_take 12 = .ok (.aload_n 0, 1) := by decide +kernel
theorem dX0_take_13 : decode cX0_take 13 = .ok (.getfield 9, 3) := by decide +kernel
theorem dX0_take_16 : decode cX0_take 16 = .ok (.iload_n 3, 1) := by decide +kernel
theorem dX0_take_17 : decode cX0_take 17 = .ok (.iaload, 1) := by decide +kernel
theorem dX0_take_18 : decode cX0_take 18 = .ok (.iload_n 2, 1) := by decide +kernel
theorem dX0_take_19 : decode cX0_take 19 = .ok (.if_icmp .gt 18, 3) := by decide +kernel
theorem dX0_take_22 : decode cX0_take 22 = .ok (.iload_n 2, 1) := by decide +kernel
theorem dX0_take_23 : decode cX0_take 23 = .ok (.aload_n 0, 1) := by decide +kernel
theorem dX0_take_24 : decode cX0_take 24 = .ok (.getfield 9, 3) := by decide +kernel
theorem dX0_take_27 : decode cX0_take 27 = .ok (.iload_n 3, 1) := by decide +kernel
theorem dX0_take_28 : decode cX0_take 28 = .ok (.iaload, 1) := by decide +kernel
theorem dX0_take_29 : decode cX0_take 29 = .ok (.isub, 1) := by decide +kernel
theorem dX0_take_30 : decode cX0_take 30 = .ok (.istore_n 2, 1) := by decide +kernel
theorem dX0_take_31 : decode cX0_take 31 = .ok (.iinc 3 1, 3) := by decide +kernel
theorem dX0_take_34 : decode cX0_take 34 = .ok (.goto (-30), 3) := by decide +kernel
theorem dX0_take_37 : decode cX0_take 37 = .ok (.iload_n 3, 1) := by decide +kernel
theorem dX0_take_38 : decode cX0_take 38 = .ok (.aload_n 0, 1) := by decide +kernel
theorem dX0_take_39 : decode cX0_take 39 = .ok (.getfield 21, 3) := by decide +kernel
theorem dX0_take_42 : decode cX0_take 42 = .ok (.if_icmp .ge 15, 3) := by decide +kernel
theorem dX0_take_45 : decode cX0_take 45 = .ok (.aload_n 0, 1) := by decide +kernel
theorem dX0_take_46 : decode cX0_take 46 = .ok (.getfield 9, 3) := by decide +kernel
theorem dX0_take_49 : decode cX0_take 49 = .ok (.iload_n 3, 1) := by decide +kernel
theorem dX0_take_50 : decode cX0_take 50 = .ok (.dup2, 1) := by decide +kernel
theorem dX0_take_51 : decode cX0_take 51 = .ok (.iaload, 1) := by decide +kernel
theorem dX0_take_52 : decode cX0_take 52 = .ok (.iload_n 2, 1) := by decide +kernel
theorem dX0_take_53 : decode cX0_take 53 = .ok (.isub, 1) := by decide +kernel
theorem dX0_take_54 : decode cX0_take 54 = .ok (.iastore, 1) := by decide +kernel
theorem dX0_take_55 : decode cX0_take 55 = .ok (.iconst 0, 1) := by decide +kernel
theorem dX0_take_56 : decode cX0_take 56 = .ok (.istore_n 2, 1) := by decide +kernel
theorem dX0_take_57 : decode cX0_take 57 = .ok (.aload_n 0, 1) := by decide +kernel
theorem dX0_take_58 : decode cX0_take 58 = .ok (.iload_n 3, 1) := by decide +kernel
theorem dX0_take_59 : decode cX0_take 59 = .ok (.invokevirtual 28, 3) := by decide +kernel
theorem dX0_take_62 : decode cX0_take 62 = .ok (.iload_n 1, 1) := by decide +kernel
theorem dX0_take_63 : decode cX0_take 63 = .ok (.iload_n 2, 1) := by decide +kernel
theorem dX0_take_64 : decode cX0_take 64 = .ok (.isub, 1) := by decide +kernel
theorem dX0_take_65 : decode cX0_take 65 = .ok (.ireturn, 1) := by decide +kernel
theorem dX0_nightsFor_0 : decode cX0_nightsFor 0 = .ok (.aload_n 0, 1) := by decide +kernel
theorem dX0_nightsFor_1 : decode cX0_nightsFor 1 = .ok (.getfield 9, 3) := by decide +kernel
theorem dX0_nightsFor_4 : decode cX0_nightsFor 4 = .ok (.iconst 0, 1) := by decide +kernel
theorem dX0_nightsFor_5 : decode cX0_nightsFor 5 = .ok (.aload_n 0, 1) := by decide +kernel
theorem dX0_nightsFor_6 : decode cX0_nightsFor 6 = .ok (.getfield 18, 3) := by decide +kernel
theorem dX0_nightsFor_9 : decode cX0_nightsFor 9 = .ok (.iconst 0, 1) := by decide +kernel
theorem dX0_nightsFor_10 : decode cX0_nightsFor 10 = .ok (.bipush 20, 2) := by decide +kernel
theorem dX0_nightsFor_12 : decode cX0_nightsFor 12 = .ok (.invokestatic 32, 3) := by decide +kernel
theorem dX0_nightsFor_15 : decode cX0_nightsFor 15 = .ok (.iconst 0, 1) := by decide +kernel
theorem dX0_nightsFor_16 : decode cX0_nightsFor 16 = .ok (.istore_n 3, 1) := by decide +kernel
theorem dX0_nightsFor_17 : decode cX0_nightsFor 17 = .ok (.iload_n 3, 1) := by decide +kernel
theorem dX0_nightsFor_18 : decode cX0_nightsFor 18 = .ok (.sipush 400, 3) := by decide +kernel
theorem dX0_nightsFor_21 : decode cX0_nightsFor 21 = .ok (.if_icmp .ge 22, 3) := by decide +kernel
theorem dX0_nightsFor_24 : decode cX0_nightsFor 24 = .ok (.aload_n 0, 1) := by decide +kernel
theorem dX0_nightsFor_25 : decode cX0_nightsFor 25 = .ok (.iload_n 1, 1) := by decide +kernel
theorem dX0_nightsFor_26 : decode cX0_nightsFor 26 = .ok (.iload_n 2, 1) := by decide +kernel
theorem dX0_nightsFor_27 : decode cX0_nightsFor 27 = .ok (.iload_n 3, 1) := by decide +kernel
theorem dX0_nightsFor_28 : decode cX0_nightsFor 28 = .ok (.iadd, 1) := by decide +kernel
theorem dX0_nightsFor_29 : decode cX0_nightsFor 29 = .ok (.invokevirtual 38, 3) := by decide +kernel
theorem dX0_nightsFor_32 : decode cX0_nightsFor 32 = .ok (.ifCond .ne 5, 3) := by decide +kernel
theorem dX0_nightsFor_35 : decode cX0_nightsFor 35 = .ok (.iload_n 3, 1) := by decide +kernel
theorem dX0_nightsFor_36 : decode cX0_nightsFor 36 = .ok (.ireturn, 1) := by decide +kernel
theorem dX0_nightsFor_37 : decode cX0_nightsFor 37 = .ok (.iinc 3 1, 3) := by decide +kernel
theorem dX0_nightsFor_40 : decode cX0_nightsFor 40 = .ok (.goto (-23), 3) := by decide +kernel
theorem dX0_nightsFor_43 : decode cX0_nightsFor 43 = .ok (.sipush 400, 3) := by decide +kernel
theorem dX0_nightsFor_46 : decode cX0_nightsFor 46 = .ok (.ireturn, 1) := by decide +kernel
theorem dX0_suffices_0 : decode cX0_suffices 0 = .ok (.iload_n 1, 1) := by decide +kernel
theorem dX0_suffices_1 : decode cX0_suffices 1 = .ok (.istore_n 3, 1) := by decide +kernel
theorem dX0_suffices_2 : decode cX0_suffices 2 = .ok (.iconst 0, 1) := by decide +kernel
theorem dX0_suffices_3 : decode cX0_suffices 3 = .ok (.istore 4, 2) := by decide +kernel
theorem dX0_suffices_5 : decode cX0_suffices 5 = .ok (.iload 4, 2) := by decide +kernel
theorem dX0_suffices_7 : decode cX0_suffices 7 = .ok (.aload_n 0, 1) := by decide +kernel
theorem dX0_suffices_8 : decode cX0_suffices 8 = .ok (.getfield 21, 3) := by decide +kernel
theorem dX0_suffices_11 : decode cX0_suffices 11 = .ok (.if_icmp .ge 50, 3) := by decide +kernel
theorem dX0_suffices_14 : decode cX0_suffices 14 = .ok (.aload_n 0, 1) := by decide +kernel
theorem dX0_suffices_15 : decode cX0_suffices 15 = .ok (.getfield 15, 3) := by decide +kernel
theorem dX0_suffices_18 : decode cX0_suffices 18 = .ok (.iload 4, 2) := by decide +kernel
theorem dX0_suffices_20 : decode cX0_suffices 20 = .ok (.iaload, 1) := by decide +kernel
theorem dX0_suffices_21 : decode cX0_suffices 21 = .ok (.iload_n 2, 1) := by decide +kernel
theorem dX0_suffices_22 : decode cX0_suffices 22 = .ok (.if_icmp .lt 33, 3) := by decide +kernel
theorem dX0_suffices_25 : decode cX0_suffices 25 = .ok (.aload_n 0, 1) := by decide +kernel
theorem dX0_suffices_26 : decode cX0_suffices 26 = .ok (.getfield 18, 3) := by decide +kernel
theorem dX0_suffices_29 : decode cX0_suffices 29 = .ok (.iload 4, 2) := by decide +kernel
theorem dX0_suffices_31 : decode cX0_suffices 31 = .ok (.iaload, 1) := by decide +kernel
theorem dX0_suffices_32 : decode cX0_suffices 32 = .ok (.iload_n 3, 1) := by decide +kernel
theorem dX0_suffices_33 : decode cX0_suffices 33 = .ok (.invokestatic 42, 3) := by decide +kernel
theorem dX0_suffices_36 : decode cX0_suffices 36 = .ok (.istore 5, 2) := by decide +kernel
theorem dX0_suffices_38 : decode cX0_suffices 38 = .ok (.aload_n 0, 1) := by decide +kernel
theorem dX0_suffices_39 : decode cX0_suffices 39 = .ok (.getfield 18, 3) := by decide +kernel
theorem dX0_suffices_42 : decode cX0_suffices 42 = .ok (.iload 4, 2) := by decide +kernel
theorem dX0_suffices_44 : decode cX0_suffices 44 = .ok (.dup2, 1) := by decide +kernel
theorem dX0_suffices_45 : decode cX0_suffices 45 = .ok (.iaload, 1) := by decide +kernel
theorem dX0_suffices_46 : decode cX0_suffices 46 = .ok (.iload 5, 2) := by decide +kernel
theorem dX0_suffices_48 : decode cX0_suffices 48 = .ok (.isub, 1) := by decide +kernel
theorem dX0_suffices_49 : decode cX0_suffices 49 = .ok (.iastore, 1) := by decide +kernel
theorem dX0_suffices_50 : decode cX0_suffices 50 = .ok (.iload_n 3, 1) := by decide +kernel
theorem dX0_suffices_51 : decode cX0_suffices 51 = .ok (.iload 5, 2) := by decide +kernel
theorem dX0_suffices_53 : decode cX0_suffices 53 = .ok (.isub, 1) := by decide +kernel
theorem dX0_suffices_54 : decode cX0_suffices 54 = .ok (.istore_n 3, 1) := by decide +kernel
theorem dX0_suffices_55 : decode cX0_suffices 55 = .ok (.iinc 4 1, 3) := by decide +kernel
theorem dX0_suffices_58 : decode cX0_suffices 58 = .ok (.goto (-53), 3) := by decide +kernel
theorem dX0_suffices_61 : decode cX0_suffices 61 = .ok (.iload_n 3, 1) := by decide +kernel
theorem dX0_suffices_62 : decode cX0_suffices 62 = .ok (.ifCond .ne 7, 3) := by decide +kernel
theorem dX0_suffices_65 : decode cX0_suffices 65 = .ok (.iconst 1, 1) := by decide +kernel
theorem dX0_suffices_66 : decode cX0_suffices 66 = .ok (.goto 4, 3) := by decide +kernel
theorem dX0_suffices_69 : decode cX0_suffices 69 = .ok (.iconst 0, 1) := by decide +kernel
theorem dX0_suffices_70 : decode cX0_suffices 70 = .ok (.ireturn, 1) := by decide +kernel
theorem dX0_drop_0 : decode cX0_drop 0 = .ok (.iload_n 1, 1) := by decide +kernel
theorem dX0_drop_1 : decode cX0_drop 1 = .ok (.istore_n 2, 1) := by decide +kernel
theorem dX0_drop_2 : decode cX0_drop 2 = .ok (.iload_n 2, 1) := by decide +kernel
theorem dX0_drop_3 : decode cX0_drop 3 = .ok (.aload_n 0, 1) := by decide +kernel
theorem dX0_drop_4 : decode cX0_drop 4 = .ok (.getfield 21, 3) := by decide +kernel
theorem dX0_drop_7 : decode cX0_drop 7 = .ok (.if_icmp .ge 37, 3) := by decide +kernel
theorem dX0_drop_10 : decode cX0_drop 10 = .ok (.aload_n 0, 1) := by decide +kernel
theorem dX0_drop_11 : decode cX0_drop 11 = .ok (.getfield 9, 3) := by decide +kernel
theorem dX0_drop_14 : decode cX0_drop 14 = .ok (.iload_n 2, 1) := by decide +kernel
theorem dX0_drop_15 : decode cX0_drop 15 = .ok (.iload_n 1, 1) := by decide +kernel
theorem dX0_drop_16 : decode cX0_drop 16 = .ok (.isub, 1) := by decide +kernel
theorem dX0_drop_17 : decode cX0_drop 17 = .ok (.aload_n 0, 1) := by decide +kernel
theorem dX0_drop_18 : decode cX0_drop 18 = .ok (.getfield 9, 3) := by decide +kernel
theorem dX0_drop_21 : decode cX0_drop 21 = .ok (.iload_n 2, 1) := by decide +kernel
theorem dX0_drop_22 : decode cX0_drop 22 = .ok (.iaload, 1) := by decide +kernel
theorem dX0_drop_23 : decode cX0_drop 23 = .ok (.iastore, 1) := by decide +kernel
theorem dX0_drop_24 : decode cX0_drop 24 = .ok (.aload_n 0, 1) := by decide +kernel
theorem dX0_drop_25 : decode cX0_drop 25 = .ok (.getfield 15, 3) := by decide +kernel
theorem dX0_drop_28 : decode cX0_drop 28 = .ok (.iload_n 2, 1) := by decide +kernel
theorem dX0_drop_29 : decode cX0_drop 29 = .ok (.iload_n 1, 1) := by decide +kernel
theorem dX0_drop_30 : decode cX0_drop 30 = .ok (.isub, 1) := by decide +kernel
theorem dX0_drop_31 : decode cX0_drop 31 = .ok (.aload_n 0, 1) := by decide +kernel
theorem dX0_drop_32 : decode cX0_drop 32 = .ok (.getfield 15, 3) := by decide +kernel
theorem dX0_drop_35 : decode cX0_drop 35 = .ok (.iload_n 2, 1) := by decide +kernel
theorem dX0_drop_36 : decode cX0_drop 36 = .ok (.iaload, 1) := by decide +kernel
theorem dX0_drop_37 : decode cX0_drop 37 = .ok (.iastore, 1) := by decide +kernel
theorem dX0_drop_38 : decode cX0_drop 38 = .ok (.iinc 2 1, 3) := by decide +kernel
theorem dX0_drop_41 : decode cX0_drop 41 = .ok (.goto (-39), 3) := by decide +kernel
theorem dX0_drop_44 : decode cX0_drop 44 = .ok (.aload_n 0, 1) := by decide +kernel
theorem dX0_drop_45 : decode cX0_drop 45 = .ok (.dup, 1) := by decide +kernel
theorem dX0_drop_46 : decode cX0_drop 46 = .ok (.getfield 21, 3) := by decide +kernel
theorem dX0_drop_49 : decode cX0_drop 49 = .ok (.iload_n 1, 1) := by decide +kernel
theorem dX0_drop_50 : decode cX0_drop 50 = .ok (.isub, 1) := by decide +kernel
theorem dX0_drop_51 : decode cX0_drop 51 = .ok (.putfield 21, 3) := by decide +kernel
theorem dX0_drop_54 : decode cX0_drop 54 = .ok (.return_, 1) := by decide +kernel
theorem dX1_init_0 : decode cX1_init 0 = .ok (.aload_n 0, 1) := by decide +kernel
theorem dX1_init_1 : decode cX1_init 1 = .ok (.invokespecial 3, 3) := by decide +kernel
theorem dX1_init_4 : decode cX1_init 4 = .ok (.aload_n 0, 1) := by decide +kernel
theorem dX1_init_5 : decode cX1_init 5 = .ok (.bipush 12, 2) := by decide +kernel
theorem dX1_init_7 : decode cX1_init 7 = .ok (.newarray .int, 2) := by decide +kernel
theorem dX1_init_9 : decode cX1_init 9 = .ok (.putfield 9, 3) := by decide +kernel
theorem dX1_init_12 : decode cX1_init 12 = .ok (.aload_n 0, 1) := by decide +kernel
theorem dX1_init_13 : decode cX1_init 13 = .ok (.bipush 12, 2) := by decide +kernel
theorem dX1_init_15 : decode cX1_init 15 = .ok (.newarray .int, 2) := by decide +kernel
theorem dX1_init_17 : decode cX1_init 17 = .ok (.putfield 15, 3) := by decide +kernel
theorem dX1_init_20 : decode cX1_init 20 = .ok (.aload_n 0, 1) := by decide +kernel
theorem dX1_init_21 : decode cX1_init 21 = .ok (.bipush 12, 2) := by decide +kernel
theorem dX1_init_23 : decode cX1_init 23 = .ok (.newarray .int, 2) := by decide +kernel
theorem dX1_init_25 : decode cX1_init 25 = .ok (.putfield 18, 3) := by decide +kernel
theorem dX1_init_28 : decode cX1_init 28 = .ok (.aload_n 0, 1) := by decide +kernel
theorem dX1_init_29 : decode cX1_init 29 = .ok (.bipush 12, 2) := by decide +kernel
theorem dX1_init_31 : decode cX1_init 31 = .ok (.newarray .boolean, 2) := by decide +kernel
theorem dX1_init_33 : decode cX1_init 33 = .ok (.putfield 21, 3) := by decide +kernel
theorem dX1_init_36 : decode cX1_init 36 = .ok (.aload_n 0, 1) := by decide +kernel
theorem dX1_init_37 : decode cX1_init 37 = .ok (.bipush 48, 2) := by decide +kernel
theorem dX1_init_39 : decode cX1_init 39 = .ok (.newarray .int, 2) := by decide +kernel
theorem dX1_init_41 : decode cX1_init 41 = .ok (.putfield 25, 3) := by decide +kernel
theorem dX1_init_44 : decode cX1_init 44 = .ok (.aload_n 0, 1) := by decide +kernel
theorem dX1_init_45 : decode cX1_init 45 = .ok (.bipush 12, 2) := by decide +kernel
theorem dX1_init_47 : decode cX1_init 47 = .ok (.newarray .int, 2) := by decide +kernel
theorem dX1_init_49 : decode cX1_init 49 = .ok (.putfield 28, 3) := by decide +kernel
theorem dX1_init_52 : decode cX1_init 52 = .ok (.return_, 1) := by decide +kernel
theorem dX1_count_0 : decode cX1_count 0 = .ok (.aload_n 0, 1) := by decide +kernel
theorem dX1_count_1 : decode cX1_count 1 = .ok (.getfield 31, 3) := by decide +kernel
theorem dX1_count_4 : decode cX1_count 4 = .ok (.ireturn, 1) := by decide +kernel
theorem dX1_has_0 : decode cX1_has 0 = .ok (.iload_n 1, 1) := by decide +kernel
theorem dX1_has_1 : decode cX1_has 1 = .ok (.ifCond .lt 15, 3) := by decide +kernel
theorem dX1_has_4 : decode cX1_has 4 = .ok (.iload_n 1, 1) := by decide +kernel
theorem dX1_has_5 : decode cX1_has 5 = .ok (.aload_n 0, 1) := by decide +kernel
theorem dX1_has_6 : decode cX1_has 6 = .ok (.getfield 31, 3) := by decide +kernel
theorem dX1_has_9 : decode cX1_has 9 = .ok (.if_icmp .ge 7, 3) := by decide +kernel
theorem dX1_has_12 : decode cX1_has 12 = .ok (.iconst 1, 1) := by decide +kernel
theorem dX1_has_13 : decode cX1_has 13 = .ok (.goto 4, 3) := by decide +kernel
theorem dX1_has_16 : decode cX1_has 16 = .ok (.iconst 0, 1) := by decide +kernel
theorem dX1_has_17 : decode cX1_has 17 = .ok (.ireturn, 1) := by decide +kernel
theorem dX1_add_0 : decode cX1_add 0 = .ok (.aload_n 0, 1) := by decide +kernel
theorem dX1_add_1 : decode cX1_add 1 = .ok (.getfield 31, 3) := by decide +kernel
theorem dX1_add_4 : decode cX1_add 4 = .ok (.bipush 12, 2) := by decide +kernel
theorem dX1_add_6 : decode cX1_add 6 = .ok (.if_icmp .lt 5, 3) := by decide +kernel
theorem dX1_add_9 : decode cX1_add 9 = .ok (.iconst (-1), 1) := by decide +kernel
theorem dX1_add_10 : decode cX1_add 10 = .ok (.ireturn, 1) := by decide +kernel
theorem dX1_add_11 : decode cX1_add 11 = .ok (.aload_n 0, 1) := by decide +kernel
theorem dX1_add_12 : decode cX1_add 12 = .ok (.getfield 9, 3) := by decide +kernel
theorem dX1_add_15 : decode cX1_add 15 = .ok (.aload_n 0, 1) := by decide +kernel
theorem dX1_add_16 : decode cX1_add 16 = .ok (.getfield 31, 3) := by decide +kernel
theorem dX1_add_19 : decode cX1_add 19 = .ok (.iload_n 1, 1) := by decide +kernel
theorem dX1_add_20 : decode cX1_add 20 = .ok (.iastore, 1) := by decide +kernel
theorem dX1_add_21 : decode cX1_add 21 = .ok (.aload_n 0, 1) := by decide +kernel
theorem dX1_add_22 : decode cX1_add 22 = .ok (.getfield 15, 3) := by decide +kernel
theorem dX1_add_25 : decode cX1_add 25 = .ok (.aload_n 0, 1) := by decide +kernel
theorem dX1_add_26 : decode cX1_add 26 = .ok (.getfield 31, 3) := by decide +kernel
theorem dX1_add_29 : decode cX1_add 29 = .ok (.iload_n 2, 1) := by decide +kernel
theorem dX1_add_30 : decode cX1_add 30 = .ok (.iastore, 1) := by decide +kernel
theorem dX1_add_31 : decode cX1_add 31 = .ok (.aload_n 0, 1) := by decide +kernel
theorem dX1_add_32 : decode cX1_add 32 = .ok (.getfield 18, 3) := by decide +kernel
theorem dX1_add_35 : decode cX1_add 35 = .ok (.aload_n 0, 1) := by decide +kernel
theorem dX1_add_36 : decode cX1_add 36 = .ok (.getfield 31, 3) := by decide +kernel
theorem dX1_add_39 : decode cX1_add 39 = .ok (.iload_n 3, 1) := by decide +kernel
theorem dX1_add_40 : decode cX1_add 40 = .ok (.iastore, 1) := by decide +kernel
theorem dX1_add_41 : decode cX1_add 41 = .ok (.aload_n 0, 1) := by decide +kernel
theorem dX1_add_42 : decode cX1_add 42 = .ok (.dup, 1) := by decide +kernel
theorem dX1_add_43 : decode cX1_add 43 = .ok (.getfield 31, 3) := by decide +kernel
theorem dX1_add_46 : decode cX1_add 46 = .ok (.iconst 1, 1) := by decide +kernel
theorem dX1_add_47 : decode cX1_add 47 = .ok (.iadd, 1) := by decide +kernel
theorem dX1_add_48 : decode cX1_add 48 = .ok (.putfield 31, 3) := by decide +kernel
theorem dX1_add_51 : decode cX1_add 51 = .ok (.aload_n 0, 1) := by decide +kernel
theorem dX1_add_52 : decode cX1_add 52 = .ok (.getfield 31, 3) := by decide +kernel
theorem dX1_add_55 : decode cX1_add 55 = .ok (.iconst 1, 1) := by decide +kernel
theorem dX1_add_56 : decode cX1_add 56 = .ok (.isub, 1) := by decide +kernel
theorem dX1_add_57 : decode cX1_add 57 = .ok (.ireturn, 1) := by decide +kernel
theorem dX1_kindOf_0 : decode cX1_kindOf 0 = .ok (.aload_n 0, 1) := by decide +kernel
theorem dX1_kindOf_1 : decode cX1_kindOf 1 = .ok (.getfield 9, 3) := by decide +kernel
theorem dX1_kindOf_4 : decode cX1_kindOf 4 = .ok (.iload_n 1, 1) := by decide +kernel
theorem dX1_kindOf_5 : decode cX1_kindOf 5 = .ok (.iaload, 1) := by decide +kernel
theorem dX1_kindOf_6 : decode cX1_kindOf 6 = .ok (.ireturn, 1) := by decide +kernel
theorem dX1_ageOf_0 : decode cX1_ageOf 0 = .ok (.aload_n 0, 1) := by decide +kernel
theorem dX1_ageOf_1 : decode cX1_ageOf 1 = .ok (.getfield 15, 3) := by decide +kernel
theorem dX1_ageOf_4 : decode cX1_ageOf 4 = .ok (.iload_n 1, 1) := by decide +kernel
theorem dX1_ageOf_5 : decode cX1_ageOf 5 = .ok (.iaload, 1) := by decide +kernel
theorem dX1_ageOf_6 : decode cX1_ageOf 6 = .ok (.ireturn, 1) := by decide +kernel
theorem dX1_cameOf_0 : decode cX1_cameOf 0 = .ok (.aload_n 0, 1) := by decide +kernel
theorem dX1_cameOf_1 : decode cX1_cameOf 1 = .ok (.getfield 18, 3) := by decide +kernel
theorem dX1_cameOf_4 : decode cX1_cameOf 4 = .ok (.iload_n 1, 1) := by decide +kernel
theorem dX1_cameOf_5 : decode cX1_cameOf 5 = .ok (.iaload, 1) := by decide +kernel
theorem dX1_cameOf_6 : decode cX1_cameOf 6 = .ok (.ireturn, 1) := by decide +kernel
theorem dX1_isLame_0 : decode cX1_isLame 0 = .ok (.aload_n 0, 1) := by decide +kernel
theorem dX1_isLame_1 : decode cX1_isLame 1 = .ok (.getfield 21, 3) := by decide +kernel
theorem dX1_isLame_4 : decode cX1_isLame 4 = .ok (.iload_n 1, 1) := by decide +kernel
theorem dX1_isLame_5 : decode cX1_isLame 5 = .ok (.baload, 1) := by decide +kernel
theorem dX1_isLame_6 : decode cX1_isLame 6 = .ok (.ireturn, 1) := by decide +kernel
theorem dX1_setLame_0 : decode cX1_setLame 0 = .ok (.aload_n 0, 1) := by decide +kernel
theorem dX1_setLame_1 : decode cX1_setLame 1 = .ok (.getfield 21, 3) := by decide +kernel
theorem dX1_setLame_4 : decode cX1_setLame 4 = .ok (.iload_n 1, 1) := by decide +kernel
theorem dX1_setLame_5 : decode cX1_setLame 5 = .ok (.iload_n 2, 1) := by decide +kernel
theorem dX1_setLame_6 : decode cX1_setLame 6 = .ok (.bastore, 1) := by decide +kernel
theorem dX1_setLame_7 : decode cX1_setLame 7 = .ok (.return_, 1) := by decide +kernel
theorem dX1_wantedOf_0 : decode cX1_wantedOf 0 = .ok (.aload_n 0, 1) := by decide +kernel
theorem dX1_wantedOf_1 : decode cX1_wantedOf 1 = .ok (.getfield 25, 3) := by decide +kernel
theorem dX1_wantedOf_4 : decode cX1_wantedOf 4 = .ok (.iload_n 1, 1) := by decide +kernel
theorem dX1_wantedOf_5 : decode cX1_wantedOf 5 = .ok (.iconst 4, 1) := by decide +kernel
theorem dX1_wantedOf_6 : decode cX1_wantedOf 6 = .ok (.imul, 1) := by decide +kernel
theorem dX1_wantedOf_7 : decode cX1_wantedOf 7 = .ok (.iload_n 2, 1) := by decide +kernel
theorem dX1_wantedOf_8 : decode cX1_wantedOf 8 = .ok (.iadd, 1) := by decide +kernel
theorem dX1_wantedOf_9 : decode cX1_wantedOf 9 = .ok (.iaload, 1) := by decide +kernel
theorem dX1_wantedOf_10 : decode cX1_wantedOf 10 = .ok (.ireturn, 1) := by decide +kernel
theorem dX1_setWanted_0 : decode cX1_setWanted 0 = .ok (.aload_n 0, 1) := by decide +kernel
theorem dX1_setWanted_1 : decode cX1_setWanted 1 = .ok (.getfield 25, 3) := by decide +kernel
theorem dX1_setWanted_4 : decode cX1_setWanted 4 = .ok (.iload_n 1, 1) := by decide +kernel
theorem dX1_setWanted_5 : decode cX1_setWanted 5 = .ok (.iconst 4, 1) := by decide +kernel
theorem dX1_setWanted_6 : decode cX1_setWanted 6 = .ok (.imul, 1) := by decide +kernel
theorem dX1_setWanted_7 : decode cX1_setWanted 7 = .ok (.iload_n 2, 1) := by decide +kernel
theorem dX1_setWanted_8 : decode cX1_setWanted 8 = .ok (.iadd, 1) := by decide +kernel
theorem dX1_setWanted_9 : decode cX1_setWanted 9 = .ok (.iload_n 3, 1) := by decide +kernel
theorem dX1_setWanted_10 : decode cX1_setWanted 10 = .ok (.iastore, 1) := by decide +kernel
theorem dX1_setWanted_11 : decode cX1_setWanted 11 = .ok (.return_, 1) := by decide +kernel
theorem dX1_wantedByAll_0 : decode cX1_wantedByAll 0 = .ok (.iconst 0, 1) := by decide +kernel
theorem dX1_wantedByAll_1 : decode cX1_wantedByAll 1 = .ok (.istore_n 2, 1) := by decide +kernel
theorem dX1_wantedByAll_2 : decode cX1_wantedByAll 2 = .ok (.iconst 0, 1) := by decide +kernel
theorem dX1_wantedByAll_3 : decode cX1_wantedByAll 3 = .ok (.istore_n 3, 1) := by decide +kernel
theorem dX1_wantedByAll_4 : decode cX1_wantedByAll 4 = .ok (.iload_n 3, 1) := by decide +kernel
theorem dX1_wantedByAll_5 : decode cX1_wantedByAll 5 = .ok (.aload_n 0, 1) := by decide +kernel
theorem dX1_wantedByAll_6 : decode cX1_wantedByAll 6 = .ok (.getfield 31, 3) := by decide +kernel
theorem dX1_wantedByAll_9 : decode cX1_wantedByAll 9 = .ok (.if_icmp .ge 18, 3) := by decide +kernel
theorem dX1_wantedByAll_12 : decode cX1_wantedByAll 12 = .ok (.iload_n 2, 1) := by decide +kernel
theorem dX1_wantedByAll_13 : decode cX1_wantedByAll 13 = .ok (.aload_n 0, 1) := by decide +kernel
theorem dX1_wantedByAll_14 : decode cX1_wantedByAll 14 = .ok (.iload_n 3, 1) := by decide +kernel
theorem dX1_wantedByAll_15 : decode cX1_wantedByAll 15 = .ok (.iload_n 1, 1) := by decide +kernel
theorem dX1_wantedByAll_16 : decode cX1_wantedByAll 16 = .ok (.invokevirtual 35, 3) := by decide +kernel
theorem dX1_wantedByAll_19 : decode cX1_wantedByAll 19 = .ok (.iadd, 1) := by decide +kernel
theorem dX1_wantedByAll_20 : decode cX1_wantedByAll 20 = .ok (.istore_n 2, 1) := by decide +kernel
theorem dX1_wantedByAll_21 : decode cX1_wantedByAll 21 = .ok (.iinc 3 1, 3) := by decide +kernel
theorem dX1_wantedByAll_24 : decode cX1_wantedByAll 24 = .ok (.goto (-20), 3) := by decide +kernel
theorem dX1_wantedByAll_27 : decode cX1_wantedByAll 27 = .ok (.iload_n 2, 1) := by decide +kernel
theorem dX1_wantedByAll_28 : decode cX1_wantedByAll 28 = .ok (.ireturn, 1) := by decide +kernel
theorem dX1_lackedOf_0 : decode cX1_lackedOf 0 = .ok (.aload_n 0, 1) := by decide +kernel
theorem dX1_lackedOf_1 : decode cX1_lackedOf 1 = .ok (.getfield 28, 3) := by decide +kernel
theorem dX1_lackedOf_4 : decode cX1_lackedOf 4 = .ok (.iload_n 1, 1) := by decide +kernel
theorem dX1_lackedOf_5 : decode cX1_lackedOf 5 = .ok (.iaload, 1) := by decide +kernel
theorem dX1_lackedOf_6 : decode cX1_lackedOf 6 = .ok (.ireturn, 1) := by decide +kernel
theorem dX1_addLacked_0 : decode cX1_addLacked 0 = .ok (.aload_n 0, 1) := by decide +kernel
theorem dX1_addLacked_1 : decode cX1_addLacked 1 = .ok (.getfield 28, 3) := by decide +kernel
theorem dX1_addLacked_4 : decode cX1_addLacked 4 = .ok (.iload_n 1, 1) := by decide +kernel
theorem dX1_addLacked_5 : decode cX1_addLacked 5 = .ok (.dup2, 1) := by decide +kernel
theorem dX1_addLacked_6 : decode cX1_addLacked 6 = .ok (.iaload, 1) := by decide +kernel
theorem dX1_addLacked_7 : decode cX1_addLacked 7 = .ok (.iload_n 2, 1) := by decide +kernel
theorem dX1_addLacked_8 : decode cX1_addLacked 8 = .ok (.iadd, 1) := by decide +kernel
theorem dX1_addLacked_9 : decode cX1_addLacked 9 = .ok (.iastore, 1) := by decide +kernel
theorem dX1_addLacked_10 : decode cX1_addLacked 10 = .ok (.return_, 1) := by decide +kernel
theorem dX2_init_0 : decode cX2_init 0 = .ok (.aload_n 0, 1) := by decide +kernel
theorem dX2_init_1 : decode cX2_init 1 = .ok (.invokespecial 3, 3) := by decide +kernel
theorem dX2_init_4 : decode cX2_init 4 = .ok (.aload_n 0, 1) := by decide +kernel
theorem dX2_init_5 : decode cX2_init 5 = .ok (.bipush 14, 2) := by decide +kernel
theorem dX2_init_7 : decode cX2_init 7 = .ok (.newarray .int, 2) := by decide +kernel
theorem dX2_init_9 : decode cX2_init 9 = .ok (.putfield 9, 3) := by decide +kernel
theorem dX2_init_12 : decode cX2_init 12 = .ok (.aload_n 0, 1) := by decide +kernel
theorem dX2_init_13 : decode cX2_init 13 = .ok (.aload_n 1, 1) := by decide +kernel
theorem dX2_init_14 : decode cX2_init 14 = .ok (.putfield 15, 3) := by decide +kernel
theorem dX2_init_17 : decode cX2_init 17 = .ok (.aload_n 0, 1) := by decide +kernel
theorem dX2_init_18 : decode cX2_init 18 = .ok (.aload_n 2, 1) := by decide +kernel
theorem dX2_init_19 : decode cX2_init 19 = .ok (.putfield 19, 3) := by decide +kernel
theorem dX2_init_22 : decode cX2_init 22 = .ok (.aload_n 0, 1) := by decide +kernel
theorem dX2_init_23 : decode cX2_init 23 = .ok (.aload_n 3, 1) := by decide +kernel
theorem dX2_init_24 : decode cX2_init 24 = .ok (.putfield 23, 3) := by decide +kernel
theorem dX2_init_27 : decode cX2_init 27 = .ok (.return_, 1) := by decide +kernel
theorem dX2_mayBe_0 : decode cX2_mayBe 0 = .ok (.aload_n 0, 1) := by decide +kernel
theorem dX2_mayBe_1 : decode cX2_mayBe 1 = .ok (.getfield 19, 3) := by decide +kernel
theorem dX2_mayBe_4 : decode cX2_mayBe 4 = .ok (.iload_n 2, 1) := by decide +kernel
theorem dX2_mayBe_5 : decode cX2_mayBe 5 = .ok (.iload 4, 2) := by decide +kernel
theorem dX2_mayBe_7 : decode cX2_mayBe 7 = .ok (.invokevirtual 27, 3) := by decide +kernel
theorem dX2_mayBe_10 : decode cX2_mayBe 10 = .ok (.ifCond .ne 5, 3) := by decide +kernel
theorem dX2_mayBe_13 : decode cX2_mayBe 13 = .ok (.iconst 0, 1) := by decide +kernel
theorem dX2_mayBe_14 : decode cX2_mayBe 14 = .ok (.ireturn, 1) := by decide +kernel
theorem dX2_mayBe_15 : decode cX2_mayBe 15 = .ok (.aload_n 0, 1) := by decide +kernel
theorem dX2_mayBe_16 : decode cX2_mayBe 16 = .ok (.iload_n 1, 1) := by decide +kernel
theorem dX2_mayBe_17 : decode cX2_mayBe 17 = .ok (.iload_n 2, 1) := by decide +kernel
theorem dX2_mayBe_18 : decode cX2_mayBe 18 = .ok (.iload_n 3, 1) := by decide +kernel
theorem dX2_mayBe_19 : decode cX2_mayBe 19 = .ok (.iload 4, 2) := by decide +kernel
theorem dX2_mayBe_21 : decode cX2_mayBe 21 = .ok (.invokevirtual 33, 3) := by decide +kernel
theorem dX2_mayBe_24 : decode cX2_mayBe 24 = .ok (.aload_n 0, 1) := by decide +kernel
theorem dX2_mayBe_25 : decode cX2_mayBe 25 = .ok (.getfield 23, 3) := by decide +kernel
theorem dX2_mayBe_28 : decode cX2_mayBe 28 = .ok (.iconst 0, 1) := by decide +kernel
theorem dX2_mayBe_29 : decode cX2_mayBe 29 = .ok (.aload_n 0, 1) := by decide +kernel
theorem dX2_mayBe_30 : decode cX2_mayBe 30 = .ok (.getfield 9, 3) := by decide +kernel
theorem dX2_mayBe_33 : decode cX2_mayBe 33 = .ok (.invokevirtual 37, 3) := by decide +kernel
theorem dX2_mayBe_36 : decode cX2_mayBe 36 = .ok (.ireturn, 1) := by decide +kernel
theorem dX2_mayMeet_0 : decode cX2_mayMeet 0 = .ok (.aload_n 0, 1) := by decide +kernel
theorem dX2_mayMeet_1 : decode cX2_mayMeet 1 = .ok (.getfield 19, 3) := by decide +kernel
theorem dX2_mayMeet_4 : decode cX2_mayMeet 4 = .ok (.iload_n 2, 1) := by decide +kernel
theorem dX2_mayMeet_5 : decode cX2_mayMeet 5 = .ok (.iload 4, 2) := by decide +kernel
theorem dX2_mayMeet_7 : decode cX2_mayMeet 7 = .ok (.invokevirtual 43, 3) := by decide +kernel
theorem dX2_mayMeet_10 : decode cX2_mayMeet 10 = .ok (.ifCond .ne 5, 3) := by decide +kernel
theorem dX2_mayMeet_13 : decode cX2_mayMeet 13 = .ok (.iconst 1, 1) := by decide +kernel
theorem dX2_mayMeet_14 : decode cX2_mayMeet 14 = .ok (.ireturn, 1) := by decide +kernel
theorem dX2_mayMeet_15 : decode cX2_mayMeet 15 = .ok (.aload_n 0, 1) := by decide +kernel
theorem dX2_mayMeet_16 : decode cX2_mayMeet 16 = .ok (.getfield 9, 3) := by decide +kernel
theorem dX2_mayMeet_19 : decode cX2_mayMeet 19 = .ok (.bipush 8, 2) := by decide +kernel
theorem dX2_mayMeet_21 : decode cX2_mayMeet 21 = .ok (.iload_n 2, 1) := by decide +kernel
theorem dX2_mayMeet_22 : decode cX2_mayMeet 22 = .ok (.iload 4, 2) := by decide +kernel
theorem dX2_mayMeet_24 : decode cX2_mayMeet 24 = .ok (.if_icmp .ne 7, 3) := by decide +kernel
theorem dX2_mayMeet_27 : decode cX2_mayMeet 27 = .ok (.iconst 0, 1) := by decide +kernel
theorem dX2_mayMeet_28 : decode cX2_mayMeet 28 = .ok (.goto 4, 3) := by decide +kernel
theorem dX2_mayMeet_31 : decode cX2_mayMeet 31 = .ok (.iconst 1, 1) := by decide +kernel
theorem dX2_mayMeet_32 : decode cX2_mayMeet 32 = .ok (.iastore, 1) := by decide +kernel
theorem dX2_mayMeet_33 : decode cX2_mayMeet 33 = .ok (.aload_n 0, 1) := by decide +kernel
theorem dX2_mayMeet_34 : decode cX2_mayMeet 34 = .ok (.iload_n 1, 1) := by decide +kernel
theorem dX2_mayMeet_35 : decode cX2_mayMeet 35 = .ok (.iload_n 2, 1) := by decide +kernel
theorem dX2_mayMeet_36 : decode cX2_mayMeet 36 = .ok (.iload 5, 2) := by decide +kernel
theorem dX2_mayMeet_38 : decode cX2_mayMeet 38 = .ok (.iload 6, 2) := by decide +kernel
theorem dX2_mayMeet_40 : decode cX2_mayMeet 40 = .ok (.invokevirtual 33, 3) := by decide +kernel
theorem dX2_mayMeet_43 : decode cX2_mayMeet 43 = .ok (.aload_n 0, 1) := by decide +kernel
theorem dX2_mayMeet_44 : decode cX2_mayMeet 44 = .ok (.iload_n 3, 1) := by decide +kernel
theorem dX2_mayMeet_45 : decode cX2_mayMeet 45 = .ok (.iload 6, 2) := by decide +kernel
theorem dX2_mayMeet_47 : decode cX2_mayMeet 47 = .ok (.invokevirtual 46, 3) := by decide +kernel
theorem dX2_mayMeet_50 : decode cX2_mayMeet 50 = .ok (.aload_n 0, 1) := by decide +kernel
theorem dX2_mayMeet_51 : decode cX2_mayMeet 51 = .ok (.getfield 23, 3) := by decide +kernel
theorem dX2_mayMeet_54 : decode cX2_mayMeet 54 = .ok (.iconst 1, 1) := by decide +kernel
theorem dX2_mayMeet_55 : decode cX2_mayMeet 55 = .ok (.aload_n 0, 1) := by decide +kernel
theorem dX2_mayMeet_56 : decode cX2_mayMeet 56 = .ok (.getfield 9, 3) := by decide +kernel
theorem dX2_mayMeet_59 : decode cX2_mayMeet 59 = .ok (.invokevirtual 37, 3) := by decide +kernel
theorem dX2_mayMeet_62 : decode cX2_mayMeet 62 = .ok (.ifCond .ne 5, 3) := by decide +kernel
theorem dX2_mayMeet_65 : decode cX2_mayMeet 65 = .ok (.iconst 0, 1) := by decide +kernel
theorem dX2_mayMeet_66 : decode cX2_mayMeet 66 = .ok (.ireturn, 1) := by decide +kernel
theorem dX2_mayMeet_67 : decode cX2_mayMeet 67 = .ok (.aload_n 0, 1) := by decide +kernel
theorem dX2_mayMeet_68 : decode cX2_mayMeet 68 = .ok (.iload_n 3, 1) := by decide +kernel
theorem dX2_mayMeet_69 : decode cX2_mayMeet 69 = .ok (.iload 4, 2) := by decide +kernel
theorem dX2_mayMeet_71 : decode cX2_mayMeet 71 = .ok (.iload 5, 2) := by decide +kernel
theorem dX2_mayMeet_73 : decode cX2_mayMeet 73 = .ok (.iload 6, 2) := by decide +kernel
theorem dX2_mayMeet_75 : decode cX2_mayMeet 75 = .ok (.invokevirtual 33, 3) := by decide +kernel
theorem dX2_mayMeet_78 : decode cX2_mayMeet 78 = .ok (.aload_n 0, 1) := by decide +kernel
theorem dX2_mayMeet_79 : decode cX2_mayMeet 79 = .ok (.iload_n 1, 1) := by decide +kernel
theorem dX2_mayMeet_80 : decode cX2_mayMeet 80 = .ok (.iload 6, 2) := by decide +kernel
theorem dX2_mayMeet_82 : decode cX2_mayMeet 82 = .ok (.invokevirtual 46, 3) := by decide +kernel
theorem dX2_mayMeet_85 : decode cX2_mayMeet 85 = .ok (.aload_n 0, 1) := by decide +kernel
theorem dX2_mayMeet_86 : decode cX2_mayMeet 86 = .ok (.getfield 23, 3) := by decide +kernel
theorem dX2_mayMeet_89 : decode cX2_mayMeet 89 = .ok (.iconst 1, 1) := by decide +kernel
theorem dX2_mayMeet_90 : decode cX2_mayMeet 90 = .ok (.aload_n 0, 1) := by decide +kernel
theorem dX2_mayMeet_91 : decode cX2_mayMeet 91 = .ok (.getfield 9, 3) := by decide +kernel
theorem dX2_mayMeet_94 : decode cX2_mayMeet 94 = .ok (.invokevirtual 37, 3) := by decide +kernel
theorem dX2_mayMeet_97 : decode cX2_mayMeet 97 = .ok (.ireturn, 1) := by decide +kernel
theorem dX2_tellOfOne_0 : decode cX2_tellOfOne 0 = .ok (.aload_n 0, 1) := by decide +kernel
theorem dX2_tellOfOne_1 : decode cX2_tellOfOne 1 = .ok (.getfield 9, 3) := by decide +kernel
theorem dX2_tellOfOne_4 : decode cX2_tellOfOne 4 = .ok (.iconst 0, 1) := by decide +kernel
theorem dX2_tellOfOne_5 : decode cX2_tellOfOne 5 = .ok (.iload_n 1, 1) := by decide +kernel
theorem dX2_tellOfOne_6 : decode cX2_tellOfOne 6 = .ok (.iastore, 1) := by decide +kernel
theorem dX2_tellOfOne_7 : decode cX2_tellOfOne 7 = .ok (.aload_n 0, 1) := by decide +kernel
theorem dX2_tellOfOne_8 : decode cX2_tellOfOne 8 = .ok (.getfield 9, 3) := by decide +kernel
theorem dX2_tellOfOne_11 : decode cX2_tellOfOne 11 = .ok (.iconst 1, 1) := by decide +kernel
theorem dX2_tellOfOne_12 : decode cX2_tellOfOne 12 = .ok (.aload_n 0, 1) := by decide +kernel
theorem dX2_tellOfOne_13 : decode cX2_tellOfOne 13 = .ok (.getfield 15, 3) := by decide +kernel
theorem dX2_tellOfOne_16 : decode cX2_tellOfOne 16 = .ok (.iload_n 1, 1) := by decide +kernel
theorem dX2_tellOfOne_17 : decode cX2_tellOfOne 17 = .ok (.invokevirtual 50, 3) := by decide +kernel
theorem dX2_tellOfOne_20 : decode cX2_tellOfOne 20 = .ok (.iastore, 1) := by decide +kernel
theorem dX2_tellOfOne_21 : decode cX2_tellOfOne 21 = .ok (.aload_n 0, 1) := by decide +kernel
theorem dX2_tellOfOne_22 : decode cX2_tellOfOne 22 = .ok (.getfield 9, 3) := by decide +kernel
theorem dX2_tellOfOne_25 : decode cX2_tellOfOne 25 = .ok (.iconst 2, 1) := by decide +kernel
theorem dX2_tellOfOne_26 : decode cX2_tellOfOne 26 = .ok (.aload_n 0, 1) := by decide +kernel
theorem dX2_tellOfOne_27 : decode cX2_tellOfOne 27 = .ok (.getfield 15, 3) := by decide +kernel
theorem dX2_tellOfOne_30 : decode cX2_tellOfOne 30 = .ok (.iload_n 1, 1) := by decide +kernel
theorem dX2_tellOfOne_31 : decode cX2_tellOfOne 31 = .ok (.invokevirtual 56, 3) := by decide +kernel
theorem dX2_tellOfOne_34 : decode cX2_tellOfOne 34 = .ok (.iastore, 1) := by decide +kernel
theorem dX2_tellOfOne_35 : decode cX2_tellOfOne 35 = .ok (.aload_n 0, 1) := by decide +kernel
theorem dX2_tellOfOne_36 : decode cX2_tellOfOne 36 = .ok (.getfield 9, 3) := by decide +kernel
theorem dX2_tellOfOne_39 : decode cX2_tellOfOne 39 = .ok (.iconst 3, 1) := by decide +kernel
theorem dX2_tellOfOne_40 : decode cX2_tellOfOne 40 = .ok (.iload 4, 2) := by decide +kernel
theorem dX2_tellOfOne_42 : decode cX2_tellOfOne 42 = .ok (.aload_n 0, 1) := by decide +kernel
theorem dX2_tellOfOne_43 : decode cX2_tellOfOne 43 = .ok (.getfield 15, 3) := by decide +kernel
theorem dX2_tellOfOne_46 : decode cX2_tellOfOne 46 = .ok (.iload_n 1, 1) := by decide +kernel
theorem dX2_tellOfOne_47 : decode cX2_tellOfOne 47 = .ok (.invokevirtual 59, 3) := by decide +kernel
theorem dX2_tellOfOne_50 : decode cX2_tellOfOne 50 = .ok (.isub, 1) := by decide +kernel
theorem dX2_tellOfOne_51 : decode cX2_tellOfOne 51 = .ok (.iastore, 1) := by decide +kernel
theorem dX2_tellOfOne_52 : decode cX2_tellOfOne 52 = .ok (.aload_n 0, 1) := by decide +kernel
theorem dX2_tellOfOne_53 : decode cX2_tellOfOne 53 = .ok (.getfield 9, 3) := by decide +kernel
theorem dX2_tellOfOne_56 : decode cX2_tellOfOne 56 = .ok (.iconst 4, 1) := by decide +kernel
theorem dX2_tellOfOne_57 : decode cX2_tellOfOne 57 = .ok (.aload_n 0, 1) := by decide +kernel
theorem dX2_tellOfOne_58 : decode cX2_tellOfOne 58 = .ok (.getfield 15, 3) := by decide +kernel
theorem dX2_tellOfOne_61 : decode cX2_tellOfOne 61 = .ok (.iload_n 1, 1) := by decide +kernel
theorem dX2_tellOfOne_62 : decode cX2_tellOfOne 62 = .ok (.invokevirtual 62, 3) := by decide +kernel
theorem dX2_tellOfOne_65 : decode cX2_tellOfOne 65 = .ok (.ifCond .eq 7, 3) := by decide +kernel
theorem dX2_tellOfOne_68 : decode cX2_tellOfOne 68 = .ok (.iconst 1, 1) := by decide +kernel
theorem dX2_tellOfOne_69 : decode cX2_tellOfOne 69 = .ok (.goto 4, 3) := by decide +kernel
theorem dX2_tellOfOne_72 : decode cX2_tellOfOne 72 = .ok (.iconst 0, 1) := by decide +kernel
theorem dX2_tellOfOne_73 : decode cX2_tellOfOne 73 = .ok (.iastore, 1) := by decide +kernel
theorem dX2_tellOfOne_74 : decode cX2_tellOfOne 74 = .ok (.aload_n 0, 1) := by decide +kernel
theorem dX2_tellOfOne_75 : decode cX2_tellOfOne 75 = .ok (.getfield 9, 3) := by decide +kernel
theorem dX2_tellOfOne_78 : decode cX2_tellOfOne 78 = .ok (.iconst 5, 1) := by decide +kernel
theorem dX2_tellOfOne_79 : decode cX2_tellOfOne 79 = .ok (.iload_n 2, 1) := by decide +kernel
theorem dX2_tellOfOne_80 : decode cX2_tellOfOne 80 = .ok (.iastore, 1) := by decide +kernel
theorem dX2_tellOfOne_81 : decode cX2_tellOfOne 81 = .ok (.aload_n 0, 1) := by decide +kernel
theorem dX2_tellOfOne_82 : decode cX2_tellOfOne 82 = .ok (.getfield 9, 3) := by decide +kernel
theorem dX2_tellOfOne_85 : decode cX2_tellOfOne 85 = .ok (.bipush 6, 2) := by decide +kernel
theorem dX2_tellOfOne_87 : decode cX2_tellOfOne 87 = .ok (.aload_n 0, 1) := by decide +kernel
theorem dX2_tellOfOne_88 : decode cX2_tellOfOne 88 = .ok (.getfield 19, 3) := by decide +kernel
theorem dX2_tellOfOne_91 : decode cX2_tellOfOne 91 = .ok (.iload_n 2, 1) := by decide +kernel
theorem dX2_tellOfOne_92 : decode cX2_tellOfOne 92 = .ok (.invokevirtual 66, 3) := by decide +kernel
theorem dX2_tellOfOne_95 : decode cX2_tellOfOne 95 = .ok (.iastore, 1) := by decide +kernel
theorem dX2_tellOfOne_96 : decode cX2_tellOfOne 96 = .ok (.aload_n 0, 1) := by decide +kernel
theorem dX2_tellOfOne_97 : decode cX2_tellOfOne 97 = .ok (.getfield 9, 3) := by decide +kernel
theorem dX2_tellOfOne_100 : decode cX2_tellOfOne 100 = .ok (.bipush 7, 2) := by decide +kernel
theorem dX2_tellOfOne_102 : decode cX2_tellOfOne 102 = .ok (.iload_n 3, 1) := by decide +kernel
theorem dX2_tellOfOne_103 : decode cX2_tellOfOne 103 = .ok (.iastore, 1) := by decide +kernel
theorem dX2_tellOfOne_104 : decode cX2_tellOfOne 104 = .ok (.return_, 1) := by decide +kernel
theorem dX2_tellOfOther_0 : decode cX2_tellOfOther 0 = .ok (.aload_n 0, 1) := by decide +kernel
theorem dX2_tellOfOther_1 : decode cX2_tellOfOther 1 = .ok (.getfield 9, 3) := by decide +kernel
theorem dX2_tellOfOther_4 : decode cX2_tellOfOther 4 = .ok (.bipush 9, 2) := by decide +kernel
theorem dX2_tellOfOther_6 : decode cX2_tellOfOther 6 = .ok (.iload_n 1, 1) := by decide +kernel
theorem dX2_tellOfOther_7 : decode cX2_tellOfOther 7 = .ok (.iastore, 1) := by decide +kernel
theorem dX2_tellOfOther_8 : decode cX2_tellOfOther 8 = .ok (.aload_n 0, 1) := by decide +kernel
theorem dX2_tellOfOther_9 : decode cX2_tellOfOther 9 = .ok (.getfield 9, 3) := by decide +kernel
theorem dX2_tellOfOther_12 : decode cX2_tellOfOther 12 = .ok (.bipush 10, 2) := by decide +kernel
theorem dX2_tellOfOther_14 : decode cX2_tellOfOther 14 = .ok (.aload_n 0, 1) := by decide +kernel
theorem dX2_tellOfOther_15 : decode cX2_tellOfOther 15 = .ok (.getfield 15, 3) := by decide +kernel
theorem dX2_tellOfOther_18 : decode cX2_tellOfOther 18 = .ok (.iload_n 1, 1) := by decide +kernel
theorem dX2_tellOfOther_19 : decode cX2_tellOfOther 19 = .ok (.invokevirtual 50, 3) := by decide +kernel
theorem dX2_tellOfOther_22 : decode cX2_tellOfOther 22 = .ok (.iastore, 1) := by decide +kernel
theorem dX2_tellOfOther_23 : decode cX2_tellOfOther 23 = .ok (.aload_n 0, 1) := by decide +kernel
theorem dX2_tellOfOther_24 : decode cX2_tellOfOther 24 = .ok (.getfield 9, 3) := by decide +kernel
theorem dX2_tellOfOther_27 : decode cX2_tellOfOther 27 = .ok (.bipush 11, 2) := by decide +kernel
theorem dX2_tellOfOther_29 : decode cX2_tellOfOther 29 = .ok (.aload_n 0, 1) := by decide +kernel
theorem dX2_tellOfOther_30 : decode cX2_tellOfOther 30 = .ok (.getfield 15, 3) := by decide +kernel
theorem dX2_tellOfOther_33 : decode cX2_tellOfOther 33 = .ok (.iload_n 1, 1) := by decide +kernel
theorem dX2_tellOfOther_34 : decode cX2_tellOfOther 34 = .ok (.invokevirtual 56, 3) := by decide +kernel
theorem dX2_tellOfOther_37 : decode cX2_tellOfOther 37 = .ok (.iastore, 1) := by decide +kernel
theorem dX2_tellOfOther_38 : decode cX2_tellOfOther 38 = .ok (.aload_n 0, 1) := by decide +kernel
theorem dX2_tellOfOther_39 : decode cX2_tellOfOther 39 = .ok (.getfield 9, 3) := by decide +kernel
theorem dX2_tellOfOther_42 : decode cX2_tellOfOther 42 = .ok (.bipush 12, 2) := by decide +kernel
theorem dX2_tellOfOther_44 : decode cX2_tellOfOther 44 = .ok (.iload_n 2, 1) := by decide +kernel
theorem dX2_tellOfOther_45 : decode cX2_tellOfOther 45 = .ok (.aload_n 0, 1) := by decide +kernel
theorem dX2_tellOfOther_46 : decode cX2_tellOfOther 46 = .ok (.getfield 15, 3) := by decide +kernel
theorem dX2_tellOfOther_49 : decode cX2_tellOfOther 49 = .ok (.iload_n 1, 1) := by decide +kernel
theorem dX2_tellOfOther_50 : decode cX2_tellOfOther 50 = .ok (.invokevirtual 59, 3) := by decide +kernel
theorem dX2_tellOfOther_53 : decode cX2_tellOfOther 53 = .ok (.isub, 1) := by decide +kernel
theorem dX2_tellOfOther_54 : decode cX2_tellOfOther 54 = .ok (.iastore, 1) := by decide +kernel
theorem dX2_tellOfOther_55 : decode cX2_tellOfOther 55 = .ok (.aload_n 0, 1) := by decide +kernel
theorem dX2_tellOfOther_56 : decode cX2_tellOfOther 56 = .ok (.getfield 9, 3) := by decide +kernel
theorem dX2_tellOfOther_59 : decode cX2_tellOfOther 59 = .ok (.bipush 13, 2) := by decide +kernel
theorem dX2_tellOfOther_61 : decode cX2_tellOfOther 61 = .ok (.aload_n 0, 1) := by decide +kernel
theorem dX2_tellOfOther_62 : decode cX2_tellOfOther 62 = .ok (.getfield 15, 3) := by decide +kernel
theorem dX2_tellOfOther_65 : decode cX2_tellOfOther 65 = .ok (.iload_n 1, 1) := by decide +kernel
theorem dX2_tellOfOther_66 : decode cX2_tellOfOther 66 = .ok (.invokevirtual 62, 3) := by decide +kernel
theorem dX2_tellOfOther_69 : decode cX2_tellOfOther 69 = .ok (.ifCond .eq 7, 3) := by decide +kernel
theorem dX2_tellOfOther_72 : decode cX2_tellOfOther 72 = .ok (.iconst 1, 1) := by decide +kernel
theorem dX2_tellOfOther_73 : decode cX2_tellOfOther 73 = .ok (.goto 4, 3) := by decide +kernel
theorem dX2_tellOfOther_76 : decode cX2_tellOfOther 76 = .ok (.iconst 0, 1) := by decide +kernel
theorem dX2_tellOfOther_77 : decode cX2_tellOfOther 77 = .ok (.iastore, 1) := by decide +kernel
theorem dX2_tellOfOther_78 : decode cX2_tellOfOther 78 = .ok (.return_, 1) := by decide +kernel
theorem dX3_init_0 : decode cX3_init 0 = .ok (.aload_n 0, 1) := by decide +kernel
theorem dX3_init_1 : decode cX3_init 1 = .ok (.invokespecial 3, 3) := by decide +kernel
theorem dX3_init_4 : decode cX3_init 4 = .ok (.aload_n 0, 1) := by decide +kernel
theorem dX3_init_5 : decode cX3_init 5 = .ok (.bipush 6, 2) := by decide +kernel
theorem dX3_init_7 : decode cX3_init 7 = .ok (.newarray .int, 2) := by decide +kernel
theorem dX3_init_9 : decode cX3_init 9 = .ok (.putfield 9, 3) := by decide +kernel
theorem dX3_init_12 : decode cX3_init 12 = .ok (.aload_n 0, 1) := by decide +kernel
theorem dX3_init_13 : decode cX3_init 13 = .ok (.bipush 6, 2) := by decide +kernel
theorem dX3_init_15 : decode cX3_init 15 = .ok (.newarray .int, 2) := by decide +kernel
theorem dX3_init_17 : decode cX3_init 17 = .ok (.putfield 15, 3) := by decide +kernel
theorem dX3_init_20 : decode cX3_init 20 = .ok (.aload_n 0, 1) := by decide +kernel
theorem dX3_init_21 : decode cX3_init 21 = .ok (.bipush 6, 2) := by decide +kernel
theorem dX3_init_23 : decode cX3_init 23 = .ok (.newarray .int, 2) := by decide +kernel
theorem dX3_init_25 : decode cX3_init 25 = .ok (.putfield 18, 3) := by decide +kernel
theorem dX3_init_28 : decode cX3_init 28 = .ok (.aload_n 0, 1) := by decide +kernel
theorem dX3_init_29 : decode cX3_init 29 = .ok (.bipush 36, 2) := by decide +kernel
theorem dX3_init_31 : decode cX3_init 31 = .ok (.newarray .boolean, 2) := by decide +kernel
theorem dX3_init_33 : decode cX3_init 33 = .ok (.putfield 21, 3) := by decide +kernel
theorem dX3_init_36 : decode cX3_init 36 = .ok (.return_, 1) := by decide +kernel
theorem dX3_lay_0 : decode cX3_lay 0 = .ok (.aload_n 0, 1) := by decide +kernel
theorem dX3_lay_1 : decode cX3_lay 1 = .ok (.getfield 9, 3) := by decide +kernel
theorem dX3_lay_4 : decode cX3_lay 4 = .ok (.iload_n 1, 1) := by decide +kernel
theorem dX3_lay_5 : decode cX3_lay 5 = .ok (.iload_n 2, 1) := by decide +kernel
theorem dX3_lay_6 : decode cX3_lay 6 = .ok (.iastore, 1) := by decide +kernel
theorem dX3_lay_7 : decode cX3_lay 7 = .ok (.aload_n 0, 1) := by decide +kernel
theorem dX3_lay_8 : decode cX3_lay 8 = .ok (.getfield 15, 3) := by decide +kernel
theorem dX3_lay_11 : decode cX3_lay 11 = .ok (.iload_n 1, 1) := by decide +kernel
theorem dX3_lay_12 : decode cX3_lay 12 = .ok (.iload_n 3, 1) := by decide +kernel
theorem dX3_lay_13 : decode cX3_lay 13 = .ok (.iastore, 1) := by decide +kernel
theorem dX3_lay_14 : decode cX3_lay 14 = .ok (.return_, 1) := by decide +kernel
theorem dX3_close_0 : decode cX3_close 0 = .ok (.aload_n 0, 1) := by decide +kernel
theorem dX3_close_1 : decode cX3_close 1 = .ok (.getfield 18, 3) := by decide +kernel
theorem dX3_close_4 : decode cX3_close 4 = .ok (.iload_n 1, 1) := by decide +kernel
theorem dX3_close_5 : decode cX3_close 5 = .ok (.iload_n 2, 1) := by decide +kernel
theorem dX3_close_6 : decode cX3_close 6 = .ok (.iastore, 1) := by decide +kernel
theorem dX3_close_7 : decode cX3_close 7 = .ok (.return_, 1) := by decide +kernel
theorem dX3_setGate_0 : decode cX3_setGate 0 = .ok (.aload_n 0, 1) := by decide +kernel
theorem dX3_setGate_1 : decode cX3_setGate 1 = .ok (.getfield 21, 3) := by decide +kernel
theorem dX3_setGate_4 : decode cX3_setGate 4 = .ok (.iload_n 1, 1) := by decide +kernel
theorem dX3_setGate_5 : decode cX3_setGate 5 = .ok (.bipush 6, 2) := by decide +kernel
theorem dX3_setGate_7 : decode cX3_setGate 7 = .ok (.imul, 1) := by decide +kernel
theorem dX3_setGate_8 : decode cX3_setGate 8 = .ok (.iload_n 2, 1) := by decide +kernel
theorem dX3_setGate_9 : decode cX3_setGate 9 = .ok (.iadd, 1) := by decide +kernel
theorem dX3_setGate_10 : decode cX3_setGate 10 = .ok (.iload_n 3, 1) := by decide +kernel
theorem dX3_setGate_11 : decode cX3_setGate 11 = .ok (.bastore, 1) := by decide +kernel
theorem dX3_setGate_12 : decode cX3_setGate 12 = .ok (.aload_n 0, 1) := by decide +kernel
theorem dX3_setGate_13 : decode cX3_setGate 13 = .ok (.getfield 21, 3) := by decide +kernel
theorem dX3_setGate_16 : decode cX3_setGate 16 = .ok (.iload_n 2, 1) := by decide +kernel
theorem dX3_setGate_17 : decode cX3_setGate 17 = .ok (.bipush 6, 2) := by decide +kernel
theorem dX3_setGate_19 : decode cX3_setGate 19 = .ok (.imul, 1) := by decide +kernel
theorem dX3_setGate_20 : decode cX3_setGate 20 = .ok (.iload_n 1, 1) := by decide +kernel
theorem dX3_setGate_21 : decode cX3_setGate 21 = .ok (.iadd, 1) := by decide +kernel
theorem dX3_setGate_22 : decode cX3_setGate 22 = .ok (.iload_n 3, 1) := by decide +kernel
theorem dX3_setGate_23 : decode cX3_setGate 23 = .ok (.bastore, 1) := by decide +kernel
theorem dX3_setGate_24 : decode cX3_setGate 24 = .ok (.return_, 1) := by decide +kernel
theorem dX3_roomOf_0 : decode cX3_roomOf 0 = .ok (.aload_n 0, 1) := by decide +kernel
theorem dX3_roomOf_1 : decode cX3_roomOf 1 = .ok (.getfield 9, 3) := by decide +kernel
theorem dX3_roomOf_4 : decode cX3_roomOf 4 = .ok (.iload_n 1, 1) := by decide +kernel
theorem dX3_roomOf_5 : decode cX3_roomOf 5 = .ok (.iaload, 1) := by decide +kernel
theorem dX3_roomOf_6 : decode cX3_roomOf 6 = .ok (.ireturn, 1) := by decide +kernel
theorem dX3_wetOf_0 : decode cX3_wetOf 0 = .ok (.aload_n 0, 1) := by decide +kernel
theorem dX3_wetOf_1 : decode cX3_wetOf 1 = .ok (.getfield 15, 3) := by decide +kernel
theorem dX3_wetOf_4 : decode cX3_wetOf 4 = .ok (.iload_n 1, 1) := by decide +kernel
theorem dX3_wetOf_5 : decode cX3_wetOf 5 = .ok (.iaload, 1) := by decide +kernel
theorem dX3_wetOf_6 : decode cX3_wetOf 6 = .ok (.ireturn, 1) := by decide +kernel
theorem dX3_isOpen_0 : decode cX3_isOpen 0 = .ok (.aload_n 0, 1) := by decide +kernel
theorem dX3_isOpen_1 : decode cX3_isOpen 1 = .ok (.getfield 9, 3) := by decide +kernel
theorem dX3_isOpen_4 : decode cX3_isOpen 4 = .ok (.iload_n 1, 1) := by decide +kernel
theorem dX3_isOpen_5 : decode cX3_isOpen 5 = .ok (.iaload, 1) := by decide +kernel
theorem dX3_isOpen_6 : decode cX3_isOpen 6 = .ok (.ifCond .le 17, 3) := by decide +kernel
theorem dX3_isOpen_9 : decode cX3_isOpen 9 = .ok (.iload_n 2, 1) := by decide +kernel
theorem dX3_isOpen_10 : decode cX3_isOpen 10 = .ok (.aload_n 0, 1) := by decide +kernel
theorem dX3_isOpen_11 : decode cX3_isOpen 11 = .ok (.getfield 18, 3) := by decide +kernel
theorem dX3_isOpen_14 : decode cX3_isOpen 14 = .ok (.iload_n 1, 1) := by decide +kernel
theorem dX3_isOpen_15 : decode cX3_isOpen 15 = .ok (.iaload, 1) := by decide +kernel
theorem dX3_isOpen_16 : decode cX3_isOpen 16 = .ok (.if_icmp .lt 7, 3) := by decide +kernel
theorem dX3_isOpen_19 : decode cX3_isOpen 19 = .ok (.iconst 1, 1) := by decide +kernel
theorem dX3_isOpen_20 : decode cX3_isOpen 20 = .ok (.goto 4, 3) := by decide +kernel
theorem dX3_isOpen_23 : decode cX3_isOpen 23 = .ok (.iconst 0, 1) := by decide +kernel
theorem dX3_isOpen_24 : decode cX3_isOpen 24 = .ok (.ireturn, 1) := by decide +kernel
theorem dX3_touch_0 : decode cX3_touch 0 = .ok (.iload_n 1, 1) := by decide +kernel
theorem dX3_touch_1 : decode cX3_touch 1 = .ok (.iload_n 2, 1) := by decide +kernel
theorem dX3_touch_2 : decode cX3_touch 2 = .ok (.if_icmp .eq 17, 3) := by decide +kernel
theorem dX3_touch_5 : decode cX3_touch 5 = .ok (.aload_n 0, 1) := by decide +kernel
theorem dX3_touch_6 : decode cX3_touch 6 = .ok (.getfield 21, 3) := by decide +kernel
theorem dX3_touch_9 : decode cX3_touch 9 = .ok (.iload_n 1, 1) := by decide +kernel
theorem dX3_touch_10 : decode cX3_touch 10 = .ok (.bipush 6, 2) := by decide +kernel
theorem dX3_touch_12 : decode cX3_touch 12 = .ok (.imul, 1) := by decide +kernel
theorem dX3_touch_13 : decode cX3_touch 13 = .ok (.iload_n 2, 1) := by decide +kernel
theorem dX3_touch_14 : decode cX3_touch 14 = .ok (.iadd, 1) := by decide +kernel
theorem dX3_touch_15 : decode cX3_touch 15 = .ok (.baload, 1) := by decide +kernel
theorem dX3_touch_16 : decode cX3_touch 16 = .ok (.ifCond .eq 7, 3) := by decide +kernel
theorem dX3_touch_19 : decode cX3_touch 19 = .ok (.iconst 1, 1) := by decide +kernel
theorem dX3_touch_20 : decode cX3_touch 20 = .ok (.goto 4, 3) := by decide +kernel
theorem dX3_touch_23 : decode cX3_touch 23 = .ok (.iconst 0, 1) := by decide +kernel
theorem dX3_touch_24 : decode cX3_touch 24 = .ok (.ireturn, 1) := by decide +kernel
theorem dX4_init_0 : decode cX4_init 0 = .ok (.aload_n 0, 1) := by decide +kernel
theorem dX4_init_1 : decode cX4_init 1 = .ok (.invokespecial 3, 3) := by decide +kernel
theorem dX4_init_4 : decode cX4_init 4 = .ok (.aload_n 0, 1) := by decide +kernel
theorem dX4_init_5 : decode cX4_init 5 = .ok (.sipush 2000, 3) := by decide +kernel
theorem dX4_init_8 : decode cX4_init 8 = .ok (.newarray .int, 2) := by decide +kernel
theorem dX4_init_10 : decode cX4_init 10 = .ok (.putfield 9, 3) := by decide +kernel
theorem dX4_init_13 : decode cX4_init 13 = .ok (.aload_n 0, 1) := by decide +kernel
theorem dX4_init_14 : decode cX4_init 14 = .ok (.sipush 2000, 3) := by decide +kernel
theorem dX4_init_17 : decode cX4_init 17 = .ok (.newarray .int, 2) := by decide +kernel
theorem dX4_init_19 : decode cX4_init 19 = .ok (.putfield 15, 3) := by decide +kernel
theorem dX4_init_22 : decode cX4_init 22 = .ok (.aload_n 0, 1) := by decide +kernel
theorem dX4_init_23 : decode cX4_init 23 = .ok (.sipush 2000, 3) := by decide +kernel
theorem dX4_init_26 : decode cX4_init 26 = .ok (.newarray .int, 2) := by decide +kernel
theorem dX4_init_28 : decode cX4_init 28 = .ok (.putfield 18, 3) := by decide +kernel
theorem dX4_init_31 : decode cX4_init 31 = .ok (.return_, 1) := by decide +kernel
theorem dX4_count_0 : decode cX4_count 0 = .ok (.aload_n 0, 1) := by decide +kernel
theorem dX4_count_1 : decode cX4_count 1 = .ok (.getfield 21, 3) := by decide +kernel
theorem dX4_count_4 : decode cX4_count 4 = .ok (.ireturn, 1) := by decide +kernel
theorem dX4_haveRoomFor_0 : decode cX4_haveRoomFor 0 = .ok (.aload_n 0, 1) := by decide +kernel
theorem dX4_haveRoomFor_1 : decode cX4_haveRoomFor 1 = .ok (.getfield 21, 3) := by decide +kernel
theorem dX4_haveRoomFor_4 : decode cX4_haveRoomFor 4 = .ok (.iload_n 1, 1) := by decide +kernel
theorem dX4_haveRoomFor_5 : decode cX4_haveRoomFor 5 = .ok (.iadd, 1) := by decide +kernel
theorem dX4_haveRoomFor_6 : decode cX4_haveRoomFor 6 = .ok (.sipush 2000, 3) := by decide +kernel
theorem dX4_haveRoomFor_9 : decode cX4_haveRoomFor 9 = .ok (.if_icmp .gt 7, 3) := by decide +kernel
theorem dX4_haveRoomFor_12 : decode cX4_haveRoomFor 12 = .ok (.iconst 1, 1) := by decide +kernel
theorem dX4_haveRoomFor_13 : decode cX4_haveRoomFor 13 = .ok (.goto 4, 3) := by decide +kernel
theorem dX4_haveRoomFor_16 : decode cX4_haveRoomFor 16 = .ok (.iconst 0, 1) := by decide +kernel
theorem dX4_haveRoomFor_17 : decode cX4_haveRoomFor 17 = .ok (.ireturn, 1) := by decide +kernel
theorem dX4_add_0 : decode cX4_add 0 = .ok (.aload_n 0, 1) := by decide +kernel
theorem dX4_add_1 : decode cX4_add 1 = .ok (.getfield 21, 3) := by decide +kernel
theorem dX4_add_4 : decode cX4_add 4 = .ok (.sipush 2000, 3) := by decide +kernel
theorem dX4_add_7 : decode cX4_add 7 = .ok (.if_icmp .ge 43, 3) := by decide +kernel
theorem dX4_add_10 : decode cX4_add 10 = .ok (.aload_n 0, 1) := by decide +kernel
theorem dX4_add_11 : decode cX4_add 11 = .ok (.getfield 9, 3) := by decide +kernel
theorem dX4_add_14 : decode cX4_add 14 = .ok (.aload_n 0, 1) := by decide +kernel
theorem dX4_add_15 : decode cX4_add 15 = .ok (.getfield 21, 3) := by decide +kernel
theorem dX4_add_18 : decode cX4_add 18 = .ok (.iload_n 1, 1) := by decide +kernel
theorem dX4_add_19 : decode cX4_add 19 = .ok (.iastore, 1) := by decide +kernel
theorem dX4_add_20 : decode cX4_add 20 = .ok (.aload_n 0, 1) := by decide +kernel
theorem dX4_add_21 : decode cX4_add 21 = .ok (.getfield 15, 3) := by decide +kernel
theorem dX4_add_24 : decode cX4_add 24 = .ok (.aload_n 0, 1) := by decide +kernel
theorem dX4_add_25 : decode cX4_add 25 = .ok (.getfield 21, 3) := by decide +kernel
theorem dX4_add_28 : decode cX4_add 28 = .ok (.iload_n 2, 1) := by decide +kernel
theorem dX4_add_29 : decode cX4_add 29 = .ok (.iastore, 1) := by decide +kernel
theorem dX4_add_30 : decode cX4_add 30 = .ok (.aload_n 0, 1) := by decide +kernel
theorem dX4_add_31 : decode cX4_add 31 = .ok (.getfield 18, 3) := by decide +kernel
theorem dX4_add_34 : decode cX4_add 34 = .ok (.aload_n 0, 1) := by decide +kernel
theorem dX4_add_35 : decode cX4_add 35 = .ok (.getfield 21, 3) := by decide +kernel
theorem dX4_add_38 : decode cX4_add 38 = .ok (.iload_n 3, 1) := by decide +kernel
theorem dX4_add_39 : decode cX4_add 39 = .ok (.iastore, 1) := by decide +kernel
theorem dX4_add_40 : decode cX4_add 40 = .ok (.aload_n 0, 1) := by decide +kernel
theorem dX4_add_41 : decode cX4_add 41 = .ok (.dup, 1) := by decide +kernel
theorem dX4_add_42 : decode cX4_add 42 = .ok (.getfield 21, 3) := by decide +kernel
theorem dX4_add_45 : decode cX4_add 45 = .ok (.iconst 1, 1) := by decide +kernel
theorem dX4_add_46 : decode cX4_add 46 = .ok (.iadd, 1) := by decide +kernel
theorem dX4_add_47 : decode cX4_add 47 = .ok (.putfield 21, 3) := by decide +kernel
theorem dX4_add_50 : decode cX4_add 50 = .ok (.return_, 1) := by decide +kernel
theorem dX4_cost_0 : decode cX4_cost 0 = .ok (.iconst 0, 1) := by decide +kernel
theorem dX4_cost_1 : decode cX4_cost 1 = .ok (.istore 5, 2) := by decide +kernel
theorem dX4_cost_3 : decode cX4_cost 3 = .ok (.iload_n 3, 1) := by decide +kernel
theorem dX4_cost_4 : decode cX4_cost 4 = .ok (.iload 4, 2) := by decide +kernel
theorem dX4_cost_6 : decode cX4_cost 6 = .ok (.invokestatic 25, 3) := by decide +kernel
theorem dX4_cost_9 : decode cX4_cost 9 = .ok (.istore 6, 2) := by decide +kernel
theorem dX4_cost_11 : decode cX4_cost 11 = .ok (.iconst 0, 1) := by decide +kernel
theorem dX4_cost_12 : decode cX4_cost 12 = .ok (.istore 7, 2) := by decide +kernel
theorem dX4_cost_14 : decode cX4_cost 14 = .ok (.iload 7, 2) := by decide +kernel
theorem dX4_cost_16 : decode cX4_cost 16 = .ok (.aload_n 0, 1) := by decide +kernel
theorem dX4_cost_17 : decode cX4_cost 17 = .ok (.getfield 21, 3) := by decide +kernel
theorem dX4_cost_20 : decode cX4_cost 20 = .ok (.if_icmp .ge 55, 3) := by decide +kernel
theorem dX4_cost_23 : decode cX4_cost 23 = .ok (.aload_n 0, 1) := by decide +kernel
theorem dX4_cost_24 : decode cX4_cost 24 = .ok (.getfield 9, 3) := by decide +kernel
theorem dX4_cost_27 : decode cX4_cost 27 = .ok (.iload 7, 2) := by decide +kernel
theorem dX4_cost_29 : decode cX4_cost 29 = .ok (.iaload, 1) := by decide +kernel
theorem dX4_cost_30 : decode cX4_cost 30 = .ok (.iload_n 1, 1) := by decide +kernel
theorem dX4_cost_31 : decode cX4_cost 31 = .ok (.if_icmp .ne 38, 3) := by decide +kernel
theorem dX4_cost_34 : decode cX4_cost 34 = .ok (.aload_n 0, 1) := by decide +kernel
theorem dX4_cost_35 : decode cX4_cost 35 = .ok (.getfield 15, 3) := by decide +kernel
theorem dX4_cost_38 : decode cX4_cost 38 = .ok (.iload 7, 2) := by decide +kernel
theorem dX4_cost_40 : decode cX4_cost 40 = .ok (.iaload, 1) := by decide +kernel
theorem dX4_cost_41 : decode cX4_cost 41 = .ok (.iload_n 2, 1) := by decide +kernel
theorem dX4_cost_42 : decode cX4_cost 42 = .ok (.if_icmp .lt 27, 3) := by decide +kernel
theorem dX4_cost_45 : decode cX4_cost 45 = .ok (.aload_n 0, 1) := by decide +kernel
theorem dX4_cost_46 : decode cX4_cost 46 = .ok (.getfield 15, 3) := by decide +kernel
theorem dX4_cost_49 : decode cX4_cost 49 = .ok (.iload 7, 2) := by decide +kernel
theorem dX4_cost_51 : decode cX4_cost 51 = .ok (.iaload, 1) := by decide +kernel
theorem dX4_cost_52 : decode cX4_cost 52 = .ok (.iload 6, 2) := by decide +kernel
theorem dX4_cost_54 : decode cX4_cost 54 = .ok (.if_icmp .gt 15, 3) := by decide +kernel
theorem dX4_cost_57 : decode cX4_cost 57 = .ok (.iload 5, 2) := by decide +kernel
theorem dX4_cost_59 : decode cX4_cost 59 = .ok (.aload_n 0, 1) := by decide +kernel
theorem dX4_cost_60 : decode cX4_cost 60 = .ok (.getfield 18, 3) := by decide +kernel
theorem dX4_cost_63 : decode cX4_cost 63 = .ok (.iload 7, 2) := by decide +kernel
theorem dX4_cost_65 : decode cX4_cost 65 = .ok (.iaload, 1) := by decide +kernel
theorem dX4_cost_66 : decode cX4_cost 66 = .ok (.iadd, 1) := by decide +kernel
theorem dX4_cost_67 : decode cX4_cost 67 = .ok (.istore 5, 2) := by decide +kernel
theorem dX4_cost_69 : decode cX4_cost 69 = .ok (.iinc 7 1, 3) := by decide +kernel
theorem dX4_cost_72 : decode cX4_cost 72 = .ok (.goto (-58), 3) := by decide +kernel
theorem dX4_cost_75 : decode cX4_cost 75 = .ok (.iload 5, 2) := by decide +kernel
theorem dX4_cost_77 : decode cX4_cost 77 = .ok (.ireturn, 1) := by decide +kernel
theorem dX5_init_0 : decode cX5_init 0 = .ok (.aload_n 0, 1) := by decide +kernel
theorem dX5_init_1 : decode cX5_init 1 = .ok (.invokespecial 3, 3) := by decide +kernel
theorem dX5_init_4 : decode cX5_init 4 = .ok (.aload_n 0, 1) := by decide +kernel
theorem dX5_init_5 : decode cX5_init 5 = .ok (.aload_n 1, 1) := by decide +kernel
theorem dX5_init_6 : decode cX5_init 6 = .ok (.putfield 9, 3) := by decide +kernel
theorem dX5_init_9 : decode cX5_init 9 = .ok (.aload_n 0, 1) := by decide +kernel
theorem dX5_init_10 : decode cX5_init 10 = .ok (.aload_n 2, 1) := by decide +kernel
theorem dX5_init_11 : decode cX5_init 11 = .ok (.putfield 15, 3) := by decide +kernel
theorem dX5_init_14 : decode cX5_init 14 = .ok (.aload_n 0, 1) := by decide +kernel
theorem dX5_init_15 : decode cX5_init 15 = .ok (.iconst (-1), 1) := by decide +kernel
theorem dX5_init_16 : decode cX5_init 16 = .ok (.putfield 19, 3) := by decide +kernel
theorem dX5_init_19 : decode cX5_init 19 = .ok (.return_, 1) := by decide +kernel
theorem dX5_faultFound_0 : decode cX5_faultFound 0 = .ok (.aload_n 0, 1) := by decide +kernel
theorem dX5_faultFound_1 : decode cX5_faultFound 1 = .ok (.getfield 23, 3) := by decide +kernel
theorem dX5_faultFound_4 : decode cX5_faultFound 4 = .ok (.ireturn, 1) := by decide +kernel
theorem dX5_faultPlace_0 : decode cX5_faultPlace 0 = .ok (.aload_n 0, 1) := by decide +kernel
theorem dX5_faultPlace_1 : decode cX5_faultPlace 1 = .ok (.getfield 19, 3) := by decide +kernel
theorem dX5_faultPlace_4 : decode cX5_faultPlace 4 = .ok (.ireturn, 1) := by decide +kernel
theorem dX5_readRules_0 : decode cX5_readRules 0 = .ok (.aload_n 0, 1) := by decide +kernel
theorem dX5_readRules_1 : decode cX5_readRules 1 = .ok (.iconst 0, 1) := by decide +kernel
theorem dX5_readRules_2 : decode cX5_readRules 2 = .ok (.putfield 23, 3) := by decide +kernel
theorem dX5_readRules_5 : decode cX5_readRules 5 = .ok (.aload_n 0, 1) := by decide +kernel
theorem dX5_readRules_6 : decode cX5_readRules 6 = .ok (.iconst (-1), 1) := by decide +kernel
theorem dX5_readRules_7 : decode cX5_readRules 7 = .ok (.putfield 19, 3) := by decide +kernel
theorem dX5_readRules_10 : decode cX5_readRules 10 = .ok (.aload_n 0, 1) := by decide +kernel
theorem dX5_readRules_11 : decode cX5_readRules 11 = .ok (.iconst 0, 1) := by decide +kernel
theorem dX5_readRules_12 : decode cX5_readRules 12 = .ok (.putfield 26, 3) := by decide +kernel
theorem dX5_readRules_15 : decode cX5_readRules 15 = .ok (.aload_n 0, 1) := by decide +kernel
theorem dX5_readRules_16 : decode cX5_readRules 16 = .ok (.getfield 15, 3) := by decide +kernel
theorem dX5_readRules_19 : decode cX5_readRules 19 = .ok (.invokevirtual 29, 3) := by decide +kernel
theorem dX5_readRules_22 : decode cX5_readRules 22 = .ok (.aload_n 0, 1) := by decide +kernel
theorem dX5_readRules_23 : decode cX5_readRules 23 = .ok (.getfield 9, 3) := by decide +kernel
theorem dX5_readRules_26 : decode cX5_readRules 26 = .ok (.invokevirtual 34, 3) := by decide +kernel
theorem dX5_readRules_29 : decode cX5_readRules 29 = .ok (.iconst 0, 1) := by decide +kernel
theorem dX5_readRules_30 : decode cX5_readRules 30 = .ok (.istore_n 1, 1) := by decide +kernel
theorem dX5_readRules_31 : decode cX5_readRules 31 = .ok (.iload_n 1, 1) := by decide +kernel
theorem dX5_readRules_32 : decode cX5_readRules 32 = .ok (.bipush 12, 2) := by decide +kernel
theorem dX5_readRules_34 : decode cX5_readRules 34 = .ok (.if_icmp .ge 113, 3) := by decide +kernel
theorem dX5_readRules_37 : decode cX5_readRules 37 = .ok (.aload_n 0, 1) := by decide +kernel
theorem dX5_readRules_38 : decode cX5_readRules 38 = .ok (.getfield 9, 3) := by decide +kernel
theorem dX5_readRules_41 : decode cX5_readRules 41 = .ok (.invokevirtual 39, 3) := by decide +kernel
theorem dX5_readRules_44 : decode cX5_readRules 44 = .ok (.ifCond .eq 103, 3) := by decide +kernel
theorem dX5_readRules_47 : decode cX5_readRules 47 = .ok (.aload_n 0, 1) := by decide +kernel
theorem dX5_readRules_48 : decode cX5_readRules 48 = .ok (.getfield 9, 3) := by decide +kernel
theorem dX5_readRules_51 : decode cX5_readRules 51 = .ok (.invokevirtual 39, 3) := by decide +kernel
theorem dX5_readRules_54 : decode cX5_readRules 54 = .ok (.istore_n 2, 1) := by decide +kernel
theorem dX5_readRules_55 : decode cX5_readRules 55 = .ok (.iload_n 2, 1) := by decide +kernel
theorem dX5_readRules_56 : decode cX5_readRules 56 = .ok (.bipush 14, 2) := by decide +kernel
theorem dX5_readRules_58 : decode cX5_readRules 58 = .ok (.if_icmp .eq 15, 3) := by decide +kernel
theorem dX5_readRules_61 : decode cX5_readRules 61 = .ok (.iload_n 2, 1) := by decide +kernel
theorem dX5_readRules_62 : decode cX5_readRules 62 = .ok (.bipush 15, 2) := by decide +kernel
theorem dX5_readRules_64 : decode cX5_readRules 64 = .ok (.if_icmp .eq 9, 3) := by decide +kernel
theorem dX5_readRules_67 : decode cX5_readRules 67 = .ok (.aload_n 0, 1) := by decide +kernel
theorem dX5_readRules_68 : decode cX5_readRules 68 = .ok (.iconst 2, 1) := by decide +kernel
theorem dX5_readRules_69 : decode cX5_readRules 69 = .ok (.invokevirtual 43, 3) := by decide +kernel
theorem dX5_readRules_72 : decode cX5_readRules 72 = .ok (.ireturn, 1) := by decide +kernel
theorem dX5_readRules_73 : decode cX5_readRules 73 = .ok (.aload_n 0, 1) := by decide +kernel
theorem dX5_readRules_74 : decode cX5_readRules 74 = .ok (.iload_n 2, 1) := by decide +kernel
theorem dX5_readRules_75 : decode cX5_readRules 75 = .ok (.bipush 15, 2) := by decide +kernel
theorem dX5_readRules_77 : decode cX5_readRules 77 = .ok (.if_icmp .ne 7, 3) := by decide +kernel
theorem dX5_readRules_80 : decode cX5_readRules 80 = .ok (.iconst 1, 1) := by decide +kernel
theorem dX5_readRules_81 : decode cX5_readRules 81 = .ok (.goto 4, 3) := by decide +kernel
theorem dX5_readRules_84 : decode cX5_readRules 84 = .ok (.iconst 0, 1) := by decide +kernel
theorem dX5_readRules_85 : decode cX5_readRules 85 = .ok (.putfield 47, 3) := by decide +kernel
theorem dX5_readRules_88 : decode cX5_readRules 88 = .ok (.aload_n 0, 1) := by decide +kernel
theorem dX5_readRules_89 : decode cX5_readRules 89 = .ok (.getfield 9, 3) := by decide +kernel
theorem dX5_readRules_92 : decode cX5_readRules 92 = .ok (.invokevirtual 51, 3) := by decide +kernel
theorem dX5_readRules_95 : decode cX5_readRules 95 = .ok (.aload_n 0, 1) := by decide +kernel
theorem dX5_readRules_96 : decode cX5_readRules 96 = .ok (.iconst 0, 1) := by decide +kernel
theorem dX5_readRules_97 : decode cX5_readRules 97 = .ok (.invokevirtual 54, 3) := by decide +kernel
theorem dX5_readRules_100 : decode cX5_readRules 100 = .ok (.ifCond .ne 5, 3) := by decide +kernel
theorem dX5_readRules_103 : decode cX5_readRules 103 = .ok (.iconst 0, 1) := by decide +kernel
theorem dX5_readRules_104 : decode cX5_readRules 104 = .ok (.ireturn, 1) := by decide +kernel
theorem dX5_readRules_105 : decode cX5_readRules 105 = .ok (.aload_n 0, 1) := by decide +kernel
theorem dX5_readRules_106 : decode cX5_readRules 106 = .ok (.getfield 9, 3) := by decide +kernel
theorem dX5_readRules_109 : decode cX5_readRules 109 = .ok (.invokevirtual 39, 3) := by decide +kernel
theorem dX5_readRules_112 : decode cX5_readRules 112 = .ok (.bipush 59, 2) := by decide +kernel
theorem dX5_readRules_114 : decode cX5_readRules 114 = .ok (.if_icmp .eq 9, 3) := by decide +kernel
theorem dX5_readRules_117 : decode cX5_readRules 117 = .ok (.aload_n 0, 1) := by decide +kernel
theorem dX5_readRules_118 : decode cX5_readRules 118 = .ok (.iconst 2, 1) := by decide +kernel
theorem dX5_readRules_119 : decode cX5_readRules 119 = .ok (.invokevirtual 43, 3) := by decide +kernel
theorem dX5_readRules_122 : decode cX5_readRules 122 = .ok (.ireturn, 1) := by decide +kernel
theorem dX5_readRules_123 : decode cX5_readRules 123 = .ok (.aload_n 0, 1) := by decide +kernel
theorem dX5_readRules_124 : decode cX5_readRules 124 = .ok (.getfield 9, 3) := by decide +kernel
theorem dX5_readRules_127 : decode cX5_readRules 127 = .ok (.invokevirtual 51, 3) := by decide +kernel
theorem dX5_readRules_130 : decode cX5_readRules 130 = .ok (.aload_n 0, 1) := by decide +kernel
theorem dX5_readRules_131 : decode cX5_readRules 131 = .ok (.getfield 15, 3) := by decide +kernel
theorem dX5_readRules_134 : decode cX5_readRules 134 = .ok (.aload_n 0, 1) := by decide +kernel
theorem dX5_readRules_135 : decode cX5_readRules 135 = .ok (.getfield 47, 3) := by decide +kernel
theorem dX5_readRules_138 : decode cX5_readRules 138 = .ok (.invokevirtual 57, 3) := by decide +kernel
theorem dX5_readRules_141 : decode cX5_readRules 141 = .ok (.iinc 1 1, 3) := by decide +kernel
theorem dX5_readRules_144 : decode cX5_readRules 144 = .ok (.goto (-113), 3) := by decide +kernel
theorem dX5_readRules_147 : decode cX5_readRules 147 = .ok (.aload_n 0, 1) := by decide +kernel
theorem dX5_readRules_148 : decode cX5_readRules 148 = .ok (.getfield 9, 3) := by decide +kernel
theorem dX5_readRules_151 : decode cX5_readRules 151 = .ok (.invokevirtual 39, 3) := by decide +kernel
theorem dX5_readRules_154 : decode cX5_readRules 154 = .ok (.ifCond .eq 11, 3) := by decide +kernel
theorem dX5_readRules_157 : decode cX5_readRules 157 = .ok (.aload_n 0, 1) := by decide +kernel
theorem dX5_readRules_158 : decode cX5_readRules 158 = .ok (.iconst 2, 1) := by decide +kernel
theorem dX5_readRules_159 : decode cX5_readRules 159 = .ok (.invokevirtual 43, 3) := by decide +kernel
theorem dX5_readRules_162 : decode cX5_readRules 162 = .ok (.ifCond .eq 7, 3) := by decide +kernel
theorem dX5_readRules_165 : decode cX5_readRules 165 = .ok (.iconst 1, 1) := by decide +kernel
theorem dX5_readRules_166 : decode cX5_readRules 166 = .ok (.goto 4, 3) := by decide +kernel
theorem dX5_readRules_169 : decode cX5_readRules 169 = .ok (.iconst 0, 1) := by decide +kernel
theorem dX5_readRules_170 : decode cX5_readRules 170 = .ok (.ireturn, 1) := by decide +kernel
theorem dX5_readEither_0 : decode cX5_readEither 0 = .ok (.aload_n 0, 1) := by decide +kernel
theorem dX5_readEither_1 : decode cX5_readEither 1 = .ok (.iload_n 1, 1) := by decide +kernel
theorem dX5_readEither_2 : decode cX5_readEither 2 = .ok (.invokevirtual 61, 3) := by decide +kernel
theorem dX5_readEither_5 : decode cX5_readEither 5 = .ok (.ifCond .ne 5, 3) := by decide +kernel
theorem dX5_readEither_8 : decode cX5_readEither 8 = .ok (.iconst 0, 1) := by decide +kernel
theorem dX5_readEither_9 : decode cX5_readEither 9 = .ok (.ireturn, 1) := by decide +kernel
theorem dX5_readEither_10 : decode cX5_readEither 10 = .ok (.iconst 0, 1) := by decide +kernel
theorem dX5_readEither_11 : decode cX5_readEither 11 = .ok (.istore_n 2, 1) := by decide +kernel
theorem dX5_readEither_12 : decode cX5_readEither 12 = .ok (.iload_n 2, 1) := by decide +kernel
theorem dX5_readEither_13 : decode cX5_readEither 13 = .ok (.sipush 1000, 3) := by decide +kernel
theorem dX5_readEither_16 : decode cX5_readEither 16 = .ok (.if_icmp .ge 47, 3) := by decide +kernel
theorem dX5_readEither_19 : decode cX5_readEither 19 = .ok (.aload_n 0, 1) := by decide +kernel
theorem dX5_readEither_20 : decode cX5_readEither 20 = .ok (.getfield 9, 3) := by decide +kernel
theorem dX5_readEither_23 : decode cX5_readEither 23 = .ok (.invokevirtual 39, 3) := by decide +kernel
theorem dX5_readEither_26 : decode cX5_readEither 26 = .ok (.bipush 16, 2) := by decide +kernel
theorem dX5_readEither_28 : decode cX5_readEither 28 = .ok (.if_icmp .ne 35, 3) := by decide +kernel
theorem dX5_readEither_31 : decode cX5_readEither 31 = .ok (.aload_n 0, 1) := by decide +kernel
theorem dX5_readEither_32 : decode cX5_readEither 32 = .ok (.getfield 9, 3) := by decide +kernel
theorem dX5_readEither_35 : decode cX5_readEither 35 = .ok (.invokevirtual 51, 3) := by decide +kernel
theorem dX5_readEither_38 : decode cX5_readEither 38 = .ok (.aload_n 0, 1) := by decide +kernel
theorem dX5_readEither_39 : decode cX5_readEither 39 = .ok (.iload_n 1, 1) := by decide +kernel
theorem dX5_readEither_40 : decode cX5_readEither 40 = .ok (.invokevirtual 61, 3) := by decide +kernel
theorem dX5_readEither_43 : decode cX5_readEither 43 = .ok (.ifCond .ne 5, 3) := by decide +kernel
theorem dX5_readEither_46 : decode cX5_readEither 46 = .ok (.iconst 0, 1) := by decide +kernel
theorem dX5_readEither_47 : decode cX5_readEither 47 = .ok (.ireturn, 1) := by decide +kernel
theorem dX5_readEither_48 : decode cX5_readEither 48 = .ok (.aload_n 0, 1) := by decide +kernel
theorem dX5_readEither_49 : decode cX5_readEither 49 = .ok (.getfield 15, 3) := by decide +kernel
theorem dX5_readEither_52 : decode cX5_readEither 52 = .ok (.bipush 16, 2) := by decide +kernel
theorem dX5_readEither_54 : decode cX5_readEither 54 = .ok (.invokevirtual 64, 3) := by decide +kernel
theorem dX5_readEither_57 : decode cX5_readEither 57 = .ok (.iinc 2 1, 3) := by decide +kernel
theorem dX5_readEither_60 : decode cX5_readEither 60 = .ok (.goto (-48), 3) := by decide +kernel
theorem dX5_readEither_63 : decode cX5_readEither 63 = .ok (.iconst 1, 1) := by decide +kernel
theorem dX5_readEither_64 : decode cX5_readEither 64 = .ok (.ireturn, 1) := by decide +kernel
theorem dX5_readBoth_0 : decode cX5_readBoth 0 = .ok (.aload_n 0, 1) := by decide +kernel
theorem dX5_readBoth_1 : decode cX5_readBoth 1 = .ok (.iload_n 1, 1) := by decide +kernel
theorem dX5_readBoth_2 : decode cX5_readBoth 2 = .ok (.invokevirtual 68, 3) := by decide +kernel
theorem dX5_readBoth_5 : decode cX5_readBoth 5 = .ok (.ifCond .ne 5, 3) := by decide +kernel
theorem dX5_readBoth_8 : decode cX5_readBoth 8 = .ok (.iconst 0, 1) := by decide +kernel
theorem dX5_readBoth_9 : decode cX5_readBoth 9 = .ok (.ireturn, 1) := by decide +kernel
theorem dX5_readBoth_10 : decode cX5_readBoth 10 = .ok (.iconst 0, 1) := by decide +kernel
theorem dX5_readBoth_11 : decode cX5_readBoth 11 = .ok (.istore_n 2, 1) := by decide +kernel
theorem dX5_readBoth_12 : decode cX5_readBoth 12 = .ok (.iload_n 2, 1) := by decide +kernel
theorem dX5_readBoth_13 : decode cX5_readBoth 13 = .ok (.sipush 1000, 3) := by decide +kernel
theorem dX5_readBoth_16 : decode cX5_readBoth 16 = .ok (.if_icmp .ge 47, 3) := by decide +kernel
theorem dX5_readBoth_19 : decode cX5_readBoth 19 = .ok (.aload_n 0, 1) := by decide +kernel
theorem dX5_readBoth_20 : decode cX5_readBoth 20 = .ok (.getfield 9, 3) := by decide +kernel
theorem dX5_readBoth_23 : decode cX5_readBoth 23 = .ok (.invokevirtual 39, 3) := by decide +kernel
theorem dX5_readBoth_26 : decode cX5_readBoth 26 = .ok (.bipush 17, 2) := by decide +kernel
theorem dX5_readBoth_28 : decode cX5_readBoth 28 = .ok (.if_icmp .ne 35, 3) := by decide +kernel
theorem dX5_readBoth_31 : decode cX5_readBoth 31 = .ok (.aload_n 0, 1) := by decide +kernel
theorem dX5_readBoth_32 : decode cX5_readBoth 32 = .ok (.getfield 9, 3) := by decide +kernel
theorem dX5_readBoth_35 : decode cX5_readBoth 35 = .ok (.invokevirtual 51, 3) := by decide +kernel
theorem dX5_readBoth_38 : decode cX5_readBoth 38 = .ok (.aload_n 0, 1) := by decide +kernel
theorem dX5_readBoth_39 : decode cX5_readBoth 39 = .ok (.iload_n 1, 1) := by decide +kernel
theorem dX5_readBoth_40 : decode cX5_readBoth 40 = .ok (.invokevirtual 68, 3) := by decide +kernel
theorem dX5_readBoth_43 : decode cX5_readBoth 43 = .ok (.ifCond .ne 5, 3) := by decide +kernel
theorem dX5_readBoth_46 : decode cX5_readBoth 46 = .ok (.iconst 0, 1) := by decide +kernel
theorem dX5_readBoth_47 : decode cX5_readBoth 47 = .ok (.ireturn, 1) := by decide +kernel
theorem dX5_readBoth_48 : decode cX5_readBoth 48 = .ok (.aload_n 0, 1) := by decide +kernel
theorem dX5_readBoth_49 : decode cX5_readBoth 49 = .ok (.getfield 15, 3) := by decide +kernel
theorem dX5_readBoth_52 : decode cX5_readBoth 52 = .ok (.bipush 17, 2) := by decide +kernel
theorem dX5_readBoth_54 : decode cX5_readBoth 54 = .ok (.invokevirtual 64, 3) := by decide +kernel
theorem dX5_readBoth_57 : decode cX5_readBoth 57 = .ok (.iinc 2 1, 3) := by decide +kernel
theorem dX5_readBoth_60 : decode cX5_readBoth 60 = .ok (.goto (-48), 3) := by decide +kernel
theorem dX5_readBoth_63 : decode cX5_readBoth 63 = .ok (.iconst 1, 1) := by decide +kernel
theorem dX5_readBoth_64 : decode cX5_readBoth 64 = .ok (.ireturn, 1) := by decide +kernel
theorem dX5_readOne_0 : decode cX5_readOne 0 = .ok (.iload_n 1, 1) := by decide +kernel
theorem dX5_readOne_1 : decode cX5_readOne 1 = .ok (.bipush 8, 2) := by decide +kernel
theorem dX5_readOne_3 : decode cX5_readOne 3 = .ok (.if_icmp .lt 9, 3) := by decide +kernel
theorem dX5_readOne_6 : decode cX5_readOne 6 = .ok (.aload_n 0, 1) := by decide +kernel
theorem dX5_readOne_7 : decode cX5_readOne 7 = .ok (.iconst 2, 1) := by decide +kernel
theorem dX5_readOne_8 : decode cX5_readOne 8 = .ok (.invokevirtual 43, 3) := by decide +kernel
theorem dX5_readOne_11 : decode cX5_readOne 11 = .ok (.ireturn, 1) := by decide +kernel
theorem dX5_readOne_12 : decode cX5_readOne 12 = .ok (.aload_n 0, 1) := by decide +kernel
theorem dX5_readOne_13 : decode cX5_readOne 13 = .ok (.getfield 9, 3) := by decide +kernel
theorem dX5_readOne_16 : decode cX5_readOne 16 = .ok (.invokevirtual 39, 3) := by decide +kernel
theorem dX5_readOne_19 : decode cX5_readOne 19 = .ok (.bipush 18, 2) := by decide +kernel
theorem dX5_readOne_21 : decode cX5_readOne 21 = .ok (.if_icmp .eq 9, 3) := by decide +kernel
theorem dX5_readOne_24 : decode cX5_readOne 24 = .ok (.aload_n 0, 1) := by decide +kernel
theorem dX5_readOne_25 : decode cX5_readOne 25 = .ok (.iload_n 1, 1) := by decide +kernel
theorem dX5_readOne_26 : decode cX5_readOne 26 = .ok (.invokevirtual 71, 3) := by decide +kernel
theorem dX5_readOne_29 : decode cX5_readOne 29 = .ok (.ireturn, 1) := by decide +kernel
theorem dX5_readOne_30 : decode cX5_readOne 30 = .ok (.aload_n 0, 1) := by decide +kernel
theorem dX5_readOne_31 : decode cX5_readOne 31 = .ok (.getfield 9, 3) := by decide +kernel
theorem dX5_readOne_34 : decode cX5_readOne 34 = .ok (.invokevirtual 51, 3) := by decide +kernel
theorem dX5_readOne_37 : decode cX5_readOne 37 = .ok (.aload_n 0, 1) := by decide +kernel
theorem dX5_readOne_38 : decode cX5_readOne 38 = .ok (.iload_n 1, 1) := by decide +kernel
theorem dX5_readOne_39 : decode cX5_readOne 39 = .ok (.iconst 1, 1) := by decide +kernel
theorem dX5_readOne_40 : decode cX5_readOne 40 = .ok (.iadd, 1) := by decide +kernel
theorem dX5_readOne_41 : decode cX5_readOne 41 = .ok (.invokevirtual 68, 3) := by decide +kernel
theorem dX5_readOne_44 : decode cX5_readOne 44 = .ok (.ifCond .ne 5, 3) := by decide +kernel
theorem dX5_readOne_47 : decode cX5_readOne 47 = .ok (.iconst 0, 1) := by decide +kernel
theorem dX5_readOne_48 : decode cX5_readOne 48 = .ok (.ireturn, 1) := by decide +kernel
theorem dX5_readOne_49 : decode cX5_readOne 49 = .ok (.aload_n 0, 1) := by decide +kernel
theorem dX5_readOne_50 : decode cX5_readOne 50 = .ok (.getfield 15, 3) := by decide +kernel
theorem dX5_readOne_53 : decode cX5_readOne 53 = .ok (.bipush 18, 2) := by decide +kernel
theorem dX5_readOne_55 : decode cX5_readOne 55 = .ok (.invokevirtual 64, 3) := by decide +kernel
theorem dX5_readOne_58 : decode cX5_readOne 58 = .ok (.iconst 1, 1) := by decide +kernel
theorem dX5_readOne_59 : decode cX5_readOne 59 = .ok (.ireturn, 1) := by decide +kernel
theorem dX5_readComparison_0 : decode cX5_readComparison 0 = .ok (.aload_n 0, 1) := by decide +kernel
theorem dX5_readComparison_1 : decode cX5_readComparison 1 = .ok (.iload_n 1, 1) := by decide +kernel
theorem dX5_readComparison_2 : decode cX5_readComparison 2 = .ok (.invokevirtual 74, 3) := by decide +kernel
theorem dX5_readComparison_5 : decode cX5_readComparison 5 = .ok (.ifCond .ne 5, 3) := by decide +kernel
theorem dX5_readComparison_8 : decode cX5_readComparison 8 = .ok (.iconst 0, 1) := by decide +kernel
theorem dX5_readComparison_9 : decode cX5_readComparison 9 = .ok (.ireturn, 1) := by decide +kernel
theorem dX5_readComparison_10 : decode cX5_readComparison 10 = .ok (.aload_n 0, 1) := by decide +kernel
theorem dX5_readComparison_11 : decode cX5_readComparison 11 = .ok (.getfield 9, 3) := by decide +kernel
theorem dX5_readComparison_14 : decode cX5_readComparison 14 = .ok (.invokevirtual 39, 3) := by decide +kernel
theorem dX5_readComparison_17 : decode cX5_readComparison 17 = .ok (.istore_n 2, 1) := by decide +kernel
theorem dX5_readComparison_18 : decode cX5_readComparison 18 = .ok (.iload_n 2, 1) := by decide +kernel
theorem dX5_readComparison_19 : decode cX5_readComparison 19 = .ok (.bipush 61, 2) := by decide +kernel
theorem dX5_readComparison_21 : decode cX5_readComparison 21 = .ok (.if_icmp .eq 17, 3) := by decide +kernel
theorem dX5_readComparison_24 : decode cX5_readComparison 24 = .ok (.iload_n 2, 1) := by decide +kernel
theorem dX5_readComparison_25 : decode cX5_readComparison 25 = .ok (.bipush 60, 2) := by decide +kernel
theorem dX5_readComparison_27 : decode cX5_readComparison 27 = .ok (.if_icmp .eq 11, 3) := by decide +kernel
theorem dX5_readComparison_30 : decode cX5_readComparison 30 = .ok (.iload_n 2, 1) := by decide +kernel
theorem dX5_readComparison_31 : decode cX5_readComparison 31 = .ok (.bipush 62, 2) := by decide +kernel
theorem dX5_readComparison_33 : decode cX5_readComparison 33 = .ok (.if_icmp .eq 5, 3) := by decide +kernel
theorem dX5_readComparison_36 : decode cX5_readComparison 36 = .ok (.iconst 1, 1) := by decide +kernel
theorem dX5_readComparison_37 : decode cX5_readComparison 37 = .ok (.ireturn, 1) := by decide +kernel
theorem dX5_readComparison_38 : decode cX5_readComparison 38 = .ok (.aload_n 0, 1) := by decide +kernel
theorem dX5_readComparison_39 : decode cX5_readComparison 39 = .ok (.getfield 9, 3) := by decide +kernel
theorem dX5_readComparison_42 : decode cX5_readComparison 42 = .ok (.invokevirtual 51, 3) := by decide +kernel
theorem dX5_readComparison_45 : decode cX5_readComparison 45 = .ok (.aload_n 0, 1) := by decide +kernel
theorem dX5_readComparison_46 : decode cX5_readComparison 46 = .ok (.iload_n 1, 1) := by decide +kernel
theorem dX5_readComparison_47 : decode cX5_readComparison 47 = .ok (.invokevirtual 74, 3) := by decide +kernel
theorem dX5_readComparison_50 : decode cX5_readComparison 50 = .ok (.ifCond .ne 5, 3) := by decide +kernel
theorem dX5_readComparison_53 : decode cX5_readComparison 53 = .ok (.iconst 0, 1) := by decide +kernel
theorem dX5_readComparison_54 : decode cX5_readComparison 54 = .ok (.ireturn, 1) := by decide +kernel
theorem dX5_readComparison_55 : decode cX5_readComparison 55 = .ok (.aload_n 0, 1) := by decide +kernel
theorem dX5_readComparison_56 : decode cX5_readComparison 56 = .ok (.getfield 15, 3) := by decide +kernel
theorem dX5_readComparison_59 : decode cX5_readComparison 59 = .ok (.iload_n 2, 1) := by decide +kernel
theorem dX5_readComparison_60 : decode cX5_readComparison 60 = .ok (.invokevirtual 64, 3) := by decide +kernel
theorem dX5_readComparison_63 : decode cX5_readComparison 63 = .ok (.iconst 1, 1) := by decide +kernel
theorem dX5_readComparison_64 : decode cX5_readComparison 64 = .ok (.ireturn, 1) := by decide +kernel
theorem dX5_readSum_0 : decode cX5_readSum 0 = .ok (.aload_n 0, 1) := by decide +kernel
theorem dX5_readSum_1 : decode cX5_readSum 1 = .ok (.iload_n 1, 1) := by decide +kernel
theorem dX5_readSum_2 : decode cX5_readSum 2 = .ok (.invokevirtual 77, 3) := by decide +kernel
theorem dX5_readSum_5 : decode cX5_readSum 5 = .ok (.ifCond .ne 5, 3) := by decide +kernel
theorem dX5_readSum_8 : decode cX5_readSum 8 = .ok (.iconst 0, 1) := by decide +kernel
theorem dX5_readSum_9 : decode cX5_readSum 9 = .ok (.ireturn, 1) := by decide +kernel
theorem dX5_readSum_10 : decode cX5_readSum 10 = .ok (.iconst 0, 1) := by decide +kernel
theorem dX5_readSum_11 : decode cX5_readSum 11 = .ok (.istore_n 2, 1) := by decide +kernel
theorem dX5_readSum_12 : decode cX5_readSum 12 = .ok (.iload_n 2, 1) := by decide +kernel
theorem dX5_readSum_13 : decode cX5_readSum 13 = .ok (.sipush 1000, 3) := by decide +kernel
theorem dX5_readSum_16 : decode cX5_readSum 16 = .ok (.if_icmp .ge 66, 3) := by decide +kernel
theorem dX5_readSum_19 : decode cX5_readSum 19 = .ok (.aload_n 0, 1) := by decide +kernel
theorem dX5_readSum_20 : decode cX5_readSum 20 = .ok (.getfield 9, 3) := by decide +kernel
theorem dX5_readSum_23 : decode cX5_readSum 23 = .ok (.invokevirtual 39, 3) := by decide +kernel
theorem dX5_readSum_26 : decode cX5_readSum 26 = .ok (.bipush 43, 2) := by decide +kernel
theorem dX5_readSum_28 : decode cX5_readSum 28 = .ok (.if_icmp .eq 15, 3) := by decide +kernel
theorem dX5_readSum_31 : decode cX5_readSum 31 = .ok (.aload_n 0, 1) := by decide +kernel
theorem dX5_readSum_32 : decode cX5_readSum 32 = .ok (.getfield 9, 3) := by decide +kernel
theorem dX5_readSum_35 : decode cX5_readSum 35 = .ok (.invokevirtual 39, 3) := by decide +kernel
theorem dX5_readSum_38 : decode cX5_readSum 38 = .ok (.bipush 45, 2) := by decide +kernel
theorem dX5_readSum_40 : decode cX5_readSum 40 = .ok (.if_icmp .ne 42, 3) := by decide +kernel
theorem dX5_readSum_43 : decode cX5_readSum 43 = .ok (.aload_n 0, 1) := by decide +kernel
theorem dX5_readSum_44 : decode cX5_readSum 44 = .ok (.getfield 9, 3) := by decide +kernel
theorem dX5_readSum_47 : decode cX5_readSum 47 = .ok (.invokevirtual 39, 3) := by decide +kernel
theorem dX5_readSum_50 : decode cX5_readSum 50 = .ok (.istore_n 3, 1) := by decide +kernel
theorem dX5_readSum_51 : decode cX5_readSum 51 = .ok (.aload_n 0, 1) := by decide +kernel
theorem dX5_readSum_52 : decode cX5_readSum 52 = .ok (.getfield 9, 3) := by decide +kernel
theorem dX5_readSum_55 : decode cX5_readSum 55 = .ok (.invokevirtual 51, 3) := by decide +kernel
theorem dX5_readSum_58 : decode cX5_readSum 58 = .ok (.aload_n 0, 1) := by decide +kernel
theorem dX5_readSum_59 : decode cX5_readSum 59 = .ok (.iload_n 1, 1) := by decide +kernel
theorem dX5_readSum_60 : decode cX5_readSum 60 = .ok (.invokevirtual 77, 3) := by decide +kernel
theorem dX5_readSum_63 : decode cX5_readSum 63 = .ok (.ifCond .ne 5, 3) := by decide +kernel
theorem dX5_readSum_66 : decode cX5_readSum 66 = .ok (.iconst 0, 1) := by decide +kernel
theorem dX5_readSum_67 : decode cX5_readSum 67 = .ok (.ireturn, 1) := by decide +kernel
theorem dX5_readSum_68 : decode cX5_readSum 68 = .ok (.aload_n 0, 1) := by decide +kernel
theorem dX5_readSum_69 : decode cX5_readSum 69 = .ok (.getfield 15, 3) := by decide +kernel
theorem dX5_readSum_72 : decode cX5_readSum 72 = .ok (.iload_n 3, 1) := by decide +kernel
theorem dX5_readSum_73 : decode cX5_readSum 73 = .ok (.invokevirtual 64, 3) := by decide +kernel
theorem dX5_readSum_76 : decode cX5_readSum 76 = .ok (.iinc 2 1, 3) := by decide +kernel
theorem dX5_readSum_79 : decode cX5_readSum 79 = .ok (.goto (-67), 3) := by decide +kernel
theorem dX5_readSum_82 : decode cX5_readSum 82 = .ok (.iconst 1, 1) := by decide +kernel
theorem dX5_readSum_83 : decode cX5_readSum 83 = .ok (.ireturn, 1) := by decide +kernel
theorem dX5_readTerm_0 : decode cX5_readTerm 0 = .ok (.aload_n 0, 1) := by decide +kernel
theorem dX5_readTerm_1 : decode cX5_readTerm 1 = .ok (.getfield 9, 3) := by decide +kernel
theorem dX5_readTerm_4 : decode cX5_readTerm 4 = .ok (.invokevirtual 39, 3) := by decide +kernel
theorem dX5_readTerm_7 : decode cX5_readTerm 7 = .ok (.istore_n 2, 1) := by decide +kernel
theorem dX5_readTerm_8 : decode cX5_readTerm 8 = .ok (.iload_n 2, 1) := by decide +kernel
theorem dX5_readTerm_9 : decode cX5_readTerm 9 = .ok (.iconst 2, 1) := by decide +kernel
theorem dX5_readTerm_10 : decode cX5_readTerm 10 = .ok (.if_icmp .eq 8, 3) := by decide +kernel
theorem dX5_readTerm_13 : decode cX5_readTerm 13 = .ok (.iload_n 2, 1) := by decide +kernel
theorem dX5_readTerm_14 : decode cX5_readTerm 14 = .ok (.iconst 3, 1) := by decide +kernel
theorem dX5_readTerm_15 : decode cX5_readTerm 15 = .ok (.if_icmp .ne 12, 3) := by decide +kernel
theorem dX5_readTerm_18 : decode cX5_readTerm 18 = .ok (.aload_n 0, 1) := by decide +kernel
theorem dX5_readTerm_19 : decode cX5_readTerm 19 = .ok (.invokevirtual 80, 3) := by decide +kernel
theorem dX5_readTerm_22 : decode cX5_readTerm 22 = .ok (.ifCond .ne 54, 3) := by decide +kernel
theorem dX5_readTerm_25 : decode cX5_readTerm 25 = .ok (.iconst 0, 1) := by decide +kernel
theorem dX5_readTerm_26 : decode cX5_readTerm 26 = .ok (.ireturn, 1) := by decide +kernel
theorem dX5_readTerm_27 : decode cX5_readTerm 27 = .ok (.iload_n 2, 1) := by decide +kernel
theorem dX5_readTerm_28 : decode cX5_readTerm 28 = .ok (.bipush 40, 2) := by decide +kernel
theorem dX5_readTerm_30 : decode cX5_readTerm 30 = .ok (.if_icmp .ne 40, 3) := by decide +kernel
theorem dX5_readTerm_33 : decode cX5_readTerm 33 = .ok (.aload_n 0, 1) := by decide +kernel
theorem dX5_readTerm_34 : decode cX5_readTerm 34 = .ok (.getfield 9, 3) := by decide +kernel
theorem dX5_readTerm_37 : decode cX5_readTerm 37 = .ok (.invokevirtual 51, 3) := by decide +kernel
theorem dX5_readTerm_40 : decode cX5_readTerm 40 = .ok (.aload_n 0, 1) := by decide +kernel
theorem dX5_readTerm_41 : decode cX5_readTerm 41 = .ok (.iload_n 1, 1) := by decide +kernel
theorem dX5_readTerm_42 : decode cX5_readTerm 42 = .ok (.iconst 1, 1) := by decide +kernel
theorem dX5_readTerm_43 : decode cX5_readTerm 43 = .ok (.iadd, 1) := by decide +kernel
theorem dX5_readTerm_44 : decode cX5_readTerm 44 = .ok (.invokevirtual 54, 3) := by decide +kernel
theorem dX5_readTerm_47 : decode cX5_readTerm 47 = .ok (.ifCond .ne 5, 3) := by decide +kernel
theorem dX5_readTerm_50 : decode cX5_readTerm 50 = .ok (.iconst 0, 1) := by decide +kernel
theorem dX5_readTerm_51 : decode cX5_readTerm 51 = .ok (.ireturn, 1) := by decide +kernel
theorem dX5_readTerm_52 : decode cX5_readTerm 52 = .ok (.aload_n 0, 1) := by decide +kernel
theorem dX5_readTerm_53 : decode cX5_readTerm 53 = .ok (.getfield 9, 3) := by decide +kernel
theorem dX5_readTerm_56 : decode cX5_readTerm 56 = .ok (.invokevirtual 39, 3) := by decide +kernel
theorem dX5_readTerm_59 : decode cX5_readTerm 59 = .ok (.bipush 41, 2) := by decide +kernel
theorem dX5_readTerm_61 : decode cX5_readTerm 61 = .ok (.if_icmp .eq 15, 3) := by decide +kernel
theorem dX5_readTerm_64 : decode cX5_readTerm 64 = .ok (.aload_n 0, 1) := by decide +kernel
theorem dX5_readTerm_65 : decode cX5_readTerm 65 = .ok (.iconst 2, 1) := by decide +kernel
theorem dX5_readTerm_66 : decode cX5_readTerm 66 = .ok (.invokevirtual 43, 3) := by decide +kernel
theorem dX5_readTerm_69 : decode cX5_readTerm 69 = .ok (.ireturn, 1) := by decide +kernel
theorem dX5_readTerm_70 : decode cX5_readTerm 70 = .ok (.aload_n 0, 1) := by decide +kernel
theorem dX5_readTerm_71 : decode cX5_readTerm 71 = .ok (.iconst 2, 1) := by decide +kernel
theorem dX5_readTerm_72 : decode cX5_readTerm 72 = .ok (.invokevirtual 43, 3) := by decide +kernel
theorem dX5_readTerm_75 : decode cX5_readTerm 75 = .ok (.ireturn, 1) := by decide +kernel
theorem dX5_readTerm_76 : decode cX5_readTerm 76 = .ok (.aload_n 0, 1) := by decide +kernel
theorem dX5_readTerm_77 : decode cX5_readTerm 77 = .ok (.getfield 9, 3) := by decide +kernel
theorem dX5_readTerm_80 : decode cX5_readTerm 80 = .ok (.invokevirtual 51, 3) := by decide +kernel
theorem dX5_readTerm_83 : decode cX5_readTerm 83 = .ok (.iconst 1, 1) := by decide +kernel
theorem dX5_readTerm_84 : decode cX5_readTerm 84 = .ok (.ireturn, 1) := by decide +kernel
theorem dX5_takeOperand_0 : decode cX5_takeOperand 0 = .ok (.aload_n 0, 1) := by decide +kernel
theorem dX5_takeOperand_1 : decode cX5_takeOperand 1 = .ok (.getfield 26, 3) := by decide +kernel
theorem dX5_takeOperand_4 : decode cX5_takeOperand 4 = .ok (.bipush 120, 2) := by decide +kernel
theorem dX5_takeOperand_6 : decode cX5_takeOperand 6 = .ok (.if_icmp .lt 9, 3) := by decide +kernel
theorem dX5_takeOperand_9 : decode cX5_takeOperand 9 = .ok (.aload_n 0, 1) := by decide +kernel
theorem dX5_takeOperand_10 : decode cX5_takeOperand 10 = .ok (.iconst 2, 1) := by decide +kernel
theorem dX5_takeOperand_11 : decode cX5_takeOperand 11 = .ok (.invokevirtual 43, 3) := by decide +kernel
theorem dX5_takeOperand_14 : decode cX5_takeOperand 14 = .ok (.ireturn, 1) := by decide +kernel
theorem dX5_takeOperand_15 : decode cX5_takeOperand 15 = .ok (.aload_n 0, 1) := by decide +kernel
theorem dX5_takeOperand_16 : decode cX5_takeOperand 16 = .ok (.dup, 1) := by decide +kernel
theorem dX5_takeOperand_17 : decode cX5_takeOperand 17 = .ok (.getfield 26, 3) := by decide +kernel
theorem dX5_takeOperand_20 : decode cX5_takeOperand 20 = .ok (.iconst 1, 1) := by decide +kernel
theorem dX5_takeOperand_21 : decode cX5_takeOperand 21 = .ok (.iadd, 1) := by decide +kernel
theorem dX5_takeOperand_22 : decode cX5_takeOperand 22 = .ok (.putfield 26, 3) := by decide +kernel
theorem dX5_takeOperand_25 : decode cX5_takeOperand 25 = .ok (.aload_n 0, 1) := by decide +kernel
theorem dX5_takeOperand_26 : decode cX5_takeOperand 26 = .ok (.getfield 9, 3) := by decide +kernel
theorem dX5_takeOperand_29 : decode cX5_takeOperand 29 = .ok (.invokevirtual 84, 3) := by decide +kernel
theorem dX5_takeOperand_32 : decode cX5_takeOperand 32 = .ok (.istore_n 1, 1) := by decide +kernel
theorem dX5_takeOperand_33 : decode cX5_takeOperand 33 = .ok (.aload_n 0, 1) := by decide +kernel
theorem dX5_takeOperand_34 : decode cX5_takeOperand 34 = .ok (.getfield 9, 3) := by decide +kernel
theorem dX5_takeOperand_37 : decode cX5_takeOperand 37 = .ok (.invokevirtual 39, 3) := by decide +kernel
theorem dX5_takeOperand_40 : decode cX5_takeOperand 40 = .ok (.iconst 2, 1) := by decide +kernel
theorem dX5_takeOperand_41 : decode cX5_takeOperand 41 = .ok (.if_icmp .ne 16, 3) := by decide +kernel
theorem dX5_takeOperand_44 : decode cX5_takeOperand 44 = .ok (.aload_n 0, 1) := by decide +kernel
theorem dX5_takeOperand_45 : decode cX5_takeOperand 45 = .ok (.getfield 15, 3) := by decide +kernel
theorem dX5_takeOperand_48 : decode cX5_takeOperand 48 = .ok (.bipush 100, 2) := by decide +kernel
theorem dX5_takeOperand_50 : decode cX5_takeOperand 50 = .ok (.iload_n 1, 1) := by decide +kernel
theorem dX5_takeOperand_51 : decode cX5_takeOperand 51 = .ok (.iadd, 1) := by decide +kernel
theorem dX5_takeOperand_52 : decode cX5_takeOperand 52 = .ok (.invokevirtual 64, 3) := by decide +kernel
theorem dX5_takeOperand_55 : decode cX5_takeOperand 55 = .ok (.iconst 1, 1) := by decide +kernel
theorem dX5_takeOperand_56 : decode cX5_takeOperand 56 = .ok (.ireturn, 1) := by decide +kernel
theorem dX5_takeOperand_57 : decode cX5_takeOperand 57 = .ok (.iload_n 1, 1) := by decide +kernel
theorem dX5_takeOperand_58 : decode cX5_takeOperand 58 = .ok (.iconst (-1), 1) := by decide +kernel
theorem dX5_takeOperand_59 : decode cX5_takeOperand 59 = .ok (.if_icmp .eq 21, 3) := by decide +kernel
theorem dX5_takeOperand_62 : decode cX5_takeOperand 62 = .ok (.iload_n 1, 1) := by decide +kernel
theorem dX5_takeOperand_63 : decode cX5_takeOperand 63 = .ok (.aload_n 0, 1) := by decide +kernel
theorem dX5_takeOperand_64 : decode cX5_takeOperand 64 = .ok (.getfield 47, 3) := by decide +kernel
theorem dX5_takeOperand_67 : decode cX5_takeOperand 67 = .ok (.ifCond .eq 8, 3) := by decide +kernel
theorem dX5_takeOperand_70 : decode cX5_takeOperand 70 = .ok (.bipush 14, 2) := by decide +kernel
theorem dX5_takeOperand_72 : decode cX5_takeOperand 72 = .ok (.goto 5, 3) := by decide +kernel
theorem dX5_takeOperand_75 : decode cX5_takeOperand 75 = .ok (.bipush 8, 2) := by decide +kernel
theorem dX5_takeOperand_77 : decode cX5_takeOperand 77 = .ok (.if_icmp .lt 9, 3) := by decide +kernel
theorem dX5_takeOperand_80 : decode cX5_takeOperand 80 = .ok (.aload_n 0, 1) := by decide +kernel
theorem dX5_takeOperand_81 : decode cX5_takeOperand 81 = .ok (.iconst 3, 1) := by decide +kernel
theorem dX5_takeOperand_82 : decode cX5_takeOperand 82 = .ok (.invokevirtual 43, 3) := by decide +kernel
theorem dX5_takeOperand_85 : decode cX5_takeOperand 85 = .ok (.ireturn, 1) := by decide +kernel
theorem dX5_takeOperand_86 : decode cX5_takeOperand 86 = .ok (.aload_n 0, 1) := by decide +kernel
theorem dX5_takeOperand_87 : decode cX5_takeOperand 87 = .ok (.getfield 15, 3) := by decide +kernel
theorem dX5_takeOperand_90 : decode cX5_takeOperand 90 = .ok (.iload_n 1, 1) := by decide +kernel
theorem dX5_takeOperand_91 : decode cX5_takeOperand 91 = .ok (.invokevirtual 64, 3) := by decide +kernel
theorem dX5_takeOperand_94 : decode cX5_takeOperand 94 = .ok (.iconst 1, 1) := by decide +kernel
theorem dX5_takeOperand_95 : decode cX5_takeOperand 95 = .ok (.ireturn, 1) := by decide +kernel
theorem dX5_refuse_0 : decode cX5_refuse 0 = .ok (.aload_n 0, 1) := by decide +kernel
theorem dX5_refuse_1 : decode cX5_refuse 1 = .ok (.aload_n 0, 1) := by decide +kernel
theorem dX5_refuse_2 : decode cX5_refuse 2 = .ok (.getfield 9, 3) := by decide +kernel
theorem dX5_refuse_5 : decode cX5_refuse 5 = .ok (.invokevirtual 39, 3) := by decide +kernel
theorem dX5_refuse_8 : decode cX5_refuse 8 = .ok (.iconst 1, 1) := by decide +kernel
theorem dX5_refuse_9 : decode cX5_refuse 9 = .ok (.if_icmp .ne 7, 3) := by decide +kernel
theorem dX5_refuse_12 : decode cX5_refuse 12 = .ok (.iconst 1, 1) := by decide +kernel
theorem dX5_refuse_13 : decode cX5_refuse 13 = .ok (.goto 4, 3) := by decide +kernel
theorem dX5_refuse_16 : decode cX5_refuse 16 = .ok (.iload_n 1, 1) := by decide +kernel
theorem dX5_refuse_17 : decode cX5_refuse 17 = .ok (.putfield 23, 3) := by decide +kernel
theorem dX5_refuse_20 : decode cX5_refuse 20 = .ok (.aload_n 0, 1) := by decide +kernel
theorem dX5_refuse_21 : decode cX5_refuse 21 = .ok (.aload_n 0, 1) := by decide +kernel
theorem dX5_refuse_22 : decode cX5_refuse 22 = .ok (.getfield 9, 3) := by decide +kernel
theorem dX5_refuse_25 : decode cX5_refuse 25 = .ok (.invokevirtual 87, 3) := by decide +kernel
theorem dX5_refuse_28 : decode cX5_refuse 28 = .ok (.putfield 19, 3) := by decide +kernel
theorem dX5_refuse_31 : decode cX5_refuse 31 = .ok (.iconst 0, 1) := by decide +kernel
theorem dX5_refuse_32 : decode cX5_refuse 32 = .ok (.ireturn, 1) := by decide +kernel
theorem dX6_init_0 : decode cX6_init 0 = .ok (.aload_n 0, 1) := by decide +kernel
theorem dX6_init_1 : decode cX6_init 1 = .ok (.invokespecial 3, 3) := by decide +kernel
theorem dX6_init_4 : decode cX6_init 4 = .ok (.aload_n 0, 1) := by decide +kernel
theorem dX6_init_5 : decode cX6_init 5 = .ok (.bipush 12, 2) := by decide +kernel
theorem dX6_init_7 : decode cX6_init 7 = .ok (.newarray .int, 2) := by decide +kernel
theorem dX6_init_9 : decode cX6_init 9 = .ok (.putfield 9, 3) := by decide +kernel
theorem dX6_init_12 : decode cX6_init 12 = .ok (.aload_n 0, 1) := by decide +kernel
theorem dX6_init_13 : decode cX6_init 13 = .ok (.sipush 288, 3) := by decide +kernel
theorem dX6_init_16 : decode cX6_init 16 = .ok (.newarray .int, 2) := by decide +kernel
theorem dX6_init_18 : decode cX6_init 18 = .ok (.putfield 15, 3) := by decide +kernel
theorem dX6_init_21 : decode cX6_init 21 = .ok (.aload_n 0, 1) := by decide +kernel
theorem dX6_init_22 : decode cX6_init 22 = .ok (.sipush 1728, 3) := by decide +kernel
theorem dX6_init_25 : decode cX6_init 25 = .ok (.newarray .int, 2) := by decide +kernel
theorem dX6_init_27 : decode cX6_init 27 = .ok (.putfield 18, 3) := by decide +kernel
theorem dX6_init_30 : decode cX6_init 30 = .ok (.aload_n 0, 1) := by decide +kernel
theorem dX6_init_31 : decode cX6_init 31 = .ok (.aload_n 1, 1) := by decide +kernel
theorem dX6_init_32 : decode cX6_init 32 = .ok (.putfield 21, 3) := by decide +kernel
theorem dX6_init_35 : decode cX6_init 35 = .ok (.aload_n 0, 1) := by decide +kernel
theorem dX6_init_36 : decode cX6_init 36 = .ok (.aload_n 2, 1) := by decide +kernel
theorem dX6_init_37 : decode cX6_init 37 = .ok (.putfield 25, 3) := by decide +kernel
theorem dX6_init_40 : decode cX6_init 40 = .ok (.aload_n 0, 1) := by decide +kernel
theorem dX6_init_41 : decode cX6_init 41 = .ok (.aload_n 3, 1) := by decide +kernel
theorem dX6_init_42 : decode cX6_init 42 = .ok (.putfield 29, 3) := by decide +kernel
theorem dX6_init_45 : decode cX6_init 45 = .ok (.return_, 1) := by decide +kernel
theorem dX6_triesMade_0 : decode cX6_triesMade 0 = .ok (.aload_n 0, 1) := by decide +kernel
theorem dX6_triesMade_1 : decode cX6_triesMade 1 = .ok (.getfield 33, 3) := by decide +kernel
theorem dX6_triesMade_4 : decode cX6_triesMade 4 = .ok (.ireturn, 1) := by decide +kernel
theorem dX6_hasPlan_0 : decode cX6_hasPlan 0 = .ok (.aload_n 0, 1) := by decide +kernel
theorem dX6_hasPlan_1 : decode cX6_hasPlan 1 = .ok (.getfield 37, 3) := by decide +kernel
theorem dX6_hasPlan_4 : decode cX6_hasPlan 4 = .ok (.ireturn, 1) := by decide +kernel
theorem dX6_spotOf_0 : decode cX6_spotOf 0 = .ok (.aload_n 0, 1) := by decide +kernel
theorem dX6_spotOf_1 : decode cX6_spotOf 1 = .ok (.getfield 37, 3) := by decide +kernel
theorem dX6_spotOf_4 : decode cX6_spotOf 4 = .ok (.ifCond .eq 12, 3) := by decide +kernel
theorem dX6_spotOf_7 : decode cX6_spotOf 7 = .ok (.aload_n 0, 1) := by decide +kernel
theorem dX6_spotOf_8 : decode cX6_spotOf 8 = .ok (.getfield 9, 3) := by decide +kernel
theorem dX6_spotOf_11 : decode cX6_spotOf 11 = .ok (.iload_n 1, 1) := by decide +kernel
theorem dX6_spotOf_12 : decode cX6_spotOf 12 = .ok (.iaload, 1) := by decide +kernel
theorem dX6_spotOf_13 : decode cX6_spotOf 13 = .ok (.goto 4, 3) := by decide +kernel
theorem dX6_spotOf_16 : decode cX6_spotOf 16 = .ok (.iconst (-1), 1) := by decide +kernel
theorem dX6_spotOf_17 : decode cX6_spotOf 17 = .ok (.ireturn, 1) := by decide +kernel
theorem dX6_forget_0 : decode cX6_forget 0 = .ok (.aload_n 0, 1) := by decide +kernel
theorem dX6_forget_1 : decode cX6_forget 1 = .ok (.iconst 0, 1) := by decide +kernel
theorem dX6_forget_2 : decode cX6_forget 2 = .ok (.putfield 37, 3) := by decide +kernel
theorem dX6_forget_5 : decode cX6_forget 5 = .ok (.return_, 1) := by decide +kernel
theorem dX6_look_0 : decode cX6_look 0 = .ok (.aload_n 0, 1) := by decide +kernel
theorem dX6_look_1 : decode cX6_look 1 = .ok (.iload_n 1, 1) := by decide +kernel
theorem dX6_look_2 : decode cX6_look 2 = .ok (.putfield 41, 3) := by decide +kernel
theorem dX6_look_5 : decode cX6_look 5 = .ok (.aload_n 0, 1) := by decide +kernel
theorem dX6_look_6 : decode cX6_look 6 = .ok (.iconst 0, 1) := by decide +kernel
theorem dX6_look_7 : decode cX6_look 7 = .ok (.putfield 33, 3) := by decide +kernel
theorem dX6_look_10 : decode cX6_look 10 = .ok (.aload_n 0, 1) := by decide +kernel
theorem dX6_look_11 : decode cX6_look 11 = .ok (.getfield 9, 3) := by decide +kernel
theorem dX6_look_14 : decode cX6_look 14 = .ok (.iconst (-1), 1) := by decide +kernel
theorem dX6_look_15 : decode cX6_look 15 = .ok (.invokestatic 44, 3) := by decide +kernel
theorem dX6_look_18 : decode cX6_look 18 = .ok (.aload_n 0, 1) := by decide +kernel
theorem dX6_look_19 : decode cX6_look 19 = .ok (.getfield 15, 3) := by decide +kernel
theorem dX6_look_22 : decode cX6_look 22 = .ok (.iconst 0, 1) := by decide +kernel
theorem dX6_look_23 : decode cX6_look 23 = .ok (.invokestatic 44, 3) := by decide +kernel
theorem dX6_look_26 : decode cX6_look 26 = .ok (.aload_n 0, 1) := by decide +kernel
theorem dX6_look_27 : decode cX6_look 27 = .ok (.getfield 18, 3) := by decide +kernel
theorem dX6_look_30 : decode cX6_look 30 = .ok (.iconst 0, 1) := by decide +kernel
theorem dX6_look_31 : decode cX6_look 31 = .ok (.invokestatic 44, 3) := by decide +kernel
theorem dX6_look_34 : decode cX6_look 34 = .ok (.aload_n 0, 1) := by decide +kernel
theorem dX6_look_35 : decode cX6_look 35 = .ok (.iconst 0, 1) := by decide +kernel
theorem dX6_look_36 : decode cX6_look 36 = .ok (.invokevirtual 50, 3) := by decide +kernel
theorem dX6_look_39 : decode cX6_look 39 = .ok (.istore_n 2, 1) := by decide +kernel
theorem dX6_look_40 : decode cX6_look 40 = .ok (.aload_n 0, 1) := by decide +kernel
theorem dX6_look_41 : decode cX6_look 41 = .ok (.iload_n 2, 1) := by decide +kernel
theorem dX6_look_42 : decode cX6_look 42 = .ok (.iconst 1, 1) := by decide +kernel
theorem dX6_look_43 : decode cX6_look 43 = .ok (.if_icmp .ne 7, 3) := by decide +kernel
theorem dX6_look_46 : decode cX6_look 46 = .ok (.iconst 1, 1) := by decide +kernel
theorem dX6_look_47 : decode cX6_look 47 = .ok (.goto 4, 3) := by decide +kernel
theorem dX6_look_50 : decode cX6_look 50 = .ok (.iconst 0, 1) := by decide +kernel
theorem dX6_look_51 : decode cX6_look 51 = .ok (.putfield 37, 3) := by decide +kernel
theorem dX6_look_54 : decode cX6_look 54 = .ok (.iload_n 2, 1) := by decide +kernel
theorem dX6_look_55 : decode cX6_look 55 = .ok (.ireturn, 1) := by decide +kernel
theorem dX6_place_0 : decode cX6_place 0 = .ok (.iload_n 1, 1) := by decide +kernel
theorem dX6_place_1 : decode cX6_place 1 = .ok (.aload_n 0, 1) := by decide +kernel
theorem dX6_place_2 : decode cX6_place 2 = .ok (.getfield 21, 3) := by decide +kernel
theorem dX6_place_5 : decode cX6_place 5 = .ok (.invokevirtual 54, 3) := by decide +kernel
theorem dX6_place_8 : decode cX6_place 8 = .ok (.if_icmp .lt 5, 3) := by decide +kernel
theorem dX6_place_11 : decode cX6_place 11 = .ok (.iconst 1, 1) := by decide +kernel
theorem dX6_place_12 : decode cX6_place 12 = .ok (.ireturn, 1) := by decide +kernel
theorem dX6_place_13 : decode cX6_place 13 = .ok (.aload_n 0, 1) := by decide +kernel
theorem dX6_place_14 : decode cX6_place 14 = .ok (.getfield 21, 3) := by decide +kernel
theorem dX6_place_17 : decode cX6_place 17 = .ok (.iload_n 1, 1) := by decide +kernel
theorem dX6_place_18 : decode cX6_place 18 = .ok (.invokevirtual 60, 3) := by decide +kernel
theorem dX6_place_21 : decode cX6_place 21 = .ok (.ifCond .eq 11, 3) := by decide +kernel
theorem dX6_place_24 : decode cX6_place 24 = .ok (.aload_n 0, 1) := by decide +kernel
theorem dX6_place_25 : decode cX6_place 25 = .ok (.iload_n 1, 1) := by decide +kernel
theorem dX6_place_26 : decode cX6_place 26 = .ok (.iconst 1, 1) := by decide +kernel
theorem dX6_place_27 : decode cX6_place 27 = .ok (.iadd, 1) := by decide +kernel
theorem dX6_place_28 : decode cX6_place 28 = .ok (.invokevirtual 50, 3) := by decide +kernel
theorem dX6_place_31 : decode cX6_place 31 = .ok (.ireturn, 1) := by decide +kernel
theorem dX6_place_32 : decode cX6_place 32 = .ok (.iconst 0, 1) := by decide +kernel
theorem dX6_place_33 : decode cX6_place 33 = .ok (.istore_n 2, 1) := by decide +kernel
theorem dX6_place_34 : decode cX6_place 34 = .ok (.iload_n 2, 1) := by decide +kernel
theorem dX6_place_35 : decode cX6_place 35 = .ok (.bipush 24, 2) := by decide +kernel
theorem dX6_place_37 : decode cX6_place 37 = .ok (.if_icmp .ge 69, 3) := by decide +kernel
theorem dX6_place_40 : decode cX6_place 40 = .ok (.aload_n 0, 1) := by decide +kernel
theorem dX6_place_41 : decode cX6_place 41 = .ok (.getfield 33, 3) := by decide +kernel
theorem dX6_place_44 : decode cX6_place 44 = .ok (.sipush 20000, 3) := by decide +kernel
theorem dX6_place_47 : decode cX6_place 47 = .ok (.if_icmp .lt 6, 3) := by decide +kernel
theorem dX6_place_50 : decode cX6_place 50 = .ok (.bipush (-2), 2) := by decide +kernel
theorem dX6_place_52 : decode cX6_place 52 = .ok (.ireturn, 1) := by decide +kernel
theorem dX6_place_53 : decode cX6_place 53 = .ok (.aload_n 0, 1) := by decide +kernel
theorem dX6_place_54 : decode cX6_place 54 = .ok (.dup, 1) := by decide +kernel
theorem dX6_place_55 : decode cX6_place 55 = .ok (.getfield 33, 3) := by decide +kernel
theorem dX6_place_58 : decode cX6_place 58 = .ok (.iconst 1, 1) := by decide +kernel
theorem dX6_place_59 : decode cX6_place 59 = .ok (.iadd, 1) := by decide +kernel
theorem dX6_place_60 : decode cX6_place 60 = .ok (.putfield 33, 3) := by decide +kernel
theorem dX6_place_63 : decode cX6_place 63 = .ok (.aload_n 0, 1) := by decide +kernel
theorem dX6_place_64 : decode cX6_place 64 = .ok (.iload_n 1, 1) := by decide +kernel
theorem dX6_place_65 : decode cX6_place 65 = .ok (.iload_n 2, 1) := by decide +kernel
theorem dX6_place_66 : decode cX6_place 66 = .ok (.invokevirtual 64, 3) := by decide +kernel
theorem dX6_place_69 : decode cX6_place 69 = .ok (.ifCond .eq 31, 3) := by decide +kernel
theorem dX6_place_72 : decode cX6_place 72 = .ok (.aload_n 0, 1) := by decide +kernel
theorem dX6_place_73 : decode cX6_place 73 = .ok (.getfield 9, 3) := by decide +kernel
theorem dX6_place_76 : decode cX6_place 76 = .ok (.iload_n 1, 1) := by decide +kernel
theorem dX6_place_77 : decode cX6_place 77 = .ok (.iload_n 2, 1) := by decide +kernel
theorem dX6_place_78 : decode cX6_place 78 = .ok (.iastore, 1) := by decide +kernel
theorem dX6_place_79 : decode cX6_place 79 = .ok (.aload_n 0, 1) := by decide +kernel
theorem dX6_place_80 : decode cX6_place 80 = .ok (.iload_n 1, 1) := by decide +kernel
theorem dX6_place_81 : decode cX6_place 81 = .ok (.iconst 1, 1) := by decide +kernel
theorem dX6_place_82 : decode cX6_place 82 = .ok (.iadd, 1) := by decide +kernel
theorem dX6_place_83 : decode cX6_place 83 = .ok (.invokevirtual 50, 3) := by decide +kernel
theorem dX6_place_86 : decode cX6_place 86 = .ok (.istore_n 3, 1) := by decide +kernel
theorem dX6_place_87 : decode cX6_place 87 = .ok (.iload_n 3, 1) := by decide +kernel
theorem dX6_place_88 : decode cX6_place 88 = .ok (.ifCond .eq 5, 3) := by decide +kernel
theorem dX6_place_91 : decode cX6_place 91 = .ok (.iload_n 3, 1) := by decide +kernel
theorem dX6_place_92 : decode cX6_place 92 = .ok (.ireturn, 1) := by decide +kernel
theorem dX6_place_93 : decode cX6_place 93 = .ok (.aload_n 0, 1) := by decide +kernel
theorem dX6_place_94 : decode cX6_place 94 = .ok (.getfield 9, 3) := by decide +kernel
theorem dX6_place_97 : decode cX6_place 97 = .ok (.iload_n 1, 1) := by decide +kernel
theorem dX6_place_98 : decode cX6_place 98 = .ok (.iconst (-1), 1) := by decide +kernel
theorem dX6_place_99 : decode cX6_place 99 = .ok (.iastore, 1) := by decide +kernel
theorem dX6_place_100 : decode cX6_place 100 = .ok (.iinc 2 1, 3) := by decide +kernel
theorem dX6_place_103 : decode cX6_place 103 = .ok (.goto (-69), 3) := by decide +kernel
theorem dX6_place_106 : decode cX6_place 106 = .ok (.iconst 0, 1) := by decide +kernel
theorem dX6_place_107 : decode cX6_place 107 = .ok (.ireturn, 1) := by decide +kernel
theorem dX6_fits_0 : decode cX6_fits 0 = .ok (.aload_n 0, 1) := by decide +kernel
theorem dX6_fits_1 : decode cX6_fits 1 = .ok (.iload_n 1, 1) := by decide +kernel
theorem dX6_fits_2 : decode cX6_fits 2 = .ok (.iload_n 2, 1) := by decide +kernel
theorem dX6_fits_3 : decode cX6_fits 3 = .ok (.invokevirtual 68, 3) := by decide +kernel
theorem dX6_fits_6 : decode cX6_fits 6 = .ok (.ifCond .ne 5, 3) := by decide +kernel
theorem dX6_fits_9 : decode cX6_fits 9 = .ok (.iconst 0, 1) := by decide +kernel
theorem dX6_fits_10 : decode cX6_fits 10 = .ok (.ireturn, 1) := by decide +kernel
theorem dX6_fits_11 : decode cX6_fits 11 = .ok (.aload_n 0, 1) := by decide +kernel
theorem dX6_fits_12 : decode cX6_fits 12 = .ok (.getfield 25, 3) := by decide +kernel
theorem dX6_fits_15 : decode cX6_fits 15 = .ok (.iload_n 2, 1) := by decide +kernel
theorem dX6_fits_16 : decode cX6_fits 16 = .ok (.invokestatic 71, 3) := by decide +kernel
theorem dX6_fits_19 : decode cX6_fits 19 = .ok (.invokevirtual 74, 3) := by decide +kernel
theorem dX6_fits_22 : decode cX6_fits 22 = .ok (.istore_n 3, 1) := by decide +kernel
theorem dX6_fits_23 : decode cX6_fits 23 = .ok (.iconst 0, 1) := by decide +kernel
theorem dX6_fits_24 : decode cX6_fits 24 = .ok (.istore 4, 2) := by decide +kernel
theorem dX6_fits_26 : decode cX6_fits 26 = .ok (.iload 4, 2) := by decide +kernel
theorem dX6_fits_28 : decode cX6_fits 28 = .ok (.iload_n 1, 1) := by decide +kernel
theorem dX6_fits_29 : decode cX6_fits 29 = .ok (.if_icmp .ge 70, 3) := by decide +kernel
theorem dX6_fits_32 : decode cX6_fits 32 = .ok (.aload_n 0, 1) := by decide +kernel
theorem dX6_fits_33 : decode cX6_fits 33 = .ok (.getfield 9, 3) := by decide +kernel
theorem dX6_fits_36 : decode cX6_fits 36 = .ok (.iload 4, 2) := by decide +kernel
theorem dX6_fits_38 : decode cX6_fits 38 = .ok (.iaload, 1) := by decide +kernel
theorem dX6_fits_39 : decode cX6_fits 39 = .ok (.istore 5, 2) := by decide +kernel
theorem dX6_fits_41 : decode cX6_fits 41 = .ok (.iload 5, 2) := by decide +kernel
theorem dX6_fits_43 : decode cX6_fits 43 = .ok (.iconst (-1), 1) := by decide +kernel
theorem dX6_fits_44 : decode cX6_fits 44 = .ok (.if_icmp .eq 49, 3) := by decide +kernel
theorem dX6_fits_47 : decode cX6_fits 47 = .ok (.iload 5, 2) := by decide +kernel
theorem dX6_fits_49 : decode cX6_fits 49 = .ok (.invokestatic 79, 3) := by decide +kernel
theorem dX6_fits_52 : decode cX6_fits 52 = .ok (.iload_n 2, 1) := by decide +kernel
theorem dX6_fits_53 : decode cX6_fits 53 = .ok (.invokestatic 79, 3) := by decide +kernel
theorem dX6_fits_56 : decode cX6_fits 56 = .ok (.if_icmp .eq 6, 3) := by decide +kernel
theorem dX6_fits_59 : decode cX6_fits 59 = .ok (.goto 34, 3) := by decide +kernel
theorem dX6_fits_62 : decode cX6_fits 62 = .ok (.iload 5, 2) := by decide +kernel
theorem dX6_fits_64 : decode cX6_fits 64 = .ok (.iload_n 2, 1) := by decide +kernel
theorem dX6_fits_65 : decode cX6_fits 65 = .ok (.if_icmp .ne 6, 3) := by decide +kernel
theorem dX6_fits_68 : decode cX6_fits 68 = .ok (.iinc 3 (-1), 3) := by decide +kernel
theorem dX6_fits_71 : decode cX6_fits 71 = .ok (.iload_n 3, 1) := by decide +kernel
theorem dX6_fits_72 : decode cX6_fits 72 = .ok (.ifCond .le 19, 3) := by decide +kernel
theorem dX6_fits_75 : decode cX6_fits 75 = .ok (.aload_n 0, 1) := by decide +kernel
theorem dX6_fits_76 : decode cX6_fits 76 = .ok (.iload_n 1, 1) := by decide +kernel
theorem dX6_fits_77 : decode cX6_fits 77 = .ok (.iload_n 2, 1) := by decide +kernel
theorem dX6_fits_78 : decode cX6_fits 78 = .ok (.iload 4, 2) := by decide +kernel
theorem dX6_fits_80 : decode cX6_fits 80 = .ok (.iload 5, 2) := by decide +kernel
theorem dX6_fits_82 : decode cX6_fits 82 = .ok (.invokestatic 71, 3) := by decide +kernel
theorem dX6_fits_85 : decode cX6_fits 85 = .ok (.invokevirtual 82, 3) := by decide +kernel
theorem dX6_fits_88 : decode cX6_fits 88 = .ok (.ifCond .ne 5, 3) := by decide +kernel
theorem dX6_fits_91 : decode cX6_fits 91 = .ok (.iconst 0, 1) := by decide +kernel
theorem dX6_fits_92 : decode cX6_fits 92 = .ok (.ireturn, 1) := by decide +kernel
theorem dX6_fits_93 : decode cX6_fits 93 = .ok (.iinc 4 1, 3) := by decide +kernel
theorem dX6_fits_96 : decode cX6_fits 96 = .ok (.goto (-70), 3) := by decide +kernel
theorem dX6_fits_99 : decode cX6_fits 99 = .ok (.iconst 1, 1) := by decide +kernel
theorem dX6_fits_100 : decode cX6_fits 100 = .ok (.ireturn, 1) := by decide +kernel
theorem dX6_mayStand_0 : decode cX6_mayStand 0 = .ok (.iload_n 1, 1) := by decide +kernel
theorem dX6_mayStand_1 : decode cX6_mayStand 1 = .ok (.bipush 24, 2) := by decide +kernel
theorem dX6_mayStand_3 : decode cX6_mayStand 3 = .ok (.imul, 1) := by decide +kernel
theorem dX6_mayStand_4 : decode cX6_mayStand 4 = .ok (.iload_n 2, 1) := by decide +kernel
theorem dX6_mayStand_5 : decode cX6_mayStand 5 = .ok (.iadd, 1) := by decide +kernel
theorem dX6_mayStand_6 : decode cX6_mayStand 6 = .ok (.istore_n 3, 1) := by decide +kernel
theorem dX6_mayStand_7 : decode cX6_mayStand 7 = .ok (.aload_n 0, 1) := by decide +kernel
theorem dX6_mayStand_8 : decode cX6_mayStand 8 = .ok (.getfield 15, 3) := by decide +kernel
theorem dX6_mayStand_11 : decode cX6_mayStand 11 = .ok (.iload_n 3, 1) := by decide +kernel
theorem dX6_mayStand_12 : decode cX6_mayStand 12 = .ok (.iaload, 1) := by decide +kernel
theorem dX6_mayStand_13 : decode cX6_mayStand 13 = .ok (.ifCond .ne 37, 3) := by decide +kernel
theorem dX6_mayStand_16 : decode cX6_mayStand 16 = .ok (.aload_n 0, 1) := by decide +kernel
theorem dX6_mayStand_17 : decode cX6_mayStand 17 = .ok (.getfield 15, 3) := by decide +kernel
theorem dX6_mayStand_20 : decode cX6_mayStand 20 = .ok (.iload_n 3, 1) := by decide +kernel
theorem dX6_mayStand_21 : decode cX6_mayStand 21 = .ok (.aload_n 0, 1) := by decide +kernel
theorem dX6_mayStand_22 : decode cX6_mayStand 22 = .ok (.getfield 29, 3) := by decide +kernel
theorem dX6_mayStand_25 : decode cX6_mayStand 25 = .ok (.iload_n 1, 1) := by decide +kernel
theorem dX6_mayStand_26 : decode cX6_mayStand 26 = .ok (.iload_n 2, 1) := by decide +kernel
theorem dX6_mayStand_27 : decode cX6_mayStand 27 = .ok (.invokestatic 71, 3) := by decide +kernel
theorem dX6_mayStand_30 : decode cX6_mayStand 30 = .ok (.iload_n 2, 1) := by decide +kernel
theorem dX6_mayStand_31 : decode cX6_mayStand 31 = .ok (.invokestatic 79, 3) := by decide +kernel
theorem dX6_mayStand_34 : decode cX6_mayStand 34 = .ok (.aload_n 0, 1) := by decide +kernel
theorem dX6_mayStand_35 : decode cX6_mayStand 35 = .ok (.getfield 41, 3) := by decide +kernel
theorem dX6_mayStand_38 : decode cX6_mayStand 38 = .ok (.invokevirtual 86, 3) := by decide +kernel
theorem dX6_mayStand_41 : decode cX6_mayStand 41 = .ok (.ifCond .eq 7, 3) := by decide +kernel
theorem dX6_mayStand_44 : decode cX6_mayStand 44 = .ok (.iconst 1, 1) := by decide +kernel
theorem dX6_mayStand_45 : decode cX6_mayStand 45 = .ok (.goto 4, 3) := by decide +kernel
theorem dX6_mayStand_48 : decode cX6_mayStand 48 = .ok (.iconst 2, 1) := by decide +kernel
theorem dX6_mayStand_49 : decode cX6_mayStand 49 = .ok (.iastore, 1) := by decide +kernel
theorem dX6_mayStand_50 : decode cX6_mayStand 50 = .ok (.aload_n 0, 1) := by decide +kernel
theorem dX6_mayStand_51 : decode cX6_mayStand 51 = .ok (.getfield 15, 3) := by decide +kernel
theorem dX6_mayStand_54 : decode cX6_mayStand 54 = .ok (.iload_n 3, 1) := by decide +kernel
theorem dX6_mayStand_55 : decode cX6_mayStand 55 = .ok (.iaload, 1) := by decide +kernel
theorem dX6_mayStand_56 : decode cX6_mayStand 56 = .ok (.iconst 1, 1) := by decide +kernel
theorem dX6_mayStand_57 : decode cX6_mayStand 57 = .ok (.if_icmp .ne 7, 3) := by decide +kernel
theorem dX6_mayStand_60 : decode cX6_mayStand 60 = .ok (.iconst 1, 1) := by decide +kernel
theorem dX6_mayStand_61 : decode cX6_mayStand 61 = .ok (.goto 4, 3) := by decide +kernel
theorem dX6_mayStand_64 : decode cX6_mayStand 64 = .ok (.iconst 0, 1) := by decide +kernel
theorem dX6_mayStand_65 : decode cX6_mayStand 65 = .ok (.ireturn, 1) := by decide +kernel
theorem dX6_mayStandBy_0 : decode cX6_mayStandBy 0 = .ok (.iload_n 1, 1) := by decide +kernel
theorem dX6_mayStandBy_1 : decode cX6_mayStandBy 1 = .ok (.bipush 24, 2) := by decide +kernel
theorem dX6_mayStandBy_3 : decode cX6_mayStandBy 3 = .ok (.imul, 1) := by decide +kernel
theorem dX6_mayStandBy_4 : decode cX6_mayStandBy 4 = .ok (.iload_n 2, 1) := by decide +kernel
theorem dX6_mayStandBy_5 : decode cX6_mayStandBy 5 = .ok (.iadd, 1) := by decide +kernel
theorem dX6_mayStandBy_6 : decode cX6_mayStandBy 6 = .ok (.bipush 6, 2) := by decide +kernel
theorem dX6_mayStandBy_8 : decode cX6_mayStandBy 8 = .ok (.imul, 1) := by decide +kernel
theorem dX6_mayStandBy_9 : decode cX6_mayStandBy 9 = .ok (.iload 4, 2) := by decide +kernel
theorem dX6_mayStandBy_11 : decode cX6_mayStandBy 11 = .ok (.iadd, 1) := by decide +kernel
theorem dX6_mayStandBy_12 : decode cX6_mayStandBy 12 = .ok (.istore 5, 2) := by decide +kernel
theorem dX6_mayStandBy_14 : decode cX6_mayStandBy 14 = .ok (.aload_n 0, 1) := by decide +kernel
theorem dX6_mayStandBy_15 : decode cX6_mayStandBy 15 = .ok (.getfield 18, 3) := by decide +kernel
theorem dX6_mayStandBy_18 : decode cX6_mayStandBy 18 = .ok (.iload 5, 2) := by decide +kernel
theorem dX6_mayStandBy_20 : decode cX6_mayStandBy 20 = .ok (.iaload, 1) := by decide +kernel
theorem dX6_mayStandBy_21 : decode cX6_mayStandBy 21 = .ok (.iconst 2, 1) := by decide +kernel
theorem dX6_mayStandBy_22 : decode cX6_mayStandBy 22 = .ok (.iload_n 3, 1) := by decide +kernel
theorem dX6_mayStandBy_23 : decode cX6_mayStandBy 23 = .ok (.imul, 1) := by decide +kernel
theorem dX6_mayStandBy_24 : decode cX6_mayStandBy 24 = .ok (.ishr, 1) := by decide +kernel
theorem dX6_mayStandBy_25 : decode cX6_mayStandBy 25 = .ok (.iconst 3, 1) := by decide +kernel
theorem dX6_mayStandBy_26 : decode cX6_mayStandBy 26 = .ok (.iand, 1) := by decide +kernel
theorem dX6_mayStandBy_27 : decode cX6_mayStandBy 27 = .ok (.istore 6, 2) := by decide +kernel
theorem dX6_mayStandBy_29 : decode cX6_mayStandBy 29 = .ok (.iload 6, 2) := by decide +kernel
theorem dX6_mayStandBy_31 : decode cX6_mayStandBy 31 = .ok (.ifCond .ne 56, 3) := by decide +kernel
theorem dX6_mayStandBy_34 : decode cX6_mayStandBy 34 = .ok (.aload_n 0, 1) := by decide +kernel
theorem dX6_mayStandBy_35 : decode cX6_mayStandBy 35 = .ok (.getfield 29, 3) := by decide +kernel
theorem dX6_mayStandBy_38 : decode cX6_mayStandBy 38 = .ok (.iload_n 1, 1) := by decide +kernel
theorem dX6_mayStandBy_39 : decode cX6_mayStandBy 39 = .ok (.iload_n 2, 1) := by decide +kernel
theorem dX6_mayStandBy_40 : decode cX6_mayStandBy 40 = .ok (.invokestatic 71, 3) := by decide +kernel
theorem dX6_mayStandBy_43 : decode cX6_mayStandBy 43 = .ok (.iload_n 3, 1) := by decide +kernel
theorem dX6_mayStandBy_44 : decode cX6_mayStandBy 44 = .ok (.iload 4, 2) := by decide +kernel
theorem dX6_mayStandBy_46 : decode cX6_mayStandBy 46 = .ok (.iload_n 2, 1) := by decide +kernel
theorem dX6_mayStandBy_47 : decode cX6_mayStandBy 47 = .ok (.invokestatic 79, 3) := by decide +kernel
theorem dX6_mayStandBy_50 : decode cX6_mayStandBy 50 = .ok (.aload_n 0, 1) := by decide +kernel
theorem dX6_mayStandBy_51 : decode cX6_mayStandBy 51 = .ok (.getfield 41, 3) := by decide +kernel
theorem dX6_mayStandBy_54 : decode cX6_mayStandBy 54 = .ok (.invokevirtual 91, 3) := by decide +kernel
theorem dX6_mayStandBy_57 : decode cX6_mayStandBy 57 = .ok (.istore 7, 2) := by decide +kernel
theorem dX6_mayStandBy_59 : decode cX6_mayStandBy 59 = .ok (.iload 7, 2) := by decide +kernel
theorem dX6_mayStandBy_61 : decode cX6_mayStandBy 61 = .ok (.ifCond .eq 7, 3) := by decide +kernel
theorem dX6_mayStandBy_64 : decode cX6_mayStandBy 64 = .ok (.iconst 1, 1) := by decide +kernel
theorem dX6_mayStandBy_65 : decode cX6_mayStandBy 65 = .ok (.goto 4, 3) := by decide +kernel
theorem dX6_mayStandBy_68 : decode cX6_mayStandBy 68 = .ok (.iconst 2, 1) := by decide +kernel
theorem dX6_mayStandBy_69 : decode cX6_mayStandBy 69 = .ok (.istore 6, 2) := by decide +kernel
theorem dX6_mayStandBy_71 : decode cX6_mayStandBy 71 = .ok (.aload_n 0, 1) := by decide +kernel
theorem dX6_mayStandBy_72 : decode cX6_mayStandBy 72 = .ok (.getfield 18, 3) := by decide +kernel
theorem dX6_mayStandBy_75 : decode cX6_mayStandBy 75 = .ok (.iload 5, 2) := by decide +kernel
theorem dX6_mayStandBy_77 : decode cX6_mayStandBy 77 = .ok (.dup2, 1) := by decide +kernel
theorem dX6_mayStandBy_78 : decode cX6_mayStandBy 78 = .ok (.iaload, 1) := by decide +kernel
theorem dX6_mayStandBy_79 : decode cX6_mayStandBy 79 = .ok (.iload 6, 2) := by decide +kernel
theorem dX6_mayStandBy_81 : decode cX6_mayStandBy 81 = .ok (.iconst 2, 1) := by decide +kernel
theorem dX6_mayStandBy_82 : decode cX6_mayStandBy 82 = .ok (.iload_n 3, 1) := by decide +kernel
theorem dX6_mayStandBy_83 : decode cX6_mayStandBy 83 = .ok (.imul, 1) := by decide +kernel
theorem dX6_mayStandBy_84 : decode cX6_mayStandBy 84 = .ok (.ishl, 1) := by decide +kernel
theorem dX6_mayStandBy_85 : decode cX6_mayStandBy 85 = .ok (.ior, 1) := by decide +kernel
theorem dX6_mayStandBy_86 : decode cX6_mayStandBy 86 = .ok (.iastore, 1) := by decide +kernel
theorem dX6_mayStandBy_87 : decode cX6_mayStandBy 87 = .ok (.iload 6, 2) := by decide +kernel
theorem dX6_mayStandBy_89 : decode cX6_mayStandBy 89 = .ok (.iconst 1, 1) := by decide +kernel
theorem dX6_mayStandBy_90 : decode cX6_mayStandBy 90 = .ok (.if_icmp .ne 7, 3) := by decide +kernel
theorem dX6_mayStandBy_93 : decode cX6_mayStandBy 93 = .ok (.iconst 1, 1) := by decide +kernel
theorem dX6_mayStandBy_94 : decode cX6_mayStandBy 94 = .ok (.goto 4, 3) := by decide +kernel
theorem dX6_mayStandBy_97 : decode cX6_mayStandBy 97 = .ok (.iconst 0, 1) := by decide +kernel
theorem dX6_mayStandBy_98 : decode cX6_mayStandBy 98 = .ok (.ireturn, 1) := by decide +kernel
theorem dX7_init_0 : decode cX7_init 0 = .ok (.aload_n 0, 1) := by decide +kernel
theorem dX7_init_1 : decode cX7_init 1 = .ok (.invokespecial 3, 3) := by decide +kernel
theorem dX7_init_4 : decode cX7_init 4 = .ok (.aload_n 0, 1) := by decide +kernel
theorem dX7_init_5 : decode cX7_init 5 = .ok (.sipush 1000, 3) := by decide +kernel
theorem dX7_init_8 : decode cX7_init 8 = .ok (.newarray .int, 2) := by decide +kernel
theorem dX7_init_10 : decode cX7_init 10 = .ok (.putfield 9, 3) := by decide +kernel
theorem dX7_init_13 : decode cX7_init 13 = .ok (.aload_n 0, 1) := by decide +kernel
theorem dX7_init_14 : decode cX7_init 14 = .ok (.bipush 13, 2) := by decide +kernel
theorem dX7_init_16 : decode cX7_init 16 = .ok (.newarray .int, 2) := by decide +kernel
theorem dX7_init_18 : decode cX7_init 18 = .ok (.putfield 15, 3) := by decide +kernel
theorem dX7_init_21 : decode cX7_init 21 = .ok (.aload_n 0, 1) := by decide +kernel
theorem dX7_init_22 : decode cX7_init 22 = .ok (.bipush 12, 2) := by decide +kernel
theorem dX7_init_24 : decode cX7_init 24 = .ok (.newarray .boolean, 2) := by decide +kernel
theorem dX7_init_26 : decode cX7_init 26 = .ok (.putfield 18, 3) := by decide +kernel
theorem dX7_init_29 : decode cX7_init 29 = .ok (.aload_n 0, 1) := by decide +kernel
theorem dX7_init_30 : decode cX7_init 30 = .ok (.bipush 40, 2) := by decide +kernel
theorem dX7_init_32 : decode cX7_init 32 = .ok (.newarray .int, 2) := by decide +kernel
theorem dX7_init_34 : decode cX7_init 34 = .ok (.putfield 22, 3) := by decide +kernel
theorem dX7_init_37 : decode cX7_init 37 = .ok (.return_, 1) := by decide +kernel
theorem dX7_count_0 : decode cX7_count 0 = .ok (.aload_n 0, 1) := by decide +kernel
theorem dX7_count_1 : decode cX7_count 1 = .ok (.getfield 25, 3) := by decide +kernel
theorem dX7_count_4 : decode cX7_count 4 = .ok (.ireturn, 1) := by decide +kernel
theorem dX7_clear_0 : decode cX7_clear 0 = .ok (.aload_n 0, 1) := by decide +kernel
theorem dX7_clear_1 : decode cX7_clear 1 = .ok (.iconst 0, 1) := by decide +kernel
theorem dX7_clear_2 : decode cX7_clear 2 = .ok (.putfield 29, 3) := by decide +kernel
theorem dX7_clear_5 : decode cX7_clear 5 = .ok (.aload_n 0, 1) := by decide +kernel
theorem dX7_clear_6 : decode cX7_clear 6 = .ok (.iconst 0, 1) := by decide +kernel
theorem dX7_clear_7 : decode cX7_clear 7 = .ok (.putfield 25, 3) := by decide +kernel
theorem dX7_clear_10 : decode cX7_clear 10 = .ok (.return_, 1) := by decide +kernel
theorem dX7_emit_0 : decode cX7_emit 0 = .ok (.aload_n 0, 1) := by decide +kernel
theorem dX7_emit_1 : decode cX7_emit 1 = .ok (.getfield 29, 3) := by decide +kernel
theorem dX7_emit_4 : decode cX7_emit 4 = .ok (.sipush 1000, 3) := by decide +kernel
theorem dX7_emit_7 : decode cX7_emit 7 = .ok (.if_icmp .ge 23, 3) := by decide +kernel
theorem dX7_emit_10 : decode cX7_emit 10 = .ok (.aload_n 0, 1) := by decide +kernel
theorem dX7_emit_11 : decode cX7_emit 11 = .ok (.getfield 9, 3) := by decide +kernel
theorem dX7_emit_14 : decode cX7_emit 14 = .ok (.aload_n 0, 1) := by decide +kernel
theorem dX7_emit_15 : decode cX7_emit 15 = .ok (.getfield 29, 3) := by decide +kernel
theorem dX7_emit_18 : decode cX7_emit 18 = .ok (.iload_n 1, 1) := by decide +kernel
theorem dX7_emit_19 : decode cX7_emit 19 = .ok (.iastore, 1) := by decide +kernel
theorem dX7_emit_20 : decode cX7_emit 20 = .ok (.aload_n 0, 1) := by decide +kernel
theorem dX7_emit_21 : decode cX7_emit 21 = .ok (.dup, 1) := by decide +kernel
theorem dX7_emit_22 : decode cX7_emit 22 = .ok (.getfield 29, 3) := by decide +kernel
theorem dX7_emit_25 : decode cX7_emit 25 = .ok (.iconst 1, 1) := by decide +kernel
theorem dX7_emit_26 : decode cX7_emit 26 = .ok (.iadd, 1) := by decide +kernel
theorem dX7_emit_27 : decode cX7_emit 27 = .ok (.putfield 29, 3) := by decide +kernel
theorem dX7_emit_30 : decode cX7_emit 30 = .ok (.return_, 1) := by decide +kernel
theorem dX7_endRule_0 : decode cX7_endRule 0 = .ok (.aload_n 0, 1) := by decide +kernel
theorem dX7_endRule_1 : decode cX7_endRule 1 = .ok (.getfield 25, 3) := by decide +kernel
theorem dX7_endRule_4 : decode cX7_endRule 4 = .ok (.bipush 12, 2) := by decide +kernel
theorem dX7_endRule_6 : decode cX7_endRule 6 = .ok (.if_icmp .ge 36, 3) := by decide +kernel
theorem dX7_endRule_9 : decode cX7_endRule 9 = .ok (.aload_n 0, 1) := by decide +kernel
theorem dX7_endRule_10 : decode cX7_endRule 10 = .ok (.getfield 18, 3) := by decide +kernel
theorem dX7_endRule_13 : decode cX7_endRule 13 = .ok (.aload_n 0, 1) := by decide +kernel
theorem dX7_endRule_14 : decode cX7_endRule 14 = .ok (.getfield 25, 3) := by decide +kernel
theorem dX7_endRule_17 : decode cX7_endRule 17 = .ok (.iload_n 1, 1) := by decide +kernel
theorem dX7_endRule_18 : decode cX7_endRule 18 = .ok (.bastore, 1) := by decide +kernel
theorem dX7_endRule_19 : decode cX7_endRule 19 = .ok (.aload_n 0, 1) := by decide +kernel
theorem dX7_endRule_20 : decode cX7_endRule 20 = .ok (.dup, 1) := by decide +kernel
theorem dX7_endRule_21 : decode cX7_endRule 21 = .ok (.getfield 25, 3) := by decide +kernel
theorem dX7_endRule_24 : decode cX7_endRule 24 = .ok (.iconst 1, 1) := by decide +kernel
theorem dX7_endRule_25 : decode cX7_endRule 25 = .ok (.iadd, 1) := by decide +kernel
theorem dX7_endRule_26 : decode cX7_endRule 26 = .ok (.putfield 25, 3) := by decide +kernel
theorem dX7_endRule_29 : decode cX7_endRule 29 = .ok (.aload_n 0, 1) := by decide +kernel
theorem dX7_endRule_30 : decode cX7_endRule 30 = .ok (.getfield 15, 3) := by decide +kernel
theorem dX7_endRule_33 : decode cX7_endRule 33 = .ok (.aload_n 0, 1) := by decide +kernel
theorem dX7_endRule_34 : decode cX7_endRule 34 = .ok (.getfield 25, 3) := by decide +kernel
theorem dX7_endRule_37 : decode cX7_endRule 37 = .ok (.aload_n 0, 1) := by decide +kernel
theorem dX7_endRule_38 : decode cX7_endRule 38 = .ok (.getfield 29, 3) := by decide +kernel
theorem dX7_endRule_41 : decode cX7_endRule 41 = .ok (.iastore, 1) := by decide +kernel
theorem dX7_endRule_42 : decode cX7_endRule 42 = .ok (.return_, 1) := by decide +kernel
theorem dX7_copy_0 : decode cX7_copy 0 = .ok (.aload_n 1, 1) := by decide +kernel
theorem dX7_copy_1 : decode cX7_copy 1 = .ok (.getfield 9, 3) := by decide +kernel
theorem dX7_copy_4 : decode cX7_copy 4 = .ok (.iconst 0, 1) := by decide +kernel
theorem dX7_copy_5 : decode cX7_copy 5 = .ok (.aload_n 0, 1) := by decide +kernel
theorem dX7_copy_6 : decode cX7_copy 6 = .ok (.getfield 9, 3) := by decide +kernel
theorem dX7_copy_9 : decode cX7_copy 9 = .ok (.iconst 0, 1) := by decide +kernel
theorem dX7_copy_10 : decode cX7_copy 10 = .ok (.sipush 1000, 3) := by decide +kernel
theorem dX7_copy_13 : decode cX7_copy 13 = .ok (.invokestatic 32, 3) := by decide +kernel
theorem dX7_copy_16 : decode cX7_copy 16 = .ok (.aload_n 1, 1) := by decide +kernel
theorem dX7_copy_17 : decode cX7_copy 17 = .ok (.getfield 15, 3) := by decide +kernel
theorem dX7_copy_20 : decode cX7_copy 20 = .ok (.iconst 0, 1) := by decide +kernel
theorem dX7_copy_21 : decode cX7_copy 21 = .ok (.aload_n 0, 1) := by decide +kernel
theorem dX7_copy_22 : decode cX7_copy 22 = .ok (.getfield 15, 3) := by decide +kernel
theorem dX7_copy_25 : decode cX7_copy 25 = .ok (.iconst 0, 1) := by decide +kernel
theorem dX7_copy_26 : decode cX7_copy 26 = .ok (.bipush 13, 2) := by decide +kernel
theorem dX7_copy_28 : decode cX7_copy 28 = .ok (.invokestatic 32, 3) := by decide +kernel
theorem dX7_copy_31 : decode cX7_copy 31 = .ok (.iconst 0, 1) := by decide +kernel
theorem dX7_copy_32 : decode cX7_copy 32 = .ok (.istore_n 2, 1) := by decide +kernel
theorem dX7_copy_33 : decode cX7_copy 33 = .ok (.iload_n 2, 1) := by decide +kernel
theorem dX7_copy_34 : decode cX7_copy 34 = .ok (.bipush 12, 2) := by decide +kernel
theorem dX7_copy_36 : decode cX7_copy 36 = .ok (.if_icmp .ge 21, 3) := by decide +kernel
theorem dX7_copy_39 : decode cX7_copy 39 = .ok (.aload_n 0, 1) := by decide +kernel
theorem dX7_copy_40 : decode cX7_copy 40 = .ok (.getfield 18, 3) := by decide +kernel
theorem dX7_copy_43 : decode cX7_copy 43 = .ok (.iload_n 2, 1) := by decide +kernel
theorem dX7_copy_44 : decode cX7_copy 44 = .ok (.aload_n 1, 1) := by decide +kernel
theorem dX7_copy_45 : decode cX7_copy 45 = .ok (.getfield 18, 3) := by decide +kernel
theorem dX7_copy_48 : decode cX7_copy 48 = .ok (.iload_n 2, 1) := by decide +kernel
theorem dX7_copy_49 : decode cX7_copy 49 = .ok (.baload, 1) := by decide +kernel
theorem dX7_copy_50 : decode cX7_copy 50 = .ok (.bastore, 1) := by decide +kernel
theorem dX7_copy_51 : decode cX7_copy 51 = .ok (.iinc 2 1, 3) := by decide +kernel
theorem dX7_copy_54 : decode cX7_copy 54 = .ok (.goto (-21), 3) := by decide +kernel
theorem dX7_copy_57 : decode cX7_copy 57 = .ok (.aload_n 0, 1) := by decide +kernel
theorem dX7_copy_58 : decode cX7_copy 58 = .ok (.aload_n 1, 1) := by decide +kernel
theorem dX7_copy_59 : decode cX7_copy 59 = .ok (.getfield 29, 3) := by decide +kernel
theorem dX7_copy_62 : decode cX7_copy 62 = .ok (.putfield 29, 3) := by decide +kernel
theorem dX7_copy_65 : decode cX7_copy 65 = .ok (.aload_n 0, 1) := by decide +kernel
theorem dX7_copy_66 : decode cX7_copy 66 = .ok (.aload_n 1, 1) := by decide +kernel
theorem dX7_copy_67 : decode cX7_copy 67 = .ok (.getfield 25, 3) := by decide +kernel
theorem dX7_copy_70 : decode cX7_copy 70 = .ok (.putfield 25, 3) := by decide +kernel
theorem dX7_copy_73 : decode cX7_copy 73 = .ok (.return_, 1) := by decide +kernel
theorem dX7_allHold_0 : decode cX7_allHold 0 = .ok (.iconst 0, 1) := by decide +kernel
theorem dX7_allHold_1 : decode cX7_allHold 1 = .ok (.istore_n 3, 1) := by decide +kernel
theorem dX7_allHold_2 : decode cX7_allHold 2 = .ok (.iload_n 3, 1) := by decide +kernel
theorem dX7_allHold_3 : decode cX7_allHold 3 = .ok (.aload_n 0, 1) := by decide +kernel
theorem dX7_allHold_4 : decode cX7_allHold 4 = .ok (.getfield 25, 3) := by decide +kernel
theorem dX7_allHold_7 : decode cX7_allHold 7 = .ok (.if_icmp .ge 30, 3) := by decide +kernel
theorem dX7_allHold_10 : decode cX7_allHold 10 = .ok (.aload_n 0, 1) := by decide +kernel
theorem dX7_allHold_11 : decode cX7_allHold 11 = .ok (.getfield 18, 3) := by decide +kernel
theorem dX7_allHold_14 : decode cX7_allHold 14 = .ok (.iload_n 3, 1) := by decide +kernel
theorem dX7_allHold_15 : decode cX7_allHold 15 = .ok (.baload, 1) := by decide +kernel
theorem dX7_allHold_16 : decode cX7_allHold 16 = .ok (.iload_n 1, 1) := by decide +kernel
theorem dX7_allHold_17 : decode cX7_allHold 17 = .ok (.if_icmp .ne 14, 3) := by decide +kernel
theorem dX7_allHold_20 : decode cX7_allHold 20 = .ok (.aload_n 0, 1) := by decide +kernel
theorem dX7_allHold_21 : decode cX7_allHold 21 = .ok (.iload_n 3, 1) := by decide +kernel
theorem dX7_allHold_22 : decode cX7_allHold 22 = .ok (.aload_n 2, 1) := by decide +kernel
theorem dX7_allHold_23 : decode cX7_allHold 23 = .ok (.invokevirtual 38, 3) := by decide +kernel
theorem dX7_allHold_26 : decode cX7_allHold 26 = .ok (.ifCond .ne 5, 3) := by decide +kernel
theorem dX7_allHold_29 : decode cX7_allHold 29 = .ok (.iconst 0, 1) := by decide +kernel
theorem dX7_allHold_30 : decode cX7_allHold 30 = .ok (.ireturn, 1) := by decide +kernel
theorem dX7_allHold_31 : decode cX7_allHold 31 = .ok (.iinc 3 1, 3) := by decide +kernel
theorem dX7_allHold_34 : decode cX7_allHold 34 = .ok (.goto (-32), 3) := by decide +kernel
theorem dX7_allHold_37 : decode cX7_allHold 37 = .ok (.iconst 1, 1) := by decide +kernel
theorem dX7_allHold_38 : decode cX7_allHold 38 = .ok (.ireturn, 1) := by decide +kernel
theorem dX7_workOut_0 : decode cX7_workOut 0 = .ok (.iconst (-1), 1) := by decide +kernel
theorem dX7_workOut_1 : decode cX7_workOut 1 = .ok (.istore_n 3, 1) := by decide +kernel
theorem dX7_workOut_2 : decode cX7_workOut 2 = .ok (.aload_n 0, 1) := by decide +kernel
theorem dX7_workOut_3 : decode cX7_workOut 3 = .ok (.getfield 15, 3) := by decide +kernel
theorem dX7_workOut_6 : decode cX7_workOut 6 = .ok (.iload_n 1, 1) := by decide +kernel
theorem dX7_workOut_7 : decode cX7_workOut 7 = .ok (.iaload, 1) := by decide +kernel
theorem dX7_workOut_8 : decode cX7_workOut 8 = .ok (.istore 4, 2) := by decide +kernel
theorem dX7_workOut_10 : decode cX7_workOut 10 = .ok (.iload 4, 2) := by decide +kernel
theorem dX7_workOut_12 : decode cX7_workOut 12 = .ok (.aload_n 0, 1) := by decide +kernel
theorem dX7_workOut_13 : decode cX7_workOut 13 = .ok (.getfield 15, 3) := by decide +kernel
theorem dX7_workOut_16 : decode cX7_workOut 16 = .ok (.iload_n 1, 1) := by decide +kernel
theorem dX7_workOut_17 : decode cX7_workOut 17 = .ok (.iconst 1, 1) := by decide +kernel
theorem dX7_workOut_18 : decode cX7_workOut 18 = .ok (.iadd, 1) := by decide +kernel
theorem dX7_workOut_19 : decode cX7_workOut 19 = .ok (.iaload, 1) := by decide +kernel
theorem dX7_workOut_20 : decode cX7_workOut 20 = .ok (.if_icmp .ge 353, 3) := by decide +kernel
theorem dX7_workOut_23 : decode cX7_workOut 23 = .ok (.aload_n 0, 1) := by decide +kernel
theorem dX7_workOut_24 : decode cX7_workOut 24 = .ok (.getfield 9, 3) := by decide +kernel
theorem dX7_workOut_27 : decode cX7_workOut 27 = .ok (.iload 4, 2) := by decide +kernel
theorem dX7_workOut_29 : decode cX7_workOut 29 = .ok (.iaload, 1) := by decide +kernel
theorem dX7_workOut_30 : decode cX7_workOut 30 = .ok (.istore 5, 2) := by decide +kernel
theorem dX7_workOut_32 : decode cX7_workOut 32 = .ok (.iload 5, 2) := by decide +kernel
theorem dX7_workOut_34 : decode cX7_workOut 34 = .ok (.bipush 14, 2) := by decide +kernel
theorem dX7_workOut_36 : decode cX7_workOut 36 = .ok (.if_icmp .lt 14, 3) := by decide +kernel
theorem dX7_workOut_39 : decode cX7_workOut 39 = .ok (.iload 5, 2) := by decide +kernel
theorem dX7_workOut_41 : decode cX7_workOut 41 = .ok (.bipush 100, 2) := by decide +kernel
theorem dX7_workOut_43 : decode cX7_workOut 43 = .ok (.if_icmp .ge 7, 3) := by decide +kernel
theorem dX7_workOut_46 : decode cX7_workOut 46 = .ok (.iconst 1, 1) := by decide +kernel
theorem dX7_workOut_47 : decode cX7_workOut 47 = .ok (.goto 4, 3) := by decide +kernel
theorem dX7_workOut_50 : decode cX7_workOut 50 = .ok (.iconst 0, 1) := by decide +kernel
theorem dX7_workOut_51 : decode cX7_workOut 51 = .ok (.istore 6, 2) := by decide +kernel
theorem dX7_workOut_53 : decode cX7_workOut 53 = .ok (.iload 6, 2) := by decide +kernel
theorem dX7_workOut_55 : decode cX7_workOut 55 = .ok (.ifCond .ne 9, 3) := by decide +kernel
theorem dX7_workOut_58 : decode cX7_workOut 58 = .ok (.iinc 3 1, 3) := by decide +kernel
theorem dX7_workOut_61 : decode cX7_workOut 61 = .ok (.goto 13, 3) := by decide +kernel
theorem dX7_workOut_64 : decode cX7_workOut 64 = .ok (.iload 5, 2) := by decide +kernel
theorem dX7_workOut_66 : decode cX7_workOut 66 = .ok (.bipush 18, 2) := by decide +kernel
theorem dX7_workOut_68 : decode cX7_workOut 68 = .ok (.if_icmp .eq 6, 3) := by decide +kernel
theorem dX7_workOut_71 : decode cX7_workOut 71 = .ok (.iinc 3 (-1), 3) := by decide +kernel
theorem dX7_workOut_74 : decode cX7_workOut 74 = .ok (.iload_n 3, 1) := by decide +kernel
theorem dX7_workOut_75 : decode cX7_workOut 75 = .ok (.ifCond .lt 11, 3) := by decide +kernel
theorem dX7_workOut_78 : decode cX7_workOut 78 = .ok (.iload_n 3, 1) := by decide +kernel
theorem dX7_workOut_79 : decode cX7_workOut 79 = .ok (.iconst 1, 1) := by decide +kernel
theorem dX7_workOut_80 : decode cX7_workOut 80 = .ok (.iadd, 1) := by decide +kernel
theorem dX7_workOut_81 : decode cX7_workOut 81 = .ok (.bipush 40, 2) := by decide +kernel
theorem dX7_workOut_83 : decode cX7_workOut 83 = .ok (.if_icmp .lt 5, 3) := by decide +kernel
theorem dX7_workOut_86 : decode cX7_workOut 86 = .ok (.iconst 0, 1) := by decide +kernel
theorem dX7_workOut_87 : decode cX7_workOut 87 = .ok (.ireturn, 1) := by decide +kernel
theorem dX7_workOut_88 : decode cX7_workOut 88 = .ok (.aload_n 0, 1) := by decide +kernel
theorem dX7_workOut_89 : decode cX7_workOut 89 = .ok (.getfield 22, 3) := by decide +kernel
theorem dX7_workOut_92 : decode cX7_workOut 92 = .ok (.iload_n 3, 1) := by decide +kernel
theorem dX7_workOut_93 : decode cX7_workOut 93 = .ok (.iaload, 1) := by decide +kernel
theorem dX7_workOut_94 : decode cX7_workOut 94 = .ok (.istore 7, 2) := by decide +kernel
theorem dX7_workOut_96 : decode cX7_workOut 96 = .ok (.aload_n 0, 1) := by decide +kernel
theorem dX7_workOut_97 : decode cX7_workOut 97 = .ok (.getfield 22, 3) := by decide +kernel
theorem dX7_workOut_100 : decode cX7_workOut 100 = .ok (.iload_n 3, 1) := by decide +kernel
theorem dX7_workOut_101 : decode cX7_workOut 101 = .ok (.iconst 1, 1) := by decide +kernel
theorem dX7_workOut_102 : decode cX7_workOut 102 = .ok (.iadd, 1) := by decide +kernel
theorem dX7_workOut_103 : decode cX7_workOut 103 = .ok (.iaload, 1) := by decide +kernel
theorem dX7_workOut_104 : decode cX7_workOut 104 = .ok (.istore 8, 2) := by decide +kernel
theorem dX7_workOut_106 : decode cX7_workOut 106 = .ok (.iload 5, 2) := by decide +kernel
theorem dX7_workOut_108 : decode cX7_workOut 108 = .ok (.lookupswitch 234 #[(16, 95), (17, 119), (18, 76), (43, 206), (45, 220), (60, 164), (61, 143), (62, 185)], 76) := by decide +kernel
theorem dX7_workOut_184 : decode cX7_workOut 184 = .ok (.aload_n 0, 1) := by decide +kernel
theorem dX7_workOut_185 : decode cX7_workOut 185 = .ok (.getfield 22, 3) := by decide +kernel
theorem dX7_workOut_188 : decode cX7_workOut 188 = .ok (.iload_n 3, 1) := by decide +kernel
theorem dX7_workOut_189 : decode cX7_workOut 189 = .ok (.iload 7, 2) := by decide +kernel
theorem dX7_workOut_191 : decode cX7_workOut 191 = .ok (.ifCond .ne 7, 3) := by decide +kernel
theorem dX7_workOut_194 : decode cX7_workOut 194 = .ok (.iconst 1, 1) := by decide +kernel
theorem dX7_workOut_195 : decode cX7_workOut 195 = .ok (.goto 4, 3) := by decide +kernel
theorem dX7_workOut_198 : decode cX7_workOut 198 = .ok (.iconst 0, 1) := by decide +kernel
theorem dX7_workOut_199 : decode cX7_workOut 199 = .ok (.iastore, 1) := by decide +kernel
theorem dX7_workOut_200 : decode cX7_workOut 200 = .ok (.goto 167, 3) := by decide +kernel
theorem dX7_workOut_203 : decode cX7_workOut 203 = .ok (.aload_n 0, 1) := by decide +kernel
theorem dX7_workOut_204 : decode cX7_workOut 204 = .ok (.getfield 22, 3) := by decide +kernel
theorem dX7_workOut_207 : decode cX7_workOut 207 = .ok (.iload_n 3, 1) := by decide +kernel
theorem dX7_workOut_208 : decode cX7_workOut 208 = .ok (.iload 7, 2) := by decide +kernel
theorem dX7_workOut_210 : decode cX7_workOut 210 = .ok (.ifCond .ne 8, 3) := by decide +kernel
theorem dX7_workOut_213 : decode cX7_workOut 213 = .ok (.iload 8, 2) := by decide +kernel
theorem dX7_workOut_215 : decode cX7_workOut 215 = .ok (.ifCond .eq 7, 3) := by decide +kernel
theorem dX7_workOut_218 : decode cX7_workOut 218 = .ok (.iconst 1, 1) := by decide +kernel
theorem dX7_workOut_219 : decode cX7_workOut 219 = .ok (.goto 4, 3) := by decide +kernel
theorem dX7_workOut_222 : decode cX7_workOut 222 = .ok (.iconst 0, 1) := by decide +kernel
theorem dX7_workOut_223 : decode cX7_workOut 223 = .ok (.iastore, 1) := by decide +kernel
theorem dX7_workOut_224 : decode cX7_workOut 224 = .ok (.goto 143, 3) := by decide +kernel
theorem dX7_workOut_227 : decode cX7_workOut 227 = .ok (.aload_n 0, 1) := by decide +kernel
theorem dX7_workOut_228 : decode cX7_workOut 228 = .ok (.getfield 22, 3) := by decide +kernel
theorem dX7_workOut_231 : decode cX7_workOut 231 = .ok (.iload_n 3, 1) := by decide +kernel
theorem dX7_workOut_232 : decode cX7_workOut 232 = .ok (.iload 7, 2) := by decide +kernel
theorem dX7_workOut_234 : decode cX7_workOut 234 = .ok (.ifCond .eq 12, 3) := by decide +kernel
theorem dX7_workOut_237 : decode cX7_workOut 237 = .ok (.iload 8, 2) := by decide +kernel
theorem dX7_workOut_239 : decode cX7_workOut 239 = .ok (.ifCond .eq 7, 3) := by decide +kernel
theorem dX7_workOut_242 : decode cX7_workOut 242 = .ok (.iconst 1, 1) := by decide +kernel
theorem dX7_workOut_243 : decode cX7_workOut 243 = .ok (.goto 4, 3) := by decide +kernel
theorem dX7_workOut_246 : decode cX7_workOut 246 = .ok (.iconst 0, 1) := by decide +kernel
theorem dX7_workOut_247 : decode cX7_workOut 247 = .ok (.iastore, 1) := by decide +kernel
theorem dX7_workOut_248 : decode cX7_workOut 248 = .ok (.goto 119, 3) := by decide +kernel
theorem dX7_workOut_251 : decode cX7_workOut 251 = .ok (.aload_n 0, 1) := by decide +kernel
theorem dX7_workOut_252 : decode cX7_workOut 252 = .ok (.getfield 22, 3) := by decide +kernel
theorem dX7_workOut_255 : decode cX7_workOut 255 = .ok (.iload_n 3, 1) := by decide +kernel
theorem dX7_workOut_256 : decode cX7_workOut 256 = .ok (.iload 7, 2) := by decide +kernel
theorem dX7_workOut_258 : decode cX7_workOut 258 = .ok (.iload 8, 2) := by decide +kernel
theorem dX7_workOut_260 : decode cX7_workOut 260 = .ok (.if_icmp .ne 7, 3) := by decide +kernel
theorem dX7_workOut_263 : decode cX7_workOut 263 = .ok (.iconst 1, 1) := by decide +kernel
theorem dX7_workOut_264 : decode cX7_workOut 264 = .ok (.goto 4, 3) := by decide +kernel
theorem dX7_workOut_267 : decode cX7_workOut 267 = .ok (.iconst 0, 1) := by decide +kernel
theorem dX7_workOut_268 : decode cX7_workOut 268 = .ok (.iastore, 1) := by decide +kernel
theorem dX7_workOut_269 : decode cX7_workOut 269 = .ok (.goto 98, 3) := by decide +kernel
theorem dX7_workOut_272 : decode cX7_workOut 272 = .ok (.aload_n 0, 1) := by decide +kernel
theorem dX7_workOut_273 : decode cX7_workOut 273 = .ok (.getfield 22, 3) := by decide +kernel
theorem dX7_workOut_276 : decode cX7_workOut 276 = .ok (.iload_n 3, 1) := by decide +kernel
theorem dX7_workOut_277 : decode cX7_workOut 277 = .ok (.iload 7, 2) := by decide +kernel
theorem dX7_workOut_279 : decode cX7_workOut 279 = .ok (.iload 8, 2) := by decide +kernel
theorem dX7_workOut_281 : decode cX7_workOut 281 = .ok (.if_icmp .ge 7, 3) := by decide +kernel
theorem dX7_workOut_284 : decode cX7_workOut 284 = .ok (.iconst 1, 1) := by decide +kernel
theorem dX7_workOut_285 : decode cX7_workOut 285 = .ok (.goto 4, 3) := by decide +kernel
theorem dX7_workOut_288 : decode cX7_workOut 288 = .ok (.iconst 0, 1) := by decide +kernel
theorem dX7_workOut_289 : decode cX7_workOut 289 = .ok (.iastore, 1) := by decide +kernel
theorem dX7_workOut_290 : decode cX7_workOut 290 = .ok (.goto 77, 3) := by decide +kernel
theorem dX7_workOut_293 : decode cX7_workOut 293 = .ok (.aload_n 0, 1) := by decide +kernel
theorem dX7_workOut_294 : decode cX7_workOut 294 = .ok (.getfield 22, 3) := by decide +kernel
theorem dX7_workOut_297 : decode cX7_workOut 297 = .ok (.iload_n 3, 1) := by decide +kernel
theorem dX7_workOut_298 : decode cX7_workOut 298 = .ok (.iload 7, 2) := by decide +kernel
theorem dX7_workOut_300 : decode cX7_workOut 300 = .ok (.iload 8, 2) := by decide +kernel
theorem dX7_workOut_302 : decode cX7_workOut 302 = .ok (.if_icmp .le 7, 3) := by decide +kernel
theorem dX7_workOut_305 : decode cX7_workOut 305 = .ok (.iconst 1, 1) := by decide +kernel
theorem dX7_workOut_306 : decode cX7_workOut 306 = .ok (.goto 4, 3) := by decide +kernel
theorem dX7_workOut_309 : decode cX7_workOut 309 = .ok (.iconst 0, 1) := by decide +kernel
theorem dX7_workOut_310 : decode cX7_workOut 310 = .ok (.iastore, 1) := by decide +kernel
theorem dX7_workOut_311 : decode cX7_workOut 311 = .ok (.goto 56, 3) := by decide +kernel
theorem dX7_workOut_314 : decode cX7_workOut 314 = .ok (.aload_n 0, 1) := by decide +kernel
theorem dX7_workOut_315 : decode cX7_workOut 315 = .ok (.getfield 22, 3) := by decide +kernel
theorem dX7_workOut_318 : decode cX7_workOut 318 = .ok (.iload_n 3, 1) := by decide +kernel
theorem dX7_workOut_319 : decode cX7_workOut 319 = .ok (.iload 7, 2) := by decide +kernel
theorem dX7_workOut_321 : decode cX7_workOut 321 = .ok (.iload 8, 2) := by decide +kernel
theorem dX7_workOut_323 : decode cX7_workOut 323 = .ok (.iadd, 1) := by decide +kernel
theorem dX7_workOut_324 : decode cX7_workOut 324 = .ok (.iastore, 1) := by decide +kernel
theorem dX7_workOut_325 : decode cX7_workOut 325 = .ok (.goto 42, 3) := by decide +kernel
theorem dX7_workOut_328 : decode cX7_workOut 328 = .ok (.aload_n 0, 1) := by decide +kernel
theorem dX7_workOut_329 : decode cX7_workOut 329 = .ok (.getfield 22, 3) := by decide +kernel
theorem dX7_workOut_332 : decode cX7_workOut 332 = .ok (.iload_n 3, 1) := by decide +kernel
theorem dX7_workOut_333 : decode cX7_workOut 333 = .ok (.iload 7, 2) := by decide +kernel
theorem dX7_workOut_335 : decode cX7_workOut 335 = .ok (.iload 8, 2) := by decide +kernel
theorem dX7_workOut_337 : decode cX7_workOut 337 = .ok (.isub, 1) := by decide +kernel
theorem dX7_workOut_338 : decode cX7_workOut 338 = .ok (.iastore, 1) := by decide +kernel
theorem dX7_workOut_339 : decode cX7_workOut 339 = .ok (.goto 28, 3) := by decide +kernel
theorem dX7_workOut_342 : decode cX7_workOut 342 = .ok (.aload_n 0, 1) := by decide +kernel
theorem dX7_workOut_343 : decode cX7_workOut 343 = .ok (.getfield 22, 3) := by decide +kernel
theorem dX7_workOut_346 : decode cX7_workOut 346 = .ok (.iload_n 3, 1) := by decide +kernel
theorem dX7_workOut_347 : decode cX7_workOut 347 = .ok (.iload 5, 2) := by decide +kernel
theorem dX7_workOut_349 : decode cX7_workOut 349 = .ok (.bipush 14, 2) := by decide +kernel
theorem dX7_workOut_351 : decode cX7_workOut 351 = .ok (.if_icmp .ge 10, 3) := by decide +kernel
theorem dX7_workOut_354 : decode cX7_workOut 354 = .ok (.aload_n 2, 1) := by decide +kernel
theorem dX7_workOut_355 : decode cX7_workOut 355 = .ok (.iload 5, 2) := by decide +kernel
theorem dX7_workOut_357 : decode cX7_workOut 357 = .ok (.iaload, 1) := by decide +kernel
theorem dX7_workOut_358 : decode cX7_workOut 358 = .ok (.goto 8, 3) := by decide +kernel
theorem dX7_workOut_361 : decode cX7_workOut 361 = .ok (.iload 5, 2) := by decide +kernel
theorem dX7_workOut_363 : decode cX7_workOut 363 = .ok (.bipush 100, 2) := by decide +kernel
theorem dX7_workOut_365 : decode cX7_workOut 365 = .ok (.isub, 1) := by decide +kernel
theorem dX7_workOut_366 : decode cX7_workOut 366 = .ok (.iastore, 1) := by decide +kernel
theorem dX7_workOut_367 : decode cX7_workOut 367 = .ok (.iinc 4 1, 3) := by decide +kernel
theorem dX7_workOut_370 : decode cX7_workOut 370 = .ok (.goto (-360), 3) := by decide +kernel
theorem dX7_workOut_373 : decode cX7_workOut 373 = .ok (.iload_n 3, 1) := by decide +kernel
theorem dX7_workOut_374 : decode cX7_workOut 374 = .ok (.ifCond .ne 12, 3) := by decide +kernel
theorem dX7_workOut_377 : decode cX7_workOut 377 = .ok (.aload_n 0, 1) := by decide +kernel
theorem dX7_workOut_378 : decode cX7_workOut 378 = .ok (.getfield 22, 3) := by decide +kernel
theorem dX7_workOut_381 : decode cX7_workOut 381 = .ok (.iconst 0, 1) := by decide +kernel
theorem dX7_workOut_382 : decode cX7_workOut 382 = .ok (.iaload, 1) := by decide +kernel
theorem dX7_workOut_383 : decode cX7_workOut 383 = .ok (.goto 4, 3) := by decide +kernel
theorem dX7_workOut_386 : decode cX7_workOut 386 = .ok (.iconst 0, 1) := by decide +kernel
theorem dX7_workOut_387 : decode cX7_workOut 387 = .ok (.ireturn, 1) := by decide +kernel
theorem dX8_init_0 : decode cX8_init 0 = .ok (.aload_n 0, 1) := by decide +kernel
theorem dX8_init_1 : decode cX8_init 1 = .ok (.invokespecial 3, 3) := by decide +kernel
theorem dX8_init_4 : decode cX8_init 4 = .ok (.aload_n 0, 1) := by decide +kernel
theorem dX8_init_5 : decode cX8_init 5 = .ok (.sipush 1000, 3) := by decide +kernel
theorem dX8_init_8 : decode cX8_init 8 = .ok (.newarray .int, 2) := by decide +kernel
theorem dX8_init_10 : decode cX8_init 10 = .ok (.putfield 9, 3) := by decide +kernel
theorem dX8_init_13 : decode cX8_init 13 = .ok (.return_, 1) := by decide +kernel
theorem dX8_length_0 : decode cX8_length 0 = .ok (.aload_n 0, 1) := by decide +kernel
theorem dX8_length_1 : decode cX8_length 1 = .ok (.getfield 15, 3) := by decide +kernel
theorem dX8_length_4 : decode cX8_length 4 = .ok (.ireturn, 1) := by decide +kernel
theorem dX8_append_0 : decode cX8_append 0 = .ok (.bipush 24, 2) := by decide +kernel
theorem dX8_append_2 : decode cX8_append 2 = .ok (.istore_n 2, 1) := by decide +kernel
theorem dX8_append_3 : decode cX8_append 3 = .ok (.iload_n 2, 1) := by decide +kernel
theorem dX8_append_4 : decode cX8_append 4 = .ok (.ifCond .lt 45, 3) := by decide +kernel
theorem dX8_append_7 : decode cX8_append 7 = .ok (.aload_n 0, 1) := by decide +kernel
theorem dX8_append_8 : decode cX8_append 8 = .ok (.getfield 15, 3) := by decide +kernel
theorem dX8_append_11 : decode cX8_append 11 = .ok (.sipush 1000, 3) := by decide +kernel
theorem dX8_append_14 : decode cX8_append 14 = .ok (.if_icmp .ge 35, 3) := by decide +kernel
theorem dX8_append_17 : decode cX8_append 17 = .ok (.aload_n 0, 1) := by decide +kernel
theorem dX8_append_18 : decode cX8_append 18 = .ok (.getfield 9, 3) := by decide +kernel
theorem dX8_append_21 : decode cX8_append 21 = .ok (.aload_n 0, 1) := by decide +kernel
theorem dX8_append_22 : decode cX8_append 22 = .ok (.getfield 15, 3) := by decide +kernel
theorem dX8_append_25 : decode cX8_append 25 = .ok (.iload_n 1, 1) := by decide +kernel
theorem dX8_append_26 : decode cX8_append 26 = .ok (.iload_n 2, 1) := by decide +kernel
theorem dX8_append_27 : decode cX8_append 27 = .ok (.ishr, 1) := by decide +kernel
theorem dX8_append_28 : decode cX8_append 28 = .ok (.sipush 255, 3) := by decide +kernel
theorem dX8_append_31 : decode cX8_append 31 = .ok (.iand, 1) := by decide +kernel
theorem dX8_append_32 : decode cX8_append 32 = .ok (.iastore, 1) := by decide +kernel
theorem dX8_append_33 : decode cX8_append 33 = .ok (.aload_n 0, 1) := by decide +kernel
theorem dX8_append_34 : decode cX8_append 34 = .ok (.dup, 1) := by decide +kernel
theorem dX8_append_35 : decode cX8_append 35 = .ok (.getfield 15, 3) := by decide +kernel
theorem dX8_append_38 : decode cX8_append 38 = .ok (.iconst 1, 1) := by decide +kernel
theorem dX8_append_39 : decode cX8_append 39 = .ok (.iadd, 1) := by decide +kernel
theorem dX8_append_40 : decode cX8_append 40 = .ok (.putfield 15, 3) := by decide +kernel
theorem dX8_append_43 : decode cX8_append 43 = .ok (.iinc 2 (-8), 3) := by decide +kernel
theorem dX8_append_46 : decode cX8_append 46 = .ok (.goto (-43), 3) := by decide +kernel
theorem dX8_append_49 : decode cX8_append 49 = .ok (.return_, 1) := by decide +kernel
theorem dX8_cut_0 : decode cX8_cut 0 = .ok (.aload_n 0, 1) := by decide +kernel
theorem dX8_cut_1 : decode cX8_cut 1 = .ok (.iload_n 1, 1) := by decide +kernel
theorem dX8_cut_2 : decode cX8_cut 2 = .ok (.putfield 15, 3) := by decide +kernel
theorem dX8_cut_5 : decode cX8_cut 5 = .ok (.return_, 1) := by decide +kernel
theorem dX8_at_0 : decode cX8_at 0 = .ok (.iload_n 1, 1) := by decide +kernel
theorem dX8_at_1 : decode cX8_at 1 = .ok (.ifCond .lt 20, 3) := by decide +kernel
theorem dX8_at_4 : decode cX8_at 4 = .ok (.iload_n 1, 1) := by decide +kernel
theorem dX8_at_5 : decode cX8_at 5 = .ok (.aload_n 0, 1) := by decide +kernel
theorem dX8_at_6 : decode cX8_at 6 = .ok (.getfield 15, 3) := by decide +kernel
theorem dX8_at_9 : decode cX8_at 9 = .ok (.if_icmp .ge 12, 3) := by decide +kernel
theorem dX8_at_12 : decode cX8_at 12 = .ok (.aload_n 0, 1) := by decide +kernel
theorem dX8_at_13 : decode cX8_at 13 = .ok (.getfield 9, 3) := by decide +kernel
theorem dX8_at_16 : decode cX8_at 16 = .ok (.iload_n 1, 1) := by decide +kernel
theorem dX8_at_17 : decode cX8_at 17 = .ok (.iaload, 1) := by decide +kernel
theorem dX8_at_18 : decode cX8_at 18 = .ok (.goto 4, 3) := by decide +kernel
theorem dX8_at_21 : decode cX8_at 21 = .ok (.iconst (-1), 1) := by decide +kernel
theorem dX8_at_22 : decode cX8_at 22 = .ok (.ireturn, 1) := by decide +kernel
theorem dX9_init_0 : decode cX9_init 0 = .ok (.aload_n 0, 1) := by decide +kernel
theorem dX9_init_1 : decode cX9_init 1 = .ok (.invokespecial 3, 3) := by decide +kernel
theorem dX9_init_4 : decode cX9_init 4 = .ok (.aload_n 0, 1) := by decide +kernel
theorem dX9_init_5 : decode cX9_init 5 = .ok (.aload_n 1, 1) := by decide +kernel
theorem dX9_init_6 : decode cX9_init 6 = .ok (.putfield 9, 3) := by decide +kernel
theorem dX9_init_9 : decode cX9_init 9 = .ok (.return_, 1) := by decide +kernel
theorem dX9_start_0 : decode cX9_start 0 = .ok (.aload_n 0, 1) := by decide +kernel
theorem dX9_start_1 : decode cX9_start 1 = .ok (.getfield 15, 3) := by decide +kernel
theorem dX9_start_4 : decode cX9_start 4 = .ok (.ireturn, 1) := by decide +kernel
theorem dX9_kind_0 : decode cX9_kind 0 = .ok (.aload_n 0, 1) := by decide +kernel
theorem dX9_kind_1 : decode cX9_kind 1 = .ok (.getfield 19, 3) := by decide +kernel
theorem dX9_kind_4 : decode cX9_kind 4 = .ok (.ireturn, 1) := by decide +kernel
theorem dX9_value_0 : decode cX9_value 0 = .ok (.aload_n 0, 1) := by decide +kernel
theorem dX9_value_1 : decode cX9_value 1 = .ok (.getfield 22, 3) := by decide +kernel
theorem dX9_value_4 : decode cX9_value 4 = .ok (.ireturn, 1) := by decide +kernel
theorem dX9_begin_0 : decode cX9_begin 0 = .ok (.aload_n 0, 1) := by decide +kernel
theorem dX9_begin_1 : decode cX9_begin 1 = .ok (.iconst 0, 1) := by decide +kernel
theorem dX9_begin_2 : decode cX9_begin 2 = .ok (.putfield 25, 3) := by decide +kernel
theorem dX9_begin_5 : decode cX9_begin 5 = .ok (.aload_n 0, 1) := by decide +kernel
theorem dX9_begin_6 : decode cX9_begin 6 = .ok (.invokevirtual 28, 3) := by decide +kernel
theorem dX9_begin_9 : decode cX9_begin 9 = .ok (.return_, 1) := by decide +kernel
theorem dX9_advance_0 : decode cX9_advance 0 = .ok (.aload_n 0, 1) := by decide +kernel
theorem dX9_advance_1 : decode cX9_advance 1 = .ok (.getfield 25, 3) := by decide +kernel
theorem dX9_advance_4 : decode cX9_advance 4 = .ok (.aload_n 0, 1) := by decide +kernel
theorem dX9_advance_5 : decode cX9_advance 5 = .ok (.getfield 9, 3) := by decide +kernel
theorem dX9_advance_8 : decode cX9_advance 8 = .ok (.invokevirtual 31, 3) := by decide +kernel
theorem dX9_advance_11 : decode cX9_advance 11 = .ok (.if_icmp .ge 33, 3) := by decide +kernel
theorem dX9_advance_14 : decode cX9_advance 14 = .ok (.aload_n 0, 1) := by decide +kernel
theorem dX9_advance_15 : decode cX9_advance 15 = .ok (.getfield 9, 3) := by decide +kernel
theorem dX9_advance_18 : decode cX9_advance 18 = .ok (.aload_n 0, 1) := by decide +kernel
theorem dX9_advance_19 : decode cX9_advance 19 = .ok (.getfield 25, 3) := by decide +kernel
theorem dX9_advance_22 : decode cX9_advance 22 = .ok (.invokevirtual 37, 3) := by decide +kernel
theorem dX9_advance_25 : decode cX9_advance 25 = .ok (.invokestatic 41, 3) := by decide +kernel
theorem dX9_advance_28 : decode cX9_advance 28 = .ok (.ifCond .eq 16, 3) := by decide +kernel
theorem dX9_advance_31 : decode cX9_advance 31 = .ok (.aload_n 0, 1) := by decide +kernel
theorem dX9_advance_32 : decode cX9_advance 32 = .ok (.dup, 1) := by decide +kernel
theorem dX9_advance_33 : decode cX9_advance 33 = .ok (.getfield 25, 3) := by decide +kernel
theorem dX9_advance_36 : decode cX9_advance 36 = .ok (.iconst 1, 1) := by decide +kernel
theorem dX9_advance_37 : decode cX9_advance 37 = .ok (.iadd, 1) := by decide +kernel
theorem dX9_advance_38 : decode cX9_advance 38 = .ok (.putfield 25, 3) := by decide +kernel
theorem dX9_advance_41 : decode cX9_advance 41 = .ok (.goto (-41), 3) := by decide +kernel
theorem dX9_advance_44 : decode cX9_advance 44 = .ok (.aload_n 0, 1) := by decide +kernel
theorem dX9_advance_45 : decode cX9_advance 45 = .ok (.aload_n 0, 1) := by decide +kernel
theorem dX9_advance_46 : decode cX9_advance 46 = .ok (.getfield 25, 3) := by decide +kernel
theorem dX9_advance_49 : decode cX9_advance 49 = .ok (.putfield 15, 3) := by decide +kernel
theorem dX9_advance_52 : decode cX9_advance 52 = .ok (.aload_n 0, 1) := by decide +kernel
theorem dX9_advance_53 : decode cX9_advance 53 = .ok (.iconst (-1), 1) := by decide +kernel
theorem dX9_advance_54 : decode cX9_advance 54 = .ok (.putfield 22, 3) := by decide +kernel
theorem dX9_advance_57 : decode cX9_advance 57 = .ok (.aload_n 0, 1) := by decide +kernel
theorem dX9_advance_58 : decode cX9_advance 58 = .ok (.getfield 9, 3) := by decide +kernel
theorem dX9_advance_61 : decode cX9_advance 61 = .ok (.aload_n 0, 1) := by decide +kernel
theorem dX9_advance_62 : decode cX9_advance 62 = .ok (.getfield 15, 3) := by decide +kernel
theorem dX9_advance_65 : decode cX9_advance 65 = .ok (.invokevirtual 37, 3) := by decide +kernel
theorem dX9_advance_68 : decode cX9_advance 68 = .ok (.istore_n 1, 1) := by decide +kernel
theorem dX9_advance_69 : decode cX9_advance 69 = .ok (.iload_n 1, 1) := by decide +kernel
theorem dX9_advance_70 : decode cX9_advance 70 = .ok (.iconst (-1), 1) := by decide +kernel
theorem dX9_advance_71 : decode cX9_advance 71 = .ok (.if_icmp .ne 11, 3) := by decide +kernel
theorem dX9_advance_74 : decode cX9_advance 74 = .ok (.aload_n 0, 1) := by decide +kernel
theorem dX9_advance_75 : decode cX9_advance 75 = .ok (.iconst 0, 1) := by decide +kernel
theorem dX9_advance_76 : decode cX9_advance 76 = .ok (.putfield 19, 3) := by decide +kernel
theorem dX9_advance_79 : decode cX9_advance 79 = .ok (.goto 57, 3) := by decide +kernel
theorem dX9_advance_82 : decode cX9_advance 82 = .ok (.iload_n 1, 1) := by decide +kernel
theorem dX9_advance_83 : decode cX9_advance 83 = .ok (.invokestatic 45, 3) := by decide +kernel
theorem dX9_advance_86 : decode cX9_advance 86 = .ok (.ifCond .eq 10, 3) := by decide +kernel
theorem dX9_advance_89 : decode cX9_advance 89 = .ok (.aload_n 0, 1) := by decide +kernel
theorem dX9_advance_90 : decode cX9_advance 90 = .ok (.invokevirtual 48, 3) := by decide +kernel
theorem dX9_advance_93 : decode cX9_advance 93 = .ok (.goto 43, 3) := by decide +kernel
theorem dX9_advance_96 : decode cX9_advance 96 = .ok (.iload_n 1, 1) := by decide +kernel
theorem dX9_advance_97 : decode cX9_advance 97 = .ok (.invokestatic 51, 3) := by decide +kernel
theorem dX9_advance_100 : decode cX9_advance 100 = .ok (.ifCond .eq 10, 3) := by decide +kernel
theorem dX9_advance_103 : decode cX9_advance 103 = .ok (.aload_n 0, 1) := by decide +kernel
theorem dX9_advance_104 : decode cX9_advance 104 = .ok (.invokevirtual 54, 3) := by decide +kernel
theorem dX9_advance_107 : decode cX9_advance 107 = .ok (.goto 29, 3) := by decide +kernel
theorem dX9_advance_110 : decode cX9_advance 110 = .ok (.aload_n 0, 1) := by decide +kernel
theorem dX9_advance_111 : decode cX9_advance 111 = .ok (.dup, 1) := by decide +kernel
theorem dX9_advance_112 : decode cX9_advance 112 = .ok (.getfield 25, 3) := by decide +kernel
theorem dX9_advance_115 : decode cX9_advance 115 = .ok (.iconst 1, 1) := by decide +kernel
theorem dX9_advance_116 : decode cX9_advance 116 = .ok (.iadd, 1) := by decide +kernel
theorem dX9_advance_117 : decode cX9_advance 117 = .ok (.putfield 25, 3) := by decide +kernel
theorem dX9_advance_120 : decode cX9_advance 120 = .ok (.aload_n 0, 1) := by decide +kernel
theorem dX9_advance_121 : decode cX9_advance 121 = .ok (.iload_n 1, 1) := by decide +kernel
theorem dX9_advance_122 : decode cX9_advance 122 = .ok (.invokestatic 57, 3) := by decide +kernel
theorem dX9_advance_125 : decode cX9_advance 125 = .ok (.ifCond .eq 7, 3) := by decide +kernel
theorem dX9_advance_128 : decode cX9_advance 128 = .ok (.iload_n 1, 1) := by decide +kernel
theorem dX9_advance_129 : decode cX9_advance 129 = .ok (.goto 4, 3) := by decide +kernel
theorem dX9_advance_132 : decode cX9_advance 132 = .ok (.iconst 1, 1) := by decide +kernel
theorem dX9_advance_133 : decode cX9_advance 133 = .ok (.putfield 19, 3) := by decide +kernel
theorem dX9_advance_136 : decode cX9_advance 136 = .ok (.return_, 1) := by decide +kernel
theorem dX9_readWord_0 : decode cX9_readWord 0 = .ok (.aload_n 0, 1) := by decide +kernel
theorem dX9_readWord_1 : decode cX9_readWord 1 = .ok (.getfield 25, 3) := by decide +kernel
theorem dX9_readWord_4 : decode cX9_readWord 4 = .ok (.aload_n 0, 1) := by decide +kernel
theorem dX9_readWord_5 : decode cX9_readWord 5 = .ok (.getfield 9, 3) := by decide +kernel
theorem dX9_readWord_8 : decode cX9_readWord 8 = .ok (.invokevirtual 31, 3) := by decide +kernel
theorem dX9_readWord_11 : decode cX9_readWord 11 = .ok (.if_icmp .ge 50, 3) := by decide +kernel
theorem dX9_readWord_14 : decode cX9_readWord 14 = .ok (.aload_n 0, 1) := by decide +kernel
theorem dX9_readWord_15 : decode cX9_readWord 15 = .ok (.getfield 9, 3) := by decide +kernel
theorem dX9_readWord_18 : decode cX9_readWord 18 = .ok (.aload_n 0, 1) := by decide +kernel
theorem dX9_readWord_19 : decode cX9_readWord 19 = .ok (.getfield 25, 3) := by decide +kernel
theorem dX9_readWord_22 : decode cX9_readWord 22 = .ok (.invokevirtual 37, 3) := by decide +kernel
theorem dX9_readWord_25 : decode cX9_readWord 25 = .ok (.invokestatic 45, 3) := by decide +kernel
theorem dX9_readWord_28 : decode cX9_readWord 28 = .ok (.ifCond .ne 20, 3) := by decide +kernel
theorem dX9_readWord_31 : decode cX9_readWord 31 = .ok (.aload_n 0, 1) := by decide +kernel
theorem dX9_readWord_32 : decode cX9_readWord 32 = .ok (.getfield 9, 3) := by decide +kernel
theorem dX9_readWord_35 : decode cX9_readWord 35 = .ok (.aload_n 0, 1) := by decide +kernel
theorem dX9_readWord_36 : decode cX9_readWord 36 = .ok (.getfield 25, 3) := by decide +kernel
theorem dX9_readWord_39 : decode cX9_readWord 39 = .ok (.invokevirtual 37, 3) := by decide +kernel
theorem dX9_readWord_42 : decode cX9_readWord 42 = .ok (.invokestatic 51, 3) := by decide +kernel
theorem dX9_readWord_45 : decode cX9_readWord 45 = .ok (.ifCond .eq 16, 3) := by decide +kernel
theorem dX9_readWord_48 : decode cX9_readWord 48 = .ok (.aload_n 0, 1) := by decide +kernel
theorem dX9_readWord_49 : decode cX9_readWord 49 = .ok (.dup, 1) := by decide +kernel
theorem dX9_readWord_50 : decode cX9_readWord 50 = .ok (.getfield 25, 3) := by decide +kernel
theorem dX9_readWord_53 : decode cX9_readWord 53 = .ok (.iconst 1, 1) := by decide +kernel
theorem dX9_readWord_54 : decode cX9_readWord 54 = .ok (.iadd, 1) := by decide +kernel
theorem dX9_readWord_55 : decode cX9_readWord 55 = .ok (.putfield 25, 3) := by decide +kernel
theorem dX9_readWord_58 : decode cX9_readWord 58 = .ok (.goto (-58), 3) := by decide +kernel
theorem dX9_readWord_61 : decode cX9_readWord 61 = .ok (.aload_n 0, 1) := by decide +kernel
theorem dX9_readWord_62 : decode cX9_readWord 62 = .ok (.getfield 25, 3) := by decide +kernel
theorem dX9_readWord_65 : decode cX9_readWord 65 = .ok (.aload_n 0, 1) := by decide +kernel
theorem dX9_readWord_66 : decode cX9_readWord 66 = .ok (.getfield 15, 3) := by decide +kernel
theorem dX9_readWord_69 : decode cX9_readWord 69 = .ok (.isub, 1) := by decide +kernel
theorem dX9_readWord_70 : decode cX9_readWord 70 = .ok (.bipush 8, 2) := by decide +kernel
theorem dX9_readWord_72 : decode cX9_readWord 72 = .ok (.if_icmp .le 9, 3) := by decide +kernel
theorem dX9_readWord_75 : decode cX9_readWord 75 = .ok (.aload_n 0, 1) := by decide +kernel
theorem dX9_readWord_76 : decode cX9_readWord 76 = .ok (.iconst 1, 1) := by decide +kernel
theorem dX9_readWord_77 : decode cX9_readWord 77 = .ok (.putfield 19, 3) := by decide +kernel
theorem dX9_readWord_80 : decode cX9_readWord 80 = .ok (.return_, 1) := by decide +kernel
theorem dX9_readWord_81 : decode cX9_readWord 81 = .ok (.aload_n 0, 1) := by decide +kernel
theorem dX9_readWord_82 : decode cX9_readWord 82 = .ok (.invokevirtual 60, 3) := by decide +kernel
theorem dX9_readWord_85 : decode cX9_readWord 85 = .ok (.istore_n 1, 1) := by decide +kernel
theorem dX9_readWord_86 : decode cX9_readWord 86 = .ok (.iload_n 1, 1) := by decide +kernel
theorem dX9_readWord_87 : decode cX9_readWord 87 = .ok (.bipush 14, 2) := by decide +kernel
theorem dX9_readWord_89 : decode cX9_readWord 89 = .ok (.if_icmp .ge 16, 3) := by decide +kernel
theorem dX9_readWord_92 : decode cX9_readWord 92 = .ok (.aload_n 0, 1) := by decide +kernel
theorem dX9_readWord_93 : decode cX9_readWord 93 = .ok (.iconst 3, 1) := by decide +kernel
theorem dX9_readWord_94 : decode cX9_readWord 94 = .ok (.putfield 19, 3) := by decide +kernel
theorem dX9_readWord_97 : decode cX9_readWord 97 = .ok (.aload_n 0, 1) := by decide +kernel
theorem dX9_readWord_98 : decode cX9_readWord 98 = .ok (.iload_n 1, 1) := by decide +kernel
theorem dX9_readWord_99 : decode cX9_readWord 99 = .ok (.putfield 22, 3) := by decide +kernel
theorem dX9_readWord_102 : decode cX9_readWord 102 = .ok (.goto 8, 3) := by decide +kernel
theorem dX9_readWord_105 : decode cX9_readWord 105 = .ok (.aload_n 0, 1) := by decide +kernel
theorem dX9_readWord_106 : decode cX9_readWord 106 = .ok (.iload_n 1, 1) := by decide +kernel
theorem dX9_readWord_107 : decode cX9_readWord 107 = .ok (.putfield 19, 3) := by decide +kernel
theorem dX9_readWord_110 : decode cX9_readWord 110 = .ok (.return_, 1) := by decide +kernel
theorem dX9_readNumber_0 : decode cX9_readNumber 0 = .ok (.aload_n 0, 1) := by decide +kernel
theorem dX9_readNumber_1 : decode cX9_readNumber 1 = .ok (.iconst 0, 1) := by decide +kernel
theorem dX9_readNumber_2 : decode cX9_readNumber 2 = .ok (.putfield 22, 3) := by decide +kernel
theorem dX9_readNumber_5 : decode cX9_readNumber 5 = .ok (.aload_n 0, 1) := by decide +kernel
theorem dX9_readNumber_6 : decode cX9_readNumber 6 = .ok (.getfield 25, 3) := by decide +kernel
theorem dX9_readNumber_9 : decode cX9_readNumber 9 = .ok (.aload_n 0, 1) := by decide +kernel
theorem dX9_readNumber_10 : decode cX9_readNumber 10 = .ok (.getfield 9, 3) := by decide +kernel
theorem dX9_readNumber_13 : decode cX9_readNumber 13 = .ok (.invokevirtual 31, 3) := by decide +kernel
theorem dX9_readNumber_16 : decode cX9_readNumber 16 = .ok (.if_icmp .ge 59, 3) := by decide +kernel
theorem dX9_readNumber_19 : decode cX9_readNumber 19 = .ok (.aload_n 0, 1) := by decide +kernel
theorem dX9_readNumber_20 : decode cX9_readNumber 20 = .ok (.getfield 9, 3) := by decide +kernel
theorem dX9_readNumber_23 : decode cX9_readNumber 23 = .ok (.aload_n 0, 1) := by decide +kernel
theorem dX9_readNumber_24 : decode cX9_readNumber 24 = .ok (.getfield 25, 3) := by decide +kernel
theorem dX9_readNumber_27 : decode cX9_readNumber 27 = .ok (.invokevirtual 37, 3) := by decide +kernel
theorem dX9_readNumber_30 : decode cX9_readNumber 30 = .ok (.invokestatic 51, 3) := by decide +kernel
theorem dX9_readNumber_33 : decode cX9_readNumber 33 = .ok (.ifCond .eq 42, 3) := by decide +kernel
theorem dX9_readNumber_36 : decode cX9_readNumber 36 = .ok (.aload_n 0, 1) := by decide +kernel
theorem dX9_readNumber_37 : decode cX9_readNumber 37 = .ok (.aload_n 0, 1) := by decide +kernel
theorem dX9_readNumber_38 : decode cX9_readNumber 38 = .ok (.getfield 22, 3) := by decide +kernel
theorem dX9_readNumber_41 : decode cX9_readNumber 41 = .ok (.bipush 10, 2) := by decide +kernel
theorem dX9_readNumber_43 : decode cX9_readNumber 43 = .ok (.imul, 1) := by decide +kernel
theorem dX9_readNumber_44 : decode cX9_readNumber 44 = .ok (.aload_n 0, 1) := by decide +kernel
theorem dX9_readNumber_45 : decode cX9_readNumber 45 = .ok (.getfield 9, 3) := by decide +kernel
theorem dX9_readNumber_48 : decode cX9_readNumber 48 = .ok (.aload_n 0, 1) := by decide +kernel
theorem dX9_readNumber_49 : decode cX9_readNumber 49 = .ok (.getfield 25, 3) := by decide +kernel
theorem dX9_readNumber_52 : decode cX9_readNumber 52 = .ok (.invokevirtual 37, 3) := by decide +kernel
theorem dX9_readNumber_55 : decode cX9_readNumber 55 = .ok (.iadd, 1) := by decide +kernel
theorem dX9_readNumber_56 : decode cX9_readNumber 56 = .ok (.bipush 48, 2) := by decide +kernel
theorem dX9_readNumber_58 : decode cX9_readNumber 58 = .ok (.isub, 1) := by decide +kernel
theorem dX9_readNumber_59 : decode cX9_readNumber 59 = .ok (.putfield 22, 3) := by decide +kernel
theorem dX9_readNumber_62 : decode cX9_readNumber 62 = .ok (.aload_n 0, 1) := by decide +kernel
theorem dX9_readNumber_63 : decode cX9_readNumber 63 = .ok (.dup, 1) := by decide +kernel
theorem dX9_readNumber_64 : decode cX9_readNumber 64 = .ok (.getfield 25, 3) := by decide +kernel
theorem dX9_readNumber_67 : decode cX9_readNumber 67 = .ok (.iconst 1, 1) := by decide +kernel
theorem dX9_readNumber_68 : decode cX9_readNumber 68 = .ok (.iadd, 1) := by decide +kernel
theorem dX9_readNumber_69 : decode cX9_readNumber 69 = .ok (.putfield 25, 3) := by decide +kernel
theorem dX9_readNumber_72 : decode cX9_readNumber 72 = .ok (.goto (-67), 3) := by decide +kernel
theorem dX9_readNumber_75 : decode cX9_readNumber 75 = .ok (.aload_n 0, 1) := by decide +kernel
theorem dX9_readNumber_76 : decode cX9_readNumber 76 = .ok (.getfield 25, 3) := by decide +kernel
theorem dX9_readNumber_79 : decode cX9_readNumber 79 = .ok (.aload_n 0, 1) := by decide +kernel
theorem dX9_readNumber_80 : decode cX9_readNumber 80 = .ok (.getfield 15, 3) := by decide +kernel
theorem dX9_readNumber_83 : decode cX9_readNumber 83 = .ok (.isub, 1) := by decide +kernel
theorem dX9_readNumber_84 : decode cX9_readNumber 84 = .ok (.bipush 6, 2) := by decide +kernel
theorem dX9_readNumber_86 : decode cX9_readNumber 86 = .ok (.if_icmp .gt 24, 3) := by decide +kernel
theorem dX9_readNumber_89 : decode cX9_readNumber 89 = .ok (.aload_n 0, 1) := by decide +kernel
theorem dX9_readNumber_90 : decode cX9_readNumber 90 = .ok (.getfield 9, 3) := by decide +kernel
theorem dX9_readNumber_93 : decode cX9_readNumber 93 = .ok (.aload_n 0, 1) := by decide +kernel
theorem dX9_readNumber_94 : decode cX9_readNumber 94 = .ok (.getfield 25, 3) := by decide +kernel
theorem dX9_readNumber_97 : decode cX9_readNumber 97 = .ok (.invokevirtual 37, 3) := by decide +kernel
theorem dX9_readNumber_100 : decode cX9_readNumber 100 = .ok (.invokestatic 45, 3) := by decide +kernel
theorem dX9_readNumber_103 : decode cX9_readNumber 103 = .ok (.ifCond .ne 7, 3) := by decide +kernel
theorem dX9_readNumber_106 : decode cX9_readNumber 106 = .ok (.iconst 1, 1) := by decide +kernel
theorem dX9_readNumber_107 : decode cX9_readNumber 107 = .ok (.goto 4, 3) := by decide +kernel
theorem dX9_readNumber_110 : decode cX9_readNumber 110 = .ok (.iconst 0, 1) := by decide +kernel
theorem dX9_readNumber_111 : decode cX9_readNumber 111 = .ok (.istore_n 1, 1) := by decide +kernel
theorem dX9_readNumber_112 : decode cX9_readNumber 112 = .ok (.aload_n 0, 1) := by decide +kernel
theorem dX9_readNumber_113 : decode cX9_readNumber 113 = .ok (.iload_n 1, 1) := by decide +kernel
theorem dX9_readNumber_114 : decode cX9_readNumber 114 = .ok (.ifCond .eq 7, 3) := by decide +kernel
theorem dX9_readNumber_117 : decode cX9_readNumber 117 = .ok (.iconst 2, 1) := by decide +kernel
theorem dX9_readNumber_118 : decode cX9_readNumber 118 = .ok (.goto 4, 3) := by decide +kernel
theorem dX9_readNumber_121 : decode cX9_readNumber 121 = .ok (.iconst 1, 1) := by decide +kernel
theorem dX9_readNumber_122 : decode cX9_readNumber 122 = .ok (.putfield 19, 3) := by decide +kernel
theorem dX9_readNumber_125 : decode cX9_readNumber 125 = .ok (.return_, 1) := by decide +kernel
theorem dX9_wordNumber_0 : decode cX9_wordNumber 0 = .ok (.iconst 0, 1) := by decide +kernel
theorem dX9_wordNumber_1 : decode cX9_wordNumber 1 = .ok (.istore_n 1, 1) := by decide +kernel
theorem dX9_wordNumber_2 : decode cX9_wordNumber 2 = .ok (.iload_n 1, 1) := by decide +kernel
theorem dX9_wordNumber_3 : decode cX9_wordNumber 3 = .ok (.bipush 19, 2) := by decide +kernel
theorem dX9_wordNumber_5 : decode cX9_wordNumber 5 = .ok (.if_icmp .ge 44, 3) := by decide +kernel
theorem dX9_wordNumber_8 : decode cX9_wordNumber 8 = .ok (.iconst 0, 1) := by decide +kernel
theorem dX9_wordNumber_9 : decode cX9_wordNumber 9 = .ok (.istore_n 2, 1) := by decide +kernel
theorem dX9_wordNumber_10 : decode cX9_wordNumber 10 = .ok (.iload_n 2, 1) := by decide +kernel
theorem dX9_wordNumber_11 : decode cX9_wordNumber 11 = .ok (.bipush 8, 2) := by decide +kernel
theorem dX9_wordNumber_13 : decode cX9_wordNumber 13 = .ok (.if_icmp .ge 22, 3) := by decide +kernel
theorem dX9_wordNumber_16 : decode cX9_wordNumber 16 = .ok (.iload_n 1, 1) := by decide +kernel
theorem dX9_wordNumber_17 : decode cX9_wordNumber 17 = .ok (.iload_n 2, 1) := by decide +kernel
theorem dX9_wordNumber_18 : decode cX9_wordNumber 18 = .ok (.invokestatic 63, 3) := by decide +kernel
theorem dX9_wordNumber_21 : decode cX9_wordNumber 21 = .ok (.aload_n 0, 1) := by decide +kernel
theorem dX9_wordNumber_22 : decode cX9_wordNumber 22 = .ok (.iload_n 2, 1) := by decide +kernel
theorem dX9_wordNumber_23 : decode cX9_wordNumber 23 = .ok (.invokevirtual 67, 3) := by decide +kernel
theorem dX9_wordNumber_26 : decode cX9_wordNumber 26 = .ok (.if_icmp .ne 9, 3) := by decide +kernel
theorem dX9_wordNumber_29 : decode cX9_wordNumber 29 = .ok (.iinc 2 1, 3) := by decide +kernel
theorem dX9_wordNumber_32 : decode cX9_wordNumber 32 = .ok (.goto (-22), 3) := by decide +kernel
theorem dX9_wordNumber_35 : decode cX9_wordNumber 35 = .ok (.iload_n 2, 1) := by decide +kernel
theorem dX9_wordNumber_36 : decode cX9_wordNumber 36 = .ok (.bipush 8, 2) := by decide +kernel
theorem dX9_wordNumber_38 : decode cX9_wordNumber 38 = .ok (.if_icmp .ne 5, 3) := by decide +kernel
theorem dX9_wordNumber_41 : decode cX9_wordNumber 41 = .ok (.iload_n 1, 1) := by decide +kernel
theorem dX9_wordNumber_42 : decode cX9_wordNumber 42 = .ok (.ireturn, 1) := by decide +kernel
theorem dX9_wordNumber_43 : decode cX9_wordNumber 43 = .ok (.iinc 1 1, 3) := by decide +kernel
theorem dX9_wordNumber_46 : decode cX9_wordNumber 46 = .ok (.goto (-44), 3) := by decide +kernel
theorem dX9_wordNumber_49 : decode cX9_wordNumber 49 = .ok (.iconst (-1), 1) := by decide +kernel
theorem dX9_wordNumber_50 : decode cX9_wordNumber 50 = .ok (.ireturn, 1) := by decide +kernel
theorem dX9_letterOf_0 : decode cX9_letterOf 0 = .ok (.iload_n 0, 1) := by decide +kernel
theorem dX9_letterOf_1 : decode cX9_letterOf 1 = .ok (.bipush 8, 2) := by decide +kernel
theorem dX9_letterOf_3 : decode cX9_letterOf 3 = .ok (.imul, 1) := by decide +kernel
theorem dX9_letterOf_4 : decode cX9_letterOf 4 = .ok (.iload_n 1, 1) := by decide +kernel
theorem dX9_letterOf_5 : decode cX9_letterOf 5 = .ok (.iadd, 1) := by decide +kernel
theorem dX9_letterOf_6 : decode cX9_letterOf 6 = .ok (.istore_n 2, 1) := by decide +kernel
theorem dX9_letterOf_7 : decode cX9_letterOf 7 = .ok (.iload_n 2, 1) := by decide +kernel
theorem dX9_letterOf_8 : decode cX9_letterOf 8 = .ok (.ldc 70, 2) := by decide +kernel
theorem dX9_letterOf_10 : decode cX9_letterOf 10 = .ok (.invokevirtual 72, 3) := by decide +kernel
theorem dX9_letterOf_13 : decode cX9_letterOf 13 = .ok (.if_icmp .ge 12, 3) := by decide +kernel
theorem dX9_letterOf_16 : decode cX9_letterOf 16 = .ok (.ldc 70, 2) := by decide +kernel
theorem dX9_letterOf_18 : decode cX9_letterOf 18 = .ok (.iload_n 2, 1) := by decide +kernel
theorem dX9_letterOf_19 : decode cX9_letterOf 19 = .ok (.invokevirtual 75, 3) := by decide +kernel
theorem dX9_letterOf_22 : decode cX9_letterOf 22 = .ok (.goto 4, 3) := by decide +kernel
theorem dX9_letterOf_25 : decode cX9_letterOf 25 = .ok (.iconst (-1), 1) := by decide +kernel
theorem dX9_letterOf_26 : decode cX9_letterOf 26 = .ok (.ireturn, 1) := by decide +kernel
theorem dX9_letterHere_0 : decode cX9_letterHere 0 = .ok (.aload_n 0, 1) := by decide +kernel
theorem dX9_letterHere_1 : decode cX9_letterHere 1 = .ok (.getfield 15, 3) := by decide +kernel
theorem dX9_letterHere_4 : decode cX9_letterHere 4 = .ok (.iload_n 1, 1) := by decide +kernel
theorem dX9_letterHere_5 : decode cX9_letterHere 5 = .ok (.iadd, 1) := by decide +kernel
theorem dX9_letterHere_6 : decode cX9_letterHere 6 = .ok (.aload_n 0, 1) := by decide +kernel
theorem dX9_letterHere_7 : decode cX9_letterHere 7 = .ok (.getfield 25, 3) := by decide +kernel
theorem dX9_letterHere_10 : decode cX9_letterHere 10 = .ok (.if_icmp .ge 19, 3) := by decide +kernel
theorem dX9_letterHere_13 : decode cX9_letterHere 13 = .ok (.aload_n 0, 1) := by decide +kernel
theorem dX9_letterHere_14 : decode cX9_letterHere 14 = .ok (.getfield 9, 3) := by decide +kernel
theorem dX9_letterHere_17 : decode cX9_letterHere 17 = .ok (.aload_n 0, 1) := by decide +kernel
theorem dX9_letterHere_18 : decode cX9_letterHere 18 = .ok (.getfield 15, 3) := by decide +kernel
theorem dX9_letterHere_21 : decode cX9_letterHere 21 = .ok (.iload_n 1, 1) := by decide +kernel
theorem dX9_letterHere_22 : decode cX9_letterHere 22 = .ok (.iadd, 1) := by decide +kernel
theorem dX9_letterHere_23 : decode cX9_letterHere 23 = .ok (.invokevirtual 37, 3) := by decide +kernel
theorem dX9_letterHere_26 : decode cX9_letterHere 26 = .ok (.goto 5, 3) := by decide +kernel
theorem dX9_letterHere_29 : decode cX9_letterHere 29 = .ok (.bipush 32, 2) := by decide +kernel
theorem dX9_letterHere_31 : decode cX9_letterHere 31 = .ok (.ireturn, 1) := by decide +kernel
theorem dX9_isBlank_0 : decode cX9_isBlank 0 = .ok (.iload_n 0, 1) := by decide +kernel
theorem dX9_isBlank_1 : decode cX9_isBlank 1 = .ok (.bipush 32, 2) := by decide +kernel
theorem dX9_isBlank_3 : decode cX9_isBlank 3 = .ok (.if_icmp .eq 9, 3) := by decide +kernel
theorem dX9_isBlank_6 : decode cX9_isBlank 6 = .ok (.iload_n 0, 1) := by decide +kernel
theorem dX9_isBlank_7 : decode cX9_isBlank 7 = .ok (.bipush 10, 2) := by decide +kernel
theorem dX9_isBlank_9 : decode cX9_isBlank 9 = .ok (.if_icmp .ne 7, 3) := by decide +kernel
theorem dX9_isBlank_12 : decode cX9_isBlank 12 = .ok (.iconst 1, 1) := by decide +kernel
theorem dX9_isBlank_13 : decode cX9_isBlank 13 = .ok (.goto 4, 3) := by decide +kernel
theorem dX9_isBlank_16 : decode cX9_isBlank 16 = .ok (.iconst 0, 1) := by decide +kernel
theorem dX9_isBlank_17 : decode cX9_isBlank 17 = .ok (.ireturn, 1) := by decide +kernel
theorem dX9_isLetter_0 : decode cX9_isLetter 0 = .ok (.iload_n 0, 1) := by decide +kernel
theorem dX9_isLetter_1 : decode cX9_isLetter 1 = .ok (.bipush 97, 2) := by decide +kernel
theorem dX9_isLetter_3 : decode cX9_isLetter 3 = .ok (.if_icmp .lt 13, 3) := by decide +kernel
theorem dX9_isLetter_6 : decode cX9_isLetter 6 = .ok (.iload_n 0, 1) := by decide +kernel
theorem dX9_isLetter_7 : decode cX9_isLetter 7 = .ok (.bipush 122, 2) := by decide +kernel
theorem dX9_isLetter_9 : decode cX9_isLetter 9 = .ok (.if_icmp .gt 7, 3) := by decide +kernel
theorem dX9_isLetter_12 : decode cX9_isLetter 12 = .ok (.iconst 1, 1) := by decide +kernel
theorem dX9_isLetter_13 : decode cX9_isLetter 13 = .ok (.goto 4, 3) := by decide +kernel
theorem dX9_isLetter_16 : decode cX9_isLetter 16 = .ok (.iconst 0, 1) := by decide +kernel
theorem dX9_isLetter_17 : decode cX9_isLetter 17 = .ok (.ireturn, 1) := by decide +kernel
theorem dX9_isDigit_0 : decode cX9_isDigit 0 = .ok (.iload_n 0, 1) := by decide +kernel
theorem dX9_isDigit_1 : decode cX9_isDigit 1 = .ok (.bipush 48, 2) := by decide +kernel
theorem dX9_isDigit_3 : decode cX9_isDigit 3 = .ok (.if_icmp .lt 13, 3) := by decide +kernel
theorem dX9_isDigit_6 : decode cX9_isDigit 6 = .ok (.iload_n 0, 1) := by decide +kernel
theorem dX9_isDigit_7 : decode cX9_isDigit 7 = .ok (.bipush 57, 2) := by decide +kernel
theorem dX9_isDigit_9 : decode cX9_isDigit 9 = .ok (.if_icmp .gt 7, 3) := by decide +kernel
theorem dX9_isDigit_12 : decode cX9_isDigit 12 = .ok (.iconst 1, 1) := by decide +kernel
theorem dX9_isDigit_13 : decode cX9_isDigit 13 = .ok (.goto 4, 3) := by decide +kernel
theorem dX9_isDigit_16 : decode cX9_isDigit 16 = .ok (.iconst 0, 1) := by decide +kernel
theorem dX9_isDigit_17 : decode cX9_isDigit 17 = .ok (.ireturn, 1) := by decide +kernel
theorem dX9_isSign_0 : decode cX9_isSign 0 = .ok (.iload_n 0, 1) := by decide +kernel
theorem dX9_isSign_1 : decode cX9_isSign 1 = .ok (.tableswitch 109 40 62 #[107, 107, 109, 107, 109, 107, 109, 109, 109, 109, 109, 109, 109, 109, 109, 109, 109, 109, 109, 107, 107, 107, 107], 107) := by decide +kernel
theorem dX9_isSign_108 : decode cX9_isSign 108 = .ok (.iconst 1, 1) := by decide +kernel
theorem dX9_isSign_109 : decode cX9_isSign 109 = .ok (.ireturn, 1) := by decide +kernel
theorem dX9_isSign_110 : decode cX9_isSign 110 = .ok (.iconst 0, 1) := by decide +kernel
theorem dX9_isSign_111 : decode cX9_isSign 111 = .ok (.ireturn, 1) := by decide +kernel
theorem dX10_init_0 : decode cX10_init 0 = .ok (.aload_n 0, 1) := by decide +kernel
theorem dX10_init_1 : decode cX10_init 1 = .ok (.invokespecial 3, 3) := by decide +kernel
theorem dX10_init_4 : decode cX10_init 4 = .ok (.aload_n 0, 1) := by decide +kernel
theorem dX10_init_5 : decode cX10_init 5 = .ok (.sipush 200, 3) := by decide +kernel
theorem dX10_init_8 : decode cX10_init 8 = .ok (.newarray .int, 2) := by decide +kernel
theorem dX10_init_10 : decode cX10_init 10 = .ok (.putfield 9, 3) := by decide +kernel
theorem dX10_init_13 : decode cX10_init 13 = .ok (.aload_n 0, 1) := by decide +kernel
theorem dX10_init_14 : decode cX10_init 14 = .ok (.sipush 200, 3) := by decide +kernel
theorem dX10_init_17 : decode cX10_init 17 = .ok (.newarray .int, 2) := by decide +kernel
theorem dX10_init_19 : decode cX10_init 19 = .ok (.putfield 15, 3) := by decide +kernel
theorem dX10_init_22 : decode cX10_init 22 = .ok (.aload_n 0, 1) := by decide +kernel
theorem dX10_init_23 : decode cX10_init 23 = .ok (.sipush 200, 3) := by decide +kernel
theorem dX10_init_26 : decode cX10_init 26 = .ok (.newarray .int, 2) := by decide +kernel
theorem dX10_init_28 : decode cX10_init 28 = .ok (.putfield 18, 3) := by decide +kernel
theorem dX10_init_31 : decode cX10_init 31 = .ok (.aload_n 0, 1) := by decide +kernel
theorem dX10_init_32 : decode cX10_init 32 = .ok (.sipush 200, 3) := by decide +kernel
theorem dX10_init_35 : decode cX10_init 35 = .ok (.newarray .int, 2) := by decide +kernel
theorem dX10_init_37 : decode cX10_init 37 = .ok (.putfield 21, 3) := by decide +kernel
theorem dX10_init_40 : decode cX10_init 40 = .ok (.aload_n 0, 1) := by decide +kernel
theorem dX10_init_41 : decode cX10_init 41 = .ok (.bipush 36, 2) := by decide +kernel
theorem dX10_init_43 : decode cX10_init 43 = .ok (.newarray .int, 2) := by decide +kernel
theorem dX10_init_45 : decode cX10_init 45 = .ok (.putfield 24, 3) := by decide +kernel
theorem dX10_init_48 : decode cX10_init 48 = .ok (.aload_n 0, 1) := by decide +kernel
theorem dX10_init_49 : decode cX10_init 49 = .ok (.iconst 3, 1) := by decide +kernel
theorem dX10_init_50 : decode cX10_init 50 = .ok (.newarray .int, 2) := by decide +kernel
theorem dX10_init_52 : decode cX10_init 52 = .ok (.putfield 27, 3) := by decide +kernel
theorem dX10_init_55 : decode cX10_init 55 = .ok (.return_, 1) := by decide +kernel
theorem dX10_count_0 : decode cX10_count 0 = .ok (.aload_n 0, 1) := by decide +kernel
theorem dX10_count_1 : decode cX10_count 1 = .ok (.getfield 30, 3) := by decide +kernel
theorem dX10_count_4 : decode cX10_count 4 = .ok (.ireturn, 1) := by decide +kernel
theorem dX10_begin_0 : decode cX10_begin 0 = .ok (.iconst 0, 1) := by decide +kernel
theorem dX10_begin_1 : decode cX10_begin 1 = .ok (.istore_n 3, 1) := by decide +kernel
theorem dX10_begin_2 : decode cX10_begin 2 = .ok (.iload_n 3, 1) := by decide +kernel
theorem dX10_begin_3 : decode cX10_begin 3 = .ok (.iconst 3, 1) := by decide +kernel
theorem dX10_begin_4 : decode cX10_begin 4 = .ok (.if_icmp .ge 20, 3) := by decide +kernel
theorem dX10_begin_7 : decode cX10_begin 7 = .ok (.aload_n 0, 1) := by decide +kernel
theorem dX10_begin_8 : decode cX10_begin 8 = .ok (.getfield 24, 3) := by decide +kernel
theorem dX10_begin_11 : decode cX10_begin 11 = .ok (.iload_n 1, 1) := by decide +kernel
theorem dX10_begin_12 : decode cX10_begin 12 = .ok (.iconst 3, 1) := by decide +kernel
theorem dX10_begin_13 : decode cX10_begin 13 = .ok (.imul, 1) := by decide +kernel
theorem dX10_begin_14 : decode cX10_begin 14 = .ok (.iload_n 3, 1) := by decide +kernel
theorem dX10_begin_15 : decode cX10_begin 15 = .ok (.iadd, 1) := by decide +kernel
theorem dX10_begin_16 : decode cX10_begin 16 = .ok (.iload_n 2, 1) := by decide +kernel
theorem dX10_begin_17 : decode cX10_begin 17 = .ok (.iastore, 1) := by decide +kernel
theorem dX10_begin_18 : decode cX10_begin 18 = .ok (.iinc 3 1, 3) := by decide +kernel
theorem dX10_begin_21 : decode cX10_begin 21 = .ok (.goto (-19), 3) := by decide +kernel
theorem dX10_begin_24 : decode cX10_begin 24 = .ok (.return_, 1) := by decide +kernel
theorem dX10_setFall_0 : decode cX10_setFall 0 = .ok (.aload_n 0, 1) := by decide +kernel
theorem dX10_setFall_1 : decode cX10_setFall 1 = .ok (.getfield 27, 3) := by decide +kernel
theorem dX10_setFall_4 : decode cX10_setFall 4 = .ok (.iload_n 1, 1) := by decide +kernel
theorem dX10_setFall_5 : decode cX10_setFall 5 = .ok (.iload_n 2, 1) := by decide +kernel
theorem dX10_setFall_6 : decode cX10_setFall 6 = .ok (.iastore, 1) := by decide +kernel
theorem dX10_setFall_7 : decode cX10_setFall 7 = .ok (.return_, 1) := by decide +kernel
theorem dX10_add_0 : decode cX10_add 0 = .ok (.aload_n 0, 1) := by decide +kernel
theorem dX10_add_1 : decode cX10_add 1 = .ok (.getfield 30, 3) := by decide +kernel
theorem dX10_add_4 : decode cX10_add 4 = .ok (.sipush 200, 3) := by decide +kernel
theorem dX10_add_7 : decode cX10_add 7 = .ok (.if_icmp .lt 5, 3) := by decide +kernel
theorem dX10_add_10 : decode cX10_add 10 = .ok (.iconst (-1), 1) := by decide +kernel
theorem dX10_add_11 : decode cX10_add 11 = .ok (.ireturn, 1) := by decide +kernel
theorem dX10_add_12 : decode cX10_add 12 = .ok (.aload_n 0, 1) := by decide +kernel
theorem dX10_add_13 : decode cX10_add 13 = .ok (.getfield 9, 3) := by decide +kernel
theorem dX10_add_16 : decode cX10_add 16 = .ok (.aload_n 0, 1) := by decide +kernel
theorem dX10_add_17 : decode cX10_add 17 = .ok (.getfield 30, 3) := by decide +kernel
theorem dX10_add_20 : decode cX10_add 20 = .ok (.iload_n 1, 1) := by decide +kernel
theorem dX10_add_21 : decode cX10_add 21 = .ok (.iastore, 1) := by decide +kernel
theorem dX10_add_22 : decode cX10_add 22 = .ok (.aload_n 0, 1) := by decide +kernel
theorem dX10_add_23 : decode cX10_add 23 = .ok (.getfield 15, 3) := by decide +kernel
theorem dX10_add_26 : decode cX10_add 26 = .ok (.aload_n 0, 1) := by decide +kernel
theorem dX10_add_27 : decode cX10_add 27 = .ok (.getfield 30, 3) := by decide +kernel
theorem dX10_add_30 : decode cX10_add 30 = .ok (.iload_n 3, 1) := by decide +kernel
theorem dX10_add_31 : decode cX10_add 31 = .ok (.iastore, 1) := by decide +kernel
theorem dX10_add_32 : decode cX10_add 32 = .ok (.aload_n 0, 1) := by decide +kernel
theorem dX10_add_33 : decode cX10_add 33 = .ok (.getfield 18, 3) := by decide +kernel
theorem dX10_add_36 : decode cX10_add 36 = .ok (.aload_n 0, 1) := by decide +kernel
theorem dX10_add_37 : decode cX10_add 37 = .ok (.getfield 30, 3) := by decide +kernel
theorem dX10_add_40 : decode cX10_add 40 = .ok (.iload 4, 2) := by decide +kernel
theorem dX10_add_42 : decode cX10_add 42 = .ok (.iastore, 1) := by decide +kernel
theorem dX10_add_43 : decode cX10_add 43 = .ok (.aload_n 0, 1) := by decide +kernel
theorem dX10_add_44 : decode cX10_add 44 = .ok (.getfield 21, 3) := by decide +kernel
theorem dX10_add_47 : decode cX10_add 47 = .ok (.aload_n 0, 1) := by decide +kernel
theorem dX10_add_48 : decode cX10_add 48 = .ok (.getfield 30, 3) := by decide +kernel
theorem dX10_add_51 : decode cX10_add 51 = .ok (.iload 5, 2) := by decide +kernel
theorem dX10_add_53 : decode cX10_add 53 = .ok (.iastore, 1) := by decide +kernel
theorem dX10_add_54 : decode cX10_add 54 = .ok (.aload_n 0, 1) := by decide +kernel
theorem dX10_add_55 : decode cX10_add 55 = .ok (.dup, 1) := by decide +kernel
theorem dX10_add_56 : decode cX10_add 56 = .ok (.getfield 30, 3) := by decide +kernel
theorem dX10_add_59 : decode cX10_add 59 = .ok (.iconst 1, 1) := by decide +kernel
theorem dX10_add_60 : decode cX10_add 60 = .ok (.iadd, 1) := by decide +kernel
theorem dX10_add_61 : decode cX10_add 61 = .ok (.putfield 30, 3) := by decide +kernel
theorem dX10_add_64 : decode cX10_add 64 = .ok (.iload_n 1, 1) := by decide +kernel
theorem dX10_add_65 : decode cX10_add 65 = .ok (.iconst 3, 1) := by decide +kernel
theorem dX10_add_66 : decode cX10_add 66 = .ok (.imul, 1) := by decide +kernel
theorem dX10_add_67 : decode cX10_add 67 = .ok (.iload_n 2, 1) := by decide +kernel
theorem dX10_add_68 : decode cX10_add 68 = .ok (.iadd, 1) := by decide +kernel
theorem dX10_add_69 : decode cX10_add 69 = .ok (.istore 6, 2) := by decide +kernel
theorem dX10_add_71 : decode cX10_add 71 = .ok (.aload_n 0, 1) := by decide +kernel
theorem dX10_add_72 : decode cX10_add 72 = .ok (.getfield 24, 3) := by decide +kernel
theorem dX10_add_75 : decode cX10_add 75 = .ok (.iload 6, 2) := by decide +kernel
theorem dX10_add_77 : decode cX10_add 77 = .ok (.aload_n 0, 1) := by decide +kernel
theorem dX10_add_78 : decode cX10_add 78 = .ok (.getfield 24, 3) := by decide +kernel
theorem dX10_add_81 : decode cX10_add 81 = .ok (.iload 6, 2) := by decide +kernel
theorem dX10_add_83 : decode cX10_add 83 = .ok (.iaload, 1) := by decide +kernel
theorem dX10_add_84 : decode cX10_add 84 = .ok (.iload_n 3, 1) := by decide +kernel
theorem dX10_add_85 : decode cX10_add 85 = .ok (.invokestatic 34, 3) := by decide +kernel
theorem dX10_add_88 : decode cX10_add 88 = .ok (.iastore, 1) := by decide +kernel
theorem dX10_add_89 : decode cX10_add 89 = .ok (.aload_n 0, 1) := by decide +kernel
theorem dX10_add_90 : decode cX10_add 90 = .ok (.getfield 30, 3) := by decide +kernel
theorem dX10_add_93 : decode cX10_add 93 = .ok (.ireturn, 1) := by decide +kernel
theorem dX10_dueDay_0 : decode cX10_dueDay 0 = .ok (.aload_n 0, 1) := by decide +kernel
theorem dX10_dueDay_1 : decode cX10_dueDay 1 = .ok (.getfield 27, 3) := by decide +kernel
theorem dX10_dueDay_4 : decode cX10_dueDay 4 = .ok (.iload_n 2, 1) := by decide +kernel
theorem dX10_dueDay_5 : decode cX10_dueDay 5 = .ok (.iaload, 1) := by decide +kernel
theorem dX10_dueDay_6 : decode cX10_dueDay 6 = .ok (.istore_n 3, 1) := by decide +kernel
theorem dX10_dueDay_7 : decode cX10_dueDay 7 = .ok (.iload_n 3, 1) := by decide +kernel
theorem dX10_dueDay_8 : decode cX10_dueDay 8 = .ok (.ifCond .ne 7, 3) := by decide +kernel
theorem dX10_dueDay_11 : decode cX10_dueDay 11 = .ok (.iconst (-1), 1) := by decide +kernel
theorem dX10_dueDay_12 : decode cX10_dueDay 12 = .ok (.goto 15, 3) := by decide +kernel
theorem dX10_dueDay_15 : decode cX10_dueDay 15 = .ok (.aload_n 0, 1) := by decide +kernel
theorem dX10_dueDay_16 : decode cX10_dueDay 16 = .ok (.getfield 24, 3) := by decide +kernel
theorem dX10_dueDay_19 : decode cX10_dueDay 19 = .ok (.iload_n 1, 1) := by decide +kernel
theorem dX10_dueDay_20 : decode cX10_dueDay 20 = .ok (.iconst 3, 1) := by decide +kernel
theorem dX10_dueDay_21 : decode cX10_dueDay 21 = .ok (.imul, 1) := by decide +kernel
theorem dX10_dueDay_22 : decode cX10_dueDay 22 = .ok (.iload_n 2, 1) := by decide +kernel
theorem dX10_dueDay_23 : decode cX10_dueDay 23 = .ok (.iadd, 1) := by decide +kernel
theorem dX10_dueDay_24 : decode cX10_dueDay 24 = .ok (.iaload, 1) := by decide +kernel
theorem dX10_dueDay_25 : decode cX10_dueDay 25 = .ok (.iload_n 3, 1) := by decide +kernel
theorem dX10_dueDay_26 : decode cX10_dueDay 26 = .ok (.iadd, 1) := by decide +kernel
theorem dX10_dueDay_27 : decode cX10_dueDay 27 = .ok (.ireturn, 1) := by decide +kernel
theorem dX10_cost_0 : decode cX10_cost 0 = .ok (.iconst 0, 1) := by decide +kernel
theorem dX10_cost_1 : decode cX10_cost 1 = .ok (.istore 5, 2) := by decide +kernel
theorem dX10_cost_3 : decode cX10_cost 3 = .ok (.iconst 0, 1) := by decide +kernel
theorem dX10_cost_4 : decode cX10_cost 4 = .ok (.istore 6, 2) := by decide +kernel
theorem dX10_cost_6 : decode cX10_cost 6 = .ok (.iload 6, 2) := by decide +kernel
theorem dX10_cost_8 : decode cX10_cost 8 = .ok (.aload_n 0, 1) := by decide +kernel
theorem dX10_cost_9 : decode cX10_cost 9 = .ok (.getfield 30, 3) := by decide +kernel
theorem dX10_cost_12 : decode cX10_cost 12 = .ok (.if_icmp .ge 78, 3) := by decide +kernel
theorem dX10_cost_15 : decode cX10_cost 15 = .ok (.aload_n 0, 1) := by decide +kernel
theorem dX10_cost_16 : decode cX10_cost 16 = .ok (.getfield 15, 3) := by decide +kernel
theorem dX10_cost_19 : decode cX10_cost 19 = .ok (.iload 6, 2) := by decide +kernel
theorem dX10_cost_21 : decode cX10_cost 21 = .ok (.iaload, 1) := by decide +kernel
theorem dX10_cost_22 : decode cX10_cost 22 = .ok (.iload_n 2, 1) := by decide +kernel
theorem dX10_cost_23 : decode cX10_cost 23 = .ok (.if_icmp .lt 18, 3) := by decide +kernel
theorem dX10_cost_26 : decode cX10_cost 26 = .ok (.aload_n 0, 1) := by decide +kernel
theorem dX10_cost_27 : decode cX10_cost 27 = .ok (.getfield 15, 3) := by decide +kernel
theorem dX10_cost_30 : decode cX10_cost 30 = .ok (.iload 6, 2) := by decide +kernel
theorem dX10_cost_32 : decode cX10_cost 32 = .ok (.iaload, 1) := by decide +kernel
theorem dX10_cost_33 : decode cX10_cost 33 = .ok (.iload_n 3, 1) := by decide +kernel
theorem dX10_cost_34 : decode cX10_cost 34 = .ok (.if_icmp .gt 7, 3) := by decide +kernel
theorem dX10_cost_37 : decode cX10_cost 37 = .ok (.iconst 1, 1) := by decide +kernel
theorem dX10_cost_38 : decode cX10_cost 38 = .ok (.goto 4, 3) := by decide +kernel
theorem dX10_cost_41 : decode cX10_cost 41 = .ok (.iconst 0, 1) := by decide +kernel
theorem dX10_cost_42 : decode cX10_cost 42 = .ok (.istore 7, 2) := by decide +kernel
theorem dX10_cost_44 : decode cX10_cost 44 = .ok (.aload_n 0, 1) := by decide +kernel
theorem dX10_cost_45 : decode cX10_cost 45 = .ok (.getfield 9, 3) := by decide +kernel
theorem dX10_cost_48 : decode cX10_cost 48 = .ok (.iload 6, 2) := by decide +kernel
theorem dX10_cost_50 : decode cX10_cost 50 = .ok (.iaload, 1) := by decide +kernel
theorem dX10_cost_51 : decode cX10_cost 51 = .ok (.iload_n 1, 1) := by decide +kernel
theorem dX10_cost_52 : decode cX10_cost 52 = .ok (.if_icmp .ne 32, 3) := by decide +kernel
theorem dX10_cost_55 : decode cX10_cost 55 = .ok (.iload 7, 2) := by decide +kernel
theorem dX10_cost_57 : decode cX10_cost 57 = .ok (.ifCond .eq 27, 3) := by decide +kernel
theorem dX10_cost_60 : decode cX10_cost 60 = .ok (.aload_n 0, 1) := by decide +kernel
theorem dX10_cost_61 : decode cX10_cost 61 = .ok (.getfield 18, 3) := by decide +kernel
theorem dX10_cost_64 : decode cX10_cost 64 = .ok (.iload 6, 2) := by decide +kernel
theorem dX10_cost_66 : decode cX10_cost 66 = .ok (.iaload, 1) := by decide +kernel
theorem dX10_cost_67 : decode cX10_cost 67 = .ok (.iload 4, 2) := by decide +kernel
theorem dX10_cost_69 : decode cX10_cost 69 = .ok (.if_icmp .gt 15, 3) := by decide +kernel
theorem dX10_cost_72 : decode cX10_cost 72 = .ok (.iload 5, 2) := by decide +kernel
theorem dX10_cost_74 : decode cX10_cost 74 = .ok (.aload_n 0, 1) := by decide +kernel
theorem dX10_cost_75 : decode cX10_cost 75 = .ok (.getfield 21, 3) := by decide +kernel
theorem dX10_cost_78 : decode cX10_cost 78 = .ok (.iload 6, 2) := by decide +kernel
theorem dX10_cost_80 : decode cX10_cost 80 = .ok (.iaload, 1) := by decide +kernel
theorem dX10_cost_81 : decode cX10_cost 81 = .ok (.iadd, 1) := by decide +kernel
theorem dX10_cost_82 : decode cX10_cost 82 = .ok (.istore 5, 2) := by decide +kernel
theorem dX10_cost_84 : decode cX10_cost 84 = .ok (.iinc 6 1, 3) := by decide +kernel
theorem dX10_cost_87 : decode cX10_cost 87 = .ok (.goto (-81), 3) := by decide +kernel
theorem dX10_cost_90 : decode cX10_cost 90 = .ok (.iload 5, 2) := by decide +kernel
theorem dX10_cost_92 : decode cX10_cost 92 = .ok (.ireturn, 1) := by decide +kernel
theorem dX11_init_0 : decode cX11_init 0 = .ok (.aload_n 0, 1) := by decide +kernel
end
section
theorem dX11_init_1 : decode cX11_init 1 = .ok (.invokespecial 3, 3) := by decide +kernel
theorem dX11_init_4 : decode cX11_init 4 = .ok (.aload_n 0, 1) := by decide +kernel
theorem dX11_init_5 : decode cX11_init 5 = .ok (.new 9, 3) := by decide +kernel
theorem dX11_init_8 : decode cX11_init 8 = .ok (.dup, 1) := by decide +kernel
theorem dX11_init_9 : decode cX11_init 9 = .ok (.invokespecial 11, 3) := by decide +kernel
theorem dX11_init_12 : decode cX11_init 12 = .ok (.putfield 12, 3) := by decide +kernel
theorem dX11_init_15 : decode cX11_init 15 = .ok (.aload_n 0, 1) := by decide +kernel
theorem dX11_init_16 : decode cX11_init 16 = .ok (.new 16, 3) := by decide +kernel
theorem dX11_init_19 : decode cX11_init 19 = .ok (.dup, 1) := by decide +kernel
theorem dX11_init_20 : decode cX11_init 20 = .ok (.invokespecial 18, 3) := by decide +kernel
theorem dX11_init_23 : decode cX11_init 23 = .ok (.putfield 19, 3) := by decide +kernel
theorem dX11_init_26 : decode cX11_init 26 = .ok (.aload_n 0, 1) := by decide +kernel
theorem dX11_init_27 : decode cX11_init 27 = .ok (.new 23, 3) := by decide +kernel
theorem dX11_init_30 : decode cX11_init 30 = .ok (.dup, 1) := by decide +kernel
theorem dX11_init_31 : decode cX11_init 31 = .ok (.invokespecial 25, 3) := by decide +kernel
theorem dX11_init_34 : decode cX11_init 34 = .ok (.putfield 26, 3) := by decide +kernel
theorem dX11_init_37 : decode cX11_init 37 = .ok (.aload_n 0, 1) := by decide +kernel
theorem dX11_init_38 : decode cX11_init 38 = .ok (.new 30, 3) := by decide +kernel
theorem dX11_init_41 : decode cX11_init 41 = .ok (.dup, 1) := by decide +kernel
theorem dX11_init_42 : decode cX11_init 42 = .ok (.invokespecial 32, 3) := by decide +kernel
theorem dX11_init_45 : decode cX11_init 45 = .ok (.putfield 33, 3) := by decide +kernel
theorem dX11_init_48 : decode cX11_init 48 = .ok (.aload_n 0, 1) := by decide +kernel
theorem dX11_init_49 : decode cX11_init 49 = .ok (.new 30, 3) := by decide +kernel
theorem dX11_init_52 : decode cX11_init 52 = .ok (.dup, 1) := by decide +kernel
theorem dX11_init_53 : decode cX11_init 53 = .ok (.invokespecial 32, 3) := by decide +kernel
theorem dX11_init_56 : decode cX11_init 56 = .ok (.putfield 37, 3) := by decide +kernel
theorem dX11_init_59 : decode cX11_init 59 = .ok (.aload_n 0, 1) := by decide +kernel
theorem dX11_init_60 : decode cX11_init 60 = .ok (.new 40, 3) := by decide +kernel
theorem dX11_init_63 : decode cX11_init 63 = .ok (.dup, 1) := by decide +kernel
theorem dX11_init_64 : decode cX11_init 64 = .ok (.new 42, 3) := by decide +kernel
theorem dX11_init_67 : decode cX11_init 67 = .ok (.dup, 1) := by decide +kernel
theorem dX11_init_68 : decode cX11_init 68 = .ok (.aload_n 0, 1) := by decide +kernel
theorem dX11_init_69 : decode cX11_init 69 = .ok (.getfield 26, 3) := by decide +kernel
theorem dX11_init_72 : decode cX11_init 72 = .ok (.invokespecial 44, 3) := by decide +kernel
theorem dX11_init_75 : decode cX11_init 75 = .ok (.aload_n 0, 1) := by decide +kernel
theorem dX11_init_76 : decode cX11_init 76 = .ok (.getfield 33, 3) := by decide +kernel
theorem dX11_init_79 : decode cX11_init 79 = .ok (.invokespecial 47, 3) := by decide +kernel
theorem dX11_init_82 : decode cX11_init 82 = .ok (.putfield 50, 3) := by decide +kernel
theorem dX11_init_85 : decode cX11_init 85 = .ok (.aload_n 0, 1) := by decide +kernel
theorem dX11_init_86 : decode cX11_init 86 = .ok (.new 54, 3) := by decide +kernel
theorem dX11_init_89 : decode cX11_init 89 = .ok (.dup, 1) := by decide +kernel
theorem dX11_init_90 : decode cX11_init 90 = .ok (.aload_n 0, 1) := by decide +kernel
theorem dX11_init_91 : decode cX11_init 91 = .ok (.getfield 12, 3) := by decide +kernel
theorem dX11_init_94 : decode cX11_init 94 = .ok (.aload_n 0, 1) := by decide +kernel
theorem dX11_init_95 : decode cX11_init 95 = .ok (.getfield 19, 3) := by decide +kernel
theorem dX11_init_98 : decode cX11_init 98 = .ok (.aload_n 0, 1) := by decide +kernel
theorem dX11_init_99 : decode cX11_init 99 = .ok (.getfield 37, 3) := by decide +kernel
theorem dX11_init_102 : decode cX11_init 102 = .ok (.invokespecial 56, 3) := by decide +kernel
theorem dX11_init_105 : decode cX11_init 105 = .ok (.putfield 59, 3) := by decide +kernel
theorem dX11_init_108 : decode cX11_init 108 = .ok (.aload_n 0, 1) := by decide +kernel
theorem dX11_init_109 : decode cX11_init 109 = .ok (.new 63, 3) := by decide +kernel
theorem dX11_init_112 : decode cX11_init 112 = .ok (.dup, 1) := by decide +kernel
theorem dX11_init_113 : decode cX11_init 113 = .ok (.aload_n 0, 1) := by decide +kernel
theorem dX11_init_114 : decode cX11_init 114 = .ok (.getfield 12, 3) := by decide +kernel
theorem dX11_init_117 : decode cX11_init 117 = .ok (.aload_n 0, 1) := by decide +kernel
theorem dX11_init_118 : decode cX11_init 118 = .ok (.getfield 19, 3) := by decide +kernel
theorem dX11_init_121 : decode cX11_init 121 = .ok (.aload_n 0, 1) := by decide +kernel
theorem dX11_init_122 : decode cX11_init 122 = .ok (.getfield 59, 3) := by decide +kernel
theorem dX11_init_125 : decode cX11_init 125 = .ok (.invokespecial 65, 3) := by decide +kernel
theorem dX11_init_128 : decode cX11_init 128 = .ok (.putfield 68, 3) := by decide +kernel
theorem dX11_init_131 : decode cX11_init 131 = .ok (.aload_n 0, 1) := by decide +kernel
theorem dX11_init_132 : decode cX11_init 132 = .ok (.iconst 4, 1) := by decide +kernel
theorem dX11_init_133 : decode cX11_init 133 = .ok (.anewarray 72, 3) := by decide +kernel
theorem dX11_init_136 : decode cX11_init 136 = .ok (.putfield 74, 3) := by decide +kernel
theorem dX11_init_139 : decode cX11_init 139 = .ok (.iconst 0, 1) := by decide +kernel
theorem dX11_init_140 : decode cX11_init 140 = .ok (.istore_n 1, 1) := by decide +kernel
theorem dX11_init_141 : decode cX11_init 141 = .ok (.iload_n 1, 1) := by decide +kernel
theorem dX11_init_142 : decode cX11_init 142 = .ok (.iconst 4, 1) := by decide +kernel
theorem dX11_init_143 : decode cX11_init 143 = .ok (.if_icmp .ge 22, 3) := by decide +kernel
theorem dX11_init_146 : decode cX11_init 146 = .ok (.aload_n 0, 1) := by decide +kernel
theorem dX11_init_147 : decode cX11_init 147 = .ok (.getfield 74, 3) := by decide +kernel
theorem dX11_init_150 : decode cX11_init 150 = .ok (.iload_n 1, 1) := by decide +kernel
theorem dX11_init_151 : decode cX11_init 151 = .ok (.new 72, 3) := by decide +kernel
theorem dX11_init_154 : decode cX11_init 154 = .ok (.dup, 1) := by decide +kernel
theorem dX11_init_155 : decode cX11_init 155 = .ok (.invokespecial 78, 3) := by decide +kernel
theorem dX11_init_158 : decode cX11_init 158 = .ok (.aastore, 1) := by decide +kernel
theorem dX11_init_159 : decode cX11_init 159 = .ok (.iinc 1 1, 3) := by decide +kernel
theorem dX11_init_162 : decode cX11_init 162 = .ok (.goto (-21), 3) := by decide +kernel
theorem dX11_init_165 : decode cX11_init 165 = .ok (.aload_n 0, 1) := by decide +kernel
theorem dX11_init_166 : decode cX11_init 166 = .ok (.bipush 8, 2) := by decide +kernel
theorem dX11_init_168 : decode cX11_init 168 = .ok (.newarray .int, 2) := by decide +kernel
theorem dX11_init_170 : decode cX11_init 170 = .ok (.putfield 79, 3) := by decide +kernel
theorem dX11_init_173 : decode cX11_init 173 = .ok (.aload_n 0, 1) := by decide +kernel
theorem dX11_init_174 : decode cX11_init 174 = .ok (.new 83, 3) := by decide +kernel
theorem dX11_init_177 : decode cX11_init 177 = .ok (.dup, 1) := by decide +kernel
theorem dX11_init_178 : decode cX11_init 178 = .ok (.invokespecial 85, 3) := by decide +kernel
theorem dX11_init_181 : decode cX11_init 181 = .ok (.putfield 86, 3) := by decide +kernel
theorem dX11_init_184 : decode cX11_init 184 = .ok (.aload_n 0, 1) := by decide +kernel
theorem dX11_init_185 : decode cX11_init 185 = .ok (.new 90, 3) := by decide +kernel
theorem dX11_init_188 : decode cX11_init 188 = .ok (.dup, 1) := by decide +kernel
theorem dX11_init_189 : decode cX11_init 189 = .ok (.invokespecial 92, 3) := by decide +kernel
theorem dX11_init_192 : decode cX11_init 192 = .ok (.putfield 93, 3) := by decide +kernel
theorem dX11_init_195 : decode cX11_init 195 = .ok (.aload_n 0, 1) := by decide +kernel
theorem dX11_init_196 : decode cX11_init 196 = .ok (.iconst 0, 1) := by decide +kernel
theorem dX11_init_197 : decode cX11_init 197 = .ok (.putfield 97, 3) := by decide +kernel
theorem dX11_init_200 : decode cX11_init 200 = .ok (.return_, 1) := by decide +kernel
theorem dX11_horse_0 : decode cX11_horse 0 = .ok (.iload_n 1, 1) := by decide +kernel
theorem dX11_horse_1 : decode cX11_horse 1 = .ok (.iconst 3, 1) := by decide +kernel
theorem dX11_horse_2 : decode cX11_horse 2 = .ok (.invokestatic 101, 3) := by decide +kernel
theorem dX11_horse_5 : decode cX11_horse 5 = .ok (.ifCond .eq 24, 3) := by decide +kernel
theorem dX11_horse_8 : decode cX11_horse 8 = .ok (.iload_n 2, 1) := by decide +kernel
theorem dX11_horse_9 : decode cX11_horse 9 = .ok (.bipush 40, 2) := by decide +kernel
theorem dX11_horse_11 : decode cX11_horse 11 = .ok (.invokestatic 101, 3) := by decide +kernel
theorem dX11_horse_14 : decode cX11_horse 14 = .ok (.ifCond .eq 15, 3) := by decide +kernel
theorem dX11_horse_17 : decode cX11_horse 17 = .ok (.aload_n 0, 1) := by decide +kernel
theorem dX11_horse_18 : decode cX11_horse 18 = .ok (.getfield 12, 3) := by decide +kernel
theorem dX11_horse_21 : decode cX11_horse 21 = .ok (.invokevirtual 105, 3) := by decide +kernel
theorem dX11_horse_24 : decode cX11_horse 24 = .ok (.bipush 12, 2) := by decide +kernel
theorem dX11_horse_26 : decode cX11_horse 26 = .ok (.if_icmp .lt 5, 3) := by decide +kernel
theorem dX11_horse_29 : decode cX11_horse 29 = .ok (.iconst (-1), 1) := by decide +kernel
theorem dX11_horse_30 : decode cX11_horse 30 = .ok (.ireturn, 1) := by decide +kernel
theorem dX11_horse_31 : decode cX11_horse 31 = .ok (.aload_n 0, 1) := by decide +kernel
theorem dX11_horse_32 : decode cX11_horse 32 = .ok (.getfield 68, 3) := by decide +kernel
theorem dX11_horse_35 : decode cX11_horse 35 = .ok (.invokevirtual 109, 3) := by decide +kernel
theorem dX11_horse_38 : decode cX11_horse 38 = .ok (.aload_n 0, 1) := by decide +kernel
theorem dX11_horse_39 : decode cX11_horse 39 = .ok (.getfield 12, 3) := by decide +kernel
theorem dX11_horse_42 : decode cX11_horse 42 = .ok (.iload_n 1, 1) := by decide +kernel
theorem dX11_horse_43 : decode cX11_horse 43 = .ok (.iload_n 2, 1) := by decide +kernel
theorem dX11_horse_44 : decode cX11_horse 44 = .ok (.aload_n 0, 1) := by decide +kernel
theorem dX11_horse_45 : decode cX11_horse 45 = .ok (.getfield 97, 3) := by decide +kernel
theorem dX11_horse_48 : decode cX11_horse 48 = .ok (.invokevirtual 112, 3) := by decide +kernel
theorem dX11_horse_51 : decode cX11_horse 51 = .ok (.istore_n 3, 1) := by decide +kernel
theorem dX11_horse_52 : decode cX11_horse 52 = .ok (.aload_n 0, 1) := by decide +kernel
theorem dX11_horse_53 : decode cX11_horse 53 = .ok (.getfield 93, 3) := by decide +kernel
theorem dX11_horse_56 : decode cX11_horse 56 = .ok (.iload_n 3, 1) := by decide +kernel
theorem dX11_horse_57 : decode cX11_horse 57 = .ok (.aload_n 0, 1) := by decide +kernel
theorem dX11_horse_58 : decode cX11_horse 58 = .ok (.getfield 97, 3) := by decide +kernel
theorem dX11_horse_61 : decode cX11_horse 61 = .ok (.invokevirtual 116, 3) := by decide +kernel
theorem dX11_horse_64 : decode cX11_horse 64 = .ok (.iload_n 3, 1) := by decide +kernel
theorem dX11_horse_65 : decode cX11_horse 65 = .ok (.ireturn, 1) := by decide +kernel
theorem dX11_lame_0 : decode cX11_lame 0 = .ok (.aload_n 0, 1) := by decide +kernel
theorem dX11_lame_1 : decode cX11_lame 1 = .ok (.getfield 12, 3) := by decide +kernel
theorem dX11_lame_4 : decode cX11_lame 4 = .ok (.iload_n 1, 1) := by decide +kernel
theorem dX11_lame_5 : decode cX11_lame 5 = .ok (.invokevirtual 120, 3) := by decide +kernel
theorem dX11_lame_8 : decode cX11_lame 8 = .ok (.ifCond .ne 5, 3) := by decide +kernel
theorem dX11_lame_11 : decode cX11_lame 11 = .ok (.iconst 0, 1) := by decide +kernel
theorem dX11_lame_12 : decode cX11_lame 12 = .ok (.ireturn, 1) := by decide +kernel
theorem dX11_lame_13 : decode cX11_lame 13 = .ok (.aload_n 0, 1) := by decide +kernel
theorem dX11_lame_14 : decode cX11_lame 14 = .ok (.getfield 68, 3) := by decide +kernel
theorem dX11_lame_17 : decode cX11_lame 17 = .ok (.invokevirtual 109, 3) := by decide +kernel
theorem dX11_lame_20 : decode cX11_lame 20 = .ok (.aload_n 0, 1) := by decide +kernel
theorem dX11_lame_21 : decode cX11_lame 21 = .ok (.getfield 12, 3) := by decide +kernel
theorem dX11_lame_24 : decode cX11_lame 24 = .ok (.iload_n 1, 1) := by decide +kernel
theorem dX11_lame_25 : decode cX11_lame 25 = .ok (.iload_n 2, 1) := by decide +kernel
theorem dX11_lame_26 : decode cX11_lame 26 = .ok (.invokevirtual 124, 3) := by decide +kernel
theorem dX11_lame_29 : decode cX11_lame 29 = .ok (.iconst 1, 1) := by decide +kernel
theorem dX11_lame_30 : decode cX11_lame 30 = .ok (.ireturn, 1) := by decide +kernel
theorem dX11_field_0 : decode cX11_field 0 = .ok (.iload_n 1, 1) := by decide +kernel
theorem dX11_field_1 : decode cX11_field 1 = .ok (.invokestatic 128, 3) := by decide +kernel
theorem dX11_field_4 : decode cX11_field 4 = .ok (.ifCond .eq 21, 3) := by decide +kernel
theorem dX11_field_7 : decode cX11_field 7 = .ok (.iload_n 2, 1) := by decide +kernel
theorem dX11_field_8 : decode cX11_field 8 = .ok (.bipush 6, 2) := by decide +kernel
theorem dX11_field_10 : decode cX11_field 10 = .ok (.invokestatic 101, 3) := by decide +kernel
theorem dX11_field_13 : decode cX11_field 13 = .ok (.ifCond .eq 12, 3) := by decide +kernel
theorem dX11_field_16 : decode cX11_field 16 = .ok (.iload_n 3, 1) := by decide +kernel
theorem dX11_field_17 : decode cX11_field 17 = .ok (.bipush 9, 2) := by decide +kernel
theorem dX11_field_19 : decode cX11_field 19 = .ok (.invokestatic 101, 3) := by decide +kernel
theorem dX11_field_22 : decode cX11_field 22 = .ok (.ifCond .ne 5, 3) := by decide +kernel
theorem dX11_field_25 : decode cX11_field 25 = .ok (.iconst 0, 1) := by decide +kernel
theorem dX11_field_26 : decode cX11_field 26 = .ok (.ireturn, 1) := by decide +kernel
theorem dX11_field_27 : decode cX11_field 27 = .ok (.aload_n 0, 1) := by decide +kernel
theorem dX11_field_28 : decode cX11_field 28 = .ok (.getfield 68, 3) := by decide +kernel
theorem dX11_field_31 : decode cX11_field 31 = .ok (.invokevirtual 109, 3) := by decide +kernel
theorem dX11_field_34 : decode cX11_field 34 = .ok (.aload_n 0, 1) := by decide +kernel
theorem dX11_field_35 : decode cX11_field 35 = .ok (.getfield 19, 3) := by decide +kernel
theorem dX11_field_38 : decode cX11_field 38 = .ok (.iload_n 1, 1) := by decide +kernel
theorem dX11_field_39 : decode cX11_field 39 = .ok (.iload_n 2, 1) := by decide +kernel
theorem dX11_field_40 : decode cX11_field 40 = .ok (.iload_n 3, 1) := by decide +kernel
theorem dX11_field_41 : decode cX11_field 41 = .ok (.invokevirtual 131, 3) := by decide +kernel
theorem dX11_field_44 : decode cX11_field 44 = .ok (.iconst 1, 1) := by decide +kernel
theorem dX11_field_45 : decode cX11_field 45 = .ok (.ireturn, 1) := by decide +kernel
theorem dX11_shut_0 : decode cX11_shut 0 = .ok (.iload_n 1, 1) := by decide +kernel
theorem dX11_shut_1 : decode cX11_shut 1 = .ok (.invokestatic 128, 3) := by decide +kernel
theorem dX11_shut_4 : decode cX11_shut 4 = .ok (.ifCond .eq 12, 3) := by decide +kernel
theorem dX11_shut_7 : decode cX11_shut 7 = .ok (.iload_n 2, 1) := by decide +kernel
theorem dX11_shut_8 : decode cX11_shut 8 = .ok (.ldc 135, 2) := by decide +kernel
theorem dX11_shut_10 : decode cX11_shut 10 = .ok (.invokestatic 101, 3) := by decide +kernel
theorem dX11_shut_13 : decode cX11_shut 13 = .ok (.ifCond .ne 5, 3) := by decide +kernel
theorem dX11_shut_16 : decode cX11_shut 16 = .ok (.iconst 0, 1) := by decide +kernel
theorem dX11_shut_17 : decode cX11_shut 17 = .ok (.ireturn, 1) := by decide +kernel
theorem dX11_shut_18 : decode cX11_shut 18 = .ok (.aload_n 0, 1) := by decide +kernel
theorem dX11_shut_19 : decode cX11_shut 19 = .ok (.getfield 68, 3) := by decide +kernel
theorem dX11_shut_22 : decode cX11_shut 22 = .ok (.invokevirtual 109, 3) := by decide +kernel
theorem dX11_shut_25 : decode cX11_shut 25 = .ok (.aload_n 0, 1) := by decide +kernel
theorem dX11_shut_26 : decode cX11_shut 26 = .ok (.getfield 19, 3) := by decide +kernel
theorem dX11_shut_29 : decode cX11_shut 29 = .ok (.iload_n 1, 1) := by decide +kernel
theorem dX11_shut_30 : decode cX11_shut 30 = .ok (.iload_n 2, 1) := by decide +kernel
theorem dX11_shut_31 : decode cX11_shut 31 = .ok (.invokevirtual 136, 3) := by decide +kernel
theorem dX11_shut_34 : decode cX11_shut 34 = .ok (.iconst 1, 1) := by decide +kernel
theorem dX11_shut_35 : decode cX11_shut 35 = .ok (.ireturn, 1) := by decide +kernel
theorem dX11_gate_0 : decode cX11_gate 0 = .ok (.iload_n 1, 1) := by decide +kernel
theorem dX11_gate_1 : decode cX11_gate 1 = .ok (.invokestatic 128, 3) := by decide +kernel
theorem dX11_gate_4 : decode cX11_gate 4 = .ok (.ifCond .eq 15, 3) := by decide +kernel
theorem dX11_gate_7 : decode cX11_gate 7 = .ok (.iload_n 2, 1) := by decide +kernel
theorem dX11_gate_8 : decode cX11_gate 8 = .ok (.invokestatic 128, 3) := by decide +kernel
theorem dX11_gate_11 : decode cX11_gate 11 = .ok (.ifCond .eq 8, 3) := by decide +kernel
theorem dX11_gate_14 : decode cX11_gate 14 = .ok (.iload_n 1, 1) := by decide +kernel
theorem dX11_gate_15 : decode cX11_gate 15 = .ok (.iload_n 2, 1) := by decide +kernel
theorem dX11_gate_16 : decode cX11_gate 16 = .ok (.if_icmp .ne 5, 3) := by decide +kernel
theorem dX11_gate_19 : decode cX11_gate 19 = .ok (.iconst 0, 1) := by decide +kernel
theorem dX11_gate_20 : decode cX11_gate 20 = .ok (.ireturn, 1) := by decide +kernel
theorem dX11_gate_21 : decode cX11_gate 21 = .ok (.aload_n 0, 1) := by decide +kernel
theorem dX11_gate_22 : decode cX11_gate 22 = .ok (.getfield 68, 3) := by decide +kernel
theorem dX11_gate_25 : decode cX11_gate 25 = .ok (.invokevirtual 109, 3) := by decide +kernel
theorem dX11_gate_28 : decode cX11_gate 28 = .ok (.aload_n 0, 1) := by decide +kernel
theorem dX11_gate_29 : decode cX11_gate 29 = .ok (.getfield 19, 3) := by decide +kernel
theorem dX11_gate_32 : decode cX11_gate 32 = .ok (.iload_n 1, 1) := by decide +kernel
theorem dX11_gate_33 : decode cX11_gate 33 = .ok (.iload_n 2, 1) := by decide +kernel
theorem dX11_gate_34 : decode cX11_gate 34 = .ok (.iload_n 3, 1) := by decide +kernel
theorem dX11_gate_35 : decode cX11_gate 35 = .ok (.invokevirtual 139, 3) := by decide +kernel
theorem dX11_gate_38 : decode cX11_gate 38 = .ok (.iconst 1, 1) := by decide +kernel
theorem dX11_gate_39 : decode cX11_gate 39 = .ok (.ireturn, 1) := by decide +kernel
theorem dX11_feed_0 : decode cX11_feed 0 = .ok (.aload_n 0, 1) := by decide +kernel
theorem dX11_feed_1 : decode cX11_feed 1 = .ok (.getfield 26, 3) := by decide +kernel
theorem dX11_feed_4 : decode cX11_feed 4 = .ok (.invokevirtual 143, 3) := by decide +kernel
theorem dX11_feed_7 : decode cX11_feed 7 = .ok (.bipush 20, 2) := by decide +kernel
theorem dX11_feed_9 : decode cX11_feed 9 = .ok (.iadd, 1) := by decide +kernel
theorem dX11_feed_10 : decode cX11_feed 10 = .ok (.sipush 1000, 3) := by decide +kernel
theorem dX11_feed_13 : decode cX11_feed 13 = .ok (.if_icmp .le 5, 3) := by decide +kernel
theorem dX11_feed_16 : decode cX11_feed 16 = .ok (.iconst (-1), 1) := by decide +kernel
theorem dX11_feed_17 : decode cX11_feed 17 = .ok (.ireturn, 1) := by decide +kernel
theorem dX11_feed_18 : decode cX11_feed 18 = .ok (.aload_n 0, 1) := by decide +kernel
theorem dX11_feed_19 : decode cX11_feed 19 = .ok (.getfield 26, 3) := by decide +kernel
theorem dX11_feed_22 : decode cX11_feed 22 = .ok (.iload_n 1, 1) := by decide +kernel
theorem dX11_feed_23 : decode cX11_feed 23 = .ok (.invokevirtual 146, 3) := by decide +kernel
theorem dX11_feed_26 : decode cX11_feed 26 = .ok (.aload_n 0, 1) := by decide +kernel
theorem dX11_feed_27 : decode cX11_feed 27 = .ok (.getfield 26, 3) := by decide +kernel
theorem dX11_feed_30 : decode cX11_feed 30 = .ok (.iload_n 2, 1) := by decide +kernel
theorem dX11_feed_31 : decode cX11_feed 31 = .ok (.invokevirtual 146, 3) := by decide +kernel
theorem dX11_feed_34 : decode cX11_feed 34 = .ok (.aload_n 0, 1) := by decide +kernel
theorem dX11_feed_35 : decode cX11_feed 35 = .ok (.getfield 26, 3) := by decide +kernel
theorem dX11_feed_38 : decode cX11_feed 38 = .ok (.iload_n 3, 1) := by decide +kernel
theorem dX11_feed_39 : decode cX11_feed 39 = .ok (.invokevirtual 146, 3) := by decide +kernel
theorem dX11_feed_42 : decode cX11_feed 42 = .ok (.aload_n 0, 1) := by decide +kernel
theorem dX11_feed_43 : decode cX11_feed 43 = .ok (.getfield 26, 3) := by decide +kernel
theorem dX11_feed_46 : decode cX11_feed 46 = .ok (.iload 4, 2) := by decide +kernel
theorem dX11_feed_48 : decode cX11_feed 48 = .ok (.invokevirtual 146, 3) := by decide +kernel
theorem dX11_feed_51 : decode cX11_feed 51 = .ok (.aload_n 0, 1) := by decide +kernel
theorem dX11_feed_52 : decode cX11_feed 52 = .ok (.getfield 26, 3) := by decide +kernel
theorem dX11_feed_55 : decode cX11_feed 55 = .ok (.iload 5, 2) := by decide +kernel
theorem dX11_feed_57 : decode cX11_feed 57 = .ok (.invokevirtual 146, 3) := by decide +kernel
theorem dX11_feed_60 : decode cX11_feed 60 = .ok (.aload_n 0, 1) := by decide +kernel
theorem dX11_feed_61 : decode cX11_feed 61 = .ok (.getfield 26, 3) := by decide +kernel
theorem dX11_feed_64 : decode cX11_feed 64 = .ok (.invokevirtual 143, 3) := by decide +kernel
theorem dX11_feed_67 : decode cX11_feed 67 = .ok (.ireturn, 1) := by decide +kernel
theorem dX11_end_0 : decode cX11_end 0 = .ok (.iload_n 1, 1) := by decide +kernel
theorem dX11_end_1 : decode cX11_end 1 = .ok (.aload_n 0, 1) := by decide +kernel
theorem dX11_end_2 : decode cX11_end 2 = .ok (.getfield 26, 3) := by decide +kernel
theorem dX11_end_5 : decode cX11_end 5 = .ok (.invokevirtual 143, 3) := by decide +kernel
theorem dX11_end_8 : decode cX11_end 8 = .ok (.invokestatic 101, 3) := by decide +kernel
theorem dX11_end_11 : decode cX11_end 11 = .ok (.ifCond .ne 5, 3) := by decide +kernel
theorem dX11_end_14 : decode cX11_end 14 = .ok (.iconst (-1), 1) := by decide +kernel
theorem dX11_end_15 : decode cX11_end 15 = .ok (.ireturn, 1) := by decide +kernel
theorem dX11_end_16 : decode cX11_end 16 = .ok (.aload_n 0, 1) := by decide +kernel
theorem dX11_end_17 : decode cX11_end 17 = .ok (.getfield 26, 3) := by decide +kernel
theorem dX11_end_20 : decode cX11_end 20 = .ok (.iload_n 1, 1) := by decide +kernel
theorem dX11_end_21 : decode cX11_end 21 = .ok (.invokevirtual 150, 3) := by decide +kernel
theorem dX11_end_24 : decode cX11_end 24 = .ok (.iload_n 1, 1) := by decide +kernel
theorem dX11_end_25 : decode cX11_end 25 = .ok (.ireturn, 1) := by decide +kernel
theorem dX11_rules_0 : decode cX11_rules 0 = .ok (.aload_n 0, 1) := by decide +kernel
theorem dX11_rules_1 : decode cX11_rules 1 = .ok (.getfield 50, 3) := by decide +kernel
theorem dX11_rules_4 : decode cX11_rules 4 = .ok (.invokevirtual 153, 3) := by decide +kernel
theorem dX11_rules_7 : decode cX11_rules 7 = .ok (.istore_n 1, 1) := by decide +kernel
theorem dX11_rules_8 : decode cX11_rules 8 = .ok (.aload_n 0, 1) := by decide +kernel
theorem dX11_rules_9 : decode cX11_rules 9 = .ok (.getfield 26, 3) := by decide +kernel
theorem dX11_rules_12 : decode cX11_rules 12 = .ok (.iconst 0, 1) := by decide +kernel
theorem dX11_rules_13 : decode cX11_rules 13 = .ok (.invokevirtual 150, 3) := by decide +kernel
theorem dX11_rules_16 : decode cX11_rules 16 = .ok (.iload_n 1, 1) := by decide +kernel
theorem dX11_rules_17 : decode cX11_rules 17 = .ok (.ifCond .ne 5, 3) := by decide +kernel
theorem dX11_rules_20 : decode cX11_rules 20 = .ok (.iconst (-1), 1) := by decide +kernel
theorem dX11_rules_21 : decode cX11_rules 21 = .ok (.ireturn, 1) := by decide +kernel
theorem dX11_rules_22 : decode cX11_rules 22 = .ok (.aload_n 0, 1) := by decide +kernel
theorem dX11_rules_23 : decode cX11_rules 23 = .ok (.getfield 68, 3) := by decide +kernel
theorem dX11_rules_26 : decode cX11_rules 26 = .ok (.invokevirtual 109, 3) := by decide +kernel
theorem dX11_rules_29 : decode cX11_rules 29 = .ok (.aload_n 0, 1) := by decide +kernel
theorem dX11_rules_30 : decode cX11_rules 30 = .ok (.getfield 37, 3) := by decide +kernel
theorem dX11_rules_33 : decode cX11_rules 33 = .ok (.aload_n 0, 1) := by decide +kernel
theorem dX11_rules_34 : decode cX11_rules 34 = .ok (.getfield 33, 3) := by decide +kernel
theorem dX11_rules_37 : decode cX11_rules 37 = .ok (.invokevirtual 157, 3) := by decide +kernel
theorem dX11_rules_40 : decode cX11_rules 40 = .ok (.aload_n 0, 1) := by decide +kernel
theorem dX11_rules_41 : decode cX11_rules 41 = .ok (.getfield 37, 3) := by decide +kernel
theorem dX11_rules_44 : decode cX11_rules 44 = .ok (.invokevirtual 161, 3) := by decide +kernel
theorem dX11_rules_47 : decode cX11_rules 47 = .ok (.ireturn, 1) := by decide +kernel
theorem dX11_fault_0 : decode cX11_fault 0 = .ok (.iload_n 1, 1) := by decide +kernel
theorem dX11_fault_1 : decode cX11_fault 1 = .ok (.lookupswitch 43 #[(0, 27), (1, 35)], 27) := by decide +kernel
theorem dX11_fault_28 : decode cX11_fault 28 = .ok (.aload_n 0, 1) := by decide +kernel
theorem dX11_fault_29 : decode cX11_fault 29 = .ok (.getfield 50, 3) := by decide +kernel
theorem dX11_fault_32 : decode cX11_fault 32 = .ok (.invokevirtual 162, 3) := by decide +kernel
theorem dX11_fault_35 : decode cX11_fault 35 = .ok (.ireturn, 1) := by decide +kernel
theorem dX11_fault_36 : decode cX11_fault 36 = .ok (.aload_n 0, 1) := by decide +kernel
theorem dX11_fault_37 : decode cX11_fault 37 = .ok (.getfield 50, 3) := by decide +kernel
theorem dX11_fault_40 : decode cX11_fault 40 = .ok (.invokevirtual 165, 3) := by decide +kernel
theorem dX11_fault_43 : decode cX11_fault 43 = .ok (.ireturn, 1) := by decide +kernel
theorem dX11_fault_44 : decode cX11_fault 44 = .ok (.iconst (-1), 1) := by decide +kernel
theorem dX11_fault_45 : decode cX11_fault 45 = .ok (.ireturn, 1) := by decide +kernel
theorem dX11_may_0 : decode cX11_may 0 = .ok (.aload_n 0, 1) := by decide +kernel
theorem dX11_may_1 : decode cX11_may 1 = .ok (.getfield 12, 3) := by decide +kernel
theorem dX11_may_4 : decode cX11_may 4 = .ok (.iload_n 1, 1) := by decide +kernel
theorem dX11_may_5 : decode cX11_may 5 = .ok (.invokevirtual 120, 3) := by decide +kernel
theorem dX11_may_8 : decode cX11_may 8 = .ok (.ifCond .eq 38, 3) := by decide +kernel
theorem dX11_may_11 : decode cX11_may 11 = .ok (.iload_n 2, 1) := by decide +kernel
theorem dX11_may_12 : decode cX11_may 12 = .ok (.invokestatic 128, 3) := by decide +kernel
theorem dX11_may_15 : decode cX11_may 15 = .ok (.ifCond .eq 31, 3) := by decide +kernel
theorem dX11_may_18 : decode cX11_may 18 = .ok (.iload_n 3, 1) := by decide +kernel
theorem dX11_may_19 : decode cX11_may 19 = .ok (.invokestatic 168, 3) := by decide +kernel
theorem dX11_may_22 : decode cX11_may 22 = .ok (.ifCond .eq 24, 3) := by decide +kernel
theorem dX11_may_25 : decode cX11_may 25 = .ok (.aload_n 0, 1) := by decide +kernel
theorem dX11_may_26 : decode cX11_may 26 = .ok (.getfield 59, 3) := by decide +kernel
theorem dX11_may_29 : decode cX11_may 29 = .ok (.iload_n 1, 1) := by decide +kernel
theorem dX11_may_30 : decode cX11_may 30 = .ok (.iload_n 2, 1) := by decide +kernel
theorem dX11_may_31 : decode cX11_may 31 = .ok (.iload_n 3, 1) := by decide +kernel
theorem dX11_may_32 : decode cX11_may 32 = .ok (.aload_n 0, 1) := by decide +kernel
theorem dX11_may_33 : decode cX11_may 33 = .ok (.getfield 97, 3) := by decide +kernel
theorem dX11_may_36 : decode cX11_may 36 = .ok (.invokevirtual 171, 3) := by decide +kernel
theorem dX11_may_39 : decode cX11_may 39 = .ok (.ifCond .eq 7, 3) := by decide +kernel
theorem dX11_may_42 : decode cX11_may 42 = .ok (.iconst 1, 1) := by decide +kernel
theorem dX11_may_43 : decode cX11_may 43 = .ok (.goto 4, 3) := by decide +kernel
theorem dX11_may_46 : decode cX11_may 46 = .ok (.iconst 0, 1) := by decide +kernel
theorem dX11_may_47 : decode cX11_may 47 = .ok (.ireturn, 1) := by decide +kernel
theorem dX11_meet_0 : decode cX11_meet 0 = .ok (.aload_n 0, 1) := by decide +kernel
theorem dX11_meet_1 : decode cX11_meet 1 = .ok (.getfield 12, 3) := by decide +kernel
theorem dX11_meet_4 : decode cX11_meet 4 = .ok (.iload_n 1, 1) := by decide +kernel
theorem dX11_meet_5 : decode cX11_meet 5 = .ok (.invokevirtual 120, 3) := by decide +kernel
theorem dX11_meet_8 : decode cX11_meet 8 = .ok (.ifCond .eq 19, 3) := by decide +kernel
theorem dX11_meet_11 : decode cX11_meet 11 = .ok (.aload_n 0, 1) := by decide +kernel
theorem dX11_meet_12 : decode cX11_meet 12 = .ok (.getfield 12, 3) := by decide +kernel
theorem dX11_meet_15 : decode cX11_meet 15 = .ok (.iload_n 3, 1) := by decide +kernel
theorem dX11_meet_16 : decode cX11_meet 16 = .ok (.invokevirtual 120, 3) := by decide +kernel
theorem dX11_meet_19 : decode cX11_meet 19 = .ok (.ifCond .eq 8, 3) := by decide +kernel
theorem dX11_meet_22 : decode cX11_meet 22 = .ok (.iload_n 1, 1) := by decide +kernel
theorem dX11_meet_23 : decode cX11_meet 23 = .ok (.iload_n 3, 1) := by decide +kernel
theorem dX11_meet_24 : decode cX11_meet 24 = .ok (.if_icmp .ne 5, 3) := by decide +kernel
theorem dX11_meet_27 : decode cX11_meet 27 = .ok (.iconst 0, 1) := by decide +kernel
theorem dX11_meet_28 : decode cX11_meet 28 = .ok (.ireturn, 1) := by decide +kernel
theorem dX11_meet_29 : decode cX11_meet 29 = .ok (.iload_n 2, 1) := by decide +kernel
theorem dX11_meet_30 : decode cX11_meet 30 = .ok (.invokestatic 128, 3) := by decide +kernel
theorem dX11_meet_33 : decode cX11_meet 33 = .ok (.ifCond .eq 19, 3) := by decide +kernel
theorem dX11_meet_36 : decode cX11_meet 36 = .ok (.iload 4, 2) := by decide +kernel
theorem dX11_meet_38 : decode cX11_meet 38 = .ok (.invokestatic 128, 3) := by decide +kernel
theorem dX11_meet_41 : decode cX11_meet 41 = .ok (.ifCond .eq 11, 3) := by decide +kernel
theorem dX11_meet_44 : decode cX11_meet 44 = .ok (.iload 5, 2) := by decide +kernel
theorem dX11_meet_46 : decode cX11_meet 46 = .ok (.invokestatic 168, 3) := by decide +kernel
theorem dX11_meet_49 : decode cX11_meet 49 = .ok (.ifCond .ne 5, 3) := by decide +kernel
theorem dX11_meet_52 : decode cX11_meet 52 = .ok (.iconst 0, 1) := by decide +kernel
theorem dX11_meet_53 : decode cX11_meet 53 = .ok (.ireturn, 1) := by decide +kernel
theorem dX11_meet_54 : decode cX11_meet 54 = .ok (.aload_n 0, 1) := by decide +kernel
theorem dX11_meet_55 : decode cX11_meet 55 = .ok (.getfield 59, 3) := by decide +kernel
theorem dX11_meet_58 : decode cX11_meet 58 = .ok (.iload_n 1, 1) := by decide +kernel
theorem dX11_meet_59 : decode cX11_meet 59 = .ok (.iload_n 2, 1) := by decide +kernel
theorem dX11_meet_60 : decode cX11_meet 60 = .ok (.iload_n 3, 1) := by decide +kernel
theorem dX11_meet_61 : decode cX11_meet 61 = .ok (.iload 4, 2) := by decide +kernel
theorem dX11_meet_63 : decode cX11_meet 63 = .ok (.iload 5, 2) := by decide +kernel
theorem dX11_meet_65 : decode cX11_meet 65 = .ok (.aload_n 0, 1) := by decide +kernel
theorem dX11_meet_66 : decode cX11_meet 66 = .ok (.getfield 97, 3) := by decide +kernel
theorem dX11_meet_69 : decode cX11_meet 69 = .ok (.invokevirtual 175, 3) := by decide +kernel
theorem dX11_meet_72 : decode cX11_meet 72 = .ok (.ireturn, 1) := by decide +kernel
theorem dX11_plan_0 : decode cX11_plan 0 = .ok (.aload_n 0, 1) := by decide +kernel
theorem dX11_plan_1 : decode cX11_plan 1 = .ok (.getfield 68, 3) := by decide +kernel
theorem dX11_plan_4 : decode cX11_plan 4 = .ok (.aload_n 0, 1) := by decide +kernel
theorem dX11_plan_5 : decode cX11_plan 5 = .ok (.getfield 97, 3) := by decide +kernel
theorem dX11_plan_8 : decode cX11_plan 8 = .ok (.invokevirtual 179, 3) := by decide +kernel
theorem dX11_plan_11 : decode cX11_plan 11 = .ok (.ireturn, 1) := by decide +kernel
theorem dX11_tries_0 : decode cX11_tries 0 = .ok (.aload_n 0, 1) := by decide +kernel
theorem dX11_tries_1 : decode cX11_tries 1 = .ok (.getfield 68, 3) := by decide +kernel
theorem dX11_tries_4 : decode cX11_tries 4 = .ok (.invokevirtual 183, 3) := by decide +kernel
theorem dX11_tries_7 : decode cX11_tries 7 = .ok (.ireturn, 1) := by decide +kernel
theorem dX11_out_0 : decode cX11_out 0 = .ok (.aload_n 0, 1) := by decide +kernel
theorem dX11_out_1 : decode cX11_out 1 = .ok (.getfield 12, 3) := by decide +kernel
theorem dX11_out_4 : decode cX11_out 4 = .ok (.iload_n 1, 1) := by decide +kernel
theorem dX11_out_5 : decode cX11_out 5 = .ok (.invokevirtual 120, 3) := by decide +kernel
theorem dX11_out_8 : decode cX11_out 8 = .ok (.ifCond .eq 14, 3) := by decide +kernel
theorem dX11_out_11 : decode cX11_out 11 = .ok (.aload_n 0, 1) := by decide +kernel
theorem dX11_out_12 : decode cX11_out 12 = .ok (.getfield 68, 3) := by decide +kernel
theorem dX11_out_15 : decode cX11_out 15 = .ok (.iload_n 1, 1) := by decide +kernel
theorem dX11_out_16 : decode cX11_out 16 = .ok (.invokevirtual 186, 3) := by decide +kernel
theorem dX11_out_19 : decode cX11_out 19 = .ok (.goto 4, 3) := by decide +kernel
theorem dX11_out_22 : decode cX11_out 22 = .ok (.iconst (-1), 1) := by decide +kernel
theorem dX11_out_23 : decode cX11_out 23 = .ok (.istore_n 2, 1) := by decide +kernel
theorem dX11_out_24 : decode cX11_out 24 = .ok (.iload_n 2, 1) := by decide +kernel
theorem dX11_out_25 : decode cX11_out 25 = .ok (.iconst (-1), 1) := by decide +kernel
theorem dX11_out_26 : decode cX11_out 26 = .ok (.if_icmp .ne 7, 3) := by decide +kernel
theorem dX11_out_29 : decode cX11_out 29 = .ok (.iconst (-1), 1) := by decide +kernel
theorem dX11_out_30 : decode cX11_out 30 = .ok (.goto 15, 3) := by decide +kernel
theorem dX11_out_33 : decode cX11_out 33 = .ok (.bipush 10, 2) := by decide +kernel
theorem dX11_out_35 : decode cX11_out 35 = .ok (.iload_n 2, 1) := by decide +kernel
theorem dX11_out_36 : decode cX11_out 36 = .ok (.invokestatic 189, 3) := by decide +kernel
theorem dX11_out_39 : decode cX11_out 39 = .ok (.imul, 1) := by decide +kernel
theorem dX11_out_40 : decode cX11_out 40 = .ok (.iload_n 2, 1) := by decide +kernel
theorem dX11_out_41 : decode cX11_out 41 = .ok (.invokestatic 192, 3) := by decide +kernel
theorem dX11_out_44 : decode cX11_out 44 = .ok (.iadd, 1) := by decide +kernel
theorem dX11_out_45 : decode cX11_out 45 = .ok (.ireturn, 1) := by decide +kernel
theorem dX11_stuck_0 : decode cX11_stuck 0 = .ok (.iconst 0, 1) := by decide +kernel
theorem dX11_stuck_1 : decode cX11_stuck 1 = .ok (.istore_n 1, 1) := by decide +kernel
theorem dX11_stuck_2 : decode cX11_stuck 2 = .ok (.iload_n 1, 1) := by decide +kernel
theorem dX11_stuck_3 : decode cX11_stuck 3 = .ok (.aload_n 0, 1) := by decide +kernel
theorem dX11_stuck_4 : decode cX11_stuck 4 = .ok (.getfield 12, 3) := by decide +kernel
theorem dX11_stuck_7 : decode cX11_stuck 7 = .ok (.invokevirtual 105, 3) := by decide +kernel
theorem dX11_stuck_10 : decode cX11_stuck 10 = .ok (.if_icmp .ge 30, 3) := by decide +kernel
theorem dX11_stuck_13 : decode cX11_stuck 13 = .ok (.aload_n 0, 1) := by decide +kernel
theorem dX11_stuck_14 : decode cX11_stuck 14 = .ok (.getfield 12, 3) := by decide +kernel
theorem dX11_stuck_17 : decode cX11_stuck 17 = .ok (.iload_n 1, 1) := by decide +kernel
theorem dX11_stuck_18 : decode cX11_stuck 18 = .ok (.invokevirtual 195, 3) := by decide +kernel
theorem dX11_stuck_21 : decode cX11_stuck 21 = .ok (.ifCond .ne 13, 3) := by decide +kernel
theorem dX11_stuck_24 : decode cX11_stuck 24 = .ok (.aload_n 0, 1) := by decide +kernel
theorem dX11_stuck_25 : decode cX11_stuck 25 = .ok (.iload_n 1, 1) := by decide +kernel
theorem dX11_stuck_26 : decode cX11_stuck 26 = .ok (.invokevirtual 198, 3) := by decide +kernel
theorem dX11_stuck_29 : decode cX11_stuck 29 = .ok (.ifCond .ne 5, 3) := by decide +kernel
theorem dX11_stuck_32 : decode cX11_stuck 32 = .ok (.iload_n 1, 1) := by decide +kernel
theorem dX11_stuck_33 : decode cX11_stuck 33 = .ok (.ireturn, 1) := by decide +kernel
theorem dX11_stuck_34 : decode cX11_stuck 34 = .ok (.iinc 1 1, 3) := by decide +kernel
theorem dX11_stuck_37 : decode cX11_stuck 37 = .ok (.goto (-35), 3) := by decide +kernel
theorem dX11_stuck_40 : decode cX11_stuck 40 = .ok (.iconst (-1), 1) := by decide +kernel
theorem dX11_stuck_41 : decode cX11_stuck 41 = .ok (.ireturn, 1) := by decide +kernel
theorem dX11_lot_0 : decode cX11_lot 0 = .ok (.iload_n 1, 1) := by decide +kernel
theorem dX11_lot_1 : decode cX11_lot 1 = .ok (.invokestatic 201, 3) := by decide +kernel
theorem dX11_lot_4 : decode cX11_lot 4 = .ok (.ifCond .eq 29, 3) := by decide +kernel
theorem dX11_lot_7 : decode cX11_lot 7 = .ok (.iload_n 2, 1) := by decide +kernel
theorem dX11_lot_8 : decode cX11_lot 8 = .ok (.iconst 1, 1) := by decide +kernel
theorem dX11_lot_9 : decode cX11_lot 9 = .ok (.if_icmp .lt 24, 3) := by decide +kernel
theorem dX11_lot_12 : decode cX11_lot 12 = .ok (.iload_n 2, 1) := by decide +kernel
theorem dX11_lot_13 : decode cX11_lot 13 = .ok (.sipush 10000, 3) := by decide +kernel
theorem dX11_lot_16 : decode cX11_lot 16 = .ok (.if_icmp .gt 17, 3) := by decide +kernel
theorem dX11_lot_19 : decode cX11_lot 19 = .ok (.iload_n 3, 1) := by decide +kernel
theorem dX11_lot_20 : decode cX11_lot 20 = .ok (.aload_n 0, 1) := by decide +kernel
theorem dX11_lot_21 : decode cX11_lot 21 = .ok (.getfield 97, 3) := by decide +kernel
theorem dX11_lot_24 : decode cX11_lot 24 = .ok (.if_icmp .lt 9, 3) := by decide +kernel
theorem dX11_lot_27 : decode cX11_lot 27 = .ok (.iload_n 3, 1) := by decide +kernel
theorem dX11_lot_28 : decode cX11_lot 28 = .ok (.ldc 135, 2) := by decide +kernel
theorem dX11_lot_30 : decode cX11_lot 30 = .ok (.if_icmp .le 5, 3) := by decide +kernel
theorem dX11_lot_33 : decode cX11_lot 33 = .ok (.iconst (-1), 1) := by decide +kernel
theorem dX11_lot_34 : decode cX11_lot 34 = .ok (.ireturn, 1) := by decide +kernel
theorem dX11_lot_35 : decode cX11_lot 35 = .ok (.aload_n 0, 1) := by decide +kernel
theorem dX11_lot_36 : decode cX11_lot 36 = .ok (.getfield 74, 3) := by decide +kernel
theorem dX11_lot_39 : decode cX11_lot 39 = .ok (.iload_n 1, 1) := by decide +kernel
theorem dX11_lot_40 : decode cX11_lot 40 = .ok (.aaload, 1) := by decide +kernel
theorem dX11_lot_41 : decode cX11_lot 41 = .ok (.iload_n 2, 1) := by decide +kernel
theorem dX11_lot_42 : decode cX11_lot 42 = .ok (.iload_n 3, 1) := by decide +kernel
theorem dX11_lot_43 : decode cX11_lot 43 = .ok (.invokevirtual 204, 3) := by decide +kernel
theorem dX11_lot_46 : decode cX11_lot 46 = .ok (.ireturn, 1) := by decide +kernel
theorem dX11_takes_0 : decode cX11_takes 0 = .ok (.aload_n 0, 1) := by decide +kernel
theorem dX11_takes_1 : decode cX11_takes 1 = .ok (.getfield 12, 3) := by decide +kernel
theorem dX11_takes_4 : decode cX11_takes 4 = .ok (.iload_n 1, 1) := by decide +kernel
theorem dX11_takes_5 : decode cX11_takes 5 = .ok (.invokevirtual 120, 3) := by decide +kernel
theorem dX11_takes_8 : decode cX11_takes 8 = .ok (.ifCond .eq 19, 3) := by decide +kernel
theorem dX11_takes_11 : decode cX11_takes 11 = .ok (.iload_n 2, 1) := by decide +kernel
theorem dX11_takes_12 : decode cX11_takes 12 = .ok (.invokestatic 201, 3) := by decide +kernel
theorem dX11_takes_15 : decode cX11_takes 15 = .ok (.ifCond .eq 12, 3) := by decide +kernel
theorem dX11_takes_18 : decode cX11_takes 18 = .ok (.iload_n 3, 1) := by decide +kernel
theorem dX11_takes_19 : decode cX11_takes 19 = .ok (.bipush 50, 2) := by decide +kernel
theorem dX11_takes_21 : decode cX11_takes 21 = .ok (.invokestatic 101, 3) := by decide +kernel
theorem dX11_takes_24 : decode cX11_takes 24 = .ok (.ifCond .ne 5, 3) := by decide +kernel
theorem dX11_takes_27 : decode cX11_takes 27 = .ok (.iconst 0, 1) := by decide +kernel
theorem dX11_takes_28 : decode cX11_takes 28 = .ok (.ireturn, 1) := by decide +kernel
theorem dX11_takes_29 : decode cX11_takes 29 = .ok (.aload_n 0, 1) := by decide +kernel
theorem dX11_takes_30 : decode cX11_takes 30 = .ok (.getfield 12, 3) := by decide +kernel
theorem dX11_takes_33 : decode cX11_takes 33 = .ok (.iload_n 1, 1) := by decide +kernel
theorem dX11_takes_34 : decode cX11_takes 34 = .ok (.iload_n 2, 1) := by decide +kernel
theorem dX11_takes_35 : decode cX11_takes 35 = .ok (.iload_n 3, 1) := by decide +kernel
theorem dX11_takes_36 : decode cX11_takes 36 = .ok (.invokevirtual 207, 3) := by decide +kernel
theorem dX11_takes_39 : decode cX11_takes 39 = .ok (.iconst 1, 1) := by decide +kernel
theorem dX11_takes_40 : decode cX11_takes 40 = .ok (.ireturn, 1) := by decide +kernel
theorem dX11_price_0 : decode cX11_price 0 = .ok (.iload_n 1, 1) := by decide +kernel
theorem dX11_price_1 : decode cX11_price 1 = .ok (.bipush 7, 2) := by decide +kernel
theorem dX11_price_3 : decode cX11_price 3 = .ok (.invokestatic 101, 3) := by decide +kernel
theorem dX11_price_6 : decode cX11_price 6 = .ok (.ifCond .eq 13, 3) := by decide +kernel
theorem dX11_price_9 : decode cX11_price 9 = .ok (.iload_n 2, 1) := by decide +kernel
theorem dX11_price_10 : decode cX11_price 10 = .ok (.sipush 1000, 3) := by decide +kernel
theorem dX11_price_13 : decode cX11_price 13 = .ok (.invokestatic 101, 3) := by decide +kernel
theorem dX11_price_16 : decode cX11_price 16 = .ok (.ifCond .ne 5, 3) := by decide +kernel
theorem dX11_price_19 : decode cX11_price 19 = .ok (.iconst 0, 1) := by decide +kernel
theorem dX11_price_20 : decode cX11_price 20 = .ok (.ireturn, 1) := by decide +kernel
theorem dX11_price_21 : decode cX11_price 21 = .ok (.aload_n 0, 1) := by decide +kernel
theorem dX11_price_22 : decode cX11_price 22 = .ok (.getfield 79, 3) := by decide +kernel
theorem dX11_price_25 : decode cX11_price 25 = .ok (.iload_n 1, 1) := by decide +kernel
theorem dX11_price_26 : decode cX11_price 26 = .ok (.iload_n 2, 1) := by decide +kernel
theorem dX11_price_27 : decode cX11_price 27 = .ok (.iastore, 1) := by decide +kernel
theorem dX11_price_28 : decode cX11_price 28 = .ok (.iconst 1, 1) := by decide +kernel
theorem dX11_price_29 : decode cX11_price 29 = .ok (.ireturn, 1) := by decide +kernel
theorem dX11_falls_0 : decode cX11_falls 0 = .ok (.iload_n 1, 1) := by decide +kernel
theorem dX11_falls_1 : decode cX11_falls 1 = .ok (.invokestatic 210, 3) := by decide +kernel
theorem dX11_falls_4 : decode cX11_falls 4 = .ok (.ifCond .eq 13, 3) := by decide +kernel
theorem dX11_falls_7 : decode cX11_falls 7 = .ok (.iload_n 2, 1) := by decide +kernel
theorem dX11_falls_8 : decode cX11_falls 8 = .ok (.sipush 400, 3) := by decide +kernel
theorem dX11_falls_11 : decode cX11_falls 11 = .ok (.invokestatic 101, 3) := by decide +kernel
theorem dX11_falls_14 : decode cX11_falls 14 = .ok (.ifCond .ne 5, 3) := by decide +kernel
theorem dX11_falls_17 : decode cX11_falls 17 = .ok (.iconst 0, 1) := by decide +kernel
theorem dX11_falls_18 : decode cX11_falls 18 = .ok (.ireturn, 1) := by decide +kernel
theorem dX11_falls_19 : decode cX11_falls 19 = .ok (.aload_n 0, 1) := by decide +kernel
theorem dX11_falls_20 : decode cX11_falls 20 = .ok (.getfield 93, 3) := by decide +kernel
theorem dX11_falls_23 : decode cX11_falls 23 = .ok (.iload_n 1, 1) := by decide +kernel
theorem dX11_falls_24 : decode cX11_falls 24 = .ok (.iload_n 2, 1) := by decide +kernel
theorem dX11_falls_25 : decode cX11_falls 25 = .ok (.invokevirtual 213, 3) := by decide +kernel
theorem dX11_falls_28 : decode cX11_falls 28 = .ok (.iconst 1, 1) := by decide +kernel
theorem dX11_falls_29 : decode cX11_falls 29 = .ok (.ireturn, 1) := by decide +kernel
theorem dX11_night_0 : decode cX11_night 0 = .ok (.aload_n 0, 1) := by decide +kernel
theorem dX11_night_1 : decode cX11_night 1 = .ok (.getfield 86, 3) := by decide +kernel
theorem dX11_night_4 : decode cX11_night 4 = .ok (.aload_n 0, 1) := by decide +kernel
theorem dX11_night_5 : decode cX11_night 5 = .ok (.getfield 12, 3) := by decide +kernel
theorem dX11_night_8 : decode cX11_night 8 = .ok (.invokevirtual 105, 3) := by decide +kernel
theorem dX11_night_11 : decode cX11_night 11 = .ok (.invokevirtual 216, 3) := by decide +kernel
theorem dX11_night_14 : decode cX11_night 14 = .ok (.ifCond .ne 5, 3) := by decide +kernel
theorem dX11_night_17 : decode cX11_night 17 = .ok (.iconst (-1), 1) := by decide +kernel
theorem dX11_night_18 : decode cX11_night 18 = .ok (.ireturn, 1) := by decide +kernel
theorem dX11_night_19 : decode cX11_night 19 = .ok (.iconst 0, 1) := by decide +kernel
theorem dX11_night_20 : decode cX11_night 20 = .ok (.istore_n 1, 1) := by decide +kernel
theorem dX11_night_21 : decode cX11_night 21 = .ok (.iload_n 1, 1) := by decide +kernel
theorem dX11_night_22 : decode cX11_night 22 = .ok (.iconst 4, 1) := by decide +kernel
theorem dX11_night_23 : decode cX11_night 23 = .ok (.if_icmp .ge 22, 3) := by decide +kernel
theorem dX11_night_26 : decode cX11_night 26 = .ok (.aload_n 0, 1) := by decide +kernel
theorem dX11_night_27 : decode cX11_night 27 = .ok (.getfield 74, 3) := by decide +kernel
theorem dX11_night_30 : decode cX11_night 30 = .ok (.iload_n 1, 1) := by decide +kernel
theorem dX11_night_31 : decode cX11_night 31 = .ok (.aaload, 1) := by decide +kernel
theorem dX11_night_32 : decode cX11_night 32 = .ok (.aload_n 0, 1) := by decide +kernel
theorem dX11_night_33 : decode cX11_night 33 = .ok (.getfield 97, 3) := by decide +kernel
theorem dX11_night_36 : decode cX11_night 36 = .ok (.invokevirtual 219, 3) := by decide +kernel
theorem dX11_night_39 : decode cX11_night 39 = .ok (.iinc 1 1, 3) := by decide +kernel
theorem dX11_night_42 : decode cX11_night 42 = .ok (.goto (-21), 3) := by decide +kernel
theorem dX11_night_45 : decode cX11_night 45 = .ok (.iconst 0, 1) := by decide +kernel
theorem dX11_night_46 : decode cX11_night 46 = .ok (.istore_n 1, 1) := by decide +kernel
theorem dX11_night_47 : decode cX11_night 47 = .ok (.iconst 0, 1) := by decide +kernel
theorem dX11_night_48 : decode cX11_night 48 = .ok (.istore_n 2, 1) := by decide +kernel
theorem dX11_night_49 : decode cX11_night 49 = .ok (.iload_n 2, 1) := by decide +kernel
theorem dX11_night_50 : decode cX11_night 50 = .ok (.aload_n 0, 1) := by decide +kernel
theorem dX11_night_51 : decode cX11_night 51 = .ok (.getfield 12, 3) := by decide +kernel
theorem dX11_night_54 : decode cX11_night 54 = .ok (.invokevirtual 105, 3) := by decide +kernel
theorem dX11_night_57 : decode cX11_night 57 = .ok (.if_icmp .ge 17, 3) := by decide +kernel
theorem dX11_night_60 : decode cX11_night 60 = .ok (.iload_n 1, 1) := by decide +kernel
theorem dX11_night_61 : decode cX11_night 61 = .ok (.aload_n 0, 1) := by decide +kernel
theorem dX11_night_62 : decode cX11_night 62 = .ok (.iload_n 2, 1) := by decide +kernel
theorem dX11_night_63 : decode cX11_night 63 = .ok (.invokevirtual 222, 3) := by decide +kernel
theorem dX11_night_66 : decode cX11_night 66 = .ok (.iadd, 1) := by decide +kernel
theorem dX11_night_67 : decode cX11_night 67 = .ok (.istore_n 1, 1) := by decide +kernel
theorem dX11_night_68 : decode cX11_night 68 = .ok (.iinc 2 1, 3) := by decide +kernel
theorem dX11_night_71 : decode cX11_night 71 = .ok (.goto (-22), 3) := by decide +kernel
theorem dX11_night_74 : decode cX11_night 74 = .ok (.aload_n 0, 1) := by decide +kernel
theorem dX11_night_75 : decode cX11_night 75 = .ok (.dup, 1) := by decide +kernel
theorem dX11_night_76 : decode cX11_night 76 = .ok (.getfield 97, 3) := by decide +kernel
theorem dX11_night_79 : decode cX11_night 79 = .ok (.iconst 1, 1) := by decide +kernel
theorem dX11_night_80 : decode cX11_night 80 = .ok (.iadd, 1) := by decide +kernel
theorem dX11_night_81 : decode cX11_night 81 = .ok (.putfield 97, 3) := by decide +kernel
theorem dX11_night_84 : decode cX11_night 84 = .ok (.aload_n 0, 1) := by decide +kernel
theorem dX11_night_85 : decode cX11_night 85 = .ok (.getfield 68, 3) := by decide +kernel
theorem dX11_night_88 : decode cX11_night 88 = .ok (.invokevirtual 109, 3) := by decide +kernel
theorem dX11_night_91 : decode cX11_night 91 = .ok (.iload_n 1, 1) := by decide +kernel
theorem dX11_night_92 : decode cX11_night 92 = .ok (.ireturn, 1) := by decide +kernel
theorem dX11_bin_0 : decode cX11_bin 0 = .ok (.iload_n 1, 1) := by decide +kernel
theorem dX11_bin_1 : decode cX11_bin 1 = .ok (.invokestatic 201, 3) := by decide +kernel
theorem dX11_bin_4 : decode cX11_bin 4 = .ok (.ifCond .ne 5, 3) := by decide +kernel
theorem dX11_bin_7 : decode cX11_bin 7 = .ok (.iconst (-1), 1) := by decide +kernel
theorem dX11_bin_8 : decode cX11_bin 8 = .ok (.ireturn, 1) := by decide +kernel
theorem dX11_bin_9 : decode cX11_bin 9 = .ok (.iload_n 2, 1) := by decide +kernel
theorem dX11_bin_10 : decode cX11_bin 10 = .ok (.tableswitch 70 0 3 #[30, 40, 50, 60], 30) := by decide +kernel
theorem dX11_bin_40 : decode cX11_bin 40 = .ok (.aload_n 0, 1) := by decide +kernel
theorem dX11_bin_41 : decode cX11_bin 41 = .ok (.getfield 74, 3) := by decide +kernel
theorem dX11_bin_44 : decode cX11_bin 44 = .ok (.iload_n 1, 1) := by decide +kernel
theorem dX11_bin_45 : decode cX11_bin 45 = .ok (.aaload, 1) := by decide +kernel
theorem dX11_bin_46 : decode cX11_bin 46 = .ok (.invokevirtual 225, 3) := by decide +kernel
theorem dX11_bin_49 : decode cX11_bin 49 = .ok (.ireturn, 1) := by decide +kernel
theorem dX11_bin_50 : decode cX11_bin 50 = .ok (.aload_n 0, 1) := by decide +kernel
theorem dX11_bin_51 : decode cX11_bin 51 = .ok (.getfield 74, 3) := by decide +kernel
theorem dX11_bin_54 : decode cX11_bin 54 = .ok (.iload_n 1, 1) := by decide +kernel
theorem dX11_bin_55 : decode cX11_bin 55 = .ok (.aaload, 1) := by decide +kernel
theorem dX11_bin_56 : decode cX11_bin 56 = .ok (.invokevirtual 226, 3) := by decide +kernel
theorem dX11_bin_59 : decode cX11_bin 59 = .ok (.ireturn, 1) := by decide +kernel
theorem dX11_bin_60 : decode cX11_bin 60 = .ok (.aload_n 0, 1) := by decide +kernel
theorem dX11_bin_61 : decode cX11_bin 61 = .ok (.getfield 74, 3) := by decide +kernel
theorem dX11_bin_64 : decode cX11_bin 64 = .ok (.iload_n 1, 1) := by decide +kernel
theorem dX11_bin_65 : decode cX11_bin 65 = .ok (.aaload, 1) := by decide +kernel
theorem dX11_bin_66 : decode cX11_bin 66 = .ok (.invokevirtual 229, 3) := by decide +kernel
theorem dX11_bin_69 : decode cX11_bin 69 = .ok (.ireturn, 1) := by decide +kernel
theorem dX11_bin_70 : decode cX11_bin 70 = .ok (.aload_n 0, 1) := by decide +kernel
theorem dX11_bin_71 : decode cX11_bin 71 = .ok (.getfield 74, 3) := by decide +kernel
theorem dX11_bin_74 : decode cX11_bin 74 = .ok (.iload_n 1, 1) := by decide +kernel
theorem dX11_bin_75 : decode cX11_bin 75 = .ok (.aaload, 1) := by decide +kernel
theorem dX11_bin_76 : decode cX11_bin 76 = .ok (.invokevirtual 232, 3) := by decide +kernel
theorem dX11_bin_79 : decode cX11_bin 79 = .ok (.ireturn, 1) := by decide +kernel
theorem dX11_bin_80 : decode cX11_bin 80 = .ok (.iconst (-1), 1) := by decide +kernel
theorem dX11_bin_81 : decode cX11_bin 81 = .ok (.ireturn, 1) := by decide +kernel
theorem dX11_foretold_0 : decode cX11_foretold 0 = .ok (.iload_n 1, 1) := by decide +kernel
theorem dX11_foretold_1 : decode cX11_foretold 1 = .ok (.invokestatic 201, 3) := by decide +kernel
theorem dX11_foretold_4 : decode cX11_foretold 4 = .ok (.ifCond .ne 5, 3) := by decide +kernel
theorem dX11_foretold_7 : decode cX11_foretold 7 = .ok (.iconst (-1), 1) := by decide +kernel
theorem dX11_foretold_8 : decode cX11_foretold 8 = .ok (.ireturn, 1) := by decide +kernel
theorem dX11_foretold_9 : decode cX11_foretold 9 = .ok (.aload_n 0, 1) := by decide +kernel
theorem dX11_foretold_10 : decode cX11_foretold 10 = .ok (.getfield 74, 3) := by decide +kernel
theorem dX11_foretold_13 : decode cX11_foretold 13 = .ok (.iload_n 1, 1) := by decide +kernel
theorem dX11_foretold_14 : decode cX11_foretold 14 = .ok (.aaload, 1) := by decide +kernel
theorem dX11_foretold_15 : decode cX11_foretold 15 = .ok (.aload_n 0, 1) := by decide +kernel
theorem dX11_foretold_16 : decode cX11_foretold 16 = .ok (.getfield 12, 3) := by decide +kernel
theorem dX11_foretold_19 : decode cX11_foretold 19 = .ok (.iload_n 1, 1) := by decide +kernel
theorem dX11_foretold_20 : decode cX11_foretold 20 = .ok (.invokevirtual 235, 3) := by decide +kernel
theorem dX11_foretold_23 : decode cX11_foretold 23 = .ok (.aload_n 0, 1) := by decide +kernel
theorem dX11_foretold_24 : decode cX11_foretold 24 = .ok (.getfield 97, 3) := by decide +kernel
theorem dX11_foretold_27 : decode cX11_foretold 27 = .ok (.invokevirtual 238, 3) := by decide +kernel
theorem dX11_foretold_30 : decode cX11_foretold 30 = .ok (.ireturn, 1) := by decide +kernel
theorem dX11_work_0 : decode cX11_work 0 = .ok (.aload_n 0, 1) := by decide +kernel
theorem dX11_work_1 : decode cX11_work 1 = .ok (.getfield 12, 3) := by decide +kernel
theorem dX11_work_4 : decode cX11_work 4 = .ok (.iload_n 1, 1) := by decide +kernel
theorem dX11_work_5 : decode cX11_work 5 = .ok (.invokevirtual 120, 3) := by decide +kernel
theorem dX11_work_8 : decode cX11_work 8 = .ok (.ifCond .eq 30, 3) := by decide +kernel
theorem dX11_work_11 : decode cX11_work 11 = .ok (.iload_n 2, 1) := by decide +kernel
theorem dX11_work_12 : decode cX11_work 12 = .ok (.invokestatic 210, 3) := by decide +kernel
theorem dX11_work_15 : decode cX11_work 15 = .ok (.ifCond .eq 23, 3) := by decide +kernel
theorem dX11_work_18 : decode cX11_work 18 = .ok (.iload_n 3, 1) := by decide +kernel
theorem dX11_work_19 : decode cX11_work 19 = .ok (.aload_n 0, 1) := by decide +kernel
theorem dX11_work_20 : decode cX11_work 20 = .ok (.getfield 97, 3) := by decide +kernel
theorem dX11_work_23 : decode cX11_work 23 = .ok (.if_icmp .gt 15, 3) := by decide +kernel
theorem dX11_work_26 : decode cX11_work 26 = .ok (.iload_n 3, 1) := by decide +kernel
theorem dX11_work_27 : decode cX11_work 27 = .ok (.aload_n 0, 1) := by decide +kernel
theorem dX11_work_28 : decode cX11_work 28 = .ok (.getfield 12, 3) := by decide +kernel
theorem dX11_work_31 : decode cX11_work 31 = .ok (.iload_n 1, 1) := by decide +kernel
theorem dX11_work_32 : decode cX11_work 32 = .ok (.invokevirtual 241, 3) := by decide +kernel
theorem dX11_work_35 : decode cX11_work 35 = .ok (.if_icmp .ge 5, 3) := by decide +kernel
theorem dX11_work_38 : decode cX11_work 38 = .ok (.iconst (-1), 1) := by decide +kernel
theorem dX11_work_39 : decode cX11_work 39 = .ok (.ireturn, 1) := by decide +kernel
theorem dX11_work_40 : decode cX11_work 40 = .ok (.aload_n 0, 1) := by decide +kernel
theorem dX11_work_41 : decode cX11_work 41 = .ok (.getfield 93, 3) := by decide +kernel
theorem dX11_work_44 : decode cX11_work 44 = .ok (.iload_n 1, 1) := by decide +kernel
theorem dX11_work_45 : decode cX11_work 45 = .ok (.iload_n 2, 1) := by decide +kernel
theorem dX11_work_46 : decode cX11_work 46 = .ok (.iload_n 3, 1) := by decide +kernel
theorem dX11_work_47 : decode cX11_work 47 = .ok (.aload_n 0, 1) := by decide +kernel
theorem dX11_work_48 : decode cX11_work 48 = .ok (.getfield 97, 3) := by decide +kernel
theorem dX11_work_51 : decode cX11_work 51 = .ok (.aload_n 0, 1) := by decide +kernel
theorem dX11_work_52 : decode cX11_work 52 = .ok (.getfield 79, 3) := by decide +kernel
theorem dX11_work_55 : decode cX11_work 55 = .ok (.iconst 5, 1) := by decide +kernel
theorem dX11_work_56 : decode cX11_work 56 = .ok (.iload_n 2, 1) := by decide +kernel
theorem dX11_work_57 : decode cX11_work 57 = .ok (.iadd, 1) := by decide +kernel
theorem dX11_work_58 : decode cX11_work 58 = .ok (.iaload, 1) := by decide +kernel
theorem dX11_work_59 : decode cX11_work 59 = .ok (.invokevirtual 244, 3) := by decide +kernel
theorem dX11_work_62 : decode cX11_work 62 = .ok (.ireturn, 1) := by decide +kernel
theorem dX11_due_0 : decode cX11_due 0 = .ok (.aload_n 0, 1) := by decide +kernel
theorem dX11_due_1 : decode cX11_due 1 = .ok (.getfield 12, 3) := by decide +kernel
theorem dX11_due_4 : decode cX11_due 4 = .ok (.iload_n 1, 1) := by decide +kernel
theorem dX11_due_5 : decode cX11_due 5 = .ok (.invokevirtual 120, 3) := by decide +kernel
theorem dX11_due_8 : decode cX11_due 8 = .ok (.ifCond .eq 10, 3) := by decide +kernel
theorem dX11_due_11 : decode cX11_due 11 = .ok (.iload_n 2, 1) := by decide +kernel
theorem dX11_due_12 : decode cX11_due 12 = .ok (.invokestatic 210, 3) := by decide +kernel
theorem dX11_due_15 : decode cX11_due 15 = .ok (.ifCond .ne 5, 3) := by decide +kernel
theorem dX11_due_18 : decode cX11_due 18 = .ok (.iconst (-1), 1) := by decide +kernel
theorem dX11_due_19 : decode cX11_due 19 = .ok (.ireturn, 1) := by decide +kernel
theorem dX11_due_20 : decode cX11_due 20 = .ok (.aload_n 0, 1) := by decide +kernel
theorem dX11_due_21 : decode cX11_due 21 = .ok (.getfield 93, 3) := by decide +kernel
theorem dX11_due_24 : decode cX11_due 24 = .ok (.iload_n 1, 1) := by decide +kernel
theorem dX11_due_25 : decode cX11_due 25 = .ok (.iload_n 2, 1) := by decide +kernel
theorem dX11_due_26 : decode cX11_due 26 = .ok (.invokevirtual 247, 3) := by decide +kernel
theorem dX11_due_29 : decode cX11_due 29 = .ok (.ireturn, 1) := by decide +kernel
theorem dX11_bill_0 : decode cX11_bill 0 = .ok (.aload_n 0, 1) := by decide +kernel
theorem dX11_bill_1 : decode cX11_bill 1 = .ok (.getfield 12, 3) := by decide +kernel
theorem dX11_bill_4 : decode cX11_bill 4 = .ok (.iload_n 1, 1) := by decide +kernel
theorem dX11_bill_5 : decode cX11_bill 5 = .ok (.invokevirtual 120, 3) := by decide +kernel
theorem dX11_bill_8 : decode cX11_bill 8 = .ok (.ifCond .eq 8, 3) := by decide +kernel
theorem dX11_bill_11 : decode cX11_bill 11 = .ok (.iload_n 2, 1) := by decide +kernel
theorem dX11_bill_12 : decode cX11_bill 12 = .ok (.iload_n 3, 1) := by decide +kernel
theorem dX11_bill_13 : decode cX11_bill 13 = .ok (.if_icmp .le 5, 3) := by decide +kernel
theorem dX11_bill_16 : decode cX11_bill 16 = .ok (.iconst (-1), 1) := by decide +kernel
theorem dX11_bill_17 : decode cX11_bill 17 = .ok (.ireturn, 1) := by decide +kernel
theorem dX11_bill_18 : decode cX11_bill 18 = .ok (.aload_n 0, 1) := by decide +kernel
theorem dX11_bill_19 : decode cX11_bill 19 = .ok (.getfield 86, 3) := by decide +kernel
theorem dX11_bill_22 : decode cX11_bill 22 = .ok (.iload_n 1, 1) := by decide +kernel
theorem dX11_bill_23 : decode cX11_bill 23 = .ok (.iload_n 2, 1) := by decide +kernel
theorem dX11_bill_24 : decode cX11_bill 24 = .ok (.iload_n 3, 1) := by decide +kernel
theorem dX11_bill_25 : decode cX11_bill 25 = .ok (.iload 4, 2) := by decide +kernel
theorem dX11_bill_27 : decode cX11_bill 27 = .ok (.invokevirtual 250, 3) := by decide +kernel
theorem dX11_bill_30 : decode cX11_bill 30 = .ok (.aload_n 0, 1) := by decide +kernel
theorem dX11_bill_31 : decode cX11_bill 31 = .ok (.getfield 93, 3) := by decide +kernel
theorem dX11_bill_34 : decode cX11_bill 34 = .ok (.iload_n 1, 1) := by decide +kernel
theorem dX11_bill_35 : decode cX11_bill 35 = .ok (.iload_n 2, 1) := by decide +kernel
theorem dX11_bill_36 : decode cX11_bill 36 = .ok (.iload_n 3, 1) := by decide +kernel
theorem dX11_bill_37 : decode cX11_bill 37 = .ok (.iload 4, 2) := by decide +kernel
theorem dX11_bill_39 : decode cX11_bill 39 = .ok (.invokevirtual 254, 3) := by decide +kernel
theorem dX11_bill_42 : decode cX11_bill 42 = .ok (.iadd, 1) := by decide +kernel
theorem dX11_bill_43 : decode cX11_bill 43 = .ok (.ireturn, 1) := by decide +kernel
theorem dX11_lacked_0 : decode cX11_lacked 0 = .ok (.aload_n 0, 1) := by decide +kernel
theorem dX11_lacked_1 : decode cX11_lacked 1 = .ok (.getfield 12, 3) := by decide +kernel
theorem dX11_lacked_4 : decode cX11_lacked 4 = .ok (.iload_n 1, 1) := by decide +kernel
theorem dX11_lacked_5 : decode cX11_lacked 5 = .ok (.invokevirtual 120, 3) := by decide +kernel
theorem dX11_lacked_8 : decode cX11_lacked 8 = .ok (.ifCond .eq 14, 3) := by decide +kernel
theorem dX11_lacked_11 : decode cX11_lacked 11 = .ok (.aload_n 0, 1) := by decide +kernel
theorem dX11_lacked_12 : decode cX11_lacked 12 = .ok (.getfield 12, 3) := by decide +kernel
theorem dX11_lacked_15 : decode cX11_lacked 15 = .ok (.iload_n 1, 1) := by decide +kernel
theorem dX11_lacked_16 : decode cX11_lacked 16 = .ok (.invokevirtual 255, 3) := by decide +kernel
theorem dX11_lacked_19 : decode cX11_lacked 19 = .ok (.goto 4, 3) := by decide +kernel
theorem dX11_lacked_22 : decode cX11_lacked 22 = .ok (.iconst (-1), 1) := by decide +kernel
theorem dX11_lacked_23 : decode cX11_lacked 23 = .ok (.ireturn, 1) := by decide +kernel
theorem dX11_about_0 : decode cX11_about 0 = .ok (.iload_n 1, 1) := by decide +kernel
theorem dX11_about_1 : decode cX11_about 1 = .ok (.tableswitch 104 0 6 #[43, 48, 56, 64, 72, 88, 96], 43) := by decide +kernel
theorem dX11_about_44 : decode cX11_about 44 = .ok (.aload_n 0, 1) := by decide +kernel
theorem dX11_about_45 : decode cX11_about 45 = .ok (.getfield 97, 3) := by decide +kernel
theorem dX11_about_48 : decode cX11_about 48 = .ok (.ireturn, 1) := by decide +kernel
theorem dX11_about_49 : decode cX11_about 49 = .ok (.aload_n 0, 1) := by decide +kernel
theorem dX11_about_50 : decode cX11_about 50 = .ok (.getfield 12, 3) := by decide +kernel
theorem dX11_about_53 : decode cX11_about 53 = .ok (.invokevirtual 105, 3) := by decide +kernel
theorem dX11_about_56 : decode cX11_about 56 = .ok (.ireturn, 1) := by decide +kernel
theorem dX11_about_57 : decode cX11_about 57 = .ok (.aload_n 0, 1) := by decide +kernel
theorem dX11_about_58 : decode cX11_about 58 = .ok (.getfield 37, 3) := by decide +kernel
theorem dX11_about_61 : decode cX11_about 61 = .ok (.invokevirtual 161, 3) := by decide +kernel
theorem dX11_about_64 : decode cX11_about 64 = .ok (.ireturn, 1) := by decide +kernel
theorem dX11_about_65 : decode cX11_about 65 = .ok (.aload_n 0, 1) := by decide +kernel
theorem dX11_about_66 : decode cX11_about 66 = .ok (.getfield 93, 3) := by decide +kernel
theorem dX11_about_69 : decode cX11_about 69 = .ok (.invokevirtual 258, 3) := by decide +kernel
theorem dX11_about_72 : decode cX11_about 72 = .ok (.ireturn, 1) := by decide +kernel
theorem dX11_about_73 : decode cX11_about 73 = .ok (.aload_n 0, 1) := by decide +kernel
theorem dX11_about_74 : decode cX11_about 74 = .ok (.getfield 68, 3) := by decide +kernel
theorem dX11_about_77 : decode cX11_about 77 = .ok (.invokevirtual 259, 3) := by decide +kernel
theorem dX11_about_80 : decode cX11_about 80 = .ok (.ifCond .eq 7, 3) := by decide +kernel
theorem dX11_about_83 : decode cX11_about 83 = .ok (.iconst 1, 1) := by decide +kernel
theorem dX11_about_84 : decode cX11_about 84 = .ok (.goto 4, 3) := by decide +kernel
theorem dX11_about_87 : decode cX11_about 87 = .ok (.iconst 0, 1) := by decide +kernel
theorem dX11_about_88 : decode cX11_about 88 = .ok (.ireturn, 1) := by decide +kernel
theorem dX11_about_89 : decode cX11_about 89 = .ok (.aload_n 0, 1) := by decide +kernel
theorem dX11_about_90 : decode cX11_about 90 = .ok (.getfield 26, 3) := by decide +kernel
theorem dX11_about_93 : decode cX11_about 93 = .ok (.invokevirtual 143, 3) := by decide +kernel
theorem dX11_about_96 : decode cX11_about 96 = .ok (.ireturn, 1) := by decide +kernel
theorem dX11_about_97 : decode cX11_about 97 = .ok (.aload_n 0, 1) := by decide +kernel
theorem dX11_about_98 : decode cX11_about 98 = .ok (.getfield 86, 3) := by decide +kernel
theorem dX11_about_101 : decode cX11_about 101 = .ok (.invokevirtual 262, 3) := by decide +kernel
theorem dX11_about_104 : decode cX11_about 104 = .ok (.ireturn, 1) := by decide +kernel
theorem dX11_about_105 : decode cX11_about 105 = .ok (.iconst (-1), 1) := by decide +kernel
theorem dX11_about_106 : decode cX11_about 106 = .ok (.ireturn, 1) := by decide +kernel
theorem dX11_mayBeAnywhere_0 : decode cX11_mayBeAnywhere 0 = .ok (.iconst 0, 1) := by decide +kernel
theorem dX11_mayBeAnywhere_1 : decode cX11_mayBeAnywhere 1 = .ok (.istore_n 2, 1) := by decide +kernel
theorem dX11_mayBeAnywhere_2 : decode cX11_mayBeAnywhere 2 = .ok (.iload_n 2, 1) := by decide +kernel
theorem dX11_mayBeAnywhere_3 : decode cX11_mayBeAnywhere 3 = .ok (.bipush 24, 2) := by decide +kernel
theorem dX11_mayBeAnywhere_5 : decode cX11_mayBeAnywhere 5 = .ok (.if_icmp .ge 34, 3) := by decide +kernel
theorem dX11_mayBeAnywhere_8 : decode cX11_mayBeAnywhere 8 = .ok (.aload_n 0, 1) := by decide +kernel
theorem dX11_mayBeAnywhere_9 : decode cX11_mayBeAnywhere 9 = .ok (.getfield 59, 3) := by decide +kernel
theorem dX11_mayBeAnywhere_12 : decode cX11_mayBeAnywhere 12 = .ok (.iload_n 1, 1) := by decide +kernel
theorem dX11_mayBeAnywhere_13 : decode cX11_mayBeAnywhere 13 = .ok (.iload_n 2, 1) := by decide +kernel
theorem dX11_mayBeAnywhere_14 : decode cX11_mayBeAnywhere 14 = .ok (.invokestatic 192, 3) := by decide +kernel
theorem dX11_mayBeAnywhere_17 : decode cX11_mayBeAnywhere 17 = .ok (.iload_n 2, 1) := by decide +kernel
theorem dX11_mayBeAnywhere_18 : decode cX11_mayBeAnywhere 18 = .ok (.invokestatic 189, 3) := by decide +kernel
theorem dX11_mayBeAnywhere_21 : decode cX11_mayBeAnywhere 21 = .ok (.aload_n 0, 1) := by decide +kernel
theorem dX11_mayBeAnywhere_22 : decode cX11_mayBeAnywhere 22 = .ok (.getfield 97, 3) := by decide +kernel
theorem dX11_mayBeAnywhere_25 : decode cX11_mayBeAnywhere 25 = .ok (.invokevirtual 171, 3) := by decide +kernel
theorem dX11_mayBeAnywhere_28 : decode cX11_mayBeAnywhere 28 = .ok (.ifCond .eq 5, 3) := by decide +kernel
theorem dX11_mayBeAnywhere_31 : decode cX11_mayBeAnywhere 31 = .ok (.iconst 1, 1) := by decide +kernel
theorem dX11_mayBeAnywhere_32 : decode cX11_mayBeAnywhere 32 = .ok (.ireturn, 1) := by decide +kernel
theorem dX11_mayBeAnywhere_33 : decode cX11_mayBeAnywhere 33 = .ok (.iinc 2 1, 3) := by decide +kernel
theorem dX11_mayBeAnywhere_36 : decode cX11_mayBeAnywhere 36 = .ok (.goto (-34), 3) := by decide +kernel
theorem dX11_mayBeAnywhere_39 : decode cX11_mayBeAnywhere 39 = .ok (.iconst 0, 1) := by decide +kernel
theorem dX11_mayBeAnywhere_40 : decode cX11_mayBeAnywhere 40 = .ok (.ireturn, 1) := by decide +kernel
theorem dX11_passNightOf_0 : decode cX11_passNightOf 0 = .ok (.aload_n 0, 1) := by decide +kernel
theorem dX11_passNightOf_1 : decode cX11_passNightOf 1 = .ok (.getfield 79, 3) := by decide +kernel
theorem dX11_passNightOf_4 : decode cX11_passNightOf 4 = .ok (.iconst 0, 1) := by decide +kernel
theorem dX11_passNightOf_5 : decode cX11_passNightOf 5 = .ok (.iaload, 1) := by decide +kernel
theorem dX11_passNightOf_6 : decode cX11_passNightOf 6 = .ok (.istore_n 2, 1) := by decide +kernel
theorem dX11_passNightOf_7 : decode cX11_passNightOf 7 = .ok (.iconst 0, 1) := by decide +kernel
theorem dX11_passNightOf_8 : decode cX11_passNightOf 8 = .ok (.istore_n 3, 1) := by decide +kernel
theorem dX11_passNightOf_9 : decode cX11_passNightOf 9 = .ok (.iconst 0, 1) := by decide +kernel
theorem dX11_passNightOf_10 : decode cX11_passNightOf 10 = .ok (.istore 4, 2) := by decide +kernel
theorem dX11_passNightOf_12 : decode cX11_passNightOf 12 = .ok (.iload 4, 2) := by decide +kernel
theorem dX11_passNightOf_14 : decode cX11_passNightOf 14 = .ok (.iconst 4, 1) := by decide +kernel
theorem dX11_passNightOf_15 : decode cX11_passNightOf 15 = .ok (.if_icmp .ge 58, 3) := by decide +kernel
theorem dX11_passNightOf_18 : decode cX11_passNightOf 18 = .ok (.aload_n 0, 1) := by decide +kernel
theorem dX11_passNightOf_19 : decode cX11_passNightOf 19 = .ok (.getfield 12, 3) := by decide +kernel
theorem dX11_passNightOf_22 : decode cX11_passNightOf 22 = .ok (.iload_n 1, 1) := by decide +kernel
theorem dX11_passNightOf_23 : decode cX11_passNightOf 23 = .ok (.iload 4, 2) := by decide +kernel
theorem dX11_passNightOf_25 : decode cX11_passNightOf 25 = .ok (.invokevirtual 263, 3) := by decide +kernel
theorem dX11_passNightOf_28 : decode cX11_passNightOf 28 = .ok (.istore 5, 2) := by decide +kernel
theorem dX11_passNightOf_30 : decode cX11_passNightOf 30 = .ok (.aload_n 0, 1) := by decide +kernel
theorem dX11_passNightOf_31 : decode cX11_passNightOf 31 = .ok (.getfield 74, 3) := by decide +kernel
theorem dX11_passNightOf_34 : decode cX11_passNightOf 34 = .ok (.iload 4, 2) := by decide +kernel
theorem dX11_passNightOf_36 : decode cX11_passNightOf 36 = .ok (.aaload, 1) := by decide +kernel
theorem dX11_passNightOf_37 : decode cX11_passNightOf 37 = .ok (.iload 5, 2) := by decide +kernel
theorem dX11_passNightOf_39 : decode cX11_passNightOf 39 = .ok (.invokevirtual 266, 3) := by decide +kernel
theorem dX11_passNightOf_42 : decode cX11_passNightOf 42 = .ok (.istore 6, 2) := by decide +kernel
theorem dX11_passNightOf_44 : decode cX11_passNightOf 44 = .ok (.iload_n 2, 1) := by decide +kernel
theorem dX11_passNightOf_45 : decode cX11_passNightOf 45 = .ok (.iload 6, 2) := by decide +kernel
theorem dX11_passNightOf_47 : decode cX11_passNightOf 47 = .ok (.aload_n 0, 1) := by decide +kernel
theorem dX11_passNightOf_48 : decode cX11_passNightOf 48 = .ok (.getfield 79, 3) := by decide +kernel
theorem dX11_passNightOf_51 : decode cX11_passNightOf 51 = .ok (.iconst 1, 1) := by decide +kernel
theorem dX11_passNightOf_52 : decode cX11_passNightOf 52 = .ok (.iload 4, 2) := by decide +kernel
theorem dX11_passNightOf_54 : decode cX11_passNightOf 54 = .ok (.iadd, 1) := by decide +kernel
theorem dX11_passNightOf_55 : decode cX11_passNightOf 55 = .ok (.iaload, 1) := by decide +kernel
theorem dX11_passNightOf_56 : decode cX11_passNightOf 56 = .ok (.imul, 1) := by decide +kernel
theorem dX11_passNightOf_57 : decode cX11_passNightOf 57 = .ok (.iadd, 1) := by decide +kernel
theorem dX11_passNightOf_58 : decode cX11_passNightOf 58 = .ok (.istore_n 2, 1) := by decide +kernel
theorem dX11_passNightOf_59 : decode cX11_passNightOf 59 = .ok (.iload_n 3, 1) := by decide +kernel
theorem dX11_passNightOf_60 : decode cX11_passNightOf 60 = .ok (.iload 5, 2) := by decide +kernel
theorem dX11_passNightOf_62 : decode cX11_passNightOf 62 = .ok (.iload 6, 2) := by decide +kernel
theorem dX11_passNightOf_64 : decode cX11_passNightOf 64 = .ok (.isub, 1) := by decide +kernel
theorem dX11_passNightOf_65 : decode cX11_passNightOf 65 = .ok (.iadd, 1) := by decide +kernel
theorem dX11_passNightOf_66 : decode cX11_passNightOf 66 = .ok (.istore_n 3, 1) := by decide +kernel
theorem dX11_passNightOf_67 : decode cX11_passNightOf 67 = .ok (.iinc 4 1, 3) := by decide +kernel
theorem dX11_passNightOf_70 : decode cX11_passNightOf 70 = .ok (.goto (-58), 3) := by decide +kernel
theorem dX11_passNightOf_73 : decode cX11_passNightOf 73 = .ok (.aload_n 0, 1) := by decide +kernel
theorem dX11_passNightOf_74 : decode cX11_passNightOf 74 = .ok (.getfield 12, 3) := by decide +kernel
theorem dX11_passNightOf_77 : decode cX11_passNightOf 77 = .ok (.iload_n 1, 1) := by decide +kernel
theorem dX11_passNightOf_78 : decode cX11_passNightOf 78 = .ok (.iload_n 3, 1) := by decide +kernel
theorem dX11_passNightOf_79 : decode cX11_passNightOf 79 = .ok (.invokevirtual 269, 3) := by decide +kernel
theorem dX11_passNightOf_82 : decode cX11_passNightOf 82 = .ok (.aload_n 0, 1) := by decide +kernel
theorem dX11_passNightOf_83 : decode cX11_passNightOf 83 = .ok (.getfield 86, 3) := by decide +kernel
theorem dX11_passNightOf_86 : decode cX11_passNightOf 86 = .ok (.iload_n 1, 1) := by decide +kernel
theorem dX11_passNightOf_87 : decode cX11_passNightOf 87 = .ok (.aload_n 0, 1) := by decide +kernel
theorem dX11_passNightOf_88 : decode cX11_passNightOf 88 = .ok (.getfield 97, 3) := by decide +kernel
theorem dX11_passNightOf_91 : decode cX11_passNightOf 91 = .ok (.iload_n 2, 1) := by decide +kernel
theorem dX11_passNightOf_92 : decode cX11_passNightOf 92 = .ok (.invokevirtual 272, 3) := by decide +kernel
theorem dX11_passNightOf_95 : decode cX11_passNightOf 95 = .ok (.iload_n 3, 1) := by decide +kernel
theorem dX11_passNightOf_96 : decode cX11_passNightOf 96 = .ok (.ireturn, 1) := by decide +kernel
theorem dX11_isUpTo_0 : decode cX11_isUpTo 0 = .ok (.iload_n 0, 1) := by decide +kernel
theorem dX11_isUpTo_1 : decode cX11_isUpTo 1 = .ok (.ifCond .lt 12, 3) := by decide +kernel
theorem dX11_isUpTo_4 : decode cX11_isUpTo 4 = .ok (.iload_n 0, 1) := by decide +kernel
theorem dX11_isUpTo_5 : decode cX11_isUpTo 5 = .ok (.iload_n 1, 1) := by decide +kernel
theorem dX11_isUpTo_6 : decode cX11_isUpTo 6 = .ok (.if_icmp .gt 7, 3) := by decide +kernel
theorem dX11_isUpTo_9 : decode cX11_isUpTo 9 = .ok (.iconst 1, 1) := by decide +kernel
theorem dX11_isUpTo_10 : decode cX11_isUpTo 10 = .ok (.goto 4, 3) := by decide +kernel
theorem dX11_isUpTo_13 : decode cX11_isUpTo 13 = .ok (.iconst 0, 1) := by decide +kernel
theorem dX11_isUpTo_14 : decode cX11_isUpTo 14 = .ok (.ireturn, 1) := by decide +kernel
theorem dX11_isField_0 : decode cX11_isField 0 = .ok (.iload_n 0, 1) := by decide +kernel
theorem dX11_isField_1 : decode cX11_isField 1 = .ok (.iconst 5, 1) := by decide +kernel
theorem dX11_isField_2 : decode cX11_isField 2 = .ok (.invokestatic 101, 3) := by decide +kernel
theorem dX11_isField_5 : decode cX11_isField 5 = .ok (.ireturn, 1) := by decide +kernel
theorem dX11_isHour_0 : decode cX11_isHour 0 = .ok (.iload_n 0, 1) := by decide +kernel
theorem dX11_isHour_1 : decode cX11_isHour 1 = .ok (.iconst 3, 1) := by decide +kernel
theorem dX11_isHour_2 : decode cX11_isHour 2 = .ok (.invokestatic 101, 3) := by decide +kernel
theorem dX11_isHour_5 : decode cX11_isHour 5 = .ok (.ireturn, 1) := by decide +kernel
theorem dX11_isBin_0 : decode cX11_isBin 0 = .ok (.iload_n 0, 1) := by decide +kernel
theorem dX11_isBin_1 : decode cX11_isBin 1 = .ok (.iconst 3, 1) := by decide +kernel
theorem dX11_isBin_2 : decode cX11_isBin 2 = .ok (.invokestatic 101, 3) := by decide +kernel
theorem dX11_isBin_5 : decode cX11_isBin 5 = .ok (.ireturn, 1) := by decide +kernel
theorem dX11_isSort_0 : decode cX11_isSort 0 = .ok (.iload_n 0, 1) := by decide +kernel
theorem dX11_isSort_1 : decode cX11_isSort 1 = .ok (.iconst 2, 1) := by decide +kernel
theorem dX11_isSort_2 : decode cX11_isSort 2 = .ok (.invokestatic 101, 3) := by decide +kernel
theorem dX11_isSort_5 : decode cX11_isSort 5 = .ok (.ireturn, 1) := by decide +kernel
theorem dX11_hourOf_0 : decode cX11_hourOf 0 = .ok (.iload_n 0, 1) := by decide +kernel
theorem dX11_hourOf_1 : decode cX11_hourOf 1 = .ok (.bipush 6, 2) := by decide +kernel
theorem dX11_hourOf_3 : decode cX11_hourOf 3 = .ok (.idiv, 1) := by decide +kernel
theorem dX11_hourOf_4 : decode cX11_hourOf 4 = .ok (.ireturn, 1) := by decide +kernel
theorem dX11_fieldOf_0 : decode cX11_fieldOf 0 = .ok (.iload_n 0, 1) := by decide +kernel
theorem dX11_fieldOf_1 : decode cX11_fieldOf 1 = .ok (.bipush 6, 2) := by decide +kernel
theorem dX11_fieldOf_3 : decode cX11_fieldOf 3 = .ok (.irem, 1) := by decide +kernel
theorem dX11_fieldOf_4 : decode cX11_fieldOf 4 = .ok (.ireturn, 1) := by decide +kernel
theorem dX12_init_0 : decode cX12_init 0 = .ok (.aload_n 0, 1) := by decide +kernel
theorem dX12_init_1 : decode cX12_init 1 = .ok (.invokespecial 1, 3) := by decide +kernel
theorem dX12_init_4 : decode cX12_init 4 = .ok (.aload_n 0, 1) := by decide +kernel
theorem dX12_init_5 : decode cX12_init 5 = .ok (.bipush 12, 2) := by decide +kernel
theorem dX12_init_7 : decode cX12_init 7 = .ok (.newarray .int, 2) := by decide +kernel
theorem dX12_init_9 : decode cX12_init 9 = .ok (.putfield 7, 3) := by decide +kernel
theorem dX12_init_12 : decode cX12_init 12 = .ok (.aload_n 0, 1) := by decide +kernel
theorem dX12_init_13 : decode cX12_init 13 = .ok (.bipush 12, 2) := by decide +kernel
theorem dX12_init_15 : decode cX12_init 15 = .ok (.newarray .int, 2) := by decide +kernel
theorem dX12_init_17 : decode cX12_init 17 = .ok (.putfield 13, 3) := by decide +kernel
theorem dX12_init_20 : decode cX12_init 20 = .ok (.aload_n 0, 1) := by decide +kernel
theorem dX12_init_21 : decode cX12_init 21 = .ok (.bipush 12, 2) := by decide +kernel
theorem dX12_init_23 : decode cX12_init 23 = .ok (.newarray .int, 2) := by decide +kernel
theorem dX12_init_25 : decode cX12_init 25 = .ok (.putfield 16, 3) := by decide +kernel
theorem dX12_init_28 : decode cX12_init 28 = .ok (.aload_n 0, 1) := by decide +kernel
theorem dX12_init_29 : decode cX12_init 29 = .ok (.bipush 12, 2) := by decide +kernel
theorem dX12_init_31 : decode cX12_init 31 = .ok (.newarray .int, 2) := by decide +kernel
theorem dX12_init_33 : decode cX12_init 33 = .ok (.putfield 19, 3) := by decide +kernel
theorem dX12_init_36 : decode cX12_init 36 = .ok (.aload_n 0, 1) := by decide +kernel
theorem dX12_init_37 : decode cX12_init 37 = .ok (.bipush 12, 2) := by decide +kernel
theorem dX12_init_39 : decode cX12_init 39 = .ok (.newarray .int, 2) := by decide +kernel
theorem dX12_init_41 : decode cX12_init 41 = .ok (.putfield 22, 3) := by decide +kernel
theorem dX12_init_44 : decode cX12_init 44 = .ok (.aload_n 0, 1) := by decide +kernel
theorem dX12_init_45 : decode cX12_init 45 = .ok (.bipush 48, 2) := by decide +kernel
theorem dX12_init_47 : decode cX12_init 47 = .ok (.newarray .int, 2) := by decide +kernel
theorem dX12_init_49 : decode cX12_init 49 = .ok (.putfield 25, 3) := by decide +kernel
theorem dX12_init_52 : decode cX12_init 52 = .ok (.aload_n 0, 1) := by decide +kernel
theorem dX12_init_53 : decode cX12_init 53 = .ok (.bipush 6, 2) := by decide +kernel
theorem dX12_init_55 : decode cX12_init 55 = .ok (.newarray .int, 2) := by decide +kernel
theorem dX12_init_57 : decode cX12_init 57 = .ok (.putfield 28, 3) := by decide +kernel
theorem dX12_init_60 : decode cX12_init 60 = .ok (.aload_n 0, 1) := by decide +kernel
theorem dX12_init_61 : decode cX12_init 61 = .ok (.bipush 6, 2) := by decide +kernel
theorem dX12_init_63 : decode cX12_init 63 = .ok (.newarray .int, 2) := by decide +kernel
theorem dX12_init_65 : decode cX12_init 65 = .ok (.putfield 31, 3) := by decide +kernel
theorem dX12_init_68 : decode cX12_init 68 = .ok (.aload_n 0, 1) := by decide +kernel
theorem dX12_init_69 : decode cX12_init 69 = .ok (.bipush 6, 2) := by decide +kernel
theorem dX12_init_71 : decode cX12_init 71 = .ok (.newarray .int, 2) := by decide +kernel
theorem dX12_init_73 : decode cX12_init 73 = .ok (.putfield 34, 3) := by decide +kernel
theorem dX12_init_76 : decode cX12_init 76 = .ok (.aload_n 0, 1) := by decide +kernel
theorem dX12_init_77 : decode cX12_init 77 = .ok (.bipush 36, 2) := by decide +kernel
theorem dX12_init_79 : decode cX12_init 79 = .ok (.newarray .boolean, 2) := by decide +kernel
theorem dX12_init_81 : decode cX12_init 81 = .ok (.putfield 37, 3) := by decide +kernel
theorem dX12_init_84 : decode cX12_init 84 = .ok (.aload_n 0, 1) := by decide +kernel
theorem dX12_init_85 : decode cX12_init 85 = .ok (.sipush 600, 3) := by decide +kernel
theorem dX12_init_88 : decode cX12_init 88 = .ok (.newarray .int, 2) := by decide +kernel
theorem dX12_init_90 : decode cX12_init 90 = .ok (.putfield 41, 3) := by decide +kernel
theorem dX12_init_93 : decode cX12_init 93 = .ok (.aload_n 0, 1) := by decide +kernel
theorem dX12_init_94 : decode cX12_init 94 = .ok (.sipush 600, 3) := by decide +kernel
theorem dX12_init_97 : decode cX12_init 97 = .ok (.newarray .int, 2) := by decide +kernel
theorem dX12_init_99 : decode cX12_init 99 = .ok (.putfield 44, 3) := by decide +kernel
theorem dX12_init_102 : decode cX12_init 102 = .ok (.aload_n 0, 1) := by decide +kernel
theorem dX12_init_103 : decode cX12_init 103 = .ok (.bipush 13, 2) := by decide +kernel
theorem dX12_init_105 : decode cX12_init 105 = .ok (.newarray .int, 2) := by decide +kernel
theorem dX12_init_107 : decode cX12_init 107 = .ok (.putfield 47, 3) := by decide +kernel
theorem dX12_init_110 : decode cX12_init 110 = .ok (.aload_n 0, 1) := by decide +kernel
theorem dX12_init_111 : decode cX12_init 111 = .ok (.bipush 12, 2) := by decide +kernel
theorem dX12_init_113 : decode cX12_init 113 = .ok (.newarray .boolean, 2) := by decide +kernel
theorem dX12_init_115 : decode cX12_init 115 = .ok (.putfield 50, 3) := by decide +kernel
theorem dX12_init_118 : decode cX12_init 118 = .ok (.aload_n 0, 1) := by decide +kernel
theorem dX12_init_119 : decode cX12_init 119 = .ok (.sipush 600, 3) := by decide +kernel
theorem dX12_init_122 : decode cX12_init 122 = .ok (.newarray .int, 2) := by decide +kernel
theorem dX12_init_124 : decode cX12_init 124 = .ok (.putfield 53, 3) := by decide +kernel
theorem dX12_init_127 : decode cX12_init 127 = .ok (.aload_n 0, 1) := by decide +kernel
theorem dX12_init_128 : decode cX12_init 128 = .ok (.sipush 600, 3) := by decide +kernel
theorem dX12_init_131 : decode cX12_init 131 = .ok (.newarray .int, 2) := by decide +kernel
theorem dX12_init_133 : decode cX12_init 133 = .ok (.putfield 56, 3) := by decide +kernel
theorem dX12_init_136 : decode cX12_init 136 = .ok (.aload_n 0, 1) := by decide +kernel
theorem dX12_init_137 : decode cX12_init 137 = .ok (.bipush 13, 2) := by decide +kernel
theorem dX12_init_139 : decode cX12_init 139 = .ok (.newarray .int, 2) := by decide +kernel
theorem dX12_init_141 : decode cX12_init 141 = .ok (.putfield 59, 3) := by decide +kernel
theorem dX12_init_144 : decode cX12_init 144 = .ok (.aload_n 0, 1) := by decide +kernel
theorem dX12_init_145 : decode cX12_init 145 = .ok (.bipush 12, 2) := by decide +kernel
theorem dX12_init_147 : decode cX12_init 147 = .ok (.newarray .boolean, 2) := by decide +kernel
theorem dX12_init_149 : decode cX12_init 149 = .ok (.putfield 62, 3) := by decide +kernel
theorem dX12_init_152 : decode cX12_init 152 = .ok (.aload_n 0, 1) := by decide +kernel
theorem dX12_init_153 : decode cX12_init 153 = .ok (.sipush 1000, 3) := by decide +kernel
theorem dX12_init_156 : decode cX12_init 156 = .ok (.newarray .int, 2) := by decide +kernel
theorem dX12_init_158 : decode cX12_init 158 = .ok (.putfield 65, 3) := by decide +kernel
theorem dX12_init_161 : decode cX12_init 161 = .ok (.aload_n 0, 1) := by decide +kernel
theorem dX12_init_162 : decode cX12_init 162 = .ok (.iconst (-1), 1) := by decide +kernel
theorem dX12_init_163 : decode cX12_init 163 = .ok (.putfield 68, 3) := by decide +kernel
theorem dX12_init_166 : decode cX12_init 166 = .ok (.aload_n 0, 1) := by decide +kernel
theorem dX12_init_167 : decode cX12_init 167 = .ok (.sipush 400, 3) := by decide +kernel
theorem dX12_init_170 : decode cX12_init 170 = .ok (.newarray .int, 2) := by decide +kernel
theorem dX12_init_172 : decode cX12_init 172 = .ok (.putfield 72, 3) := by decide +kernel
theorem dX12_init_175 : decode cX12_init 175 = .ok (.aload_n 0, 1) := by decide +kernel
theorem dX12_init_176 : decode cX12_init 176 = .ok (.sipush 400, 3) := by decide +kernel
theorem dX12_init_179 : decode cX12_init 179 = .ok (.newarray .int, 2) := by decide +kernel
theorem dX12_init_181 : decode cX12_init 181 = .ok (.putfield 75, 3) := by decide +kernel
theorem dX12_init_184 : decode cX12_init 184 = .ok (.aload_n 0, 1) := by decide +kernel
theorem dX12_init_185 : decode cX12_init 185 = .ok (.bipush 14, 2) := by decide +kernel
theorem dX12_init_187 : decode cX12_init 187 = .ok (.newarray .int, 2) := by decide +kernel
theorem dX12_init_189 : decode cX12_init 189 = .ok (.putfield 78, 3) := by decide +kernel
theorem dX12_init_192 : decode cX12_init 192 = .ok (.aload_n 0, 1) := by decide +kernel
theorem dX12_init_193 : decode cX12_init 193 = .ok (.bipush 12, 2) := by decide +kernel
theorem dX12_init_195 : decode cX12_init 195 = .ok (.newarray .int, 2) := by decide +kernel
theorem dX12_init_197 : decode cX12_init 197 = .ok (.putfield 81, 3) := by decide +kernel
theorem dX12_init_200 : decode cX12_init 200 = .ok (.aload_n 0, 1) := by decide +kernel
theorem dX12_init_201 : decode cX12_init 201 = .ok (.bipush 12, 2) := by decide +kernel
theorem dX12_init_203 : decode cX12_init 203 = .ok (.newarray .int, 2) := by decide +kernel
theorem dX12_init_205 : decode cX12_init 205 = .ok (.putfield 84, 3) := by decide +kernel
theorem dX12_init_208 : decode cX12_init 208 = .ok (.aload_n 0, 1) := by decide +kernel
theorem dX12_init_209 : decode cX12_init 209 = .ok (.iconst 4, 1) := by decide +kernel
theorem dX12_init_210 : decode cX12_init 210 = .ok (.newarray .int, 2) := by decide +kernel
theorem dX12_init_212 : decode cX12_init 212 = .ok (.putfield 87, 3) := by decide +kernel
theorem dX12_init_215 : decode cX12_init 215 = .ok (.aload_n 0, 1) := by decide +kernel
theorem dX12_init_216 : decode cX12_init 216 = .ok (.bipush 80, 2) := by decide +kernel
theorem dX12_init_218 : decode cX12_init 218 = .ok (.newarray .int, 2) := by decide +kernel
theorem dX12_init_220 : decode cX12_init 220 = .ok (.putfield 90, 3) := by decide +kernel
theorem dX12_init_223 : decode cX12_init 223 = .ok (.aload_n 0, 1) := by decide +kernel
theorem dX12_init_224 : decode cX12_init 224 = .ok (.bipush 80, 2) := by decide +kernel
theorem dX12_init_226 : decode cX12_init 226 = .ok (.newarray .int, 2) := by decide +kernel
theorem dX12_init_228 : decode cX12_init 228 = .ok (.putfield 93, 3) := by decide +kernel
theorem dX12_init_231 : decode cX12_init 231 = .ok (.aload_n 0, 1) := by decide +kernel
theorem dX12_init_232 : decode cX12_init 232 = .ok (.iconst 4, 1) := by decide +kernel
theorem dX12_init_233 : decode cX12_init 233 = .ok (.newarray .int, 2) := by decide +kernel
theorem dX12_init_235 : decode cX12_init 235 = .ok (.putfield 96, 3) := by decide +kernel
theorem dX12_init_238 : decode cX12_init 238 = .ok (.aload_n 0, 1) := by decide +kernel
theorem dX12_init_239 : decode cX12_init 239 = .ok (.bipush 8, 2) := by decide +kernel
theorem dX12_init_241 : decode cX12_init 241 = .ok (.newarray .int, 2) := by decide +kernel
theorem dX12_init_243 : decode cX12_init 243 = .ok (.putfield 99, 3) := by decide +kernel
theorem dX12_init_246 : decode cX12_init 246 = .ok (.aload_n 0, 1) := by decide +kernel
theorem dX12_init_247 : decode cX12_init 247 = .ok (.iconst 3, 1) := by decide +kernel
theorem dX12_init_248 : decode cX12_init 248 = .ok (.newarray .int, 2) := by decide +kernel
theorem dX12_init_250 : decode cX12_init 250 = .ok (.putfield 102, 3) := by decide +kernel
theorem dX12_init_253 : decode cX12_init 253 = .ok (.aload_n 0, 1) := by decide +kernel
theorem dX12_init_254 : decode cX12_init 254 = .ok (.sipush 2000, 3) := by decide +kernel
theorem dX12_init_257 : decode cX12_init 257 = .ok (.newarray .int, 2) := by decide +kernel
theorem dX12_init_259 : decode cX12_init 259 = .ok (.putfield 105, 3) := by decide +kernel
theorem dX12_init_262 : decode cX12_init 262 = .ok (.aload_n 0, 1) := by decide +kernel
theorem dX12_init_263 : decode cX12_init 263 = .ok (.sipush 2000, 3) := by decide +kernel
theorem dX12_init_266 : decode cX12_init 266 = .ok (.newarray .int, 2) := by decide +kernel
theorem dX12_init_268 : decode cX12_init 268 = .ok (.putfield 108, 3) := by decide +kernel
theorem dX12_init_271 : decode cX12_init 271 = .ok (.aload_n 0, 1) := by decide +kernel
theorem dX12_init_272 : decode cX12_init 272 = .ok (.sipush 2000, 3) := by decide +kernel
theorem dX12_init_275 : decode cX12_init 275 = .ok (.newarray .int, 2) := by decide +kernel
theorem dX12_init_277 : decode cX12_init 277 = .ok (.putfield 111, 3) := by decide +kernel
theorem dX12_init_280 : decode cX12_init 280 = .ok (.aload_n 0, 1) := by decide +kernel
theorem dX12_init_281 : decode cX12_init 281 = .ok (.sipush 200, 3) := by decide +kernel
theorem dX12_init_284 : decode cX12_init 284 = .ok (.newarray .int, 2) := by decide +kernel
theorem dX12_init_286 : decode cX12_init 286 = .ok (.putfield 114, 3) := by decide +kernel
theorem dX12_init_289 : decode cX12_init 289 = .ok (.aload_n 0, 1) := by decide +kernel
theorem dX12_init_290 : decode cX12_init 290 = .ok (.sipush 200, 3) := by decide +kernel
theorem dX12_init_293 : decode cX12_init 293 = .ok (.newarray .int, 2) := by decide +kernel
theorem dX12_init_295 : decode cX12_init 295 = .ok (.putfield 117, 3) := by decide +kernel
theorem dX12_init_298 : decode cX12_init 298 = .ok (.aload_n 0, 1) := by decide +kernel
theorem dX12_init_299 : decode cX12_init 299 = .ok (.sipush 200, 3) := by decide +kernel
theorem dX12_init_302 : decode cX12_init 302 = .ok (.newarray .int, 2) := by decide +kernel
theorem dX12_init_304 : decode cX12_init 304 = .ok (.putfield 120, 3) := by decide +kernel
theorem dX12_init_307 : decode cX12_init 307 = .ok (.aload_n 0, 1) := by decide +kernel
theorem dX12_init_308 : decode cX12_init 308 = .ok (.sipush 200, 3) := by decide +kernel
theorem dX12_init_311 : decode cX12_init 311 = .ok (.newarray .int, 2) := by decide +kernel
theorem dX12_init_313 : decode cX12_init 313 = .ok (.putfield 123, 3) := by decide +kernel
theorem dX12_init_316 : decode cX12_init 316 = .ok (.aload_n 0, 1) := by decide +kernel
theorem dX12_init_317 : decode cX12_init 317 = .ok (.sipush 200, 3) := by decide +kernel
theorem dX12_init_320 : decode cX12_init 320 = .ok (.newarray .int, 2) := by decide +kernel
theorem dX12_init_322 : decode cX12_init 322 = .ok (.putfield 126, 3) := by decide +kernel
theorem dX12_init_325 : decode cX12_init 325 = .ok (.aload_n 0, 1) := by decide +kernel
theorem dX12_init_326 : decode cX12_init 326 = .ok (.bipush 20, 2) := by decide +kernel
theorem dX12_init_328 : decode cX12_init 328 = .ok (.newarray .int, 2) := by decide +kernel
theorem dX12_init_330 : decode cX12_init 330 = .ok (.putfield 129, 3) := by decide +kernel
theorem dX12_init_333 : decode cX12_init 333 = .ok (.return_, 1) := by decide +kernel
theorem dX12_isHorse_0 : decode cX12_isHorse 0 = .ok (.iload_n 1, 1) := by decide +kernel
theorem dX12_isHorse_1 : decode cX12_isHorse 1 = .ok (.ifCond .lt 15, 3) := by decide +kernel
theorem dX12_isHorse_4 : decode cX12_isHorse 4 = .ok (.iload_n 1, 1) := by decide +kernel
theorem dX12_isHorse_5 : decode cX12_isHorse 5 = .ok (.aload_n 0, 1) := by decide +kernel
theorem dX12_isHorse_6 : decode cX12_isHorse 6 = .ok (.getfield 132, 3) := by decide +kernel
theorem dX12_isHorse_9 : decode cX12_isHorse 9 = .ok (.if_icmp .ge 7, 3) := by decide +kernel
theorem dX12_isHorse_12 : decode cX12_isHorse 12 = .ok (.iconst 1, 1) := by decide +kernel
theorem dX12_isHorse_13 : decode cX12_isHorse 13 = .ok (.goto 4, 3) := by decide +kernel
theorem dX12_isHorse_16 : decode cX12_isHorse 16 = .ok (.iconst 0, 1) := by decide +kernel
theorem dX12_isHorse_17 : decode cX12_isHorse 17 = .ok (.ireturn, 1) := by decide +kernel
theorem dX12_isField_0 : decode cX12_isField 0 = .ok (.iload_n 0, 1) := by decide +kernel
theorem dX12_isField_1 : decode cX12_isField 1 = .ok (.ifCond .lt 13, 3) := by decide +kernel
theorem dX12_isField_4 : decode cX12_isField 4 = .ok (.iload_n 0, 1) := by decide +kernel
theorem dX12_isField_5 : decode cX12_isField 5 = .ok (.bipush 6, 2) := by decide +kernel
theorem dX12_isField_7 : decode cX12_isField 7 = .ok (.if_icmp .ge 7, 3) := by decide +kernel
theorem dX12_isField_10 : decode cX12_isField 10 = .ok (.iconst 1, 1) := by decide +kernel
theorem dX12_isField_11 : decode cX12_isField 11 = .ok (.goto 4, 3) := by decide +kernel
theorem dX12_isField_14 : decode cX12_isField 14 = .ok (.iconst 0, 1) := by decide +kernel
theorem dX12_isField_15 : decode cX12_isField 15 = .ok (.ireturn, 1) := by decide +kernel
theorem dX12_isBin_0 : decode cX12_isBin 0 = .ok (.iload_n 0, 1) := by decide +kernel
theorem dX12_isBin_1 : decode cX12_isBin 1 = .ok (.ifCond .lt 12, 3) := by decide +kernel
theorem dX12_isBin_4 : decode cX12_isBin 4 = .ok (.iload_n 0, 1) := by decide +kernel
theorem dX12_isBin_5 : decode cX12_isBin 5 = .ok (.iconst 4, 1) := by decide +kernel
theorem dX12_isBin_6 : decode cX12_isBin 6 = .ok (.if_icmp .ge 7, 3) := by decide +kernel
theorem dX12_isBin_9 : decode cX12_isBin 9 = .ok (.iconst 1, 1) := by decide +kernel
theorem dX12_isBin_10 : decode cX12_isBin 10 = .ok (.goto 4, 3) := by decide +kernel
theorem dX12_isBin_13 : decode cX12_isBin 13 = .ok (.iconst 0, 1) := by decide +kernel
theorem dX12_isBin_14 : decode cX12_isBin 14 = .ok (.ireturn, 1) := by decide +kernel
theorem dX12_horse_0 : decode cX12_horse 0 = .ok (.aload_n 0, 1) := by decide +kernel
theorem dX12_horse_1 : decode cX12_horse 1 = .ok (.getfield 132, 3) := by decide +kernel
theorem dX12_horse_4 : decode cX12_horse 4 = .ok (.bipush 12, 2) := by decide +kernel
theorem dX12_horse_6 : decode cX12_horse 6 = .ok (.if_icmp .eq 22, 3) := by decide +kernel
theorem dX12_horse_9 : decode cX12_horse 9 = .ok (.iload_n 1, 1) := by decide +kernel
theorem dX12_horse_10 : decode cX12_horse 10 = .ok (.ifCond .lt 18, 3) := by decide +kernel
theorem dX12_horse_13 : decode cX12_horse 13 = .ok (.iload_n 1, 1) := by decide +kernel
theorem dX12_horse_14 : decode cX12_horse 14 = .ok (.iconst 3, 1) := by decide +kernel
theorem dX12_horse_15 : decode cX12_horse 15 = .ok (.if_icmp .gt 13, 3) := by decide +kernel
theorem dX12_horse_18 : decode cX12_horse 18 = .ok (.iload_n 2, 1) := by decide +kernel
theorem dX12_horse_19 : decode cX12_horse 19 = .ok (.ifCond .lt 9, 3) := by decide +kernel
theorem dX12_horse_22 : decode cX12_horse 22 = .ok (.iload_n 2, 1) := by decide +kernel
theorem dX12_horse_23 : decode cX12_horse 23 = .ok (.bipush 40, 2) := by decide +kernel
theorem dX12_horse_25 : decode cX12_horse 25 = .ok (.if_icmp .le 5, 3) := by decide +kernel
theorem dX12_horse_28 : decode cX12_horse 28 = .ok (.iconst (-1), 1) := by decide +kernel
theorem dX12_horse_29 : decode cX12_horse 29 = .ok (.ireturn, 1) := by decide +kernel
theorem dX12_horse_30 : decode cX12_horse 30 = .ok (.aload_n 0, 1) := by decide +kernel
theorem dX12_horse_31 : decode cX12_horse 31 = .ok (.getfield 7, 3) := by decide +kernel
theorem dX12_horse_34 : decode cX12_horse 34 = .ok (.aload_n 0, 1) := by decide +kernel
theorem dX12_horse_35 : decode cX12_horse 35 = .ok (.getfield 132, 3) := by decide +kernel
theorem dX12_horse_38 : decode cX12_horse 38 = .ok (.iload_n 1, 1) := by decide +kernel
theorem dX12_horse_39 : decode cX12_horse 39 = .ok (.iastore, 1) := by decide +kernel
theorem dX12_horse_40 : decode cX12_horse 40 = .ok (.aload_n 0, 1) := by decide +kernel
theorem dX12_horse_41 : decode cX12_horse 41 = .ok (.getfield 13, 3) := by decide +kernel
theorem dX12_horse_44 : decode cX12_horse 44 = .ok (.aload_n 0, 1) := by decide +kernel
theorem dX12_horse_45 : decode cX12_horse 45 = .ok (.getfield 132, 3) := by decide +kernel
theorem dX12_horse_48 : decode cX12_horse 48 = .ok (.iload_n 2, 1) := by decide +kernel
theorem dX12_horse_49 : decode cX12_horse 49 = .ok (.iastore, 1) := by decide +kernel
theorem dX12_horse_50 : decode cX12_horse 50 = .ok (.aload_n 0, 1) := by decide +kernel
theorem dX12_horse_51 : decode cX12_horse 51 = .ok (.getfield 16, 3) := by decide +kernel
theorem dX12_horse_54 : decode cX12_horse 54 = .ok (.aload_n 0, 1) := by decide +kernel
theorem dX12_horse_55 : decode cX12_horse 55 = .ok (.getfield 132, 3) := by decide +kernel
theorem dX12_horse_58 : decode cX12_horse 58 = .ok (.aload_n 0, 1) := by decide +kernel
theorem dX12_horse_59 : decode cX12_horse 59 = .ok (.getfield 135, 3) := by decide +kernel
theorem dX12_horse_62 : decode cX12_horse 62 = .ok (.iastore, 1) := by decide +kernel
theorem dX12_horse_63 : decode cX12_horse 63 = .ok (.aload_n 0, 1) := by decide +kernel
theorem dX12_horse_64 : decode cX12_horse 64 = .ok (.dup, 1) := by decide +kernel
theorem dX12_horse_65 : decode cX12_horse 65 = .ok (.getfield 132, 3) := by decide +kernel
theorem dX12_horse_68 : decode cX12_horse 68 = .ok (.iconst 1, 1) := by decide +kernel
theorem dX12_horse_69 : decode cX12_horse 69 = .ok (.iadd, 1) := by decide +kernel
theorem dX12_horse_70 : decode cX12_horse 70 = .ok (.putfield 132, 3) := by decide +kernel
theorem dX12_horse_73 : decode cX12_horse 73 = .ok (.aload_n 0, 1) := by decide +kernel
theorem dX12_horse_74 : decode cX12_horse 74 = .ok (.iconst 0, 1) := by decide +kernel
theorem dX12_horse_75 : decode cX12_horse 75 = .ok (.putfield 138, 3) := by decide +kernel
theorem dX12_horse_78 : decode cX12_horse 78 = .ok (.aload_n 0, 1) := by decide +kernel
theorem dX12_horse_79 : decode cX12_horse 79 = .ok (.getfield 132, 3) := by decide +kernel
theorem dX12_horse_82 : decode cX12_horse 82 = .ok (.iconst 1, 1) := by decide +kernel
theorem dX12_horse_83 : decode cX12_horse 83 = .ok (.isub, 1) := by decide +kernel
theorem dX12_horse_84 : decode cX12_horse 84 = .ok (.ireturn, 1) := by decide +kernel
theorem dX12_lame_0 : decode cX12_lame 0 = .ok (.aload_n 0, 1) := by decide +kernel
theorem dX12_lame_1 : decode cX12_lame 1 = .ok (.iload_n 1, 1) := by decide +kernel
theorem dX12_lame_2 : decode cX12_lame 2 = .ok (.invokevirtual 142, 3) := by decide +kernel
theorem dX12_lame_5 : decode cX12_lame 5 = .ok (.ifCond .ne 5, 3) := by decide +kernel
theorem dX12_lame_8 : decode cX12_lame 8 = .ok (.iconst 0, 1) := by decide +kernel
theorem dX12_lame_9 : decode cX12_lame 9 = .ok (.ireturn, 1) := by decide +kernel
theorem dX12_lame_10 : decode cX12_lame 10 = .ok (.aload_n 0, 1) := by decide +kernel
theorem dX12_lame_11 : decode cX12_lame 11 = .ok (.getfield 19, 3) := by decide +kernel
theorem dX12_lame_14 : decode cX12_lame 14 = .ok (.iload_n 1, 1) := by decide +kernel
theorem dX12_lame_15 : decode cX12_lame 15 = .ok (.iload_n 2, 1) := by decide +kernel
theorem dX12_lame_16 : decode cX12_lame 16 = .ok (.ifCond .eq 7, 3) := by decide +kernel
theorem dX12_lame_19 : decode cX12_lame 19 = .ok (.iconst 1, 1) := by decide +kernel
theorem dX12_lame_20 : decode cX12_lame 20 = .ok (.goto 4, 3) := by decide +kernel
theorem dX12_lame_23 : decode cX12_lame 23 = .ok (.iconst 0, 1) := by decide +kernel
theorem dX12_lame_24 : decode cX12_lame 24 = .ok (.iastore, 1) := by decide +kernel
theorem dX12_lame_25 : decode cX12_lame 25 = .ok (.aload_n 0, 1) := by decide +kernel
theorem dX12_lame_26 : decode cX12_lame 26 = .ok (.iconst 0, 1) := by decide +kernel
theorem dX12_lame_27 : decode cX12_lame 27 = .ok (.putfield 138, 3) := by decide +kernel
theorem dX12_lame_30 : decode cX12_lame 30 = .ok (.iconst 1, 1) := by decide +kernel
theorem dX12_lame_31 : decode cX12_lame 31 = .ok (.ireturn, 1) := by decide +kernel
theorem dX12_field_0 : decode cX12_field 0 = .ok (.iload_n 1, 1) := by decide +kernel
theorem dX12_field_1 : decode cX12_field 1 = .ok (.invokestatic 146, 3) := by decide +kernel
theorem dX12_field_4 : decode cX12_field 4 = .ok (.ifCond .eq 23, 3) := by decide +kernel
theorem dX12_field_7 : decode cX12_field 7 = .ok (.iload_n 2, 1) := by decide +kernel
theorem dX12_field_8 : decode cX12_field 8 = .ok (.ifCond .lt 19, 3) := by decide +kernel
theorem dX12_field_11 : decode cX12_field 11 = .ok (.iload_n 2, 1) := by decide +kernel
theorem dX12_field_12 : decode cX12_field 12 = .ok (.bipush 6, 2) := by decide +kernel
theorem dX12_field_14 : decode cX12_field 14 = .ok (.if_icmp .gt 13, 3) := by decide +kernel
theorem dX12_field_17 : decode cX12_field 17 = .ok (.iload_n 3, 1) := by decide +kernel
theorem dX12_field_18 : decode cX12_field 18 = .ok (.ifCond .lt 9, 3) := by decide +kernel
theorem dX12_field_21 : decode cX12_field 21 = .ok (.iload_n 3, 1) := by decide +kernel
theorem dX12_field_22 : decode cX12_field 22 = .ok (.bipush 9, 2) := by decide +kernel
theorem dX12_field_24 : decode cX12_field 24 = .ok (.if_icmp .le 5, 3) := by decide +kernel
theorem dX12_field_27 : decode cX12_field 27 = .ok (.iconst 0, 1) := by decide +kernel
theorem dX12_field_28 : decode cX12_field 28 = .ok (.ireturn, 1) := by decide +kernel
theorem dX12_field_29 : decode cX12_field 29 = .ok (.aload_n 0, 1) := by decide +kernel
theorem dX12_field_30 : decode cX12_field 30 = .ok (.getfield 28, 3) := by decide +kernel
theorem dX12_field_33 : decode cX12_field 33 = .ok (.iload_n 1, 1) := by decide +kernel
theorem dX12_field_34 : decode cX12_field 34 = .ok (.iload_n 2, 1) := by decide +kernel
theorem dX12_field_35 : decode cX12_field 35 = .ok (.iastore, 1) := by decide +kernel
theorem dX12_field_36 : decode cX12_field 36 = .ok (.aload_n 0, 1) := by decide +kernel
theorem dX12_field_37 : decode cX12_field 37 = .ok (.getfield 31, 3) := by decide +kernel
theorem dX12_field_40 : decode cX12_field 40 = .ok (.iload_n 1, 1) := by decide +kernel
theorem dX12_field_41 : decode cX12_field 41 = .ok (.iload_n 3, 1) := by decide +kernel
theorem dX12_field_42 : decode cX12_field 42 = .ok (.iastore, 1) := by decide +kernel
theorem dX12_field_43 : decode cX12_field 43 = .ok (.aload_n 0, 1) := by decide +kernel
theorem dX12_field_44 : decode cX12_field 44 = .ok (.iconst 0, 1) := by decide +kernel
theorem dX12_field_45 : decode cX12_field 45 = .ok (.putfield 138, 3) := by decide +kernel
theorem dX12_field_48 : decode cX12_field 48 = .ok (.iconst 1, 1) := by decide +kernel
theorem dX12_field_49 : decode cX12_field 49 = .ok (.ireturn, 1) := by decide +kernel
theorem dX12_shut_0 : decode cX12_shut 0 = .ok (.iload_n 1, 1) := by decide +kernel
theorem dX12_shut_1 : decode cX12_shut 1 = .ok (.invokestatic 146, 3) := by decide +kernel
theorem dX12_shut_4 : decode cX12_shut 4 = .ok (.ifCond .eq 13, 3) := by decide +kernel
theorem dX12_shut_7 : decode cX12_shut 7 = .ok (.iload_n 2, 1) := by decide +kernel
theorem dX12_shut_8 : decode cX12_shut 8 = .ok (.ifCond .lt 9, 3) := by decide +kernel
theorem dX12_shut_11 : decode cX12_shut 11 = .ok (.iload_n 2, 1) := by decide +kernel
theorem dX12_shut_12 : decode cX12_shut 12 = .ok (.ldc 149, 2) := by decide +kernel
theorem dX12_shut_14 : decode cX12_shut 14 = .ok (.if_icmp .le 5, 3) := by decide +kernel
theorem dX12_shut_17 : decode cX12_shut 17 = .ok (.iconst 0, 1) := by decide +kernel
theorem dX12_shut_18 : decode cX12_shut 18 = .ok (.ireturn, 1) := by decide +kernel
theorem dX12_shut_19 : decode cX12_shut 19 = .ok (.aload_n 0, 1) := by decide +kernel
theorem dX12_shut_20 : decode cX12_shut 20 = .ok (.getfield 34, 3) := by decide +kernel
theorem dX12_shut_23 : decode cX12_shut 23 = .ok (.iload_n 1, 1) := by decide +kernel
theorem dX12_shut_24 : decode cX12_shut 24 = .ok (.iload_n 2, 1) := by decide +kernel
theorem dX12_shut_25 : decode cX12_shut 25 = .ok (.iastore, 1) := by decide +kernel
theorem dX12_shut_26 : decode cX12_shut 26 = .ok (.aload_n 0, 1) := by decide +kernel
theorem dX12_shut_27 : decode cX12_shut 27 = .ok (.iconst 0, 1) := by decide +kernel
theorem dX12_shut_28 : decode cX12_shut 28 = .ok (.putfield 138, 3) := by decide +kernel
theorem dX12_shut_31 : decode cX12_shut 31 = .ok (.iconst 1, 1) := by decide +kernel
theorem dX12_shut_32 : decode cX12_shut 32 = .ok (.ireturn, 1) := by decide +kernel
theorem dX12_gate_0 : decode cX12_gate 0 = .ok (.iload_n 1, 1) := by decide +kernel
theorem dX12_gate_1 : decode cX12_gate 1 = .ok (.invokestatic 146, 3) := by decide +kernel
theorem dX12_gate_4 : decode cX12_gate 4 = .ok (.ifCond .eq 15, 3) := by decide +kernel
theorem dX12_gate_7 : decode cX12_gate 7 = .ok (.iload_n 2, 1) := by decide +kernel
theorem dX12_gate_8 : decode cX12_gate 8 = .ok (.invokestatic 146, 3) := by decide +kernel
theorem dX12_gate_11 : decode cX12_gate 11 = .ok (.ifCond .eq 8, 3) := by decide +kernel
theorem dX12_gate_14 : decode cX12_gate 14 = .ok (.iload_n 1, 1) := by decide +kernel
theorem dX12_gate_15 : decode cX12_gate 15 = .ok (.iload_n 2, 1) := by decide +kernel
theorem dX12_gate_16 : decode cX12_gate 16 = .ok (.if_icmp .ne 5, 3) := by decide +kernel
theorem dX12_gate_19 : decode cX12_gate 19 = .ok (.iconst 0, 1) := by decide +kernel
theorem dX12_gate_20 : decode cX12_gate 20 = .ok (.ireturn, 1) := by decide +kernel
theorem dX12_gate_21 : decode cX12_gate 21 = .ok (.aload_n 0, 1) := by decide +kernel
theorem dX12_gate_22 : decode cX12_gate 22 = .ok (.getfield 37, 3) := by decide +kernel
theorem dX12_gate_25 : decode cX12_gate 25 = .ok (.bipush 6, 2) := by decide +kernel
theorem dX12_gate_27 : decode cX12_gate 27 = .ok (.iload_n 1, 1) := by decide +kernel
theorem dX12_gate_28 : decode cX12_gate 28 = .ok (.imul, 1) := by decide +kernel
theorem dX12_gate_29 : decode cX12_gate 29 = .ok (.iload_n 2, 1) := by decide +kernel
theorem dX12_gate_30 : decode cX12_gate 30 = .ok (.iadd, 1) := by decide +kernel
theorem dX12_gate_31 : decode cX12_gate 31 = .ok (.iload_n 3, 1) := by decide +kernel
theorem dX12_gate_32 : decode cX12_gate 32 = .ok (.bastore, 1) := by decide +kernel
theorem dX12_gate_33 : decode cX12_gate 33 = .ok (.aload_n 0, 1) := by decide +kernel
theorem dX12_gate_34 : decode cX12_gate 34 = .ok (.getfield 37, 3) := by decide +kernel
theorem dX12_gate_37 : decode cX12_gate 37 = .ok (.bipush 6, 2) := by decide +kernel
theorem dX12_gate_39 : decode cX12_gate 39 = .ok (.iload_n 2, 1) := by decide +kernel
theorem dX12_gate_40 : decode cX12_gate 40 = .ok (.imul, 1) := by decide +kernel
theorem dX12_gate_41 : decode cX12_gate 41 = .ok (.iload_n 1, 1) := by decide +kernel
theorem dX12_gate_42 : decode cX12_gate 42 = .ok (.iadd, 1) := by decide +kernel
theorem dX12_gate_43 : decode cX12_gate 43 = .ok (.iload_n 3, 1) := by decide +kernel
theorem dX12_gate_44 : decode cX12_gate 44 = .ok (.bastore, 1) := by decide +kernel
theorem dX12_gate_45 : decode cX12_gate 45 = .ok (.aload_n 0, 1) := by decide +kernel
theorem dX12_gate_46 : decode cX12_gate 46 = .ok (.iconst 0, 1) := by decide +kernel
theorem dX12_gate_47 : decode cX12_gate 47 = .ok (.putfield 138, 3) := by decide +kernel
theorem dX12_gate_50 : decode cX12_gate 50 = .ok (.iconst 1, 1) := by decide +kernel
theorem dX12_gate_51 : decode cX12_gate 51 = .ok (.ireturn, 1) := by decide +kernel
theorem dX12_feed_0 : decode cX12_feed 0 = .ok (.aload_n 0, 1) := by decide +kernel
theorem dX12_feed_1 : decode cX12_feed 1 = .ok (.getfield 150, 3) := by decide +kernel
theorem dX12_feed_4 : decode cX12_feed 4 = .ok (.bipush 20, 2) := by decide +kernel
theorem dX12_feed_6 : decode cX12_feed 6 = .ok (.iadd, 1) := by decide +kernel
theorem dX12_feed_7 : decode cX12_feed 7 = .ok (.sipush 1000, 3) := by decide +kernel
theorem dX12_feed_10 : decode cX12_feed 10 = .ok (.if_icmp .le 5, 3) := by decide +kernel
theorem dX12_feed_13 : decode cX12_feed 13 = .ok (.iconst (-1), 1) := by decide +kernel
theorem dX12_feed_14 : decode cX12_feed 14 = .ok (.ireturn, 1) := by decide +kernel
theorem dX12_feed_15 : decode cX12_feed 15 = .ok (.aload_n 0, 1) := by decide +kernel
theorem dX12_feed_16 : decode cX12_feed 16 = .ok (.iload_n 1, 1) := by decide +kernel
theorem dX12_feed_17 : decode cX12_feed 17 = .ok (.invokevirtual 153, 3) := by decide +kernel
theorem dX12_feed_20 : decode cX12_feed 20 = .ok (.aload_n 0, 1) := by decide +kernel
theorem dX12_feed_21 : decode cX12_feed 21 = .ok (.iload_n 2, 1) := by decide +kernel
theorem dX12_feed_22 : decode cX12_feed 22 = .ok (.invokevirtual 153, 3) := by decide +kernel
theorem dX12_feed_25 : decode cX12_feed 25 = .ok (.aload_n 0, 1) := by decide +kernel
theorem dX12_feed_26 : decode cX12_feed 26 = .ok (.iload_n 3, 1) := by decide +kernel
theorem dX12_feed_27 : decode cX12_feed 27 = .ok (.invokevirtual 153, 3) := by decide +kernel
theorem dX12_feed_30 : decode cX12_feed 30 = .ok (.aload_n 0, 1) := by decide +kernel
theorem dX12_feed_31 : decode cX12_feed 31 = .ok (.iload 4, 2) := by decide +kernel
theorem dX12_feed_33 : decode cX12_feed 33 = .ok (.invokevirtual 153, 3) := by decide +kernel
theorem dX12_feed_36 : decode cX12_feed 36 = .ok (.aload_n 0, 1) := by decide +kernel
theorem dX12_feed_37 : decode cX12_feed 37 = .ok (.iload 5, 2) := by decide +kernel
theorem dX12_feed_39 : decode cX12_feed 39 = .ok (.invokevirtual 153, 3) := by decide +kernel
theorem dX12_feed_42 : decode cX12_feed 42 = .ok (.aload_n 0, 1) := by decide +kernel
theorem dX12_feed_43 : decode cX12_feed 43 = .ok (.getfield 150, 3) := by decide +kernel
theorem dX12_feed_46 : decode cX12_feed 46 = .ok (.ireturn, 1) := by decide +kernel
theorem dX12_four_0 : decode cX12_four 0 = .ok (.bipush 24, 2) := by decide +kernel
theorem dX12_four_2 : decode cX12_four 2 = .ok (.istore_n 2, 1) := by decide +kernel
theorem dX12_four_3 : decode cX12_four 3 = .ok (.iload_n 2, 1) := by decide +kernel
theorem dX12_four_4 : decode cX12_four 4 = .ok (.ifCond .lt 35, 3) := by decide +kernel
theorem dX12_four_7 : decode cX12_four 7 = .ok (.aload_n 0, 1) := by decide +kernel
theorem dX12_four_8 : decode cX12_four 8 = .ok (.getfield 65, 3) := by decide +kernel
theorem dX12_four_11 : decode cX12_four 11 = .ok (.aload_n 0, 1) := by decide +kernel
theorem dX12_four_12 : decode cX12_four 12 = .ok (.getfield 150, 3) := by decide +kernel
theorem dX12_four_15 : decode cX12_four 15 = .ok (.iload_n 1, 1) := by decide +kernel
theorem dX12_four_16 : decode cX12_four 16 = .ok (.iload_n 2, 1) := by decide +kernel
theorem dX12_four_17 : decode cX12_four 17 = .ok (.ishr, 1) := by decide +kernel
theorem dX12_four_18 : decode cX12_four 18 = .ok (.sipush 255, 3) := by decide +kernel
theorem dX12_four_21 : decode cX12_four 21 = .ok (.iand, 1) := by decide +kernel
theorem dX12_four_22 : decode cX12_four 22 = .ok (.iastore, 1) := by decide +kernel
theorem dX12_four_23 : decode cX12_four 23 = .ok (.aload_n 0, 1) := by decide +kernel
theorem dX12_four_24 : decode cX12_four 24 = .ok (.dup, 1) := by decide +kernel
theorem dX12_four_25 : decode cX12_four 25 = .ok (.getfield 150, 3) := by decide +kernel
theorem dX12_four_28 : decode cX12_four 28 = .ok (.iconst 1, 1) := by decide +kernel
theorem dX12_four_29 : decode cX12_four 29 = .ok (.iadd, 1) := by decide +kernel
theorem dX12_four_30 : decode cX12_four 30 = .ok (.putfield 150, 3) := by decide +kernel
theorem dX12_four_33 : decode cX12_four 33 = .ok (.iinc 2 (-8), 3) := by decide +kernel
theorem dX12_four_36 : decode cX12_four 36 = .ok (.goto (-33), 3) := by decide +kernel
theorem dX12_four_39 : decode cX12_four 39 = .ok (.return_, 1) := by decide +kernel
theorem dX12_end_0 : decode cX12_end 0 = .ok (.iload_n 1, 1) := by decide +kernel
theorem dX12_end_1 : decode cX12_end 1 = .ok (.ifCond .lt 11, 3) := by decide +kernel
theorem dX12_end_4 : decode cX12_end 4 = .ok (.iload_n 1, 1) := by decide +kernel
theorem dX12_end_5 : decode cX12_end 5 = .ok (.aload_n 0, 1) := by decide +kernel
theorem dX12_end_6 : decode cX12_end 6 = .ok (.getfield 150, 3) := by decide +kernel
theorem dX12_end_9 : decode cX12_end 9 = .ok (.if_icmp .le 5, 3) := by decide +kernel
theorem dX12_end_12 : decode cX12_end 12 = .ok (.iconst (-1), 1) := by decide +kernel
theorem dX12_end_13 : decode cX12_end 13 = .ok (.ireturn, 1) := by decide +kernel
theorem dX12_end_14 : decode cX12_end 14 = .ok (.aload_n 0, 1) := by decide +kernel
theorem dX12_end_15 : decode cX12_end 15 = .ok (.iload_n 1, 1) := by decide +kernel
theorem dX12_end_16 : decode cX12_end 16 = .ok (.putfield 150, 3) := by decide +kernel
theorem dX12_end_19 : decode cX12_end 19 = .ok (.iload_n 1, 1) := by decide +kernel
theorem dX12_end_20 : decode cX12_end 20 = .ok (.ireturn, 1) := by decide +kernel
theorem dX12_here_0 : decode cX12_here 0 = .ok (.aload_n 0, 1) := by decide +kernel
theorem dX12_here_1 : decode cX12_here 1 = .ok (.getfield 157, 3) := by decide +kernel
theorem dX12_here_4 : decode cX12_here 4 = .ok (.iload_n 1, 1) := by decide +kernel
theorem dX12_here_5 : decode cX12_here 5 = .ok (.iadd, 1) := by decide +kernel
theorem dX12_here_6 : decode cX12_here 6 = .ok (.aload_n 0, 1) := by decide +kernel
theorem dX12_here_7 : decode cX12_here 7 = .ok (.getfield 160, 3) := by decide +kernel
theorem dX12_here_10 : decode cX12_here 10 = .ok (.if_icmp .ge 17, 3) := by decide +kernel
theorem dX12_here_13 : decode cX12_here 13 = .ok (.aload_n 0, 1) := by decide +kernel
theorem dX12_here_14 : decode cX12_here 14 = .ok (.getfield 65, 3) := by decide +kernel
theorem dX12_here_17 : decode cX12_here 17 = .ok (.aload_n 0, 1) := by decide +kernel
theorem dX12_here_18 : decode cX12_here 18 = .ok (.getfield 157, 3) := by decide +kernel
theorem dX12_here_21 : decode cX12_here 21 = .ok (.iload_n 1, 1) := by decide +kernel
theorem dX12_here_22 : decode cX12_here 22 = .ok (.iadd, 1) := by decide +kernel
theorem dX12_here_23 : decode cX12_here 23 = .ok (.iaload, 1) := by decide +kernel
theorem dX12_here_24 : decode cX12_here 24 = .ok (.goto 4, 3) := by decide +kernel
theorem dX12_here_27 : decode cX12_here 27 = .ok (.iconst (-1), 1) := by decide +kernel
theorem dX12_here_28 : decode cX12_here 28 = .ok (.ireturn, 1) := by decide +kernel
theorem dX12_isLetter_0 : decode cX12_isLetter 0 = .ok (.iload_n 0, 1) := by decide +kernel
theorem dX12_isLetter_1 : decode cX12_isLetter 1 = .ok (.bipush 97, 2) := by decide +kernel
theorem dX12_isLetter_3 : decode cX12_isLetter 3 = .ok (.if_icmp .lt 13, 3) := by decide +kernel
theorem dX12_isLetter_6 : decode cX12_isLetter 6 = .ok (.iload_n 0, 1) := by decide +kernel
theorem dX12_isLetter_7 : decode cX12_isLetter 7 = .ok (.bipush 122, 2) := by decide +kernel
theorem dX12_isLetter_9 : decode cX12_isLetter 9 = .ok (.if_icmp .gt 7, 3) := by decide +kernel
theorem dX12_isLetter_12 : decode cX12_isLetter 12 = .ok (.iconst 1, 1) := by decide +kernel
theorem dX12_isLetter_13 : decode cX12_isLetter 13 = .ok (.goto 4, 3) := by decide +kernel
theorem dX12_isLetter_16 : decode cX12_isLetter 16 = .ok (.iconst 0, 1) := by decide +kernel
theorem dX12_isLetter_17 : decode cX12_isLetter 17 = .ok (.ireturn, 1) := by decide +kernel
theorem dX12_isDigit_0 : decode cX12_isDigit 0 = .ok (.iload_n 0, 1) := by decide +kernel
theorem dX12_isDigit_1 : decode cX12_isDigit 1 = .ok (.bipush 48, 2) := by decide +kernel
theorem dX12_isDigit_3 : decode cX12_isDigit 3 = .ok (.if_icmp .lt 13, 3) := by decide +kernel
theorem dX12_isDigit_6 : decode cX12_isDigit 6 = .ok (.iload_n 0, 1) := by decide +kernel
theorem dX12_isDigit_7 : decode cX12_isDigit 7 = .ok (.bipush 57, 2) := by decide +kernel
theorem dX12_isDigit_9 : decode cX12_isDigit 9 = .ok (.if_icmp .gt 7, 3) := by decide +kernel
theorem dX12_isDigit_12 : decode cX12_isDigit 12 = .ok (.iconst 1, 1) := by decide +kernel
theorem dX12_isDigit_13 : decode cX12_isDigit 13 = .ok (.goto 4, 3) := by decide +kernel
theorem dX12_isDigit_16 : decode cX12_isDigit 16 = .ok (.iconst 0, 1) := by decide +kernel
theorem dX12_isDigit_17 : decode cX12_isDigit 17 = .ok (.ireturn, 1) := by decide +kernel
theorem dX12_isSign_0 : decode cX12_isSign 0 = .ok (.iload_n 0, 1) := by decide +kernel
theorem dX12_isSign_1 : decode cX12_isSign 1 = .ok (.bipush 59, 2) := by decide +kernel
theorem dX12_isSign_3 : decode cX12_isSign 3 = .ok (.if_icmp .eq 45, 3) := by decide +kernel
theorem dX12_isSign_6 : decode cX12_isSign 6 = .ok (.iload_n 0, 1) := by decide +kernel
theorem dX12_isSign_7 : decode cX12_isSign 7 = .ok (.bipush 61, 2) := by decide +kernel
theorem dX12_isSign_9 : decode cX12_isSign 9 = .ok (.if_icmp .eq 39, 3) := by decide +kernel
theorem dX12_isSign_12 : decode cX12_isSign 12 = .ok (.iload_n 0, 1) := by decide +kernel
theorem dX12_isSign_13 : decode cX12_isSign 13 = .ok (.bipush 60, 2) := by decide +kernel
theorem dX12_isSign_15 : decode cX12_isSign 15 = .ok (.if_icmp .eq 33, 3) := by decide +kernel
theorem dX12_isSign_18 : decode cX12_isSign 18 = .ok (.iload_n 0, 1) := by decide +kernel
theorem dX12_isSign_19 : decode cX12_isSign 19 = .ok (.bipush 62, 2) := by decide +kernel
theorem dX12_isSign_21 : decode cX12_isSign 21 = .ok (.if_icmp .eq 27, 3) := by decide +kernel
theorem dX12_isSign_24 : decode cX12_isSign 24 = .ok (.iload_n 0, 1) := by decide +kernel
theorem dX12_isSign_25 : decode cX12_isSign 25 = .ok (.bipush 43, 2) := by decide +kernel
theorem dX12_isSign_27 : decode cX12_isSign 27 = .ok (.if_icmp .eq 21, 3) := by decide +kernel
theorem dX12_isSign_30 : decode cX12_isSign 30 = .ok (.iload_n 0, 1) := by decide +kernel
theorem dX12_isSign_31 : decode cX12_isSign 31 = .ok (.bipush 45, 2) := by decide +kernel
theorem dX12_isSign_33 : decode cX12_isSign 33 = .ok (.if_icmp .eq 15, 3) := by decide +kernel
theorem dX12_isSign_36 : decode cX12_isSign 36 = .ok (.iload_n 0, 1) := by decide +kernel
theorem dX12_isSign_37 : decode cX12_isSign 37 = .ok (.bipush 40, 2) := by decide +kernel
theorem dX12_isSign_39 : decode cX12_isSign 39 = .ok (.if_icmp .eq 9, 3) := by decide +kernel
theorem dX12_isSign_42 : decode cX12_isSign 42 = .ok (.iload_n 0, 1) := by decide +kernel
theorem dX12_isSign_43 : decode cX12_isSign 43 = .ok (.bipush 41, 2) := by decide +kernel
theorem dX12_isSign_45 : decode cX12_isSign 45 = .ok (.if_icmp .ne 7, 3) := by decide +kernel
theorem dX12_isSign_48 : decode cX12_isSign 48 = .ok (.iconst 1, 1) := by decide +kernel
theorem dX12_isSign_49 : decode cX12_isSign 49 = .ok (.goto 4, 3) := by decide +kernel
theorem dX12_isSign_52 : decode cX12_isSign 52 = .ok (.iconst 0, 1) := by decide +kernel
theorem dX12_isSign_53 : decode cX12_isSign 53 = .ok (.ireturn, 1) := by decide +kernel
theorem dX12_next_0 : decode cX12_next 0 = .ok (.aload_n 0, 1) := by decide +kernel
theorem dX12_next_1 : decode cX12_next 1 = .ok (.iconst 0, 1) := by decide +kernel
theorem dX12_next_2 : decode cX12_next 2 = .ok (.invokevirtual 163, 3) := by decide +kernel
theorem dX12_next_5 : decode cX12_next 5 = .ok (.bipush 32, 2) := by decide +kernel
theorem dX12_next_7 : decode cX12_next 7 = .ok (.if_icmp .eq 13, 3) := by decide +kernel
theorem dX12_next_10 : decode cX12_next 10 = .ok (.aload_n 0, 1) := by decide +kernel
theorem dX12_next_11 : decode cX12_next 11 = .ok (.iconst 0, 1) := by decide +kernel
theorem dX12_next_12 : decode cX12_next 12 = .ok (.invokevirtual 163, 3) := by decide +kernel
theorem dX12_next_15 : decode cX12_next 15 = .ok (.bipush 10, 2) := by decide +kernel
theorem dX12_next_17 : decode cX12_next 17 = .ok (.if_icmp .ne 16, 3) := by decide +kernel
theorem dX12_next_20 : decode cX12_next 20 = .ok (.aload_n 0, 1) := by decide +kernel
theorem dX12_next_21 : decode cX12_next 21 = .ok (.dup, 1) := by decide +kernel
theorem dX12_next_22 : decode cX12_next 22 = .ok (.getfield 157, 3) := by decide +kernel
theorem dX12_next_25 : decode cX12_next 25 = .ok (.iconst 1, 1) := by decide +kernel
theorem dX12_next_26 : decode cX12_next 26 = .ok (.iadd, 1) := by decide +kernel
theorem dX12_next_27 : decode cX12_next 27 = .ok (.putfield 157, 3) := by decide +kernel
theorem dX12_next_30 : decode cX12_next 30 = .ok (.goto (-30), 3) := by decide +kernel
theorem dX12_next_33 : decode cX12_next 33 = .ok (.aload_n 0, 1) := by decide +kernel
theorem dX12_next_34 : decode cX12_next 34 = .ok (.aload_n 0, 1) := by decide +kernel
theorem dX12_next_35 : decode cX12_next 35 = .ok (.getfield 157, 3) := by decide +kernel
theorem dX12_next_38 : decode cX12_next 38 = .ok (.putfield 167, 3) := by decide +kernel
theorem dX12_next_41 : decode cX12_next 41 = .ok (.aload_n 0, 1) := by decide +kernel
theorem dX12_next_42 : decode cX12_next 42 = .ok (.iconst 0, 1) := by decide +kernel
theorem dX12_next_43 : decode cX12_next 43 = .ok (.invokevirtual 163, 3) := by decide +kernel
theorem dX12_next_46 : decode cX12_next 46 = .ok (.istore_n 1, 1) := by decide +kernel
theorem dX12_next_47 : decode cX12_next 47 = .ok (.iconst 0, 1) := by decide +kernel
theorem dX12_next_48 : decode cX12_next 48 = .ok (.istore_n 2, 1) := by decide +kernel
theorem dX12_next_49 : decode cX12_next 49 = .ok (.aload_n 0, 1) := by decide +kernel
theorem dX12_next_50 : decode cX12_next 50 = .ok (.lconst 0, 1) := by decide +kernel
theorem dX12_next_51 : decode cX12_next 51 = .ok (.putfield 170, 3) := by decide +kernel
theorem dX12_next_54 : decode cX12_next 54 = .ok (.aload_n 0, 1) := by decide +kernel
theorem dX12_next_55 : decode cX12_next 55 = .ok (.iconst 0, 1) := by decide +kernel
theorem dX12_next_56 : decode cX12_next 56 = .ok (.putfield 174, 3) := by decide +kernel
theorem dX12_next_59 : decode cX12_next 59 = .ok (.iload_n 1, 1) := by decide +kernel
theorem dX12_next_60 : decode cX12_next 60 = .ok (.ifCond .ge 11, 3) := by decide +kernel
theorem dX12_next_63 : decode cX12_next 63 = .ok (.aload_n 0, 1) := by decide +kernel
theorem dX12_next_64 : decode cX12_next 64 = .ok (.iconst 0, 1) := by decide +kernel
theorem dX12_next_65 : decode cX12_next 65 = .ok (.putfield 177, 3) := by decide +kernel
theorem dX12_next_68 : decode cX12_next 68 = .ok (.goto 177, 3) := by decide +kernel
theorem dX12_next_71 : decode cX12_next 71 = .ok (.iload_n 1, 1) := by decide +kernel
theorem dX12_next_72 : decode cX12_next 72 = .ok (.invokestatic 180, 3) := by decide +kernel
theorem dX12_next_75 : decode cX12_next 75 = .ok (.ifCond .eq 73, 3) := by decide +kernel
theorem dX12_next_78 : decode cX12_next 78 = .ok (.aload_n 0, 1) := by decide +kernel
theorem dX12_next_79 : decode cX12_next 79 = .ok (.iload_n 2, 1) := by decide +kernel
theorem dX12_next_80 : decode cX12_next 80 = .ok (.invokevirtual 163, 3) := by decide +kernel
theorem dX12_next_83 : decode cX12_next 83 = .ok (.invokestatic 180, 3) := by decide +kernel
theorem dX12_next_86 : decode cX12_next 86 = .ok (.ifCond .ne 14, 3) := by decide +kernel
theorem dX12_next_89 : decode cX12_next 89 = .ok (.aload_n 0, 1) := by decide +kernel
theorem dX12_next_90 : decode cX12_next 90 = .ok (.iload_n 2, 1) := by decide +kernel
theorem dX12_next_91 : decode cX12_next 91 = .ok (.invokevirtual 163, 3) := by decide +kernel
theorem dX12_next_94 : decode cX12_next 94 = .ok (.invokestatic 183, 3) := by decide +kernel
theorem dX12_next_97 : decode cX12_next 97 = .ok (.ifCond .eq 33, 3) := by decide +kernel
theorem dX12_next_100 : decode cX12_next 100 = .ok (.iload_n 2, 1) := by decide +kernel
theorem dX12_next_101 : decode cX12_next 101 = .ok (.bipush 8, 2) := by decide +kernel
theorem dX12_next_103 : decode cX12_next 103 = .ok (.if_icmp .ge 21, 3) := by decide +kernel
theorem dX12_next_106 : decode cX12_next 106 = .ok (.aload_n 0, 1) := by decide +kernel
theorem dX12_next_107 : decode cX12_next 107 = .ok (.aload_n 0, 1) := by decide +kernel
theorem dX12_next_108 : decode cX12_next 108 = .ok (.getfield 170, 3) := by decide +kernel
theorem dX12_next_111 : decode cX12_next 111 = .ok (.bipush 8, 2) := by decide +kernel
theorem dX12_next_113 : decode cX12_next 113 = .ok (.lshl, 1) := by decide +kernel
theorem dX12_next_114 : decode cX12_next 114 = .ok (.aload_n 0, 1) := by decide +kernel
theorem dX12_next_115 : decode cX12_next 115 = .ok (.iload_n 2, 1) := by decide +kernel
theorem dX12_next_116 : decode cX12_next 116 = .ok (.invokevirtual 163, 3) := by decide +kernel
theorem dX12_next_119 : decode cX12_next 119 = .ok (.i2l, 1) := by decide +kernel
theorem dX12_next_120 : decode cX12_next 120 = .ok (.lor, 1) := by decide +kernel
theorem dX12_next_121 : decode cX12_next 121 = .ok (.putfield 170, 3) := by decide +kernel
theorem dX12_next_124 : decode cX12_next 124 = .ok (.iinc 2 1, 3) := by decide +kernel
theorem dX12_next_127 : decode cX12_next 127 = .ok (.goto (-49), 3) := by decide +kernel
theorem dX12_next_130 : decode cX12_next 130 = .ok (.aload_n 0, 1) := by decide +kernel
theorem dX12_next_131 : decode cX12_next 131 = .ok (.iload_n 2, 1) := by decide +kernel
theorem dX12_next_132 : decode cX12_next 132 = .ok (.bipush 8, 2) := by decide +kernel
theorem dX12_next_134 : decode cX12_next 134 = .ok (.if_icmp .le 7, 3) := by decide +kernel
theorem dX12_next_137 : decode cX12_next 137 = .ok (.iconst 3, 1) := by decide +kernel
theorem dX12_next_138 : decode cX12_next 138 = .ok (.goto 4, 3) := by decide +kernel
theorem dX12_next_141 : decode cX12_next 141 = .ok (.iconst 1, 1) := by decide +kernel
theorem dX12_next_142 : decode cX12_next 142 = .ok (.putfield 177, 3) := by decide +kernel
theorem dX12_next_145 : decode cX12_next 145 = .ok (.goto 100, 3) := by decide +kernel
theorem dX12_next_148 : decode cX12_next 148 = .ok (.iload_n 1, 1) := by decide +kernel
theorem dX12_next_149 : decode cX12_next 149 = .ok (.invokestatic 183, 3) := by decide +kernel
theorem dX12_next_152 : decode cX12_next 152 = .ok (.ifCond .eq 75, 3) := by decide +kernel
theorem dX12_next_155 : decode cX12_next 155 = .ok (.aload_n 0, 1) := by decide +kernel
theorem dX12_next_156 : decode cX12_next 156 = .ok (.iload_n 2, 1) := by decide +kernel
theorem dX12_next_157 : decode cX12_next 157 = .ok (.invokevirtual 163, 3) := by decide +kernel
theorem dX12_next_160 : decode cX12_next 160 = .ok (.invokestatic 183, 3) := by decide +kernel
theorem dX12_next_163 : decode cX12_next 163 = .ok (.ifCond .eq 35, 3) := by decide +kernel
theorem dX12_next_166 : decode cX12_next 166 = .ok (.iload_n 2, 1) := by decide +kernel
theorem dX12_next_167 : decode cX12_next 167 = .ok (.bipush 6, 2) := by decide +kernel
theorem dX12_next_169 : decode cX12_next 169 = .ok (.if_icmp .ge 23, 3) := by decide +kernel
theorem dX12_next_172 : decode cX12_next 172 = .ok (.aload_n 0, 1) := by decide +kernel
theorem dX12_next_173 : decode cX12_next 173 = .ok (.bipush 10, 2) := by decide +kernel
theorem dX12_next_175 : decode cX12_next 175 = .ok (.aload_n 0, 1) := by decide +kernel
theorem dX12_next_176 : decode cX12_next 176 = .ok (.getfield 174, 3) := by decide +kernel
theorem dX12_next_179 : decode cX12_next 179 = .ok (.imul, 1) := by decide +kernel
theorem dX12_next_180 : decode cX12_next 180 = .ok (.aload_n 0, 1) := by decide +kernel
theorem dX12_next_181 : decode cX12_next 181 = .ok (.iload_n 2, 1) := by decide +kernel
theorem dX12_next_182 : decode cX12_next 182 = .ok (.invokevirtual 163, 3) := by decide +kernel
theorem dX12_next_185 : decode cX12_next 185 = .ok (.iadd, 1) := by decide +kernel
theorem dX12_next_186 : decode cX12_next 186 = .ok (.bipush 48, 2) := by decide +kernel
theorem dX12_next_188 : decode cX12_next 188 = .ok (.isub, 1) := by decide +kernel
theorem dX12_next_189 : decode cX12_next 189 = .ok (.putfield 174, 3) := by decide +kernel
theorem dX12_next_192 : decode cX12_next 192 = .ok (.iinc 2 1, 3) := by decide +kernel
theorem dX12_next_195 : decode cX12_next 195 = .ok (.goto (-40), 3) := by decide +kernel
theorem dX12_next_198 : decode cX12_next 198 = .ok (.aload_n 0, 1) := by decide +kernel
theorem dX12_next_199 : decode cX12_next 199 = .ok (.iload_n 2, 1) := by decide +kernel
theorem dX12_next_200 : decode cX12_next 200 = .ok (.bipush 6, 2) := by decide +kernel
theorem dX12_next_202 : decode cX12_next 202 = .ok (.if_icmp .gt 14, 3) := by decide +kernel
theorem dX12_next_205 : decode cX12_next 205 = .ok (.aload_n 0, 1) := by decide +kernel
theorem dX12_next_206 : decode cX12_next 206 = .ok (.iload_n 2, 1) := by decide +kernel
theorem dX12_next_207 : decode cX12_next 207 = .ok (.invokevirtual 163, 3) := by decide +kernel
theorem dX12_next_210 : decode cX12_next 210 = .ok (.invokestatic 180, 3) := by decide +kernel
theorem dX12_next_213 : decode cX12_next 213 = .ok (.ifCond .eq 7, 3) := by decide +kernel
theorem dX12_next_216 : decode cX12_next 216 = .ok (.iconst 3, 1) := by decide +kernel
theorem dX12_next_217 : decode cX12_next 217 = .ok (.goto 4, 3) := by decide +kernel
theorem dX12_next_220 : decode cX12_next 220 = .ok (.iconst 2, 1) := by decide +kernel
theorem dX12_next_221 : decode cX12_next 221 = .ok (.putfield 177, 3) := by decide +kernel
theorem dX12_next_224 : decode cX12_next 224 = .ok (.goto 21, 3) := by decide +kernel
theorem dX12_next_227 : decode cX12_next 227 = .ok (.iconst 1, 1) := by decide +kernel
theorem dX12_next_228 : decode cX12_next 228 = .ok (.istore_n 2, 1) := by decide +kernel
theorem dX12_next_229 : decode cX12_next 229 = .ok (.aload_n 0, 1) := by decide +kernel
theorem dX12_next_230 : decode cX12_next 230 = .ok (.iload_n 1, 1) := by decide +kernel
theorem dX12_next_231 : decode cX12_next 231 = .ok (.invokestatic 186, 3) := by decide +kernel
theorem dX12_next_234 : decode cX12_next 234 = .ok (.ifCond .eq 7, 3) := by decide +kernel
theorem dX12_next_237 : decode cX12_next 237 = .ok (.iload_n 1, 1) := by decide +kernel
theorem dX12_next_238 : decode cX12_next 238 = .ok (.goto 4, 3) := by decide +kernel
theorem dX12_next_241 : decode cX12_next 241 = .ok (.iconst 3, 1) := by decide +kernel
theorem dX12_next_242 : decode cX12_next 242 = .ok (.putfield 177, 3) := by decide +kernel
theorem dX12_next_245 : decode cX12_next 245 = .ok (.aload_n 0, 1) := by decide +kernel
theorem dX12_next_246 : decode cX12_next 246 = .ok (.getfield 177, 3) := by decide +kernel
theorem dX12_next_249 : decode cX12_next 249 = .ok (.iconst 3, 1) := by decide +kernel
theorem dX12_next_250 : decode cX12_next 250 = .ok (.if_icmp .eq 13, 3) := by decide +kernel
theorem dX12_next_253 : decode cX12_next 253 = .ok (.aload_n 0, 1) := by decide +kernel
theorem dX12_next_254 : decode cX12_next 254 = .ok (.dup, 1) := by decide +kernel
theorem dX12_next_255 : decode cX12_next 255 = .ok (.getfield 157, 3) := by decide +kernel
theorem dX12_next_258 : decode cX12_next 258 = .ok (.iload_n 2, 1) := by decide +kernel
theorem dX12_next_259 : decode cX12_next 259 = .ok (.iadd, 1) := by decide +kernel
theorem dX12_next_260 : decode cX12_next 260 = .ok (.putfield 157, 3) := by decide +kernel
theorem dX12_next_263 : decode cX12_next 263 = .ok (.return_, 1) := by decide +kernel
theorem dX12_wrong_0 : decode cX12_wrong 0 = .ok (.aload_n 0, 1) := by decide +kernel
theorem dX12_wrong_1 : decode cX12_wrong 1 = .ok (.getfield 189, 3) := by decide +kernel
theorem dX12_wrong_4 : decode cX12_wrong 4 = .ok (.ifCond .le 4, 3) := by decide +kernel
theorem dX12_wrong_7 : decode cX12_wrong 7 = .ok (.return_, 1) := by decide +kernel
theorem dX12_wrong_8 : decode cX12_wrong 8 = .ok (.aload_n 0, 1) := by decide +kernel
theorem dX12_wrong_9 : decode cX12_wrong 9 = .ok (.aload_n 0, 1) := by decide +kernel
theorem dX12_wrong_10 : decode cX12_wrong 10 = .ok (.getfield 177, 3) := by decide +kernel
theorem dX12_wrong_13 : decode cX12_wrong 13 = .ok (.iconst 3, 1) := by decide +kernel
theorem dX12_wrong_14 : decode cX12_wrong 14 = .ok (.if_icmp .ne 7, 3) := by decide +kernel
theorem dX12_wrong_17 : decode cX12_wrong 17 = .ok (.iconst 1, 1) := by decide +kernel
theorem dX12_wrong_18 : decode cX12_wrong 18 = .ok (.goto 4, 3) := by decide +kernel
theorem dX12_wrong_21 : decode cX12_wrong 21 = .ok (.iload_n 1, 1) := by decide +kernel
theorem dX12_wrong_22 : decode cX12_wrong 22 = .ok (.putfield 189, 3) := by decide +kernel
theorem dX12_wrong_25 : decode cX12_wrong 25 = .ok (.aload_n 0, 1) := by decide +kernel
theorem dX12_wrong_26 : decode cX12_wrong 26 = .ok (.aload_n 0, 1) := by decide +kernel
theorem dX12_wrong_27 : decode cX12_wrong 27 = .ok (.getfield 167, 3) := by decide +kernel
theorem dX12_wrong_30 : decode cX12_wrong 30 = .ok (.putfield 68, 3) := by decide +kernel
theorem dX12_wrong_33 : decode cX12_wrong 33 = .ok (.return_, 1) := by decide +kernel
theorem dX12_isWord_0 : decode cX12_isWord 0 = .ok (.aload_n 0, 1) := by decide +kernel
theorem dX12_isWord_1 : decode cX12_isWord 1 = .ok (.getfield 177, 3) := by decide +kernel
theorem dX12_isWord_4 : decode cX12_isWord 4 = .ok (.iconst 1, 1) := by decide +kernel
theorem dX12_isWord_5 : decode cX12_isWord 5 = .ok (.if_icmp .ne 16, 3) := by decide +kernel
theorem dX12_isWord_8 : decode cX12_isWord 8 = .ok (.aload_n 0, 1) := by decide +kernel
theorem dX12_isWord_9 : decode cX12_isWord 9 = .ok (.getfield 170, 3) := by decide +kernel
theorem dX12_isWord_12 : decode cX12_isWord 12 = .ok (.lload_n 1, 1) := by decide +kernel
theorem dX12_isWord_13 : decode cX12_isWord 13 = .ok (.lcmp, 1) := by decide +kernel
theorem dX12_isWord_14 : decode cX12_isWord 14 = .ok (.ifCond .ne 7, 3) := by decide +kernel
theorem dX12_isWord_17 : decode cX12_isWord 17 = .ok (.iconst 1, 1) := by decide +kernel
theorem dX12_isWord_18 : decode cX12_isWord 18 = .ok (.goto 4, 3) := by decide +kernel
theorem dX12_isWord_21 : decode cX12_isWord 21 = .ok (.iconst 0, 1) := by decide +kernel
theorem dX12_isWord_22 : decode cX12_isWord 22 = .ok (.ireturn, 1) := by decide +kernel
theorem dX12_named_0 : decode cX12_named 0 = .ok (.aload_n 0, 1) := by decide +kernel
theorem dX12_named_1 : decode cX12_named 1 = .ok (.getfield 170, 3) := by decide +kernel
theorem dX12_named_4 : decode cX12_named 4 = .ok (.ldc2_w 192, 3) := by decide +kernel
theorem dX12_named_7 : decode cX12_named 7 = .ok (.lcmp, 1) := by decide +kernel
theorem dX12_named_8 : decode cX12_named 8 = .ok (.ifCond .ne 5, 3) := by decide +kernel
theorem dX12_named_11 : decode cX12_named 11 = .ok (.iconst 0, 1) := by decide +kernel
theorem dX12_named_12 : decode cX12_named 12 = .ok (.ireturn, 1) := by decide +kernel
theorem dX12_named_13 : decode cX12_named 13 = .ok (.aload_n 0, 1) := by decide +kernel
theorem dX12_named_14 : decode cX12_named 14 = .ok (.getfield 170, 3) := by decide +kernel
theorem dX12_named_17 : decode cX12_named 17 = .ok (.ldc2_w 194, 3) := by decide +kernel
theorem dX12_named_20 : decode cX12_named 20 = .ok (.lcmp, 1) := by decide +kernel
theorem dX12_named_21 : decode cX12_named 21 = .ok (.ifCond .ne 5, 3) := by decide +kernel
theorem dX12_named_24 : decode cX12_named 24 = .ok (.iconst 1, 1) := by decide +kernel
theorem dX12_named_25 : decode cX12_named 25 = .ok (.ireturn, 1) := by decide +kernel
theorem dX12_named_26 : decode cX12_named 26 = .ok (.aload_n 0, 1) := by decide +kernel
theorem dX12_named_27 : decode cX12_named 27 = .ok (.getfield 170, 3) := by decide +kernel
theorem dX12_named_30 : decode cX12_named 30 = .ok (.ldc2_w 196, 3) := by decide +kernel
theorem dX12_named_33 : decode cX12_named 33 = .ok (.lcmp, 1) := by decide +kernel
theorem dX12_named_34 : decode cX12_named 34 = .ok (.ifCond .ne 5, 3) := by decide +kernel
theorem dX12_named_37 : decode cX12_named 37 = .ok (.iconst 2, 1) := by decide +kernel
theorem dX12_named_38 : decode cX12_named 38 = .ok (.ireturn, 1) := by decide +kernel
theorem dX12_named_39 : decode cX12_named 39 = .ok (.aload_n 0, 1) := by decide +kernel
theorem dX12_named_40 : decode cX12_named 40 = .ok (.getfield 170, 3) := by decide +kernel
theorem dX12_named_43 : decode cX12_named 43 = .ok (.ldc2_w 198, 3) := by decide +kernel
theorem dX12_named_46 : decode cX12_named 46 = .ok (.lcmp, 1) := by decide +kernel
theorem dX12_named_47 : decode cX12_named 47 = .ok (.ifCond .ne 5, 3) := by decide +kernel
theorem dX12_named_50 : decode cX12_named 50 = .ok (.iconst 3, 1) := by decide +kernel
theorem dX12_named_51 : decode cX12_named 51 = .ok (.ireturn, 1) := by decide +kernel
theorem dX12_named_52 : decode cX12_named 52 = .ok (.aload_n 0, 1) := by decide +kernel
theorem dX12_named_53 : decode cX12_named 53 = .ok (.getfield 170, 3) := by decide +kernel
theorem dX12_named_56 : decode cX12_named 56 = .ok (.ldc2_w 200, 3) := by decide +kernel
theorem dX12_named_59 : decode cX12_named 59 = .ok (.lcmp, 1) := by decide +kernel
theorem dX12_named_60 : decode cX12_named 60 = .ok (.ifCond .ne 5, 3) := by decide +kernel
theorem dX12_named_63 : decode cX12_named 63 = .ok (.iconst 4, 1) := by decide +kernel
theorem dX12_named_64 : decode cX12_named 64 = .ok (.ireturn, 1) := by decide +kernel
theorem dX12_named_65 : decode cX12_named 65 = .ok (.aload_n 0, 1) := by decide +kernel
theorem dX12_named_66 : decode cX12_named 66 = .ok (.getfield 170, 3) := by decide +kernel
theorem dX12_named_69 : decode cX12_named 69 = .ok (.ldc2_w 202, 3) := by decide +kernel
theorem dX12_named_72 : decode cX12_named 72 = .ok (.lcmp, 1) := by decide +kernel
theorem dX12_named_73 : decode cX12_named 73 = .ok (.ifCond .ne 5, 3) := by decide +kernel
theorem dX12_named_76 : decode cX12_named 76 = .ok (.iconst 5, 1) := by decide +kernel
theorem dX12_named_77 : decode cX12_named 77 = .ok (.ireturn, 1) := by decide +kernel
theorem dX12_named_78 : decode cX12_named 78 = .ok (.aload_n 0, 1) := by decide +kernel
theorem dX12_named_79 : decode cX12_named 79 = .ok (.getfield 170, 3) := by decide +kernel
theorem dX12_named_82 : decode cX12_named 82 = .ok (.ldc2_w 204, 3) := by decide +kernel
theorem dX12_named_85 : decode cX12_named 85 = .ok (.lcmp, 1) := by decide +kernel
theorem dX12_named_86 : decode cX12_named 86 = .ok (.ifCond .ne 6, 3) := by decide +kernel
theorem dX12_named_89 : decode cX12_named 89 = .ok (.bipush 6, 2) := by decide +kernel
theorem dX12_named_91 : decode cX12_named 91 = .ok (.ireturn, 1) := by decide +kernel
theorem dX12_named_92 : decode cX12_named 92 = .ok (.aload_n 0, 1) := by decide +kernel
theorem dX12_named_93 : decode cX12_named 93 = .ok (.getfield 170, 3) := by decide +kernel
theorem dX12_named_96 : decode cX12_named 96 = .ok (.ldc2_w 206, 3) := by decide +kernel
theorem dX12_named_99 : decode cX12_named 99 = .ok (.lcmp, 1) := by decide +kernel
theorem dX12_named_100 : decode cX12_named 100 = .ok (.ifCond .ne 6, 3) := by decide +kernel
theorem dX12_named_103 : decode cX12_named 103 = .ok (.bipush 7, 2) := by decide +kernel
theorem dX12_named_105 : decode cX12_named 105 = .ok (.ireturn, 1) := by decide +kernel
theorem dX12_named_106 : decode cX12_named 106 = .ok (.aload_n 0, 1) := by decide +kernel
theorem dX12_named_107 : decode cX12_named 107 = .ok (.getfield 170, 3) := by decide +kernel
theorem dX12_named_110 : decode cX12_named 110 = .ok (.ldc2_w 208, 3) := by decide +kernel
theorem dX12_named_113 : decode cX12_named 113 = .ok (.lcmp, 1) := by decide +kernel
theorem dX12_named_114 : decode cX12_named 114 = .ok (.ifCond .ne 6, 3) := by decide +kernel
theorem dX12_named_117 : decode cX12_named 117 = .ok (.bipush 8, 2) := by decide +kernel
theorem dX12_named_119 : decode cX12_named 119 = .ok (.ireturn, 1) := by decide +kernel
theorem dX12_named_120 : decode cX12_named 120 = .ok (.aload_n 0, 1) := by decide +kernel
theorem dX12_named_121 : decode cX12_named 121 = .ok (.getfield 170, 3) := by decide +kernel
theorem dX12_named_124 : decode cX12_named 124 = .ok (.ldc2_w 210, 3) := by decide +kernel
theorem dX12_named_127 : decode cX12_named 127 = .ok (.lcmp, 1) := by decide +kernel
theorem dX12_named_128 : decode cX12_named 128 = .ok (.ifCond .ne 6, 3) := by decide +kernel
theorem dX12_named_131 : decode cX12_named 131 = .ok (.bipush 9, 2) := by decide +kernel
theorem dX12_named_133 : decode cX12_named 133 = .ok (.ireturn, 1) := by decide +kernel
theorem dX12_named_134 : decode cX12_named 134 = .ok (.aload_n 0, 1) := by decide +kernel
theorem dX12_named_135 : decode cX12_named 135 = .ok (.getfield 170, 3) := by decide +kernel
theorem dX12_named_138 : decode cX12_named 138 = .ok (.ldc2_w 212, 3) := by decide +kernel
theorem dX12_named_141 : decode cX12_named 141 = .ok (.lcmp, 1) := by decide +kernel
theorem dX12_named_142 : decode cX12_named 142 = .ok (.ifCond .ne 6, 3) := by decide +kernel
theorem dX12_named_145 : decode cX12_named 145 = .ok (.bipush 10, 2) := by decide +kernel
theorem dX12_named_147 : decode cX12_named 147 = .ok (.ireturn, 1) := by decide +kernel
theorem dX12_named_148 : decode cX12_named 148 = .ok (.aload_n 0, 1) := by decide +kernel
theorem dX12_named_149 : decode cX12_named 149 = .ok (.getfield 170, 3) := by decide +kernel
theorem dX12_named_152 : decode cX12_named 152 = .ok (.ldc2_w 214, 3) := by decide +kernel
theorem dX12_named_155 : decode cX12_named 155 = .ok (.lcmp, 1) := by decide +kernel
theorem dX12_named_156 : decode cX12_named 156 = .ok (.ifCond .ne 6, 3) := by decide +kernel
theorem dX12_named_159 : decode cX12_named 159 = .ok (.bipush 11, 2) := by decide +kernel
theorem dX12_named_161 : decode cX12_named 161 = .ok (.ireturn, 1) := by decide +kernel
theorem dX12_named_162 : decode cX12_named 162 = .ok (.aload_n 0, 1) := by decide +kernel
theorem dX12_named_163 : decode cX12_named 163 = .ok (.getfield 170, 3) := by decide +kernel
theorem dX12_named_166 : decode cX12_named 166 = .ok (.ldc2_w 216, 3) := by decide +kernel
theorem dX12_named_169 : decode cX12_named 169 = .ok (.lcmp, 1) := by decide +kernel
theorem dX12_named_170 : decode cX12_named 170 = .ok (.ifCond .ne 6, 3) := by decide +kernel
theorem dX12_named_173 : decode cX12_named 173 = .ok (.bipush 12, 2) := by decide +kernel
theorem dX12_named_175 : decode cX12_named 175 = .ok (.ireturn, 1) := by decide +kernel
theorem dX12_named_176 : decode cX12_named 176 = .ok (.aload_n 0, 1) := by decide +kernel
theorem dX12_named_177 : decode cX12_named 177 = .ok (.getfield 170, 3) := by decide +kernel
theorem dX12_named_180 : decode cX12_named 180 = .ok (.ldc2_w 218, 3) := by decide +kernel
theorem dX12_named_183 : decode cX12_named 183 = .ok (.lcmp, 1) := by decide +kernel
theorem dX12_named_184 : decode cX12_named 184 = .ok (.ifCond .ne 8, 3) := by decide +kernel
theorem dX12_named_187 : decode cX12_named 187 = .ok (.bipush 13, 2) := by decide +kernel
theorem dX12_named_189 : decode cX12_named 189 = .ok (.goto 4, 3) := by decide +kernel
theorem dX12_named_192 : decode cX12_named 192 = .ok (.iconst (-1), 1) := by decide +kernel
theorem dX12_named_193 : decode cX12_named 193 = .ok (.ireturn, 1) := by decide +kernel
theorem dX12_step_0 : decode cX12_step 0 = .ok (.aload_n 0, 1) := by decide +kernel
theorem dX12_step_1 : decode cX12_step 1 = .ok (.getfield 53, 3) := by decide +kernel
theorem dX12_step_4 : decode cX12_step 4 = .ok (.aload_n 0, 1) := by decide +kernel
theorem dX12_step_5 : decode cX12_step 5 = .ok (.getfield 220, 3) := by decide +kernel
theorem dX12_step_8 : decode cX12_step 8 = .ok (.iload_n 1, 1) := by decide +kernel
theorem dX12_step_9 : decode cX12_step 9 = .ok (.iastore, 1) := by decide +kernel
theorem dX12_step_10 : decode cX12_step 10 = .ok (.aload_n 0, 1) := by decide +kernel
theorem dX12_step_11 : decode cX12_step 11 = .ok (.getfield 56, 3) := by decide +kernel
theorem dX12_step_14 : decode cX12_step 14 = .ok (.aload_n 0, 1) := by decide +kernel
theorem dX12_step_15 : decode cX12_step 15 = .ok (.getfield 220, 3) := by decide +kernel
theorem dX12_step_18 : decode cX12_step 18 = .ok (.iload_n 2, 1) := by decide +kernel
theorem dX12_step_19 : decode cX12_step 19 = .ok (.iastore, 1) := by decide +kernel
theorem dX12_step_20 : decode cX12_step 20 = .ok (.aload_n 0, 1) := by decide +kernel
theorem dX12_step_21 : decode cX12_step 21 = .ok (.dup, 1) := by decide +kernel
theorem dX12_step_22 : decode cX12_step 22 = .ok (.getfield 220, 3) := by decide +kernel
theorem dX12_step_25 : decode cX12_step 25 = .ok (.iconst 1, 1) := by decide +kernel
theorem dX12_step_26 : decode cX12_step 26 = .ok (.iadd, 1) := by decide +kernel
theorem dX12_step_27 : decode cX12_step 27 = .ok (.putfield 220, 3) := by decide +kernel
theorem dX12_step_30 : decode cX12_step 30 = .ok (.return_, 1) := by decide +kernel
theorem dX12_hold_0 : decode cX12_hold 0 = .ok (.aload_n 0, 1) := by decide +kernel
theorem dX12_hold_1 : decode cX12_hold 1 = .ok (.getfield 72, 3) := by decide +kernel
theorem dX12_hold_4 : decode cX12_hold 4 = .ok (.aload_n 0, 1) := by decide +kernel
theorem dX12_hold_5 : decode cX12_hold 5 = .ok (.getfield 223, 3) := by decide +kernel
theorem dX12_hold_8 : decode cX12_hold 8 = .ok (.iload_n 1, 1) := by decide +kernel
theorem dX12_hold_9 : decode cX12_hold 9 = .ok (.iastore, 1) := by decide +kernel
theorem dX12_hold_10 : decode cX12_hold 10 = .ok (.aload_n 0, 1) := by decide +kernel
theorem dX12_hold_11 : decode cX12_hold 11 = .ok (.dup, 1) := by decide +kernel
theorem dX12_hold_12 : decode cX12_hold 12 = .ok (.getfield 223, 3) := by decide +kernel
theorem dX12_hold_15 : decode cX12_hold 15 = .ok (.iconst 1, 1) := by decide +kernel
theorem dX12_hold_16 : decode cX12_hold 16 = .ok (.iadd, 1) := by decide +kernel
theorem dX12_hold_17 : decode cX12_hold 17 = .ok (.putfield 223, 3) := by decide +kernel
theorem dX12_hold_20 : decode cX12_hold 20 = .ok (.iload_n 1, 1) := by decide +kernel
theorem dX12_hold_21 : decode cX12_hold 21 = .ok (.bipush 48, 2) := by decide +kernel
theorem dX12_hold_23 : decode cX12_hold 23 = .ok (.if_icmp .eq 9, 3) := by decide +kernel
theorem dX12_hold_26 : decode cX12_hold 26 = .ok (.iload_n 1, 1) := by decide +kernel
theorem dX12_hold_27 : decode cX12_hold 27 = .ok (.bipush 40, 2) := by decide +kernel
theorem dX12_hold_29 : decode cX12_hold 29 = .ok (.if_icmp .ne 13, 3) := by decide +kernel
theorem dX12_hold_32 : decode cX12_hold 32 = .ok (.aload_n 0, 1) := by decide +kernel
theorem dX12_hold_33 : decode cX12_hold 33 = .ok (.dup, 1) := by decide +kernel
theorem dX12_hold_34 : decode cX12_hold 34 = .ok (.getfield 226, 3) := by decide +kernel
theorem dX12_hold_37 : decode cX12_hold 37 = .ok (.iconst 1, 1) := by decide +kernel
theorem dX12_hold_38 : decode cX12_hold 38 = .ok (.iadd, 1) := by decide +kernel
theorem dX12_hold_39 : decode cX12_hold 39 = .ok (.putfield 226, 3) := by decide +kernel
theorem dX12_hold_42 : decode cX12_hold 42 = .ok (.return_, 1) := by decide +kernel
theorem dX12_settle_0 : decode cX12_settle 0 = .ok (.aload_n 0, 1) := by decide +kernel
theorem dX12_settle_1 : decode cX12_settle 1 = .ok (.getfield 223, 3) := by decide +kernel
theorem dX12_settle_4 : decode cX12_settle 4 = .ok (.ifCond .le 85, 3) := by decide +kernel
theorem dX12_settle_7 : decode cX12_settle 7 = .ok (.aload_n 0, 1) := by decide +kernel
theorem dX12_settle_8 : decode cX12_settle 8 = .ok (.getfield 72, 3) := by decide +kernel
theorem dX12_settle_11 : decode cX12_settle 11 = .ok (.aload_n 0, 1) := by decide +kernel
theorem dX12_settle_12 : decode cX12_settle 12 = .ok (.getfield 223, 3) := by decide +kernel
theorem dX12_settle_15 : decode cX12_settle 15 = .ok (.iconst 1, 1) := by decide +kernel
theorem dX12_settle_16 : decode cX12_settle 16 = .ok (.isub, 1) := by decide +kernel
theorem dX12_settle_17 : decode cX12_settle 17 = .ok (.iaload, 1) := by decide +kernel
theorem dX12_settle_18 : decode cX12_settle 18 = .ok (.bipush 48, 2) := by decide +kernel
theorem dX12_settle_20 : decode cX12_settle 20 = .ok (.if_icmp .eq 69, 3) := by decide +kernel
theorem dX12_settle_23 : decode cX12_settle 23 = .ok (.aload_n 0, 1) := by decide +kernel
theorem dX12_settle_24 : decode cX12_settle 24 = .ok (.getfield 72, 3) := by decide +kernel
theorem dX12_settle_27 : decode cX12_settle 27 = .ok (.aload_n 0, 1) := by decide +kernel
theorem dX12_settle_28 : decode cX12_settle 28 = .ok (.getfield 223, 3) := by decide +kernel
theorem dX12_settle_31 : decode cX12_settle 31 = .ok (.iconst 1, 1) := by decide +kernel
theorem dX12_settle_32 : decode cX12_settle 32 = .ok (.isub, 1) := by decide +kernel
theorem dX12_settle_33 : decode cX12_settle 33 = .ok (.iaload, 1) := by decide +kernel
theorem dX12_settle_34 : decode cX12_settle 34 = .ok (.iload_n 1, 1) := by decide +kernel
theorem dX12_settle_35 : decode cX12_settle 35 = .ok (.if_icmp .lt 54, 3) := by decide +kernel
theorem dX12_settle_38 : decode cX12_settle 38 = .ok (.aload_n 0, 1) := by decide +kernel
theorem dX12_settle_39 : decode cX12_settle 39 = .ok (.dup, 1) := by decide +kernel
theorem dX12_settle_40 : decode cX12_settle 40 = .ok (.getfield 223, 3) := by decide +kernel
theorem dX12_settle_43 : decode cX12_settle 43 = .ok (.iconst 1, 1) := by decide +kernel
theorem dX12_settle_44 : decode cX12_settle 44 = .ok (.isub, 1) := by decide +kernel
theorem dX12_settle_45 : decode cX12_settle 45 = .ok (.putfield 223, 3) := by decide +kernel
theorem dX12_settle_48 : decode cX12_settle 48 = .ok (.aload_n 0, 1) := by decide +kernel
theorem dX12_settle_49 : decode cX12_settle 49 = .ok (.getfield 72, 3) := by decide +kernel
theorem dX12_settle_52 : decode cX12_settle 52 = .ok (.aload_n 0, 1) := by decide +kernel
theorem dX12_settle_53 : decode cX12_settle 53 = .ok (.getfield 223, 3) := by decide +kernel
theorem dX12_settle_56 : decode cX12_settle 56 = .ok (.iaload, 1) := by decide +kernel
theorem dX12_settle_57 : decode cX12_settle 57 = .ok (.bipush 40, 2) := by decide +kernel
theorem dX12_settle_59 : decode cX12_settle 59 = .ok (.if_icmp .ne 13, 3) := by decide +kernel
theorem dX12_settle_62 : decode cX12_settle 62 = .ok (.aload_n 0, 1) := by decide +kernel
theorem dX12_settle_63 : decode cX12_settle 63 = .ok (.dup, 1) := by decide +kernel
theorem dX12_settle_64 : decode cX12_settle 64 = .ok (.getfield 226, 3) := by decide +kernel
theorem dX12_settle_67 : decode cX12_settle 67 = .ok (.iconst 1, 1) := by decide +kernel
theorem dX12_settle_68 : decode cX12_settle 68 = .ok (.isub, 1) := by decide +kernel
theorem dX12_settle_69 : decode cX12_settle 69 = .ok (.putfield 226, 3) := by decide +kernel
theorem dX12_settle_72 : decode cX12_settle 72 = .ok (.aload_n 0, 1) := by decide +kernel
theorem dX12_settle_73 : decode cX12_settle 73 = .ok (.aload_n 0, 1) := by decide +kernel
theorem dX12_settle_74 : decode cX12_settle 74 = .ok (.getfield 72, 3) := by decide +kernel
theorem dX12_settle_77 : decode cX12_settle 77 = .ok (.aload_n 0, 1) := by decide +kernel
theorem dX12_settle_78 : decode cX12_settle 78 = .ok (.getfield 223, 3) := by decide +kernel
theorem dX12_settle_81 : decode cX12_settle 81 = .ok (.iaload, 1) := by decide +kernel
theorem dX12_settle_82 : decode cX12_settle 82 = .ok (.iconst 0, 1) := by decide +kernel
theorem dX12_settle_83 : decode cX12_settle 83 = .ok (.invokevirtual 229, 3) := by decide +kernel
theorem dX12_settle_86 : decode cX12_settle 86 = .ok (.goto (-86), 3) := by decide +kernel
theorem dX12_settle_89 : decode cX12_settle 89 = .ok (.return_, 1) := by decide +kernel
theorem dX12_isOpen_0 : decode cX12_isOpen 0 = .ok (.iconst 0, 1) := by decide +kernel
theorem dX12_isOpen_1 : decode cX12_isOpen 1 = .ok (.istore_n 1, 1) := by decide +kernel
theorem dX12_isOpen_2 : decode cX12_isOpen 2 = .ok (.iconst 0, 1) := by decide +kernel
theorem dX12_isOpen_3 : decode cX12_isOpen 3 = .ok (.istore_n 2, 1) := by decide +kernel
theorem dX12_isOpen_4 : decode cX12_isOpen 4 = .ok (.iload_n 2, 1) := by decide +kernel
theorem dX12_isOpen_5 : decode cX12_isOpen 5 = .ok (.aload_n 0, 1) := by decide +kernel
theorem dX12_isOpen_6 : decode cX12_isOpen 6 = .ok (.getfield 223, 3) := by decide +kernel
theorem dX12_isOpen_9 : decode cX12_isOpen 9 = .ok (.if_icmp .ge 30, 3) := by decide +kernel
theorem dX12_isOpen_12 : decode cX12_isOpen 12 = .ok (.iload_n 1, 1) := by decide +kernel
theorem dX12_isOpen_13 : decode cX12_isOpen 13 = .ok (.ifCond .ne 14, 3) := by decide +kernel
theorem dX12_isOpen_16 : decode cX12_isOpen 16 = .ok (.aload_n 0, 1) := by decide +kernel
theorem dX12_isOpen_17 : decode cX12_isOpen 17 = .ok (.getfield 72, 3) := by decide +kernel
theorem dX12_isOpen_20 : decode cX12_isOpen 20 = .ok (.iload_n 2, 1) := by decide +kernel
theorem dX12_isOpen_21 : decode cX12_isOpen 21 = .ok (.iaload, 1) := by decide +kernel
theorem dX12_isOpen_22 : decode cX12_isOpen 22 = .ok (.bipush 48, 2) := by decide +kernel
theorem dX12_isOpen_24 : decode cX12_isOpen 24 = .ok (.if_icmp .ne 7, 3) := by decide +kernel
theorem dX12_isOpen_27 : decode cX12_isOpen 27 = .ok (.iconst 1, 1) := by decide +kernel
theorem dX12_isOpen_28 : decode cX12_isOpen 28 = .ok (.goto 4, 3) := by decide +kernel
theorem dX12_isOpen_31 : decode cX12_isOpen 31 = .ok (.iconst 0, 1) := by decide +kernel
theorem dX12_isOpen_32 : decode cX12_isOpen 32 = .ok (.istore_n 1, 1) := by decide +kernel
theorem dX12_isOpen_33 : decode cX12_isOpen 33 = .ok (.iinc 2 1, 3) := by decide +kernel
theorem dX12_isOpen_36 : decode cX12_isOpen 36 = .ok (.goto (-32), 3) := by decide +kernel
theorem dX12_isOpen_39 : decode cX12_isOpen 39 = .ok (.iload_n 1, 1) := by decide +kernel
theorem dX12_isOpen_40 : decode cX12_isOpen 40 = .ok (.ireturn, 1) := by decide +kernel
theorem dX12_readE_0 : decode cX12_readE 0 = .ok (.aload_n 0, 1) := by decide +kernel
theorem dX12_readE_1 : decode cX12_readE 1 = .ok (.iconst 0, 1) := by decide +kernel
theorem dX12_readE_2 : decode cX12_readE 2 = .ok (.putfield 223, 3) := by decide +kernel
theorem dX12_readE_5 : decode cX12_readE 5 = .ok (.aload_n 0, 1) := by decide +kernel
theorem dX12_readE_6 : decode cX12_readE 6 = .ok (.iconst 0, 1) := by decide +kernel
theorem dX12_readE_7 : decode cX12_readE 7 = .ok (.putfield 226, 3) := by decide +kernel
theorem dX12_readE_10 : decode cX12_readE 10 = .ok (.iconst 0, 1) := by decide +kernel
theorem dX12_readE_11 : decode cX12_readE 11 = .ok (.istore_n 2, 1) := by decide +kernel
theorem dX12_readE_12 : decode cX12_readE 12 = .ok (.aload_n 0, 1) := by decide +kernel
theorem dX12_readE_13 : decode cX12_readE 13 = .ok (.getfield 189, 3) := by decide +kernel
theorem dX12_readE_16 : decode cX12_readE 16 = .ok (.ifCond .ne 47, 3) := by decide +kernel
theorem dX12_readE_19 : decode cX12_readE 19 = .ok (.iload_n 2, 1) := by decide +kernel
theorem dX12_readE_20 : decode cX12_readE 20 = .ok (.iconst 2, 1) := by decide +kernel
theorem dX12_readE_21 : decode cX12_readE 21 = .ok (.if_icmp .ne 19, 3) := by decide +kernel
theorem dX12_readE_24 : decode cX12_readE 24 = .ok (.aload_n 0, 1) := by decide +kernel
theorem dX12_readE_25 : decode cX12_readE 25 = .ok (.getfield 177, 3) := by decide +kernel
theorem dX12_readE_28 : decode cX12_readE 28 = .ok (.bipush 59, 2) := by decide +kernel
theorem dX12_readE_30 : decode cX12_readE 30 = .ok (.if_icmp .ne 10, 3) := by decide +kernel
theorem dX12_readE_33 : decode cX12_readE 33 = .ok (.aload_n 0, 1) := by decide +kernel
theorem dX12_readE_34 : decode cX12_readE 34 = .ok (.invokevirtual 233, 3) := by decide +kernel
theorem dX12_readE_37 : decode cX12_readE 37 = .ok (.ifCond .eq 26, 3) := by decide +kernel
theorem dX12_readE_40 : decode cX12_readE 40 = .ok (.iload_n 2, 1) := by decide +kernel
theorem dX12_readE_41 : decode cX12_readE 41 = .ok (.iconst 2, 1) := by decide +kernel
theorem dX12_readE_42 : decode cX12_readE 42 = .ok (.if_icmp .ne 11, 3) := by decide +kernel
theorem dX12_readE_45 : decode cX12_readE 45 = .ok (.aload_n 0, 1) := by decide +kernel
theorem dX12_readE_46 : decode cX12_readE 46 = .ok (.invokevirtual 237, 3) := by decide +kernel
theorem dX12_readE_49 : decode cX12_readE 49 = .ok (.istore_n 2, 1) := by decide +kernel
theorem dX12_readE_50 : decode cX12_readE 50 = .ok (.goto (-38), 3) := by decide +kernel
theorem dX12_readE_53 : decode cX12_readE 53 = .ok (.aload_n 0, 1) := by decide +kernel
theorem dX12_readE_54 : decode cX12_readE 54 = .ok (.iload_n 2, 1) := by decide +kernel
theorem dX12_readE_55 : decode cX12_readE 55 = .ok (.iload_n 1, 1) := by decide +kernel
theorem dX12_readE_56 : decode cX12_readE 56 = .ok (.invokevirtual 241, 3) := by decide +kernel
theorem dX12_readE_59 : decode cX12_readE 59 = .ok (.istore_n 2, 1) := by decide +kernel
theorem dX12_readE_60 : decode cX12_readE 60 = .ok (.goto (-48), 3) := by decide +kernel
theorem dX12_readE_63 : decode cX12_readE 63 = .ok (.aload_n 0, 1) := by decide +kernel
theorem dX12_readE_64 : decode cX12_readE 64 = .ok (.getfield 189, 3) := by decide +kernel
theorem dX12_readE_67 : decode cX12_readE 67 = .ok (.ifCond .ne 8, 3) := by decide +kernel
theorem dX12_readE_70 : decode cX12_readE 70 = .ok (.aload_n 0, 1) := by decide +kernel
theorem dX12_readE_71 : decode cX12_readE 71 = .ok (.iconst 0, 1) := by decide +kernel
theorem dX12_readE_72 : decode cX12_readE 72 = .ok (.invokevirtual 245, 3) := by decide +kernel
theorem dX12_readE_75 : decode cX12_readE 75 = .ok (.return_, 1) := by decide +kernel
theorem dX12_operand_0 : decode cX12_operand 0 = .ok (.aload_n 0, 1) := by decide +kernel
theorem dX12_operand_1 : decode cX12_operand 1 = .ok (.getfield 177, 3) := by decide +kernel
theorem dX12_operand_4 : decode cX12_operand 4 = .ok (.iconst 2, 1) := by decide +kernel
theorem dX12_operand_5 : decode cX12_operand 5 = .ok (.if_icmp .eq 66, 3) := by decide +kernel
theorem dX12_operand_8 : decode cX12_operand 8 = .ok (.aload_n 0, 1) := by decide +kernel
theorem dX12_operand_9 : decode cX12_operand 9 = .ok (.getfield 177, 3) := by decide +kernel
theorem dX12_operand_12 : decode cX12_operand 12 = .ok (.iconst 1, 1) := by decide +kernel
theorem dX12_operand_13 : decode cX12_operand 13 = .ok (.if_icmp .ne 62, 3) := by decide +kernel
theorem dX12_operand_16 : decode cX12_operand 16 = .ok (.aload_n 0, 1) := by decide +kernel
theorem dX12_operand_17 : decode cX12_operand 17 = .ok (.getfield 170, 3) := by decide +kernel
theorem dX12_operand_20 : decode cX12_operand 20 = .ok (.ldc2_w 248, 3) := by decide +kernel
theorem dX12_operand_23 : decode cX12_operand 23 = .ok (.lcmp, 1) := by decide +kernel
theorem dX12_operand_24 : decode cX12_operand 24 = .ok (.ifCond .eq 51, 3) := by decide +kernel
theorem dX12_operand_27 : decode cX12_operand 27 = .ok (.aload_n 0, 1) := by decide +kernel
theorem dX12_operand_28 : decode cX12_operand 28 = .ok (.getfield 170, 3) := by decide +kernel
theorem dX12_operand_31 : decode cX12_operand 31 = .ok (.ldc2_w 250, 3) := by decide +kernel
theorem dX12_operand_34 : decode cX12_operand 34 = .ok (.lcmp, 1) := by decide +kernel
theorem dX12_operand_35 : decode cX12_operand 35 = .ok (.ifCond .eq 40, 3) := by decide +kernel
theorem dX12_operand_38 : decode cX12_operand 38 = .ok (.aload_n 0, 1) := by decide +kernel
theorem dX12_operand_39 : decode cX12_operand 39 = .ok (.getfield 170, 3) := by decide +kernel
theorem dX12_operand_42 : decode cX12_operand 42 = .ok (.ldc2_w 252, 3) := by decide +kernel
theorem dX12_operand_45 : decode cX12_operand 45 = .ok (.lcmp, 1) := by decide +kernel
theorem dX12_operand_46 : decode cX12_operand 46 = .ok (.ifCond .eq 29, 3) := by decide +kernel
theorem dX12_operand_49 : decode cX12_operand 49 = .ok (.aload_n 0, 1) := by decide +kernel
theorem dX12_operand_50 : decode cX12_operand 50 = .ok (.getfield 170, 3) := by decide +kernel
theorem dX12_operand_53 : decode cX12_operand 53 = .ok (.ldc2_w 254, 3) := by decide +kernel
theorem dX12_operand_56 : decode cX12_operand 56 = .ok (.lcmp, 1) := by decide +kernel
theorem dX12_operand_57 : decode cX12_operand 57 = .ok (.ifCond .eq 18, 3) := by decide +kernel
theorem dX12_operand_60 : decode cX12_operand 60 = .ok (.aload_n 0, 1) := by decide +kernel
theorem dX12_operand_61 : decode cX12_operand 61 = .ok (.getfield 170, 3) := by decide +kernel
theorem dX12_operand_64 : decode cX12_operand 64 = .ok (.ldc2_w 256, 3) := by decide +kernel
theorem dX12_operand_67 : decode cX12_operand 67 = .ok (.lcmp, 1) := by decide +kernel
theorem dX12_operand_68 : decode cX12_operand 68 = .ok (.ifCond .eq 7, 3) := by decide +kernel
theorem dX12_operand_71 : decode cX12_operand 71 = .ok (.iconst 1, 1) := by decide +kernel
theorem dX12_operand_72 : decode cX12_operand 72 = .ok (.goto 4, 3) := by decide +kernel
theorem dX12_operand_75 : decode cX12_operand 75 = .ok (.iconst 0, 1) := by decide +kernel
theorem dX12_operand_76 : decode cX12_operand 76 = .ok (.istore_n 3, 1) := by decide +kernel
theorem dX12_operand_77 : decode cX12_operand 77 = .ok (.iload_n 1, 1) := by decide +kernel
theorem dX12_operand_78 : decode cX12_operand 78 = .ok (.ifCond .ne 20, 3) := by decide +kernel
theorem dX12_operand_81 : decode cX12_operand 81 = .ok (.aload_n 0, 1) := by decide +kernel
theorem dX12_operand_82 : decode cX12_operand 82 = .ok (.getfield 226, 3) := by decide +kernel
theorem dX12_operand_85 : decode cX12_operand 85 = .ok (.bipush 8, 2) := by decide +kernel
theorem dX12_operand_87 : decode cX12_operand 87 = .ok (.if_icmp .lt 11, 3) := by decide +kernel
theorem dX12_operand_90 : decode cX12_operand 90 = .ok (.aload_n 0, 1) := by decide +kernel
theorem dX12_operand_91 : decode cX12_operand 91 = .ok (.iconst 2, 1) := by decide +kernel
theorem dX12_operand_92 : decode cX12_operand 92 = .ok (.invokevirtual 258, 3) := by decide +kernel
theorem dX12_operand_95 : decode cX12_operand 95 = .ok (.goto 165, 3) := by decide +kernel
theorem dX12_operand_98 : decode cX12_operand 98 = .ok (.iload_n 3, 1) := by decide +kernel
theorem dX12_operand_99 : decode cX12_operand 99 = .ok (.ifCond .eq 109, 3) := by decide +kernel
theorem dX12_operand_102 : decode cX12_operand 102 = .ok (.aload_n 0, 1) := by decide +kernel
theorem dX12_operand_103 : decode cX12_operand 103 = .ok (.getfield 177, 3) := by decide +kernel
theorem dX12_operand_106 : decode cX12_operand 106 = .ok (.iconst 1, 1) := by decide +kernel
theorem dX12_operand_107 : decode cX12_operand 107 = .ok (.if_icmp .ne 10, 3) := by decide +kernel
theorem dX12_operand_110 : decode cX12_operand 110 = .ok (.aload_n 0, 1) := by decide +kernel
theorem dX12_operand_111 : decode cX12_operand 111 = .ok (.invokevirtual 261, 3) := by decide +kernel
theorem dX12_operand_114 : decode cX12_operand 114 = .ok (.goto 4, 3) := by decide +kernel
theorem dX12_operand_117 : decode cX12_operand 117 = .ok (.iconst 0, 1) := by decide +kernel
theorem dX12_operand_118 : decode cX12_operand 118 = .ok (.istore 4, 2) := by decide +kernel
theorem dX12_operand_120 : decode cX12_operand 120 = .ok (.aload_n 0, 1) := by decide +kernel
theorem dX12_operand_121 : decode cX12_operand 121 = .ok (.getfield 264, 3) := by decide +kernel
theorem dX12_operand_124 : decode cX12_operand 124 = .ok (.bipush 120, 2) := by decide +kernel
theorem dX12_operand_126 : decode cX12_operand 126 = .ok (.if_icmp .ne 11, 3) := by decide +kernel
theorem dX12_operand_129 : decode cX12_operand 129 = .ok (.aload_n 0, 1) := by decide +kernel
theorem dX12_operand_130 : decode cX12_operand 130 = .ok (.iconst 2, 1) := by decide +kernel
theorem dX12_operand_131 : decode cX12_operand 131 = .ok (.invokevirtual 258, 3) := by decide +kernel
theorem dX12_operand_134 : decode cX12_operand 134 = .ok (.goto 24, 3) := by decide +kernel
theorem dX12_operand_137 : decode cX12_operand 137 = .ok (.iload 4, 2) := by decide +kernel
theorem dX12_operand_139 : decode cX12_operand 139 = .ok (.ifCond .lt 14, 3) := by decide +kernel
theorem dX12_operand_142 : decode cX12_operand 142 = .ok (.iload 4, 2) := by decide +kernel
theorem dX12_operand_144 : decode cX12_operand 144 = .ok (.bipush 7, 2) := by decide +kernel
theorem dX12_operand_146 : decode cX12_operand 146 = .ok (.if_icmp .le 12, 3) := by decide +kernel
theorem dX12_operand_149 : decode cX12_operand 149 = .ok (.iload_n 2, 1) := by decide +kernel
theorem dX12_operand_150 : decode cX12_operand 150 = .ok (.ifCond .ne 8, 3) := by decide +kernel
theorem dX12_operand_153 : decode cX12_operand 153 = .ok (.aload_n 0, 1) := by decide +kernel
theorem dX12_operand_154 : decode cX12_operand 154 = .ok (.iconst 3, 1) := by decide +kernel
theorem dX12_operand_155 : decode cX12_operand 155 = .ok (.invokevirtual 258, 3) := by decide +kernel
theorem dX12_operand_158 : decode cX12_operand 158 = .ok (.aload_n 0, 1) := by decide +kernel
theorem dX12_operand_159 : decode cX12_operand 159 = .ok (.getfield 189, 3) := by decide +kernel
theorem dX12_operand_162 : decode cX12_operand 162 = .ok (.ifCond .le 5, 3) := by decide +kernel
theorem dX12_operand_165 : decode cX12_operand 165 = .ok (.iload_n 1, 1) := by decide +kernel
theorem dX12_operand_166 : decode cX12_operand 166 = .ok (.ireturn, 1) := by decide +kernel
theorem dX12_operand_167 : decode cX12_operand 167 = .ok (.aload_n 0, 1) := by decide +kernel
theorem dX12_operand_168 : decode cX12_operand 168 = .ok (.aload_n 0, 1) := by decide +kernel
theorem dX12_operand_169 : decode cX12_operand 169 = .ok (.getfield 177, 3) := by decide +kernel
theorem dX12_operand_172 : decode cX12_operand 172 = .ok (.iconst 2, 1) := by decide +kernel
theorem dX12_operand_173 : decode cX12_operand 173 = .ok (.if_icmp .ne 7, 3) := by decide +kernel
theorem dX12_operand_176 : decode cX12_operand 176 = .ok (.iconst 0, 1) := by decide +kernel
theorem dX12_operand_177 : decode cX12_operand 177 = .ok (.goto 8, 3) := by decide +kernel
theorem dX12_operand_180 : decode cX12_operand 180 = .ok (.bipush 20, 2) := by decide +kernel
theorem dX12_operand_182 : decode cX12_operand 182 = .ok (.iload 4, 2) := by decide +kernel
theorem dX12_operand_184 : decode cX12_operand 184 = .ok (.iadd, 1) := by decide +kernel
theorem dX12_operand_185 : decode cX12_operand 185 = .ok (.aload_n 0, 1) := by decide +kernel
theorem dX12_operand_186 : decode cX12_operand 186 = .ok (.getfield 174, 3) := by decide +kernel
theorem dX12_operand_189 : decode cX12_operand 189 = .ok (.invokevirtual 229, 3) := by decide +kernel
theorem dX12_operand_192 : decode cX12_operand 192 = .ok (.aload_n 0, 1) := by decide +kernel
theorem dX12_operand_193 : decode cX12_operand 193 = .ok (.dup, 1) := by decide +kernel
theorem dX12_operand_194 : decode cX12_operand 194 = .ok (.getfield 264, 3) := by decide +kernel
theorem dX12_operand_197 : decode cX12_operand 197 = .ok (.iconst 1, 1) := by decide +kernel
theorem dX12_operand_198 : decode cX12_operand 198 = .ok (.iadd, 1) := by decide +kernel
theorem dX12_operand_199 : decode cX12_operand 199 = .ok (.putfield 264, 3) := by decide +kernel
theorem dX12_operand_202 : decode cX12_operand 202 = .ok (.aload_n 0, 1) := by decide +kernel
theorem dX12_operand_203 : decode cX12_operand 203 = .ok (.invokevirtual 267, 3) := by decide +kernel
theorem dX12_operand_206 : decode cX12_operand 206 = .ok (.iconst 2, 1) := by decide +kernel
theorem dX12_operand_207 : decode cX12_operand 207 = .ok (.ireturn, 1) := by decide +kernel
theorem dX12_operand_208 : decode cX12_operand 208 = .ok (.aload_n 0, 1) := by decide +kernel
theorem dX12_operand_209 : decode cX12_operand 209 = .ok (.getfield 177, 3) := by decide +kernel
theorem dX12_operand_212 : decode cX12_operand 212 = .ok (.bipush 40, 2) := by decide +kernel
theorem dX12_operand_214 : decode cX12_operand 214 = .ok (.if_icmp .ne 15, 3) := by decide +kernel
theorem dX12_operand_217 : decode cX12_operand 217 = .ok (.aload_n 0, 1) := by decide +kernel
theorem dX12_operand_218 : decode cX12_operand 218 = .ok (.bipush 48, 2) := by decide +kernel
theorem dX12_operand_220 : decode cX12_operand 220 = .ok (.invokevirtual 270, 3) := by decide +kernel
theorem dX12_operand_223 : decode cX12_operand 223 = .ok (.aload_n 0, 1) := by decide +kernel
theorem dX12_operand_224 : decode cX12_operand 224 = .ok (.invokevirtual 267, 3) := by decide +kernel
theorem dX12_operand_227 : decode cX12_operand 227 = .ok (.iconst 0, 1) := by decide +kernel
theorem dX12_operand_228 : decode cX12_operand 228 = .ok (.ireturn, 1) := by decide +kernel
theorem dX12_operand_229 : decode cX12_operand 229 = .ok (.iload_n 1, 1) := by decide +kernel
theorem dX12_operand_230 : decode cX12_operand 230 = .ok (.ifCond .ne 25, 3) := by decide +kernel
theorem dX12_operand_233 : decode cX12_operand 233 = .ok (.aload_n 0, 1) := by decide +kernel
theorem dX12_operand_234 : decode cX12_operand 234 = .ok (.ldc2_w 256, 3) := by decide +kernel
theorem dX12_operand_237 : decode cX12_operand 237 = .ok (.invokevirtual 273, 3) := by decide +kernel
theorem dX12_operand_240 : decode cX12_operand 240 = .ok (.ifCond .eq 15, 3) := by decide +kernel
theorem dX12_operand_243 : decode cX12_operand 243 = .ok (.aload_n 0, 1) := by decide +kernel
theorem dX12_operand_244 : decode cX12_operand 244 = .ok (.bipush 40, 2) := by decide +kernel
theorem dX12_operand_246 : decode cX12_operand 246 = .ok (.invokevirtual 270, 3) := by decide +kernel
theorem dX12_operand_249 : decode cX12_operand 249 = .ok (.aload_n 0, 1) := by decide +kernel
theorem dX12_operand_250 : decode cX12_operand 250 = .ok (.invokevirtual 267, 3) := by decide +kernel
theorem dX12_operand_253 : decode cX12_operand 253 = .ok (.iconst 0, 1) := by decide +kernel
theorem dX12_operand_254 : decode cX12_operand 254 = .ok (.ireturn, 1) := by decide +kernel
theorem dX12_operand_255 : decode cX12_operand 255 = .ok (.aload_n 0, 1) := by decide +kernel
theorem dX12_operand_256 : decode cX12_operand 256 = .ok (.iconst 2, 1) := by decide +kernel
theorem dX12_operand_257 : decode cX12_operand 257 = .ok (.invokevirtual 258, 3) := by decide +kernel
theorem dX12_operand_260 : decode cX12_operand 260 = .ok (.iload_n 1, 1) := by decide +kernel
theorem dX12_operand_261 : decode cX12_operand 261 = .ok (.ireturn, 1) := by decide +kernel
theorem dX12_sign_0 : decode cX12_sign 0 = .ok (.aload_n 0, 1) := by decide +kernel
theorem dX12_sign_1 : decode cX12_sign 1 = .ok (.getfield 177, 3) := by decide +kernel
theorem dX12_sign_4 : decode cX12_sign 4 = .ok (.bipush 43, 2) := by decide +kernel
theorem dX12_sign_6 : decode cX12_sign 6 = .ok (.if_icmp .eq 12, 3) := by decide +kernel
theorem dX12_sign_9 : decode cX12_sign 9 = .ok (.aload_n 0, 1) := by decide +kernel
theorem dX12_sign_10 : decode cX12_sign 10 = .ok (.getfield 177, 3) := by decide +kernel
theorem dX12_sign_13 : decode cX12_sign 13 = .ok (.bipush 45, 2) := by decide +kernel
theorem dX12_sign_15 : decode cX12_sign 15 = .ok (.if_icmp .ne 35, 3) := by decide +kernel
theorem dX12_sign_18 : decode cX12_sign 18 = .ok (.aload_n 0, 1) := by decide +kernel
theorem dX12_sign_19 : decode cX12_sign 19 = .ok (.bipush 46, 2) := by decide +kernel
theorem dX12_sign_21 : decode cX12_sign 21 = .ok (.invokevirtual 245, 3) := by decide +kernel
theorem dX12_sign_24 : decode cX12_sign 24 = .ok (.aload_n 0, 1) := by decide +kernel
theorem dX12_sign_25 : decode cX12_sign 25 = .ok (.aload_n 0, 1) := by decide +kernel
theorem dX12_sign_26 : decode cX12_sign 26 = .ok (.getfield 177, 3) := by decide +kernel
theorem dX12_sign_29 : decode cX12_sign 29 = .ok (.bipush 43, 2) := by decide +kernel
theorem dX12_sign_31 : decode cX12_sign 31 = .ok (.if_icmp .ne 8, 3) := by decide +kernel
theorem dX12_sign_34 : decode cX12_sign 34 = .ok (.bipush 46, 2) := by decide +kernel
theorem dX12_sign_36 : decode cX12_sign 36 = .ok (.goto 5, 3) := by decide +kernel
theorem dX12_sign_39 : decode cX12_sign 39 = .ok (.bipush 47, 2) := by decide +kernel
theorem dX12_sign_41 : decode cX12_sign 41 = .ok (.invokevirtual 270, 3) := by decide +kernel
theorem dX12_sign_44 : decode cX12_sign 44 = .ok (.aload_n 0, 1) := by decide +kernel
theorem dX12_sign_45 : decode cX12_sign 45 = .ok (.invokevirtual 267, 3) := by decide +kernel
theorem dX12_sign_48 : decode cX12_sign 48 = .ok (.iconst 1, 1) := by decide +kernel
theorem dX12_sign_49 : decode cX12_sign 49 = .ok (.ireturn, 1) := by decide +kernel
theorem dX12_sign_50 : decode cX12_sign 50 = .ok (.aload_n 0, 1) := by decide +kernel
theorem dX12_sign_51 : decode cX12_sign 51 = .ok (.getfield 177, 3) := by decide +kernel
theorem dX12_sign_54 : decode cX12_sign 54 = .ok (.bipush 61, 2) := by decide +kernel
theorem dX12_sign_56 : decode cX12_sign 56 = .ok (.if_icmp .eq 21, 3) := by decide +kernel
theorem dX12_sign_59 : decode cX12_sign 59 = .ok (.aload_n 0, 1) := by decide +kernel
theorem dX12_sign_60 : decode cX12_sign 60 = .ok (.getfield 177, 3) := by decide +kernel
theorem dX12_sign_63 : decode cX12_sign 63 = .ok (.bipush 60, 2) := by decide +kernel
theorem dX12_sign_65 : decode cX12_sign 65 = .ok (.if_icmp .eq 12, 3) := by decide +kernel
theorem dX12_sign_68 : decode cX12_sign 68 = .ok (.aload_n 0, 1) := by decide +kernel
theorem dX12_sign_69 : decode cX12_sign 69 = .ok (.getfield 177, 3) := by decide +kernel
theorem dX12_sign_72 : decode cX12_sign 72 = .ok (.bipush 62, 2) := by decide +kernel
theorem dX12_sign_74 : decode cX12_sign 74 = .ok (.if_icmp .ne 98, 3) := by decide +kernel
theorem dX12_sign_77 : decode cX12_sign 77 = .ok (.aload_n 0, 1) := by decide +kernel
theorem dX12_sign_78 : decode cX12_sign 78 = .ok (.bipush 46, 2) := by decide +kernel
theorem dX12_sign_80 : decode cX12_sign 80 = .ok (.invokevirtual 245, 3) := by decide +kernel
theorem dX12_sign_83 : decode cX12_sign 83 = .ok (.aload_n 0, 1) := by decide +kernel
theorem dX12_sign_84 : decode cX12_sign 84 = .ok (.getfield 223, 3) := by decide +kernel
theorem dX12_sign_87 : decode cX12_sign 87 = .ok (.ifCond .ne 7, 3) := by decide +kernel
theorem dX12_sign_90 : decode cX12_sign 90 = .ok (.iconst (-1), 1) := by decide +kernel
theorem dX12_sign_91 : decode cX12_sign 91 = .ok (.goto 14, 3) := by decide +kernel
theorem dX12_sign_94 : decode cX12_sign 94 = .ok (.aload_n 0, 1) := by decide +kernel
theorem dX12_sign_95 : decode cX12_sign 95 = .ok (.getfield 72, 3) := by decide +kernel
theorem dX12_sign_98 : decode cX12_sign 98 = .ok (.aload_n 0, 1) := by decide +kernel
theorem dX12_sign_99 : decode cX12_sign 99 = .ok (.getfield 223, 3) := by decide +kernel
theorem dX12_sign_102 : decode cX12_sign 102 = .ok (.iconst 1, 1) := by decide +kernel
theorem dX12_sign_103 : decode cX12_sign 103 = .ok (.isub, 1) := by decide +kernel
theorem dX12_sign_104 : decode cX12_sign 104 = .ok (.iaload, 1) := by decide +kernel
theorem dX12_sign_105 : decode cX12_sign 105 = .ok (.istore_n 1, 1) := by decide +kernel
theorem dX12_sign_106 : decode cX12_sign 106 = .ok (.iload_n 1, 1) := by decide +kernel
theorem dX12_sign_107 : decode cX12_sign 107 = .ok (.bipush 43, 2) := by decide +kernel
theorem dX12_sign_109 : decode cX12_sign 109 = .ok (.if_icmp .lt 14, 3) := by decide +kernel
theorem dX12_sign_112 : decode cX12_sign 112 = .ok (.iload_n 1, 1) := by decide +kernel
theorem dX12_sign_113 : decode cX12_sign 113 = .ok (.bipush 45, 2) := by decide +kernel
theorem dX12_sign_115 : decode cX12_sign 115 = .ok (.if_icmp .gt 8, 3) := by decide +kernel
theorem dX12_sign_118 : decode cX12_sign 118 = .ok (.aload_n 0, 1) := by decide +kernel
theorem dX12_sign_119 : decode cX12_sign 119 = .ok (.iconst 2, 1) := by decide +kernel
theorem dX12_sign_120 : decode cX12_sign 120 = .ok (.invokevirtual 258, 3) := by decide +kernel
theorem dX12_sign_123 : decode cX12_sign 123 = .ok (.aload_n 0, 1) := by decide +kernel
theorem dX12_sign_124 : decode cX12_sign 124 = .ok (.getfield 189, 3) := by decide +kernel
theorem dX12_sign_127 : decode cX12_sign 127 = .ok (.ifCond .le 5, 3) := by decide +kernel
theorem dX12_sign_130 : decode cX12_sign 130 = .ok (.iconst 2, 1) := by decide +kernel
theorem dX12_sign_131 : decode cX12_sign 131 = .ok (.ireturn, 1) := by decide +kernel
theorem dX12_sign_132 : decode cX12_sign 132 = .ok (.aload_n 0, 1) := by decide +kernel
theorem dX12_sign_133 : decode cX12_sign 133 = .ok (.aload_n 0, 1) := by decide +kernel
theorem dX12_sign_134 : decode cX12_sign 134 = .ok (.getfield 177, 3) := by decide +kernel
theorem dX12_sign_137 : decode cX12_sign 137 = .ok (.bipush 61, 2) := by decide +kernel
theorem dX12_sign_139 : decode cX12_sign 139 = .ok (.if_icmp .ne 8, 3) := by decide +kernel
theorem dX12_sign_142 : decode cX12_sign 142 = .ok (.bipush 43, 2) := by decide +kernel
theorem dX12_sign_144 : decode cX12_sign 144 = .ok (.goto 19, 3) := by decide +kernel
theorem dX12_sign_147 : decode cX12_sign 147 = .ok (.aload_n 0, 1) := by decide +kernel
theorem dX12_sign_148 : decode cX12_sign 148 = .ok (.getfield 177, 3) := by decide +kernel
theorem dX12_sign_151 : decode cX12_sign 151 = .ok (.bipush 60, 2) := by decide +kernel
theorem dX12_sign_153 : decode cX12_sign 153 = .ok (.if_icmp .ne 8, 3) := by decide +kernel
theorem dX12_sign_156 : decode cX12_sign 156 = .ok (.bipush 44, 2) := by decide +kernel
theorem dX12_sign_158 : decode cX12_sign 158 = .ok (.goto 5, 3) := by decide +kernel
theorem dX12_sign_161 : decode cX12_sign 161 = .ok (.bipush 45, 2) := by decide +kernel
theorem dX12_sign_163 : decode cX12_sign 163 = .ok (.invokevirtual 270, 3) := by decide +kernel
theorem dX12_sign_166 : decode cX12_sign 166 = .ok (.aload_n 0, 1) := by decide +kernel
theorem dX12_sign_167 : decode cX12_sign 167 = .ok (.invokevirtual 267, 3) := by decide +kernel
theorem dX12_sign_170 : decode cX12_sign 170 = .ok (.iconst 1, 1) := by decide +kernel
theorem dX12_sign_171 : decode cX12_sign 171 = .ok (.ireturn, 1) := by decide +kernel
theorem dX12_sign_172 : decode cX12_sign 172 = .ok (.aload_n 0, 1) := by decide +kernel
theorem dX12_sign_173 : decode cX12_sign 173 = .ok (.ldc2_w 254, 3) := by decide +kernel
theorem dX12_sign_176 : decode cX12_sign 176 = .ok (.invokevirtual 273, 3) := by decide +kernel
theorem dX12_sign_179 : decode cX12_sign 179 = .ok (.ifCond .ne 13, 3) := by decide +kernel
theorem dX12_sign_182 : decode cX12_sign 182 = .ok (.aload_n 0, 1) := by decide +kernel
theorem dX12_sign_183 : decode cX12_sign 183 = .ok (.ldc2_w 252, 3) := by decide +kernel
theorem dX12_sign_186 : decode cX12_sign 186 = .ok (.invokevirtual 273, 3) := by decide +kernel
theorem dX12_sign_189 : decode cX12_sign 189 = .ok (.ifCond .eq 37, 3) := by decide +kernel
theorem dX12_sign_192 : decode cX12_sign 192 = .ok (.aload_n 0, 1) := by decide +kernel
theorem dX12_sign_193 : decode cX12_sign 193 = .ok (.ldc2_w 254, 3) := by decide +kernel
theorem dX12_sign_196 : decode cX12_sign 196 = .ok (.invokevirtual 273, 3) := by decide +kernel
theorem dX12_sign_199 : decode cX12_sign 199 = .ok (.istore_n 1, 1) := by decide +kernel
theorem dX12_sign_200 : decode cX12_sign 200 = .ok (.aload_n 0, 1) := by decide +kernel
theorem dX12_sign_201 : decode cX12_sign 201 = .ok (.iload_n 1, 1) := by decide +kernel
theorem dX12_sign_202 : decode cX12_sign 202 = .ok (.invokevirtual 277, 3) := by decide +kernel
theorem dX12_sign_205 : decode cX12_sign 205 = .ok (.aload_n 0, 1) := by decide +kernel
theorem dX12_sign_206 : decode cX12_sign 206 = .ok (.iload_n 1, 1) := by decide +kernel
theorem dX12_sign_207 : decode cX12_sign 207 = .ok (.ifCond .eq 8, 3) := by decide +kernel
theorem dX12_sign_210 : decode cX12_sign 210 = .ok (.bipush 42, 2) := by decide +kernel
theorem dX12_sign_212 : decode cX12_sign 212 = .ok (.goto 5, 3) := by decide +kernel
theorem dX12_sign_215 : decode cX12_sign 215 = .ok (.bipush 41, 2) := by decide +kernel
theorem dX12_sign_217 : decode cX12_sign 217 = .ok (.invokevirtual 270, 3) := by decide +kernel
theorem dX12_sign_220 : decode cX12_sign 220 = .ok (.aload_n 0, 1) := by decide +kernel
theorem dX12_sign_221 : decode cX12_sign 221 = .ok (.invokevirtual 267, 3) := by decide +kernel
theorem dX12_sign_224 : decode cX12_sign 224 = .ok (.iconst 0, 1) := by decide +kernel
theorem dX12_sign_225 : decode cX12_sign 225 = .ok (.ireturn, 1) := by decide +kernel
theorem dX12_sign_226 : decode cX12_sign 226 = .ok (.aload_n 0, 1) := by decide +kernel
theorem dX12_sign_227 : decode cX12_sign 227 = .ok (.getfield 177, 3) := by decide +kernel
theorem dX12_sign_230 : decode cX12_sign 230 = .ok (.bipush 41, 2) := by decide +kernel
theorem dX12_sign_232 : decode cX12_sign 232 = .ok (.if_icmp .ne 41, 3) := by decide +kernel
theorem dX12_sign_235 : decode cX12_sign 235 = .ok (.aload_n 0, 1) := by decide +kernel
theorem dX12_sign_236 : decode cX12_sign 236 = .ok (.invokevirtual 233, 3) := by decide +kernel
theorem dX12_sign_239 : decode cX12_sign 239 = .ok (.ifCond .eq 34, 3) := by decide +kernel
theorem dX12_sign_242 : decode cX12_sign 242 = .ok (.aload_n 0, 1) := by decide +kernel
theorem dX12_sign_243 : decode cX12_sign 243 = .ok (.iconst 0, 1) := by decide +kernel
theorem dX12_sign_244 : decode cX12_sign 244 = .ok (.invokevirtual 245, 3) := by decide +kernel
theorem dX12_sign_247 : decode cX12_sign 247 = .ok (.aload_n 0, 1) := by decide +kernel
theorem dX12_sign_248 : decode cX12_sign 248 = .ok (.dup, 1) := by decide +kernel
theorem dX12_sign_249 : decode cX12_sign 249 = .ok (.getfield 223, 3) := by decide +kernel
theorem dX12_sign_252 : decode cX12_sign 252 = .ok (.iconst 1, 1) := by decide +kernel
theorem dX12_sign_253 : decode cX12_sign 253 = .ok (.isub, 1) := by decide +kernel
theorem dX12_sign_254 : decode cX12_sign 254 = .ok (.putfield 223, 3) := by decide +kernel
theorem dX12_sign_257 : decode cX12_sign 257 = .ok (.aload_n 0, 1) := by decide +kernel
theorem dX12_sign_258 : decode cX12_sign 258 = .ok (.dup, 1) := by decide +kernel
theorem dX12_sign_259 : decode cX12_sign 259 = .ok (.getfield 226, 3) := by decide +kernel
theorem dX12_sign_262 : decode cX12_sign 262 = .ok (.iconst 1, 1) := by decide +kernel
theorem dX12_sign_263 : decode cX12_sign 263 = .ok (.isub, 1) := by decide +kernel
theorem dX12_sign_264 : decode cX12_sign 264 = .ok (.putfield 226, 3) := by decide +kernel
theorem dX12_sign_267 : decode cX12_sign 267 = .ok (.aload_n 0, 1) := by decide +kernel
theorem dX12_sign_268 : decode cX12_sign 268 = .ok (.invokevirtual 267, 3) := by decide +kernel
theorem dX12_sign_271 : decode cX12_sign 271 = .ok (.iconst 2, 1) := by decide +kernel
theorem dX12_sign_272 : decode cX12_sign 272 = .ok (.ireturn, 1) := by decide +kernel
theorem dX12_sign_273 : decode cX12_sign 273 = .ok (.aload_n 0, 1) := by decide +kernel
theorem dX12_sign_274 : decode cX12_sign 274 = .ok (.iconst 2, 1) := by decide +kernel
theorem dX12_sign_275 : decode cX12_sign 275 = .ok (.invokevirtual 258, 3) := by decide +kernel
theorem dX12_sign_278 : decode cX12_sign 278 = .ok (.iconst 2, 1) := by decide +kernel
theorem dX12_sign_279 : decode cX12_sign 279 = .ok (.ireturn, 1) := by decide +kernel
theorem dX12_settleOnes_0 : decode cX12_settleOnes 0 = .ok (.iconst 1, 1) := by decide +kernel
theorem dX12_settleOnes_1 : decode cX12_settleOnes 1 = .ok (.istore_n 2, 1) := by decide +kernel
theorem dX12_settleOnes_2 : decode cX12_settleOnes 2 = .ok (.iload_n 2, 1) := by decide +kernel
theorem dX12_settleOnes_3 : decode cX12_settleOnes 3 = .ok (.ifCond .eq 91, 3) := by decide +kernel
theorem dX12_settleOnes_6 : decode cX12_settleOnes 6 = .ok (.aload_n 0, 1) := by decide +kernel
theorem dX12_settleOnes_7 : decode cX12_settleOnes 7 = .ok (.getfield 223, 3) := by decide +kernel
theorem dX12_settleOnes_10 : decode cX12_settleOnes 10 = .ok (.ifCond .ne 8, 3) := by decide +kernel
theorem dX12_settleOnes_13 : decode cX12_settleOnes 13 = .ok (.bipush 48, 2) := by decide +kernel
theorem dX12_settleOnes_15 : decode cX12_settleOnes 15 = .ok (.goto 14, 3) := by decide +kernel
theorem dX12_settleOnes_18 : decode cX12_settleOnes 18 = .ok (.aload_n 0, 1) := by decide +kernel
theorem dX12_settleOnes_19 : decode cX12_settleOnes 19 = .ok (.getfield 72, 3) := by decide +kernel
theorem dX12_settleOnes_22 : decode cX12_settleOnes 22 = .ok (.aload_n 0, 1) := by decide +kernel
theorem dX12_settleOnes_23 : decode cX12_settleOnes 23 = .ok (.getfield 223, 3) := by decide +kernel
theorem dX12_settleOnes_26 : decode cX12_settleOnes 26 = .ok (.iconst 1, 1) := by decide +kernel
theorem dX12_settleOnes_27 : decode cX12_settleOnes 27 = .ok (.isub, 1) := by decide +kernel
theorem dX12_settleOnes_28 : decode cX12_settleOnes 28 = .ok (.iaload, 1) := by decide +kernel
theorem dX12_settleOnes_29 : decode cX12_settleOnes 29 = .ok (.istore_n 3, 1) := by decide +kernel
theorem dX12_settleOnes_30 : decode cX12_settleOnes 30 = .ok (.iload_n 3, 1) := by decide +kernel
theorem dX12_settleOnes_31 : decode cX12_settleOnes 31 = .ok (.bipush 48, 2) := by decide +kernel
theorem dX12_settleOnes_33 : decode cX12_settleOnes 33 = .ok (.if_icmp .eq 17, 3) := by decide +kernel
theorem dX12_settleOnes_36 : decode cX12_settleOnes 36 = .ok (.iload_n 1, 1) := by decide +kernel
theorem dX12_settleOnes_37 : decode cX12_settleOnes 37 = .ok (.ifCond .eq 9, 3) := by decide +kernel
theorem dX12_settleOnes_40 : decode cX12_settleOnes 40 = .ok (.iload_n 3, 1) := by decide +kernel
theorem dX12_settleOnes_41 : decode cX12_settleOnes 41 = .ok (.bipush 41, 2) := by decide +kernel
theorem dX12_settleOnes_43 : decode cX12_settleOnes 43 = .ok (.if_icmp .eq 7, 3) := by decide +kernel
theorem dX12_settleOnes_46 : decode cX12_settleOnes 46 = .ok (.iconst 1, 1) := by decide +kernel
theorem dX12_settleOnes_47 : decode cX12_settleOnes 47 = .ok (.goto 4, 3) := by decide +kernel
theorem dX12_settleOnes_50 : decode cX12_settleOnes 50 = .ok (.iconst 0, 1) := by decide +kernel
theorem dX12_settleOnes_51 : decode cX12_settleOnes 51 = .ok (.istore_n 2, 1) := by decide +kernel
theorem dX12_settleOnes_52 : decode cX12_settleOnes 52 = .ok (.iload_n 2, 1) := by decide +kernel
theorem dX12_settleOnes_53 : decode cX12_settleOnes 53 = .ok (.ifCond .ne 6, 3) := by decide +kernel
theorem dX12_settleOnes_56 : decode cX12_settleOnes 56 = .ok (.goto (-54), 3) := by decide +kernel
theorem dX12_settleOnes_59 : decode cX12_settleOnes 59 = .ok (.aload_n 0, 1) := by decide +kernel
theorem dX12_settleOnes_60 : decode cX12_settleOnes 60 = .ok (.dup, 1) := by decide +kernel
theorem dX12_settleOnes_61 : decode cX12_settleOnes 61 = .ok (.getfield 223, 3) := by decide +kernel
theorem dX12_settleOnes_64 : decode cX12_settleOnes 64 = .ok (.iconst 1, 1) := by decide +kernel
theorem dX12_settleOnes_65 : decode cX12_settleOnes 65 = .ok (.isub, 1) := by decide +kernel
theorem dX12_settleOnes_66 : decode cX12_settleOnes 66 = .ok (.putfield 223, 3) := by decide +kernel
theorem dX12_settleOnes_69 : decode cX12_settleOnes 69 = .ok (.iload_n 3, 1) := by decide +kernel
theorem dX12_settleOnes_70 : decode cX12_settleOnes 70 = .ok (.bipush 40, 2) := by decide +kernel
theorem dX12_settleOnes_72 : decode cX12_settleOnes 72 = .ok (.if_icmp .ne 13, 3) := by decide +kernel
theorem dX12_settleOnes_75 : decode cX12_settleOnes 75 = .ok (.aload_n 0, 1) := by decide +kernel
theorem dX12_settleOnes_76 : decode cX12_settleOnes 76 = .ok (.dup, 1) := by decide +kernel
theorem dX12_settleOnes_77 : decode cX12_settleOnes 77 = .ok (.getfield 226, 3) := by decide +kernel
theorem dX12_settleOnes_80 : decode cX12_settleOnes 80 = .ok (.iconst 1, 1) := by decide +kernel
theorem dX12_settleOnes_81 : decode cX12_settleOnes 81 = .ok (.isub, 1) := by decide +kernel
theorem dX12_settleOnes_82 : decode cX12_settleOnes 82 = .ok (.putfield 226, 3) := by decide +kernel
theorem dX12_settleOnes_85 : decode cX12_settleOnes 85 = .ok (.aload_n 0, 1) := by decide +kernel
theorem dX12_settleOnes_86 : decode cX12_settleOnes 86 = .ok (.iload_n 3, 1) := by decide +kernel
theorem dX12_settleOnes_87 : decode cX12_settleOnes 87 = .ok (.iconst 0, 1) := by decide +kernel
theorem dX12_settleOnes_88 : decode cX12_settleOnes 88 = .ok (.invokevirtual 229, 3) := by decide +kernel
theorem dX12_settleOnes_91 : decode cX12_settleOnes 91 = .ok (.goto (-89), 3) := by decide +kernel
theorem dX12_settleOnes_94 : decode cX12_settleOnes 94 = .ok (.return_, 1) := by decide +kernel
theorem dX12_rules_0 : decode cX12_rules 0 = .ok (.aload_n 0, 1) := by decide +kernel
theorem dX12_rules_1 : decode cX12_rules 1 = .ok (.aload_n 0, 1) := by decide +kernel
theorem dX12_rules_2 : decode cX12_rules 2 = .ok (.getfield 150, 3) := by decide +kernel
theorem dX12_rules_5 : decode cX12_rules 5 = .ok (.putfield 160, 3) := by decide +kernel
theorem dX12_rules_8 : decode cX12_rules 8 = .ok (.aload_n 0, 1) := by decide +kernel
theorem dX12_rules_9 : decode cX12_rules 9 = .ok (.iconst 0, 1) := by decide +kernel
theorem dX12_rules_10 : decode cX12_rules 10 = .ok (.putfield 150, 3) := by decide +kernel
theorem dX12_rules_13 : decode cX12_rules 13 = .ok (.aload_n 0, 1) := by decide +kernel
theorem dX12_rules_14 : decode cX12_rules 14 = .ok (.iconst 0, 1) := by decide +kernel
theorem dX12_rules_15 : decode cX12_rules 15 = .ok (.putfield 157, 3) := by decide +kernel
theorem dX12_rules_18 : decode cX12_rules 18 = .ok (.aload_n 0, 1) := by decide +kernel
theorem dX12_rules_19 : decode cX12_rules 19 = .ok (.iconst 0, 1) := by decide +kernel
theorem dX12_rules_20 : decode cX12_rules 20 = .ok (.putfield 189, 3) := by decide +kernel
theorem dX12_rules_23 : decode cX12_rules 23 = .ok (.aload_n 0, 1) := by decide +kernel
theorem dX12_rules_24 : decode cX12_rules 24 = .ok (.iconst (-1), 1) := by decide +kernel
theorem dX12_rules_25 : decode cX12_rules 25 = .ok (.putfield 68, 3) := by decide +kernel
theorem dX12_rules_28 : decode cX12_rules 28 = .ok (.aload_n 0, 1) := by decide +kernel
theorem dX12_rules_29 : decode cX12_rules 29 = .ok (.iconst 0, 1) := by decide +kernel
theorem dX12_rules_30 : decode cX12_rules 30 = .ok (.putfield 281, 3) := by decide +kernel
theorem dX12_rules_33 : decode cX12_rules 33 = .ok (.aload_n 0, 1) := by decide +kernel
theorem dX12_rules_34 : decode cX12_rules 34 = .ok (.iconst 0, 1) := by decide +kernel
theorem dX12_rules_35 : decode cX12_rules 35 = .ok (.putfield 220, 3) := by decide +kernel
theorem dX12_rules_38 : decode cX12_rules 38 = .ok (.aload_n 0, 1) := by decide +kernel
theorem dX12_rules_39 : decode cX12_rules 39 = .ok (.iconst 0, 1) := by decide +kernel
theorem dX12_rules_40 : decode cX12_rules 40 = .ok (.putfield 264, 3) := by decide +kernel
theorem dX12_rules_43 : decode cX12_rules 43 = .ok (.aload_n 0, 1) := by decide +kernel
theorem dX12_rules_44 : decode cX12_rules 44 = .ok (.invokevirtual 267, 3) := by decide +kernel
theorem dX12_rules_47 : decode cX12_rules 47 = .ok (.aload_n 0, 1) := by decide +kernel
theorem dX12_rules_48 : decode cX12_rules 48 = .ok (.getfield 189, 3) := by decide +kernel
theorem dX12_rules_51 : decode cX12_rules 51 = .ok (.ifCond .ne 113, 3) := by decide +kernel
theorem dX12_rules_54 : decode cX12_rules 54 = .ok (.aload_n 0, 1) := by decide +kernel
theorem dX12_rules_55 : decode cX12_rules 55 = .ok (.getfield 177, 3) := by decide +kernel
theorem dX12_rules_58 : decode cX12_rules 58 = .ok (.ifCond .eq 106, 3) := by decide +kernel
theorem dX12_rules_61 : decode cX12_rules 61 = .ok (.aload_n 0, 1) := by decide +kernel
theorem dX12_rules_62 : decode cX12_rules 62 = .ok (.ldc2_w 250, 3) := by decide +kernel
theorem dX12_rules_65 : decode cX12_rules 65 = .ok (.invokevirtual 273, 3) := by decide +kernel
theorem dX12_rules_68 : decode cX12_rules 68 = .ok (.istore_n 1, 1) := by decide +kernel
theorem dX12_rules_69 : decode cX12_rules 69 = .ok (.iload_n 1, 1) := by decide +kernel
theorem dX12_rules_70 : decode cX12_rules 70 = .ok (.ifCond .ne 13, 3) := by decide +kernel
theorem dX12_rules_73 : decode cX12_rules 73 = .ok (.aload_n 0, 1) := by decide +kernel
theorem dX12_rules_74 : decode cX12_rules 74 = .ok (.ldc2_w 248, 3) := by decide +kernel
theorem dX12_rules_77 : decode cX12_rules 77 = .ok (.invokevirtual 273, 3) := by decide +kernel
theorem dX12_rules_80 : decode cX12_rules 80 = .ok (.ifCond .eq 12, 3) := by decide +kernel
theorem dX12_rules_83 : decode cX12_rules 83 = .ok (.aload_n 0, 1) := by decide +kernel
theorem dX12_rules_84 : decode cX12_rules 84 = .ok (.getfield 281, 3) := by decide +kernel
theorem dX12_rules_87 : decode cX12_rules 87 = .ok (.bipush 12, 2) := by decide +kernel
theorem dX12_rules_89 : decode cX12_rules 89 = .ok (.if_icmp .ne 8, 3) := by decide +kernel
theorem dX12_rules_92 : decode cX12_rules 92 = .ok (.aload_n 0, 1) := by decide +kernel
theorem dX12_rules_93 : decode cX12_rules 93 = .ok (.iconst 2, 1) := by decide +kernel
theorem dX12_rules_94 : decode cX12_rules 94 = .ok (.invokevirtual 258, 3) := by decide +kernel
theorem dX12_rules_97 : decode cX12_rules 97 = .ok (.aload_n 0, 1) := by decide +kernel
theorem dX12_rules_98 : decode cX12_rules 98 = .ok (.getfield 189, 3) := by decide +kernel
theorem dX12_rules_101 : decode cX12_rules 101 = .ok (.ifCond .le 5, 3) := by decide +kernel
theorem dX12_rules_104 : decode cX12_rules 104 = .ok (.iconst (-1), 1) := by decide +kernel
theorem dX12_rules_105 : decode cX12_rules 105 = .ok (.ireturn, 1) := by decide +kernel
theorem dX12_rules_106 : decode cX12_rules 106 = .ok (.aload_n 0, 1) := by decide +kernel
theorem dX12_rules_107 : decode cX12_rules 107 = .ok (.getfield 62, 3) := by decide +kernel
theorem dX12_rules_110 : decode cX12_rules 110 = .ok (.aload_n 0, 1) := by decide +kernel
theorem dX12_rules_111 : decode cX12_rules 111 = .ok (.getfield 281, 3) := by decide +kernel
theorem dX12_rules_114 : decode cX12_rules 114 = .ok (.iload_n 1, 1) := by decide +kernel
theorem dX12_rules_115 : decode cX12_rules 115 = .ok (.bastore, 1) := by decide +kernel
theorem dX12_rules_116 : decode cX12_rules 116 = .ok (.aload_n 0, 1) := by decide +kernel
theorem dX12_rules_117 : decode cX12_rules 117 = .ok (.getfield 59, 3) := by decide +kernel
theorem dX12_rules_120 : decode cX12_rules 120 = .ok (.aload_n 0, 1) := by decide +kernel
theorem dX12_rules_121 : decode cX12_rules 121 = .ok (.getfield 281, 3) := by decide +kernel
theorem dX12_rules_124 : decode cX12_rules 124 = .ok (.aload_n 0, 1) := by decide +kernel
theorem dX12_rules_125 : decode cX12_rules 125 = .ok (.getfield 220, 3) := by decide +kernel
theorem dX12_rules_128 : decode cX12_rules 128 = .ok (.iastore, 1) := by decide +kernel
theorem dX12_rules_129 : decode cX12_rules 129 = .ok (.aload_n 0, 1) := by decide +kernel
theorem dX12_rules_130 : decode cX12_rules 130 = .ok (.invokevirtual 267, 3) := by decide +kernel
theorem dX12_rules_133 : decode cX12_rules 133 = .ok (.aload_n 0, 1) := by decide +kernel
theorem dX12_rules_134 : decode cX12_rules 134 = .ok (.iload_n 1, 1) := by decide +kernel
theorem dX12_rules_135 : decode cX12_rules 135 = .ok (.invokevirtual 284, 3) := by decide +kernel
theorem dX12_rules_138 : decode cX12_rules 138 = .ok (.aload_n 0, 1) := by decide +kernel
theorem dX12_rules_139 : decode cX12_rules 139 = .ok (.getfield 189, 3) := by decide +kernel
theorem dX12_rules_142 : decode cX12_rules 142 = .ok (.ifCond .le 5, 3) := by decide +kernel
theorem dX12_rules_145 : decode cX12_rules 145 = .ok (.iconst (-1), 1) := by decide +kernel
theorem dX12_rules_146 : decode cX12_rules 146 = .ok (.ireturn, 1) := by decide +kernel
theorem dX12_rules_147 : decode cX12_rules 147 = .ok (.aload_n 0, 1) := by decide +kernel
theorem dX12_rules_148 : decode cX12_rules 148 = .ok (.invokevirtual 267, 3) := by decide +kernel
theorem dX12_rules_151 : decode cX12_rules 151 = .ok (.aload_n 0, 1) := by decide +kernel
theorem dX12_rules_152 : decode cX12_rules 152 = .ok (.dup, 1) := by decide +kernel
theorem dX12_rules_153 : decode cX12_rules 153 = .ok (.getfield 281, 3) := by decide +kernel
theorem dX12_rules_156 : decode cX12_rules 156 = .ok (.iconst 1, 1) := by decide +kernel
theorem dX12_rules_157 : decode cX12_rules 157 = .ok (.iadd, 1) := by decide +kernel
theorem dX12_rules_158 : decode cX12_rules 158 = .ok (.putfield 281, 3) := by decide +kernel
theorem dX12_rules_161 : decode cX12_rules 161 = .ok (.goto (-114), 3) := by decide +kernel
theorem dX12_rules_164 : decode cX12_rules 164 = .ok (.aload_n 0, 1) := by decide +kernel
theorem dX12_rules_165 : decode cX12_rules 165 = .ok (.getfield 189, 3) := by decide +kernel
theorem dX12_rules_168 : decode cX12_rules 168 = .ok (.ifCond .le 5, 3) := by decide +kernel
theorem dX12_rules_171 : decode cX12_rules 171 = .ok (.iconst (-1), 1) := by decide +kernel
theorem dX12_rules_172 : decode cX12_rules 172 = .ok (.ireturn, 1) := by decide +kernel
theorem dX12_rules_173 : decode cX12_rules 173 = .ok (.aload_n 0, 1) := by decide +kernel
theorem dX12_rules_174 : decode cX12_rules 174 = .ok (.getfield 59, 3) := by decide +kernel
theorem dX12_rules_177 : decode cX12_rules 177 = .ok (.aload_n 0, 1) := by decide +kernel
theorem dX12_rules_178 : decode cX12_rules 178 = .ok (.getfield 281, 3) := by decide +kernel
theorem dX12_rules_181 : decode cX12_rules 181 = .ok (.aload_n 0, 1) := by decide +kernel
theorem dX12_rules_182 : decode cX12_rules 182 = .ok (.getfield 220, 3) := by decide +kernel
theorem dX12_rules_185 : decode cX12_rules 185 = .ok (.iastore, 1) := by decide +kernel
theorem dX12_rules_186 : decode cX12_rules 186 = .ok (.iconst 0, 1) := by decide +kernel
theorem dX12_rules_187 : decode cX12_rules 187 = .ok (.istore_n 1, 1) := by decide +kernel
theorem dX12_rules_188 : decode cX12_rules 188 = .ok (.iload_n 1, 1) := by decide +kernel
theorem dX12_rules_189 : decode cX12_rules 189 = .ok (.aload_n 0, 1) := by decide +kernel
theorem dX12_rules_190 : decode cX12_rules 190 = .ok (.getfield 220, 3) := by decide +kernel
theorem dX12_rules_193 : decode cX12_rules 193 = .ok (.if_icmp .ge 33, 3) := by decide +kernel
theorem dX12_rules_196 : decode cX12_rules 196 = .ok (.aload_n 0, 1) := by decide +kernel
theorem dX12_rules_197 : decode cX12_rules 197 = .ok (.getfield 41, 3) := by decide +kernel
theorem dX12_rules_200 : decode cX12_rules 200 = .ok (.iload_n 1, 1) := by decide +kernel
theorem dX12_rules_201 : decode cX12_rules 201 = .ok (.aload_n 0, 1) := by decide +kernel
theorem dX12_rules_202 : decode cX12_rules 202 = .ok (.getfield 53, 3) := by decide +kernel
theorem dX12_rules_205 : decode cX12_rules 205 = .ok (.iload_n 1, 1) := by decide +kernel
theorem dX12_rules_206 : decode cX12_rules 206 = .ok (.iaload, 1) := by decide +kernel
theorem dX12_rules_207 : decode cX12_rules 207 = .ok (.iastore, 1) := by decide +kernel
theorem dX12_rules_208 : decode cX12_rules 208 = .ok (.aload_n 0, 1) := by decide +kernel
theorem dX12_rules_209 : decode cX12_rules 209 = .ok (.getfield 44, 3) := by decide +kernel
theorem dX12_rules_212 : decode cX12_rules 212 = .ok (.iload_n 1, 1) := by decide +kernel
theorem dX12_rules_213 : decode cX12_rules 213 = .ok (.aload_n 0, 1) := by decide +kernel
theorem dX12_rules_214 : decode cX12_rules 214 = .ok (.getfield 56, 3) := by decide +kernel
theorem dX12_rules_217 : decode cX12_rules 217 = .ok (.iload_n 1, 1) := by decide +kernel
theorem dX12_rules_218 : decode cX12_rules 218 = .ok (.iaload, 1) := by decide +kernel
theorem dX12_rules_219 : decode cX12_rules 219 = .ok (.iastore, 1) := by decide +kernel
theorem dX12_rules_220 : decode cX12_rules 220 = .ok (.iinc 1 1, 3) := by decide +kernel
theorem dX12_rules_223 : decode cX12_rules 223 = .ok (.goto (-35), 3) := by decide +kernel
theorem dX12_rules_226 : decode cX12_rules 226 = .ok (.iconst 0, 1) := by decide +kernel
theorem dX12_rules_227 : decode cX12_rules 227 = .ok (.istore_n 1, 1) := by decide +kernel
theorem dX12_rules_228 : decode cX12_rules 228 = .ok (.iload_n 1, 1) := by decide +kernel
theorem dX12_rules_229 : decode cX12_rules 229 = .ok (.aload_n 0, 1) := by decide +kernel
theorem dX12_rules_230 : decode cX12_rules 230 = .ok (.getfield 281, 3) := by decide +kernel
theorem dX12_rules_233 : decode cX12_rules 233 = .ok (.if_icmp .ge 21, 3) := by decide +kernel
theorem dX12_rules_236 : decode cX12_rules 236 = .ok (.aload_n 0, 1) := by decide +kernel
theorem dX12_rules_237 : decode cX12_rules 237 = .ok (.getfield 50, 3) := by decide +kernel
theorem dX12_rules_240 : decode cX12_rules 240 = .ok (.iload_n 1, 1) := by decide +kernel
theorem dX12_rules_241 : decode cX12_rules 241 = .ok (.aload_n 0, 1) := by decide +kernel
theorem dX12_rules_242 : decode cX12_rules 242 = .ok (.getfield 62, 3) := by decide +kernel
theorem dX12_rules_245 : decode cX12_rules 245 = .ok (.iload_n 1, 1) := by decide +kernel
theorem dX12_rules_246 : decode cX12_rules 246 = .ok (.baload, 1) := by decide +kernel
theorem dX12_rules_247 : decode cX12_rules 247 = .ok (.bastore, 1) := by decide +kernel
theorem dX12_rules_248 : decode cX12_rules 248 = .ok (.iinc 1 1, 3) := by decide +kernel
theorem dX12_rules_251 : decode cX12_rules 251 = .ok (.goto (-23), 3) := by decide +kernel
theorem dX12_rules_254 : decode cX12_rules 254 = .ok (.iconst 0, 1) := by decide +kernel
theorem dX12_rules_255 : decode cX12_rules 255 = .ok (.istore_n 1, 1) := by decide +kernel
theorem dX12_rules_256 : decode cX12_rules 256 = .ok (.iload_n 1, 1) := by decide +kernel
theorem dX12_rules_257 : decode cX12_rules 257 = .ok (.aload_n 0, 1) := by decide +kernel
theorem dX12_rules_258 : decode cX12_rules 258 = .ok (.getfield 281, 3) := by decide +kernel
theorem dX12_rules_261 : decode cX12_rules 261 = .ok (.if_icmp .gt 21, 3) := by decide +kernel
theorem dX12_rules_264 : decode cX12_rules 264 = .ok (.aload_n 0, 1) := by decide +kernel
theorem dX12_rules_265 : decode cX12_rules 265 = .ok (.getfield 47, 3) := by decide +kernel
theorem dX12_rules_268 : decode cX12_rules 268 = .ok (.iload_n 1, 1) := by decide +kernel
theorem dX12_rules_269 : decode cX12_rules 269 = .ok (.aload_n 0, 1) := by decide +kernel
theorem dX12_rules_270 : decode cX12_rules 270 = .ok (.getfield 59, 3) := by decide +kernel
theorem dX12_rules_273 : decode cX12_rules 273 = .ok (.iload_n 1, 1) := by decide +kernel
theorem dX12_rules_274 : decode cX12_rules 274 = .ok (.iaload, 1) := by decide +kernel
theorem dX12_rules_275 : decode cX12_rules 275 = .ok (.iastore, 1) := by decide +kernel
theorem dX12_rules_276 : decode cX12_rules 276 = .ok (.iinc 1 1, 3) := by decide +kernel
theorem dX12_rules_279 : decode cX12_rules 279 = .ok (.goto (-23), 3) := by decide +kernel
theorem dX12_rules_282 : decode cX12_rules 282 = .ok (.aload_n 0, 1) := by decide +kernel
theorem dX12_rules_283 : decode cX12_rules 283 = .ok (.aload_n 0, 1) := by decide +kernel
theorem dX12_rules_284 : decode cX12_rules 284 = .ok (.getfield 281, 3) := by decide +kernel
theorem dX12_rules_287 : decode cX12_rules 287 = .ok (.putfield 287, 3) := by decide +kernel
theorem dX12_rules_290 : decode cX12_rules 290 = .ok (.aload_n 0, 1) := by decide +kernel
theorem dX12_rules_291 : decode cX12_rules 291 = .ok (.iconst 0, 1) := by decide +kernel
theorem dX12_rules_292 : decode cX12_rules 292 = .ok (.putfield 138, 3) := by decide +kernel
theorem dX12_rules_295 : decode cX12_rules 295 = .ok (.aload_n 0, 1) := by decide +kernel
theorem dX12_rules_296 : decode cX12_rules 296 = .ok (.getfield 287, 3) := by decide +kernel
theorem dX12_rules_299 : decode cX12_rules 299 = .ok (.ireturn, 1) := by decide +kernel
theorem dX12_fault_0 : decode cX12_fault 0 = .ok (.iload_n 1, 1) := by decide +kernel
theorem dX12_fault_1 : decode cX12_fault 1 = .ok (.ifCond .ne 10, 3) := by decide +kernel
theorem dX12_fault_4 : decode cX12_fault 4 = .ok (.aload_n 0, 1) := by decide +kernel
theorem dX12_fault_5 : decode cX12_fault 5 = .ok (.getfield 189, 3) := by decide +kernel
theorem dX12_fault_8 : decode cX12_fault 8 = .ok (.goto 16, 3) := by decide +kernel
theorem dX12_fault_11 : decode cX12_fault 11 = .ok (.iload_n 1, 1) := by decide +kernel
theorem dX12_fault_12 : decode cX12_fault 12 = .ok (.iconst 1, 1) := by decide +kernel
theorem dX12_fault_13 : decode cX12_fault 13 = .ok (.if_icmp .ne 10, 3) := by decide +kernel
theorem dX12_fault_16 : decode cX12_fault 16 = .ok (.aload_n 0, 1) := by decide +kernel
theorem dX12_fault_17 : decode cX12_fault 17 = .ok (.getfield 68, 3) := by decide +kernel
theorem dX12_fault_20 : decode cX12_fault 20 = .ok (.goto 4, 3) := by decide +kernel
theorem dX12_fault_23 : decode cX12_fault 23 = .ok (.iconst (-1), 1) := by decide +kernel
theorem dX12_fault_24 : decode cX12_fault 24 = .ok (.ireturn, 1) := by decide +kernel
theorem dX12_tell_0 : decode cX12_tell 0 = .ok (.aload_n 0, 1) := by decide +kernel
theorem dX12_tell_1 : decode cX12_tell 1 = .ok (.getfield 78, 3) := by decide +kernel
theorem dX12_tell_4 : decode cX12_tell 4 = .ok (.iload_n 1, 1) := by decide +kernel
theorem dX12_tell_5 : decode cX12_tell 5 = .ok (.iload_n 2, 1) := by decide +kernel
theorem dX12_tell_6 : decode cX12_tell 6 = .ok (.iastore, 1) := by decide +kernel
theorem dX12_tell_7 : decode cX12_tell 7 = .ok (.aload_n 0, 1) := by decide +kernel
theorem dX12_tell_8 : decode cX12_tell 8 = .ok (.getfield 78, 3) := by decide +kernel
theorem dX12_tell_11 : decode cX12_tell 11 = .ok (.iload_n 1, 1) := by decide +kernel
theorem dX12_tell_12 : decode cX12_tell 12 = .ok (.iconst 1, 1) := by decide +kernel
theorem dX12_tell_13 : decode cX12_tell 13 = .ok (.iadd, 1) := by decide +kernel
theorem dX12_tell_14 : decode cX12_tell 14 = .ok (.aload_n 0, 1) := by decide +kernel
theorem dX12_tell_15 : decode cX12_tell 15 = .ok (.getfield 7, 3) := by decide +kernel
theorem dX12_tell_18 : decode cX12_tell 18 = .ok (.iload_n 2, 1) := by decide +kernel
theorem dX12_tell_19 : decode cX12_tell 19 = .ok (.iaload, 1) := by decide +kernel
theorem dX12_tell_20 : decode cX12_tell 20 = .ok (.iastore, 1) := by decide +kernel
theorem dX12_tell_21 : decode cX12_tell 21 = .ok (.aload_n 0, 1) := by decide +kernel
theorem dX12_tell_22 : decode cX12_tell 22 = .ok (.getfield 78, 3) := by decide +kernel
theorem dX12_tell_25 : decode cX12_tell 25 = .ok (.iload_n 1, 1) := by decide +kernel
theorem dX12_tell_26 : decode cX12_tell 26 = .ok (.iconst 2, 1) := by decide +kernel
theorem dX12_tell_27 : decode cX12_tell 27 = .ok (.iadd, 1) := by decide +kernel
theorem dX12_tell_28 : decode cX12_tell 28 = .ok (.aload_n 0, 1) := by decide +kernel
theorem dX12_tell_29 : decode cX12_tell 29 = .ok (.getfield 13, 3) := by decide +kernel
theorem dX12_tell_32 : decode cX12_tell 32 = .ok (.iload_n 2, 1) := by decide +kernel
theorem dX12_tell_33 : decode cX12_tell 33 = .ok (.iaload, 1) := by decide +kernel
theorem dX12_tell_34 : decode cX12_tell 34 = .ok (.iastore, 1) := by decide +kernel
theorem dX12_tell_35 : decode cX12_tell 35 = .ok (.aload_n 0, 1) := by decide +kernel
theorem dX12_tell_36 : decode cX12_tell 36 = .ok (.getfield 78, 3) := by decide +kernel
theorem dX12_tell_39 : decode cX12_tell 39 = .ok (.iload_n 1, 1) := by decide +kernel
theorem dX12_tell_40 : decode cX12_tell 40 = .ok (.iconst 3, 1) := by decide +kernel
theorem dX12_tell_41 : decode cX12_tell 41 = .ok (.iadd, 1) := by decide +kernel
theorem dX12_tell_42 : decode cX12_tell 42 = .ok (.aload_n 0, 1) := by decide +kernel
theorem dX12_tell_43 : decode cX12_tell 43 = .ok (.getfield 135, 3) := by decide +kernel
theorem dX12_tell_46 : decode cX12_tell 46 = .ok (.aload_n 0, 1) := by decide +kernel
theorem dX12_tell_47 : decode cX12_tell 47 = .ok (.getfield 16, 3) := by decide +kernel
theorem dX12_tell_50 : decode cX12_tell 50 = .ok (.iload_n 2, 1) := by decide +kernel
theorem dX12_tell_51 : decode cX12_tell 51 = .ok (.iaload, 1) := by decide +kernel
theorem dX12_tell_52 : decode cX12_tell 52 = .ok (.isub, 1) := by decide +kernel
theorem dX12_tell_53 : decode cX12_tell 53 = .ok (.iastore, 1) := by decide +kernel
theorem dX12_tell_54 : decode cX12_tell 54 = .ok (.aload_n 0, 1) := by decide +kernel
theorem dX12_tell_55 : decode cX12_tell 55 = .ok (.getfield 78, 3) := by decide +kernel
theorem dX12_tell_58 : decode cX12_tell 58 = .ok (.iload_n 1, 1) := by decide +kernel
theorem dX12_tell_59 : decode cX12_tell 59 = .ok (.iconst 4, 1) := by decide +kernel
theorem dX12_tell_60 : decode cX12_tell 60 = .ok (.iadd, 1) := by decide +kernel
theorem dX12_tell_61 : decode cX12_tell 61 = .ok (.aload_n 0, 1) := by decide +kernel
theorem dX12_tell_62 : decode cX12_tell 62 = .ok (.getfield 19, 3) := by decide +kernel
theorem dX12_tell_65 : decode cX12_tell 65 = .ok (.iload_n 2, 1) := by decide +kernel
theorem dX12_tell_66 : decode cX12_tell 66 = .ok (.iaload, 1) := by decide +kernel
theorem dX12_tell_67 : decode cX12_tell 67 = .ok (.iastore, 1) := by decide +kernel
theorem dX12_tell_68 : decode cX12_tell 68 = .ok (.return_, 1) := by decide +kernel
theorem dX12_holds_0 : decode cX12_holds 0 = .ok (.iconst 0, 1) := by decide +kernel
theorem dX12_holds_1 : decode cX12_holds 1 = .ok (.istore_n 2, 1) := by decide +kernel
theorem dX12_holds_2 : decode cX12_holds 2 = .ok (.aload_n 0, 1) := by decide +kernel
theorem dX12_holds_3 : decode cX12_holds 3 = .ok (.getfield 47, 3) := by decide +kernel
theorem dX12_holds_6 : decode cX12_holds 6 = .ok (.iload_n 1, 1) := by decide +kernel
theorem dX12_holds_7 : decode cX12_holds 7 = .ok (.iaload, 1) := by decide +kernel
theorem dX12_holds_8 : decode cX12_holds 8 = .ok (.istore_n 3, 1) := by decide +kernel
theorem dX12_holds_9 : decode cX12_holds 9 = .ok (.iload_n 3, 1) := by decide +kernel
theorem dX12_holds_10 : decode cX12_holds 10 = .ok (.aload_n 0, 1) := by decide +kernel
theorem dX12_holds_11 : decode cX12_holds 11 = .ok (.getfield 47, 3) := by decide +kernel
theorem dX12_holds_14 : decode cX12_holds 14 = .ok (.iload_n 1, 1) := by decide +kernel
theorem dX12_holds_15 : decode cX12_holds 15 = .ok (.iconst 1, 1) := by decide +kernel
theorem dX12_holds_16 : decode cX12_holds 16 = .ok (.iadd, 1) := by decide +kernel
theorem dX12_holds_17 : decode cX12_holds 17 = .ok (.iaload, 1) := by decide +kernel
theorem dX12_holds_18 : decode cX12_holds 18 = .ok (.if_icmp .ge 306, 3) := by decide +kernel
theorem dX12_holds_21 : decode cX12_holds 21 = .ok (.aload_n 0, 1) := by decide +kernel
theorem dX12_holds_22 : decode cX12_holds 22 = .ok (.getfield 41, 3) := by decide +kernel
theorem dX12_holds_25 : decode cX12_holds 25 = .ok (.iload_n 3, 1) := by decide +kernel
theorem dX12_holds_26 : decode cX12_holds 26 = .ok (.iaload, 1) := by decide +kernel
theorem dX12_holds_27 : decode cX12_holds 27 = .ok (.istore 4, 2) := by decide +kernel
theorem dX12_holds_29 : decode cX12_holds 29 = .ok (.iload 4, 2) := by decide +kernel
theorem dX12_holds_31 : decode cX12_holds 31 = .ok (.bipush 40, 2) := by decide +kernel
theorem dX12_holds_33 : decode cX12_holds 33 = .ok (.if_icmp .ge 39, 3) := by decide +kernel
theorem dX12_holds_36 : decode cX12_holds 36 = .ok (.aload_n 0, 1) := by decide +kernel
theorem dX12_holds_37 : decode cX12_holds 37 = .ok (.getfield 75, 3) := by decide +kernel
theorem dX12_holds_40 : decode cX12_holds 40 = .ok (.iload_n 2, 1) := by decide +kernel
theorem dX12_holds_41 : decode cX12_holds 41 = .ok (.iload 4, 2) := by decide +kernel
theorem dX12_holds_43 : decode cX12_holds 43 = .ok (.ifCond .ne 12, 3) := by decide +kernel
theorem dX12_holds_46 : decode cX12_holds 46 = .ok (.aload_n 0, 1) := by decide +kernel
theorem dX12_holds_47 : decode cX12_holds 47 = .ok (.getfield 44, 3) := by decide +kernel
theorem dX12_holds_50 : decode cX12_holds 50 = .ok (.iload_n 3, 1) := by decide +kernel
theorem dX12_holds_51 : decode cX12_holds 51 = .ok (.iaload, 1) := by decide +kernel
theorem dX12_holds_52 : decode cX12_holds 52 = .ok (.goto 13, 3) := by decide +kernel
theorem dX12_holds_55 : decode cX12_holds 55 = .ok (.aload_n 0, 1) := by decide +kernel
theorem dX12_holds_56 : decode cX12_holds 56 = .ok (.getfield 78, 3) := by decide +kernel
theorem dX12_holds_59 : decode cX12_holds 59 = .ok (.iload 4, 2) := by decide +kernel
theorem dX12_holds_61 : decode cX12_holds 61 = .ok (.bipush 20, 2) := by decide +kernel
theorem dX12_holds_63 : decode cX12_holds 63 = .ok (.isub, 1) := by decide +kernel
theorem dX12_holds_64 : decode cX12_holds 64 = .ok (.iaload, 1) := by decide +kernel
theorem dX12_holds_65 : decode cX12_holds 65 = .ok (.iastore, 1) := by decide +kernel
theorem dX12_holds_66 : decode cX12_holds 66 = .ok (.iinc 2 1, 3) := by decide +kernel
theorem dX12_holds_69 : decode cX12_holds 69 = .ok (.goto 249, 3) := by decide +kernel
theorem dX12_holds_72 : decode cX12_holds 72 = .ok (.iload 4, 2) := by decide +kernel
theorem dX12_holds_74 : decode cX12_holds 74 = .ok (.bipush 40, 2) := by decide +kernel
theorem dX12_holds_76 : decode cX12_holds 76 = .ok (.if_icmp .ne 30, 3) := by decide +kernel
theorem dX12_holds_79 : decode cX12_holds 79 = .ok (.aload_n 0, 1) := by decide +kernel
theorem dX12_holds_80 : decode cX12_holds 80 = .ok (.getfield 75, 3) := by decide +kernel
theorem dX12_holds_83 : decode cX12_holds 83 = .ok (.iload_n 2, 1) := by decide +kernel
theorem dX12_holds_84 : decode cX12_holds 84 = .ok (.iconst 1, 1) := by decide +kernel
theorem dX12_holds_85 : decode cX12_holds 85 = .ok (.isub, 1) := by decide +kernel
theorem dX12_holds_86 : decode cX12_holds 86 = .ok (.aload_n 0, 1) := by decide +kernel
theorem dX12_holds_87 : decode cX12_holds 87 = .ok (.getfield 75, 3) := by decide +kernel
theorem dX12_holds_90 : decode cX12_holds 90 = .ok (.iload_n 2, 1) := by decide +kernel
theorem dX12_holds_91 : decode cX12_holds 91 = .ok (.iconst 1, 1) := by decide +kernel
theorem dX12_holds_92 : decode cX12_holds 92 = .ok (.isub, 1) := by decide +kernel
theorem dX12_holds_93 : decode cX12_holds 93 = .ok (.iaload, 1) := by decide +kernel
theorem dX12_holds_94 : decode cX12_holds 94 = .ok (.ifCond .ne 7, 3) := by decide +kernel
theorem dX12_holds_97 : decode cX12_holds 97 = .ok (.iconst 1, 1) := by decide +kernel
theorem dX12_holds_98 : decode cX12_holds 98 = .ok (.goto 4, 3) := by decide +kernel
theorem dX12_holds_101 : decode cX12_holds 101 = .ok (.iconst 0, 1) := by decide +kernel
theorem dX12_holds_102 : decode cX12_holds 102 = .ok (.iastore, 1) := by decide +kernel
theorem dX12_holds_103 : decode cX12_holds 103 = .ok (.goto 215, 3) := by decide +kernel
theorem dX12_holds_106 : decode cX12_holds 106 = .ok (.iinc 2 (-1), 3) := by decide +kernel
theorem dX12_holds_109 : decode cX12_holds 109 = .ok (.aload_n 0, 1) := by decide +kernel
theorem dX12_holds_110 : decode cX12_holds 110 = .ok (.getfield 75, 3) := by decide +kernel
theorem dX12_holds_113 : decode cX12_holds 113 = .ok (.iload_n 2, 1) := by decide +kernel
theorem dX12_holds_114 : decode cX12_holds 114 = .ok (.iconst 1, 1) := by decide +kernel
theorem dX12_holds_115 : decode cX12_holds 115 = .ok (.isub, 1) := by decide +kernel
theorem dX12_holds_116 : decode cX12_holds 116 = .ok (.iaload, 1) := by decide +kernel
end
section
theorem dX12_holds_117 : decode cX12_holds 117 = .ok (.istore 5, 2) := by decide +kernel
theorem dX12_holds_119 : decode cX12_holds 119 = .ok (.aload_n 0, 1) := by decide +kernel
theorem dX12_holds_120 : decode cX12_holds 120 = .ok (.getfield 75, 3) := by decide +kernel
theorem dX12_holds_123 : decode cX12_holds 123 = .ok (.iload_n 2, 1) := by decide +kernel
theorem dX12_holds_124 : decode cX12_holds 124 = .ok (.iaload, 1) := by decide +kernel
theorem dX12_holds_125 : decode cX12_holds 125 = .ok (.istore 6, 2) := by decide +kernel
theorem dX12_holds_127 : decode cX12_holds 127 = .ok (.iload 4, 2) := by decide +kernel
theorem dX12_holds_129 : decode cX12_holds 129 = .ok (.tableswitch 176 41 46 #[39, 65, 91, 114, 137, 160], 39) := by decide +kernel
theorem dX12_holds_168 : decode cX12_holds 168 = .ok (.aload_n 0, 1) := by decide +kernel
theorem dX12_holds_169 : decode cX12_holds 169 = .ok (.getfield 75, 3) := by decide +kernel
theorem dX12_holds_172 : decode cX12_holds 172 = .ok (.iload_n 2, 1) := by decide +kernel
theorem dX12_holds_173 : decode cX12_holds 173 = .ok (.iconst 1, 1) := by decide +kernel
theorem dX12_holds_174 : decode cX12_holds 174 = .ok (.isub, 1) := by decide +kernel
theorem dX12_holds_175 : decode cX12_holds 175 = .ok (.iload 5, 2) := by decide +kernel
theorem dX12_holds_177 : decode cX12_holds 177 = .ok (.ifCond .ne 8, 3) := by decide +kernel
theorem dX12_holds_180 : decode cX12_holds 180 = .ok (.iload 6, 2) := by decide +kernel
theorem dX12_holds_182 : decode cX12_holds 182 = .ok (.ifCond .eq 7, 3) := by decide +kernel
theorem dX12_holds_185 : decode cX12_holds 185 = .ok (.iconst 1, 1) := by decide +kernel
theorem dX12_holds_186 : decode cX12_holds 186 = .ok (.goto 4, 3) := by decide +kernel
theorem dX12_holds_189 : decode cX12_holds 189 = .ok (.iconst 0, 1) := by decide +kernel
theorem dX12_holds_190 : decode cX12_holds 190 = .ok (.iastore, 1) := by decide +kernel
theorem dX12_holds_191 : decode cX12_holds 191 = .ok (.goto 127, 3) := by decide +kernel
theorem dX12_holds_194 : decode cX12_holds 194 = .ok (.aload_n 0, 1) := by decide +kernel
theorem dX12_holds_195 : decode cX12_holds 195 = .ok (.getfield 75, 3) := by decide +kernel
theorem dX12_holds_198 : decode cX12_holds 198 = .ok (.iload_n 2, 1) := by decide +kernel
theorem dX12_holds_199 : decode cX12_holds 199 = .ok (.iconst 1, 1) := by decide +kernel
theorem dX12_holds_200 : decode cX12_holds 200 = .ok (.isub, 1) := by decide +kernel
theorem dX12_holds_201 : decode cX12_holds 201 = .ok (.iload 5, 2) := by decide +kernel
theorem dX12_holds_203 : decode cX12_holds 203 = .ok (.ifCond .eq 12, 3) := by decide +kernel
theorem dX12_holds_206 : decode cX12_holds 206 = .ok (.iload 6, 2) := by decide +kernel
theorem dX12_holds_208 : decode cX12_holds 208 = .ok (.ifCond .eq 7, 3) := by decide +kernel
theorem dX12_holds_211 : decode cX12_holds 211 = .ok (.iconst 1, 1) := by decide +kernel
theorem dX12_holds_212 : decode cX12_holds 212 = .ok (.goto 4, 3) := by decide +kernel
theorem dX12_holds_215 : decode cX12_holds 215 = .ok (.iconst 0, 1) := by decide +kernel
theorem dX12_holds_216 : decode cX12_holds 216 = .ok (.iastore, 1) := by decide +kernel
theorem dX12_holds_217 : decode cX12_holds 217 = .ok (.goto 101, 3) := by decide +kernel
theorem dX12_holds_220 : decode cX12_holds 220 = .ok (.aload_n 0, 1) := by decide +kernel
theorem dX12_holds_221 : decode cX12_holds 221 = .ok (.getfield 75, 3) := by decide +kernel
theorem dX12_holds_224 : decode cX12_holds 224 = .ok (.iload_n 2, 1) := by decide +kernel
theorem dX12_holds_225 : decode cX12_holds 225 = .ok (.iconst 1, 1) := by decide +kernel
theorem dX12_holds_226 : decode cX12_holds 226 = .ok (.isub, 1) := by decide +kernel
theorem dX12_holds_227 : decode cX12_holds 227 = .ok (.iload 5, 2) := by decide +kernel
theorem dX12_holds_229 : decode cX12_holds 229 = .ok (.iload 6, 2) := by decide +kernel
theorem dX12_holds_231 : decode cX12_holds 231 = .ok (.if_icmp .ne 7, 3) := by decide +kernel
theorem dX12_holds_234 : decode cX12_holds 234 = .ok (.iconst 1, 1) := by decide +kernel
theorem dX12_holds_235 : decode cX12_holds 235 = .ok (.goto 4, 3) := by decide +kernel
theorem dX12_holds_238 : decode cX12_holds 238 = .ok (.iconst 0, 1) := by decide +kernel
theorem dX12_holds_239 : decode cX12_holds 239 = .ok (.iastore, 1) := by decide +kernel
theorem dX12_holds_240 : decode cX12_holds 240 = .ok (.goto 78, 3) := by decide +kernel
theorem dX12_holds_243 : decode cX12_holds 243 = .ok (.aload_n 0, 1) := by decide +kernel
theorem dX12_holds_244 : decode cX12_holds 244 = .ok (.getfield 75, 3) := by decide +kernel
theorem dX12_holds_247 : decode cX12_holds 247 = .ok (.iload_n 2, 1) := by decide +kernel
theorem dX12_holds_248 : decode cX12_holds 248 = .ok (.iconst 1, 1) := by decide +kernel
theorem dX12_holds_249 : decode cX12_holds 249 = .ok (.isub, 1) := by decide +kernel
theorem dX12_holds_250 : decode cX12_holds 250 = .ok (.iload 5, 2) := by decide +kernel
theorem dX12_holds_252 : decode cX12_holds 252 = .ok (.iload 6, 2) := by decide +kernel
theorem dX12_holds_254 : decode cX12_holds 254 = .ok (.if_icmp .ge 7, 3) := by decide +kernel
theorem dX12_holds_257 : decode cX12_holds 257 = .ok (.iconst 1, 1) := by decide +kernel
theorem dX12_holds_258 : decode cX12_holds 258 = .ok (.goto 4, 3) := by decide +kernel
theorem dX12_holds_261 : decode cX12_holds 261 = .ok (.iconst 0, 1) := by decide +kernel
theorem dX12_holds_262 : decode cX12_holds 262 = .ok (.iastore, 1) := by decide +kernel
theorem dX12_holds_263 : decode cX12_holds 263 = .ok (.goto 55, 3) := by decide +kernel
theorem dX12_holds_266 : decode cX12_holds 266 = .ok (.aload_n 0, 1) := by decide +kernel
theorem dX12_holds_267 : decode cX12_holds 267 = .ok (.getfield 75, 3) := by decide +kernel
theorem dX12_holds_270 : decode cX12_holds 270 = .ok (.iload_n 2, 1) := by decide +kernel
theorem dX12_holds_271 : decode cX12_holds 271 = .ok (.iconst 1, 1) := by decide +kernel
theorem dX12_holds_272 : decode cX12_holds 272 = .ok (.isub, 1) := by decide +kernel
theorem dX12_holds_273 : decode cX12_holds 273 = .ok (.iload 5, 2) := by decide +kernel
theorem dX12_holds_275 : decode cX12_holds 275 = .ok (.iload 6, 2) := by decide +kernel
theorem dX12_holds_277 : decode cX12_holds 277 = .ok (.if_icmp .le 7, 3) := by decide +kernel
theorem dX12_holds_280 : decode cX12_holds 280 = .ok (.iconst 1, 1) := by decide +kernel
theorem dX12_holds_281 : decode cX12_holds 281 = .ok (.goto 4, 3) := by decide +kernel
theorem dX12_holds_284 : decode cX12_holds 284 = .ok (.iconst 0, 1) := by decide +kernel
theorem dX12_holds_285 : decode cX12_holds 285 = .ok (.iastore, 1) := by decide +kernel
theorem dX12_holds_286 : decode cX12_holds 286 = .ok (.goto 32, 3) := by decide +kernel
theorem dX12_holds_289 : decode cX12_holds 289 = .ok (.aload_n 0, 1) := by decide +kernel
theorem dX12_holds_290 : decode cX12_holds 290 = .ok (.getfield 75, 3) := by decide +kernel
theorem dX12_holds_293 : decode cX12_holds 293 = .ok (.iload_n 2, 1) := by decide +kernel
theorem dX12_holds_294 : decode cX12_holds 294 = .ok (.iconst 1, 1) := by decide +kernel
theorem dX12_holds_295 : decode cX12_holds 295 = .ok (.isub, 1) := by decide +kernel
theorem dX12_holds_296 : decode cX12_holds 296 = .ok (.iload 5, 2) := by decide +kernel
theorem dX12_holds_298 : decode cX12_holds 298 = .ok (.iload 6, 2) := by decide +kernel
theorem dX12_holds_300 : decode cX12_holds 300 = .ok (.iadd, 1) := by decide +kernel
theorem dX12_holds_301 : decode cX12_holds 301 = .ok (.iastore, 1) := by decide +kernel
theorem dX12_holds_302 : decode cX12_holds 302 = .ok (.goto 16, 3) := by decide +kernel
theorem dX12_holds_305 : decode cX12_holds 305 = .ok (.aload_n 0, 1) := by decide +kernel
theorem dX12_holds_306 : decode cX12_holds 306 = .ok (.getfield 75, 3) := by decide +kernel
theorem dX12_holds_309 : decode cX12_holds 309 = .ok (.iload_n 2, 1) := by decide +kernel
theorem dX12_holds_310 : decode cX12_holds 310 = .ok (.iconst 1, 1) := by decide +kernel
theorem dX12_holds_311 : decode cX12_holds 311 = .ok (.isub, 1) := by decide +kernel
theorem dX12_holds_312 : decode cX12_holds 312 = .ok (.iload 5, 2) := by decide +kernel
theorem dX12_holds_314 : decode cX12_holds 314 = .ok (.iload 6, 2) := by decide +kernel
theorem dX12_holds_316 : decode cX12_holds 316 = .ok (.isub, 1) := by decide +kernel
theorem dX12_holds_317 : decode cX12_holds 317 = .ok (.iastore, 1) := by decide +kernel
theorem dX12_holds_318 : decode cX12_holds 318 = .ok (.iinc 3 1, 3) := by decide +kernel
theorem dX12_holds_321 : decode cX12_holds 321 = .ok (.goto (-312), 3) := by decide +kernel
theorem dX12_holds_324 : decode cX12_holds 324 = .ok (.aload_n 0, 1) := by decide +kernel
theorem dX12_holds_325 : decode cX12_holds 325 = .ok (.getfield 75, 3) := by decide +kernel
theorem dX12_holds_328 : decode cX12_holds 328 = .ok (.iconst 0, 1) := by decide +kernel
theorem dX12_holds_329 : decode cX12_holds 329 = .ok (.iaload, 1) := by decide +kernel
theorem dX12_holds_330 : decode cX12_holds 330 = .ok (.ifCond .eq 7, 3) := by decide +kernel
theorem dX12_holds_333 : decode cX12_holds 333 = .ok (.iconst 1, 1) := by decide +kernel
theorem dX12_holds_334 : decode cX12_holds 334 = .ok (.goto 4, 3) := by decide +kernel
theorem dX12_holds_337 : decode cX12_holds 337 = .ok (.iconst 0, 1) := by decide +kernel
theorem dX12_holds_338 : decode cX12_holds 338 = .ok (.ireturn, 1) := by decide +kernel
theorem dX12_hold__0 : decode cX12_hold_ 0 = .ok (.iconst 1, 1) := by decide +kernel
theorem dX12_hold__1 : decode cX12_hold_ 1 = .ok (.istore_n 2, 1) := by decide +kernel
theorem dX12_hold__2 : decode cX12_hold_ 2 = .ok (.iconst 0, 1) := by decide +kernel
theorem dX12_hold__3 : decode cX12_hold_ 3 = .ok (.istore_n 3, 1) := by decide +kernel
theorem dX12_hold__4 : decode cX12_hold_ 4 = .ok (.iload_n 3, 1) := by decide +kernel
theorem dX12_hold__5 : decode cX12_hold_ 5 = .ok (.aload_n 0, 1) := by decide +kernel
theorem dX12_hold__6 : decode cX12_hold_ 6 = .ok (.getfield 287, 3) := by decide +kernel
theorem dX12_hold__9 : decode cX12_hold_ 9 = .ok (.if_icmp .ge 37, 3) := by decide +kernel
theorem dX12_hold__12 : decode cX12_hold_ 12 = .ok (.iload_n 2, 1) := by decide +kernel
theorem dX12_hold__13 : decode cX12_hold_ 13 = .ok (.ifCond .eq 33, 3) := by decide +kernel
theorem dX12_hold__16 : decode cX12_hold_ 16 = .ok (.aload_n 0, 1) := by decide +kernel
theorem dX12_hold__17 : decode cX12_hold_ 17 = .ok (.getfield 50, 3) := by decide +kernel
theorem dX12_hold__20 : decode cX12_hold_ 20 = .ok (.iload_n 3, 1) := by decide +kernel
theorem dX12_hold__21 : decode cX12_hold_ 21 = .ok (.baload, 1) := by decide +kernel
theorem dX12_hold__22 : decode cX12_hold_ 22 = .ok (.iload_n 1, 1) := by decide +kernel
theorem dX12_hold__23 : decode cX12_hold_ 23 = .ok (.if_icmp .ne 11, 3) := by decide +kernel
theorem dX12_hold__26 : decode cX12_hold_ 26 = .ok (.aload_n 0, 1) := by decide +kernel
theorem dX12_hold__27 : decode cX12_hold_ 27 = .ok (.iload_n 3, 1) := by decide +kernel
theorem dX12_hold__28 : decode cX12_hold_ 28 = .ok (.invokevirtual 290, 3) := by decide +kernel
theorem dX12_hold__31 : decode cX12_hold_ 31 = .ok (.ifCond .eq 7, 3) := by decide +kernel
theorem dX12_hold__34 : decode cX12_hold_ 34 = .ok (.iconst 1, 1) := by decide +kernel
theorem dX12_hold__35 : decode cX12_hold_ 35 = .ok (.goto 4, 3) := by decide +kernel
theorem dX12_hold__38 : decode cX12_hold_ 38 = .ok (.iconst 0, 1) := by decide +kernel
theorem dX12_hold__39 : decode cX12_hold_ 39 = .ok (.istore_n 2, 1) := by decide +kernel
theorem dX12_hold__40 : decode cX12_hold_ 40 = .ok (.iinc 3 1, 3) := by decide +kernel
theorem dX12_hold__43 : decode cX12_hold_ 43 = .ok (.goto (-39), 3) := by decide +kernel
theorem dX12_hold__46 : decode cX12_hold_ 46 = .ok (.iload_n 2, 1) := by decide +kernel
theorem dX12_hold__47 : decode cX12_hold_ 47 = .ok (.ireturn, 1) := by decide +kernel
theorem dX12_may_0 : decode cX12_may 0 = .ok (.aload_n 0, 1) := by decide +kernel
theorem dX12_may_1 : decode cX12_may 1 = .ok (.iload_n 1, 1) := by decide +kernel
theorem dX12_may_2 : decode cX12_may 2 = .ok (.invokevirtual 142, 3) := by decide +kernel
theorem dX12_may_5 : decode cX12_may 5 = .ok (.ifCond .eq 41, 3) := by decide +kernel
theorem dX12_may_8 : decode cX12_may 8 = .ok (.iload_n 2, 1) := by decide +kernel
theorem dX12_may_9 : decode cX12_may 9 = .ok (.invokestatic 146, 3) := by decide +kernel
theorem dX12_may_12 : decode cX12_may 12 = .ok (.ifCond .eq 34, 3) := by decide +kernel
theorem dX12_may_15 : decode cX12_may 15 = .ok (.iload_n 3, 1) := by decide +kernel
theorem dX12_may_16 : decode cX12_may 16 = .ok (.ifCond .lt 30, 3) := by decide +kernel
theorem dX12_may_19 : decode cX12_may 19 = .ok (.iload_n 3, 1) := by decide +kernel
theorem dX12_may_20 : decode cX12_may 20 = .ok (.iconst 4, 1) := by decide +kernel
theorem dX12_may_21 : decode cX12_may 21 = .ok (.if_icmp .ge 25, 3) := by decide +kernel
theorem dX12_may_24 : decode cX12_may 24 = .ok (.aload_n 0, 1) := by decide +kernel
theorem dX12_may_25 : decode cX12_may 25 = .ok (.getfield 28, 3) := by decide +kernel
theorem dX12_may_28 : decode cX12_may 28 = .ok (.iload_n 2, 1) := by decide +kernel
theorem dX12_may_29 : decode cX12_may 29 = .ok (.iaload, 1) := by decide +kernel
theorem dX12_may_30 : decode cX12_may 30 = .ok (.ifCond .eq 16, 3) := by decide +kernel
theorem dX12_may_33 : decode cX12_may 33 = .ok (.aload_n 0, 1) := by decide +kernel
theorem dX12_may_34 : decode cX12_may 34 = .ok (.getfield 135, 3) := by decide +kernel
theorem dX12_may_37 : decode cX12_may 37 = .ok (.aload_n 0, 1) := by decide +kernel
theorem dX12_may_38 : decode cX12_may 38 = .ok (.getfield 34, 3) := by decide +kernel
theorem dX12_may_41 : decode cX12_may 41 = .ok (.iload_n 2, 1) := by decide +kernel
theorem dX12_may_42 : decode cX12_may 42 = .ok (.iaload, 1) := by decide +kernel
theorem dX12_may_43 : decode cX12_may 43 = .ok (.if_icmp .ge 5, 3) := by decide +kernel
theorem dX12_may_46 : decode cX12_may 46 = .ok (.iconst 0, 1) := by decide +kernel
theorem dX12_may_47 : decode cX12_may 47 = .ok (.ireturn, 1) := by decide +kernel
theorem dX12_may_48 : decode cX12_may 48 = .ok (.aload_n 0, 1) := by decide +kernel
theorem dX12_may_49 : decode cX12_may 49 = .ok (.iconst 0, 1) := by decide +kernel
theorem dX12_may_50 : decode cX12_may 50 = .ok (.iload_n 1, 1) := by decide +kernel
theorem dX12_may_51 : decode cX12_may 51 = .ok (.invokevirtual 293, 3) := by decide +kernel
theorem dX12_may_54 : decode cX12_may 54 = .ok (.aload_n 0, 1) := by decide +kernel
theorem dX12_may_55 : decode cX12_may 55 = .ok (.getfield 78, 3) := by decide +kernel
theorem dX12_may_58 : decode cX12_may 58 = .ok (.iconst 5, 1) := by decide +kernel
theorem dX12_may_59 : decode cX12_may 59 = .ok (.iload_n 2, 1) := by decide +kernel
theorem dX12_may_60 : decode cX12_may 60 = .ok (.iastore, 1) := by decide +kernel
theorem dX12_may_61 : decode cX12_may 61 = .ok (.aload_n 0, 1) := by decide +kernel
theorem dX12_may_62 : decode cX12_may 62 = .ok (.getfield 78, 3) := by decide +kernel
theorem dX12_may_65 : decode cX12_may 65 = .ok (.bipush 6, 2) := by decide +kernel
theorem dX12_may_67 : decode cX12_may 67 = .ok (.aload_n 0, 1) := by decide +kernel
theorem dX12_may_68 : decode cX12_may 68 = .ok (.getfield 31, 3) := by decide +kernel
theorem dX12_may_71 : decode cX12_may 71 = .ok (.iload_n 2, 1) := by decide +kernel
theorem dX12_may_72 : decode cX12_may 72 = .ok (.iaload, 1) := by decide +kernel
theorem dX12_may_73 : decode cX12_may 73 = .ok (.iastore, 1) := by decide +kernel
theorem dX12_may_74 : decode cX12_may 74 = .ok (.aload_n 0, 1) := by decide +kernel
theorem dX12_may_75 : decode cX12_may 75 = .ok (.getfield 78, 3) := by decide +kernel
theorem dX12_may_78 : decode cX12_may 78 = .ok (.bipush 7, 2) := by decide +kernel
theorem dX12_may_80 : decode cX12_may 80 = .ok (.iload_n 3, 1) := by decide +kernel
theorem dX12_may_81 : decode cX12_may 81 = .ok (.iastore, 1) := by decide +kernel
theorem dX12_may_82 : decode cX12_may 82 = .ok (.aload_n 0, 1) := by decide +kernel
theorem dX12_may_83 : decode cX12_may 83 = .ok (.iconst 0, 1) := by decide +kernel
theorem dX12_may_84 : decode cX12_may 84 = .ok (.invokevirtual 296, 3) := by decide +kernel
theorem dX12_may_87 : decode cX12_may 87 = .ok (.ireturn, 1) := by decide +kernel
theorem dX12_meetsFrom_0 : decode cX12_meetsFrom 0 = .ok (.aload_n 0, 1) := by decide +kernel
theorem dX12_meetsFrom_1 : decode cX12_meetsFrom 1 = .ok (.iconst 0, 1) := by decide +kernel
theorem dX12_meetsFrom_2 : decode cX12_meetsFrom 2 = .ok (.iload_n 1, 1) := by decide +kernel
theorem dX12_meetsFrom_3 : decode cX12_meetsFrom 3 = .ok (.invokevirtual 293, 3) := by decide +kernel
theorem dX12_meetsFrom_6 : decode cX12_meetsFrom 6 = .ok (.aload_n 0, 1) := by decide +kernel
theorem dX12_meetsFrom_7 : decode cX12_meetsFrom 7 = .ok (.bipush 8, 2) := by decide +kernel
theorem dX12_meetsFrom_9 : decode cX12_meetsFrom 9 = .ok (.iload_n 3, 1) := by decide +kernel
theorem dX12_meetsFrom_10 : decode cX12_meetsFrom 10 = .ok (.invokevirtual 293, 3) := by decide +kernel
theorem dX12_meetsFrom_13 : decode cX12_meetsFrom 13 = .ok (.aload_n 0, 1) := by decide +kernel
theorem dX12_meetsFrom_14 : decode cX12_meetsFrom 14 = .ok (.getfield 78, 3) := by decide +kernel
theorem dX12_meetsFrom_17 : decode cX12_meetsFrom 17 = .ok (.iconst 5, 1) := by decide +kernel
theorem dX12_meetsFrom_18 : decode cX12_meetsFrom 18 = .ok (.iload_n 2, 1) := by decide +kernel
theorem dX12_meetsFrom_19 : decode cX12_meetsFrom 19 = .ok (.iastore, 1) := by decide +kernel
theorem dX12_meetsFrom_20 : decode cX12_meetsFrom 20 = .ok (.aload_n 0, 1) := by decide +kernel
theorem dX12_meetsFrom_21 : decode cX12_meetsFrom 21 = .ok (.getfield 78, 3) := by decide +kernel
theorem dX12_meetsFrom_24 : decode cX12_meetsFrom 24 = .ok (.bipush 6, 2) := by decide +kernel
theorem dX12_meetsFrom_26 : decode cX12_meetsFrom 26 = .ok (.aload_n 0, 1) := by decide +kernel
theorem dX12_meetsFrom_27 : decode cX12_meetsFrom 27 = .ok (.getfield 31, 3) := by decide +kernel
theorem dX12_meetsFrom_30 : decode cX12_meetsFrom 30 = .ok (.iload_n 2, 1) := by decide +kernel
theorem dX12_meetsFrom_31 : decode cX12_meetsFrom 31 = .ok (.iaload, 1) := by decide +kernel
theorem dX12_meetsFrom_32 : decode cX12_meetsFrom 32 = .ok (.iastore, 1) := by decide +kernel
theorem dX12_meetsFrom_33 : decode cX12_meetsFrom 33 = .ok (.aload_n 0, 1) := by decide +kernel
theorem dX12_meetsFrom_34 : decode cX12_meetsFrom 34 = .ok (.getfield 78, 3) := by decide +kernel
theorem dX12_meetsFrom_37 : decode cX12_meetsFrom 37 = .ok (.bipush 7, 2) := by decide +kernel
theorem dX12_meetsFrom_39 : decode cX12_meetsFrom 39 = .ok (.iload 5, 2) := by decide +kernel
theorem dX12_meetsFrom_41 : decode cX12_meetsFrom 41 = .ok (.iastore, 1) := by decide +kernel
theorem dX12_meetsFrom_42 : decode cX12_meetsFrom 42 = .ok (.aload_n 0, 1) := by decide +kernel
theorem dX12_meetsFrom_43 : decode cX12_meetsFrom 43 = .ok (.getfield 78, 3) := by decide +kernel
theorem dX12_meetsFrom_46 : decode cX12_meetsFrom 46 = .ok (.bipush 13, 2) := by decide +kernel
theorem dX12_meetsFrom_48 : decode cX12_meetsFrom 48 = .ok (.iload 4, 2) := by decide +kernel
theorem dX12_meetsFrom_50 : decode cX12_meetsFrom 50 = .ok (.ifCond .eq 7, 3) := by decide +kernel
theorem dX12_meetsFrom_53 : decode cX12_meetsFrom 53 = .ok (.iconst 1, 1) := by decide +kernel
theorem dX12_meetsFrom_54 : decode cX12_meetsFrom 54 = .ok (.goto 4, 3) := by decide +kernel
theorem dX12_meetsFrom_57 : decode cX12_meetsFrom 57 = .ok (.iconst 0, 1) := by decide +kernel
theorem dX12_meetsFrom_58 : decode cX12_meetsFrom 58 = .ok (.iastore, 1) := by decide +kernel
theorem dX12_meetsFrom_59 : decode cX12_meetsFrom 59 = .ok (.aload_n 0, 1) := by decide +kernel
theorem dX12_meetsFrom_60 : decode cX12_meetsFrom 60 = .ok (.iconst 1, 1) := by decide +kernel
theorem dX12_meetsFrom_61 : decode cX12_meetsFrom 61 = .ok (.invokevirtual 296, 3) := by decide +kernel
theorem dX12_meetsFrom_64 : decode cX12_meetsFrom 64 = .ok (.ireturn, 1) := by decide +kernel
theorem dX12_meet_0 : decode cX12_meet 0 = .ok (.aload_n 0, 1) := by decide +kernel
theorem dX12_meet_1 : decode cX12_meet 1 = .ok (.iload_n 1, 1) := by decide +kernel
theorem dX12_meet_2 : decode cX12_meet 2 = .ok (.invokevirtual 142, 3) := by decide +kernel
theorem dX12_meet_5 : decode cX12_meet 5 = .ok (.ifCond .eq 42, 3) := by decide +kernel
theorem dX12_meet_8 : decode cX12_meet 8 = .ok (.aload_n 0, 1) := by decide +kernel
theorem dX12_meet_9 : decode cX12_meet 9 = .ok (.iload_n 3, 1) := by decide +kernel
theorem dX12_meet_10 : decode cX12_meet 10 = .ok (.invokevirtual 142, 3) := by decide +kernel
theorem dX12_meet_13 : decode cX12_meet 13 = .ok (.ifCond .eq 34, 3) := by decide +kernel
theorem dX12_meet_16 : decode cX12_meet 16 = .ok (.iload_n 1, 1) := by decide +kernel
theorem dX12_meet_17 : decode cX12_meet 17 = .ok (.iload_n 3, 1) := by decide +kernel
theorem dX12_meet_18 : decode cX12_meet 18 = .ok (.if_icmp .eq 29, 3) := by decide +kernel
theorem dX12_meet_21 : decode cX12_meet 21 = .ok (.iload_n 2, 1) := by decide +kernel
theorem dX12_meet_22 : decode cX12_meet 22 = .ok (.invokestatic 146, 3) := by decide +kernel
theorem dX12_meet_25 : decode cX12_meet 25 = .ok (.ifCond .eq 22, 3) := by decide +kernel
theorem dX12_meet_28 : decode cX12_meet 28 = .ok (.iload 4, 2) := by decide +kernel
theorem dX12_meet_30 : decode cX12_meet 30 = .ok (.invokestatic 146, 3) := by decide +kernel
theorem dX12_meet_33 : decode cX12_meet 33 = .ok (.ifCond .eq 14, 3) := by decide +kernel
theorem dX12_meet_36 : decode cX12_meet 36 = .ok (.iload 5, 2) := by decide +kernel
theorem dX12_meet_38 : decode cX12_meet 38 = .ok (.ifCond .lt 9, 3) := by decide +kernel
theorem dX12_meet_41 : decode cX12_meet 41 = .ok (.iload 5, 2) := by decide +kernel
theorem dX12_meet_43 : decode cX12_meet 43 = .ok (.iconst 4, 1) := by decide +kernel
theorem dX12_meet_44 : decode cX12_meet 44 = .ok (.if_icmp .lt 5, 3) := by decide +kernel
theorem dX12_meet_47 : decode cX12_meet 47 = .ok (.iconst 0, 1) := by decide +kernel
theorem dX12_meet_48 : decode cX12_meet 48 = .ok (.ireturn, 1) := by decide +kernel
theorem dX12_meet_49 : decode cX12_meet 49 = .ok (.iload_n 2, 1) := by decide +kernel
theorem dX12_meet_50 : decode cX12_meet 50 = .ok (.iload 4, 2) := by decide +kernel
theorem dX12_meet_52 : decode cX12_meet 52 = .ok (.if_icmp .eq 7, 3) := by decide +kernel
theorem dX12_meet_55 : decode cX12_meet 55 = .ok (.iconst 1, 1) := by decide +kernel
theorem dX12_meet_56 : decode cX12_meet 56 = .ok (.goto 4, 3) := by decide +kernel
theorem dX12_meet_59 : decode cX12_meet 59 = .ok (.iconst 0, 1) := by decide +kernel
theorem dX12_meet_60 : decode cX12_meet 60 = .ok (.istore 6, 2) := by decide +kernel
theorem dX12_meet_62 : decode cX12_meet 62 = .ok (.iload 6, 2) := by decide +kernel
theorem dX12_meet_64 : decode cX12_meet 64 = .ok (.ifCond .eq 20, 3) := by decide +kernel
theorem dX12_meet_67 : decode cX12_meet 67 = .ok (.aload_n 0, 1) := by decide +kernel
theorem dX12_meet_68 : decode cX12_meet 68 = .ok (.getfield 37, 3) := by decide +kernel
theorem dX12_meet_71 : decode cX12_meet 71 = .ok (.bipush 6, 2) := by decide +kernel
theorem dX12_meet_73 : decode cX12_meet 73 = .ok (.iload_n 2, 1) := by decide +kernel
theorem dX12_meet_74 : decode cX12_meet 74 = .ok (.imul, 1) := by decide +kernel
theorem dX12_meet_75 : decode cX12_meet 75 = .ok (.iload 4, 2) := by decide +kernel
theorem dX12_meet_77 : decode cX12_meet 77 = .ok (.iadd, 1) := by decide +kernel
theorem dX12_meet_78 : decode cX12_meet 78 = .ok (.baload, 1) := by decide +kernel
theorem dX12_meet_79 : decode cX12_meet 79 = .ok (.ifCond .ne 5, 3) := by decide +kernel
theorem dX12_meet_82 : decode cX12_meet 82 = .ok (.iconst 1, 1) := by decide +kernel
theorem dX12_meet_83 : decode cX12_meet 83 = .ok (.ireturn, 1) := by decide +kernel
theorem dX12_meet_84 : decode cX12_meet 84 = .ok (.aload_n 0, 1) := by decide +kernel
theorem dX12_meet_85 : decode cX12_meet 85 = .ok (.iload_n 1, 1) := by decide +kernel
theorem dX12_meet_86 : decode cX12_meet 86 = .ok (.iload_n 2, 1) := by decide +kernel
theorem dX12_meet_87 : decode cX12_meet 87 = .ok (.iload_n 3, 1) := by decide +kernel
theorem dX12_meet_88 : decode cX12_meet 88 = .ok (.iload 6, 2) := by decide +kernel
theorem dX12_meet_90 : decode cX12_meet 90 = .ok (.iload 5, 2) := by decide +kernel
theorem dX12_meet_92 : decode cX12_meet 92 = .ok (.invokevirtual 299, 3) := by decide +kernel
theorem dX12_meet_95 : decode cX12_meet 95 = .ok (.ifCond .eq 22, 3) := by decide +kernel
theorem dX12_meet_98 : decode cX12_meet 98 = .ok (.aload_n 0, 1) := by decide +kernel
theorem dX12_meet_99 : decode cX12_meet 99 = .ok (.iload_n 3, 1) := by decide +kernel
theorem dX12_meet_100 : decode cX12_meet 100 = .ok (.iload 4, 2) := by decide +kernel
theorem dX12_meet_102 : decode cX12_meet 102 = .ok (.iload_n 1, 1) := by decide +kernel
theorem dX12_meet_103 : decode cX12_meet 103 = .ok (.iload 6, 2) := by decide +kernel
theorem dX12_meet_105 : decode cX12_meet 105 = .ok (.iload 5, 2) := by decide +kernel
theorem dX12_meet_107 : decode cX12_meet 107 = .ok (.invokevirtual 299, 3) := by decide +kernel
theorem dX12_meet_110 : decode cX12_meet 110 = .ok (.ifCond .eq 7, 3) := by decide +kernel
theorem dX12_meet_113 : decode cX12_meet 113 = .ok (.iconst 1, 1) := by decide +kernel
theorem dX12_meet_114 : decode cX12_meet 114 = .ok (.goto 4, 3) := by decide +kernel
theorem dX12_meet_117 : decode cX12_meet 117 = .ok (.iconst 0, 1) := by decide +kernel
theorem dX12_meet_118 : decode cX12_meet 118 = .ok (.ireturn, 1) := by decide +kernel
theorem dX12_plan_0 : decode cX12_plan 0 = .ok (.aload_n 0, 1) := by decide +kernel
theorem dX12_plan_1 : decode cX12_plan 1 = .ok (.iconst (-1), 1) := by decide +kernel
theorem dX12_plan_2 : decode cX12_plan 2 = .ok (.invokevirtual 303, 3) := by decide +kernel
theorem dX12_plan_5 : decode cX12_plan 5 = .ok (.istore_n 1, 1) := by decide +kernel
theorem dX12_plan_6 : decode cX12_plan 6 = .ok (.iconst 0, 1) := by decide +kernel
theorem dX12_plan_7 : decode cX12_plan 7 = .ok (.istore_n 2, 1) := by decide +kernel
theorem dX12_plan_8 : decode cX12_plan 8 = .ok (.aload_n 0, 1) := by decide +kernel
theorem dX12_plan_9 : decode cX12_plan 9 = .ok (.iconst 0, 1) := by decide +kernel
theorem dX12_plan_10 : decode cX12_plan 10 = .ok (.putfield 306, 3) := by decide +kernel
theorem dX12_plan_13 : decode cX12_plan 13 = .ok (.iconst 0, 1) := by decide +kernel
theorem dX12_plan_14 : decode cX12_plan 14 = .ok (.istore_n 3, 1) := by decide +kernel
theorem dX12_plan_15 : decode cX12_plan 15 = .ok (.iload_n 3, 1) := by decide +kernel
theorem dX12_plan_16 : decode cX12_plan 16 = .ok (.bipush 12, 2) := by decide +kernel
theorem dX12_plan_18 : decode cX12_plan 18 = .ok (.if_icmp .ge 16, 3) := by decide +kernel
theorem dX12_plan_21 : decode cX12_plan 21 = .ok (.aload_n 0, 1) := by decide +kernel
theorem dX12_plan_22 : decode cX12_plan 22 = .ok (.getfield 81, 3) := by decide +kernel
theorem dX12_plan_25 : decode cX12_plan 25 = .ok (.iload_n 3, 1) := by decide +kernel
theorem dX12_plan_26 : decode cX12_plan 26 = .ok (.iconst (-1), 1) := by decide +kernel
theorem dX12_plan_27 : decode cX12_plan 27 = .ok (.iastore, 1) := by decide +kernel
theorem dX12_plan_28 : decode cX12_plan 28 = .ok (.iinc 3 1, 3) := by decide +kernel
theorem dX12_plan_31 : decode cX12_plan 31 = .ok (.goto (-16), 3) := by decide +kernel
theorem dX12_plan_34 : decode cX12_plan 34 = .ok (.iload_n 1, 1) := by decide +kernel
theorem dX12_plan_35 : decode cX12_plan 35 = .ok (.ifCond .lt 111, 3) := by decide +kernel
theorem dX12_plan_38 : decode cX12_plan 38 = .ok (.iload_n 1, 1) := by decide +kernel
theorem dX12_plan_39 : decode cX12_plan 39 = .ok (.aload_n 0, 1) := by decide +kernel
theorem dX12_plan_40 : decode cX12_plan 40 = .ok (.getfield 132, 3) := by decide +kernel
theorem dX12_plan_43 : decode cX12_plan 43 = .ok (.if_icmp .ge 103, 3) := by decide +kernel
theorem dX12_plan_46 : decode cX12_plan 46 = .ok (.iload_n 2, 1) := by decide +kernel
theorem dX12_plan_47 : decode cX12_plan 47 = .ok (.bipush 24, 2) := by decide +kernel
theorem dX12_plan_49 : decode cX12_plan 49 = .ok (.if_icmp .ne 41, 3) := by decide +kernel
theorem dX12_plan_52 : decode cX12_plan 52 = .ok (.aload_n 0, 1) := by decide +kernel
theorem dX12_plan_53 : decode cX12_plan 53 = .ok (.getfield 81, 3) := by decide +kernel
theorem dX12_plan_56 : decode cX12_plan 56 = .ok (.iload_n 1, 1) := by decide +kernel
theorem dX12_plan_57 : decode cX12_plan 57 = .ok (.iconst (-1), 1) := by decide +kernel
theorem dX12_plan_58 : decode cX12_plan 58 = .ok (.iastore, 1) := by decide +kernel
theorem dX12_plan_59 : decode cX12_plan 59 = .ok (.aload_n 0, 1) := by decide +kernel
theorem dX12_plan_60 : decode cX12_plan 60 = .ok (.iload_n 1, 1) := by decide +kernel
theorem dX12_plan_61 : decode cX12_plan 61 = .ok (.invokevirtual 309, 3) := by decide +kernel
theorem dX12_plan_64 : decode cX12_plan 64 = .ok (.istore_n 1, 1) := by decide +kernel
theorem dX12_plan_65 : decode cX12_plan 65 = .ok (.iload_n 1, 1) := by decide +kernel
theorem dX12_plan_66 : decode cX12_plan 66 = .ok (.ifCond .ge 5, 3) := by decide +kernel
theorem dX12_plan_69 : decode cX12_plan 69 = .ok (.iconst 0, 1) := by decide +kernel
theorem dX12_plan_70 : decode cX12_plan 70 = .ok (.ireturn, 1) := by decide +kernel
theorem dX12_plan_71 : decode cX12_plan 71 = .ok (.aload_n 0, 1) := by decide +kernel
theorem dX12_plan_72 : decode cX12_plan 72 = .ok (.getfield 81, 3) := by decide +kernel
theorem dX12_plan_75 : decode cX12_plan 75 = .ok (.iload_n 1, 1) := by decide +kernel
theorem dX12_plan_76 : decode cX12_plan 76 = .ok (.iaload, 1) := by decide +kernel
theorem dX12_plan_77 : decode cX12_plan 77 = .ok (.iconst 1, 1) := by decide +kernel
theorem dX12_plan_78 : decode cX12_plan 78 = .ok (.iadd, 1) := by decide +kernel
theorem dX12_plan_79 : decode cX12_plan 79 = .ok (.istore_n 2, 1) := by decide +kernel
theorem dX12_plan_80 : decode cX12_plan 80 = .ok (.aload_n 0, 1) := by decide +kernel
theorem dX12_plan_81 : decode cX12_plan 81 = .ok (.getfield 81, 3) := by decide +kernel
theorem dX12_plan_84 : decode cX12_plan 84 = .ok (.iload_n 1, 1) := by decide +kernel
theorem dX12_plan_85 : decode cX12_plan 85 = .ok (.iconst (-1), 1) := by decide +kernel
theorem dX12_plan_86 : decode cX12_plan 86 = .ok (.iastore, 1) := by decide +kernel
theorem dX12_plan_87 : decode cX12_plan 87 = .ok (.goto (-53), 3) := by decide +kernel
theorem dX12_plan_90 : decode cX12_plan 90 = .ok (.aload_n 0, 1) := by decide +kernel
theorem dX12_plan_91 : decode cX12_plan 91 = .ok (.getfield 306, 3) := by decide +kernel
theorem dX12_plan_94 : decode cX12_plan 94 = .ok (.sipush 20000, 3) := by decide +kernel
theorem dX12_plan_97 : decode cX12_plan 97 = .ok (.if_icmp .ne 6, 3) := by decide +kernel
theorem dX12_plan_100 : decode cX12_plan 100 = .ok (.bipush (-2), 2) := by decide +kernel
theorem dX12_plan_102 : decode cX12_plan 102 = .ok (.ireturn, 1) := by decide +kernel
theorem dX12_plan_103 : decode cX12_plan 103 = .ok (.aload_n 0, 1) := by decide +kernel
theorem dX12_plan_104 : decode cX12_plan 104 = .ok (.dup, 1) := by decide +kernel
theorem dX12_plan_105 : decode cX12_plan 105 = .ok (.getfield 306, 3) := by decide +kernel
theorem dX12_plan_108 : decode cX12_plan 108 = .ok (.iconst 1, 1) := by decide +kernel
theorem dX12_plan_109 : decode cX12_plan 109 = .ok (.iadd, 1) := by decide +kernel
theorem dX12_plan_110 : decode cX12_plan 110 = .ok (.putfield 306, 3) := by decide +kernel
theorem dX12_plan_113 : decode cX12_plan 113 = .ok (.aload_n 0, 1) := by decide +kernel
theorem dX12_plan_114 : decode cX12_plan 114 = .ok (.iload_n 1, 1) := by decide +kernel
theorem dX12_plan_115 : decode cX12_plan 115 = .ok (.iload_n 2, 1) := by decide +kernel
theorem dX12_plan_116 : decode cX12_plan 116 = .ok (.invokevirtual 312, 3) := by decide +kernel
theorem dX12_plan_119 : decode cX12_plan 119 = .ok (.ifCond .eq 21, 3) := by decide +kernel
theorem dX12_plan_122 : decode cX12_plan 122 = .ok (.aload_n 0, 1) := by decide +kernel
theorem dX12_plan_123 : decode cX12_plan 123 = .ok (.getfield 81, 3) := by decide +kernel
theorem dX12_plan_126 : decode cX12_plan 126 = .ok (.iload_n 1, 1) := by decide +kernel
theorem dX12_plan_127 : decode cX12_plan 127 = .ok (.iload_n 2, 1) := by decide +kernel
theorem dX12_plan_128 : decode cX12_plan 128 = .ok (.iastore, 1) := by decide +kernel
theorem dX12_plan_129 : decode cX12_plan 129 = .ok (.aload_n 0, 1) := by decide +kernel
theorem dX12_plan_130 : decode cX12_plan 130 = .ok (.iload_n 1, 1) := by decide +kernel
theorem dX12_plan_131 : decode cX12_plan 131 = .ok (.invokevirtual 303, 3) := by decide +kernel
theorem dX12_plan_134 : decode cX12_plan 134 = .ok (.istore_n 1, 1) := by decide +kernel
theorem dX12_plan_135 : decode cX12_plan 135 = .ok (.iconst 0, 1) := by decide +kernel
theorem dX12_plan_136 : decode cX12_plan 136 = .ok (.istore_n 2, 1) := by decide +kernel
theorem dX12_plan_137 : decode cX12_plan 137 = .ok (.goto (-103), 3) := by decide +kernel
theorem dX12_plan_140 : decode cX12_plan 140 = .ok (.iinc 2 1, 3) := by decide +kernel
theorem dX12_plan_143 : decode cX12_plan 143 = .ok (.goto (-109), 3) := by decide +kernel
theorem dX12_plan_146 : decode cX12_plan 146 = .ok (.iconst 0, 1) := by decide +kernel
theorem dX12_plan_147 : decode cX12_plan 147 = .ok (.istore_n 3, 1) := by decide +kernel
theorem dX12_plan_148 : decode cX12_plan 148 = .ok (.iload_n 3, 1) := by decide +kernel
theorem dX12_plan_149 : decode cX12_plan 149 = .ok (.bipush 12, 2) := by decide +kernel
theorem dX12_plan_151 : decode cX12_plan 151 = .ok (.if_icmp .ge 21, 3) := by decide +kernel
theorem dX12_plan_154 : decode cX12_plan 154 = .ok (.aload_n 0, 1) := by decide +kernel
theorem dX12_plan_155 : decode cX12_plan 155 = .ok (.getfield 84, 3) := by decide +kernel
theorem dX12_plan_158 : decode cX12_plan 158 = .ok (.iload_n 3, 1) := by decide +kernel
theorem dX12_plan_159 : decode cX12_plan 159 = .ok (.aload_n 0, 1) := by decide +kernel
theorem dX12_plan_160 : decode cX12_plan 160 = .ok (.getfield 81, 3) := by decide +kernel
theorem dX12_plan_163 : decode cX12_plan 163 = .ok (.iload_n 3, 1) := by decide +kernel
theorem dX12_plan_164 : decode cX12_plan 164 = .ok (.iaload, 1) := by decide +kernel
theorem dX12_plan_165 : decode cX12_plan 165 = .ok (.iastore, 1) := by decide +kernel
theorem dX12_plan_166 : decode cX12_plan 166 = .ok (.iinc 3 1, 3) := by decide +kernel
theorem dX12_plan_169 : decode cX12_plan 169 = .ok (.goto (-21), 3) := by decide +kernel
theorem dX12_plan_172 : decode cX12_plan 172 = .ok (.aload_n 0, 1) := by decide +kernel
theorem dX12_plan_173 : decode cX12_plan 173 = .ok (.iconst 1, 1) := by decide +kernel
theorem dX12_plan_174 : decode cX12_plan 174 = .ok (.putfield 138, 3) := by decide +kernel
theorem dX12_plan_177 : decode cX12_plan 177 = .ok (.iconst 1, 1) := by decide +kernel
theorem dX12_plan_178 : decode cX12_plan 178 = .ok (.ireturn, 1) := by decide +kernel
theorem dX12_nextOf_0 : decode cX12_nextOf 0 = .ok (.iload_n 1, 1) := by decide +kernel
theorem dX12_nextOf_1 : decode cX12_nextOf 1 = .ok (.iconst 1, 1) := by decide +kernel
theorem dX12_nextOf_2 : decode cX12_nextOf 2 = .ok (.iadd, 1) := by decide +kernel
theorem dX12_nextOf_3 : decode cX12_nextOf 3 = .ok (.istore_n 2, 1) := by decide +kernel
theorem dX12_nextOf_4 : decode cX12_nextOf 4 = .ok (.iload_n 2, 1) := by decide +kernel
theorem dX12_nextOf_5 : decode cX12_nextOf 5 = .ok (.aload_n 0, 1) := by decide +kernel
theorem dX12_nextOf_6 : decode cX12_nextOf 6 = .ok (.getfield 132, 3) := by decide +kernel
theorem dX12_nextOf_9 : decode cX12_nextOf 9 = .ok (.if_icmp .ge 19, 3) := by decide +kernel
theorem dX12_nextOf_12 : decode cX12_nextOf 12 = .ok (.aload_n 0, 1) := by decide +kernel
theorem dX12_nextOf_13 : decode cX12_nextOf 13 = .ok (.getfield 19, 3) := by decide +kernel
theorem dX12_nextOf_16 : decode cX12_nextOf 16 = .ok (.iload_n 2, 1) := by decide +kernel
theorem dX12_nextOf_17 : decode cX12_nextOf 17 = .ok (.iaload, 1) := by decide +kernel
theorem dX12_nextOf_18 : decode cX12_nextOf 18 = .ok (.iconst 1, 1) := by decide +kernel
theorem dX12_nextOf_19 : decode cX12_nextOf 19 = .ok (.if_icmp .ne 9, 3) := by decide +kernel
theorem dX12_nextOf_22 : decode cX12_nextOf 22 = .ok (.iinc 2 1, 3) := by decide +kernel
theorem dX12_nextOf_25 : decode cX12_nextOf 25 = .ok (.goto (-21), 3) := by decide +kernel
theorem dX12_nextOf_28 : decode cX12_nextOf 28 = .ok (.iload_n 2, 1) := by decide +kernel
theorem dX12_nextOf_29 : decode cX12_nextOf 29 = .ok (.ireturn, 1) := by decide +kernel
theorem dX12_lastOf_0 : decode cX12_lastOf 0 = .ok (.iload_n 1, 1) := by decide +kernel
theorem dX12_lastOf_1 : decode cX12_lastOf 1 = .ok (.iconst 1, 1) := by decide +kernel
theorem dX12_lastOf_2 : decode cX12_lastOf 2 = .ok (.isub, 1) := by decide +kernel
theorem dX12_lastOf_3 : decode cX12_lastOf 3 = .ok (.istore_n 2, 1) := by decide +kernel
theorem dX12_lastOf_4 : decode cX12_lastOf 4 = .ok (.iload_n 2, 1) := by decide +kernel
theorem dX12_lastOf_5 : decode cX12_lastOf 5 = .ok (.ifCond .lt 19, 3) := by decide +kernel
theorem dX12_lastOf_8 : decode cX12_lastOf 8 = .ok (.aload_n 0, 1) := by decide +kernel
theorem dX12_lastOf_9 : decode cX12_lastOf 9 = .ok (.getfield 19, 3) := by decide +kernel
theorem dX12_lastOf_12 : decode cX12_lastOf 12 = .ok (.iload_n 2, 1) := by decide +kernel
theorem dX12_lastOf_13 : decode cX12_lastOf 13 = .ok (.iaload, 1) := by decide +kernel
theorem dX12_lastOf_14 : decode cX12_lastOf 14 = .ok (.iconst 1, 1) := by decide +kernel
theorem dX12_lastOf_15 : decode cX12_lastOf 15 = .ok (.if_icmp .ne 9, 3) := by decide +kernel
theorem dX12_lastOf_18 : decode cX12_lastOf 18 = .ok (.iinc 2 (-1), 3) := by decide +kernel
theorem dX12_lastOf_21 : decode cX12_lastOf 21 = .ok (.goto (-17), 3) := by decide +kernel
theorem dX12_lastOf_24 : decode cX12_lastOf 24 = .ok (.iload_n 2, 1) := by decide +kernel
theorem dX12_lastOf_25 : decode cX12_lastOf 25 = .ok (.ireturn, 1) := by decide +kernel
theorem dX12_fits_0 : decode cX12_fits 0 = .ok (.iload_n 2, 1) := by decide +kernel
theorem dX12_fits_1 : decode cX12_fits 1 = .ok (.bipush 6, 2) := by decide +kernel
theorem dX12_fits_3 : decode cX12_fits 3 = .ok (.idiv, 1) := by decide +kernel
theorem dX12_fits_4 : decode cX12_fits 4 = .ok (.istore_n 3, 1) := by decide +kernel
theorem dX12_fits_5 : decode cX12_fits 5 = .ok (.iload_n 2, 1) := by decide +kernel
theorem dX12_fits_6 : decode cX12_fits 6 = .ok (.bipush 6, 2) := by decide +kernel
theorem dX12_fits_8 : decode cX12_fits 8 = .ok (.irem, 1) := by decide +kernel
theorem dX12_fits_9 : decode cX12_fits 9 = .ok (.istore 4, 2) := by decide +kernel
theorem dX12_fits_11 : decode cX12_fits 11 = .ok (.aload_n 0, 1) := by decide +kernel
theorem dX12_fits_12 : decode cX12_fits 12 = .ok (.iload_n 1, 1) := by decide +kernel
theorem dX12_fits_13 : decode cX12_fits 13 = .ok (.iload 4, 2) := by decide +kernel
theorem dX12_fits_15 : decode cX12_fits 15 = .ok (.iload_n 3, 1) := by decide +kernel
theorem dX12_fits_16 : decode cX12_fits 16 = .ok (.invokevirtual 316, 3) := by decide +kernel
theorem dX12_fits_19 : decode cX12_fits 19 = .ok (.ifCond .ne 5, 3) := by decide +kernel
theorem dX12_fits_22 : decode cX12_fits 22 = .ok (.iconst 0, 1) := by decide +kernel
theorem dX12_fits_23 : decode cX12_fits 23 = .ok (.ireturn, 1) := by decide +kernel
theorem dX12_fits_24 : decode cX12_fits 24 = .ok (.iconst 0, 1) := by decide +kernel
theorem dX12_fits_25 : decode cX12_fits 25 = .ok (.istore 5, 2) := by decide +kernel
theorem dX12_fits_27 : decode cX12_fits 27 = .ok (.iconst 0, 1) := by decide +kernel
theorem dX12_fits_28 : decode cX12_fits 28 = .ok (.istore 6, 2) := by decide +kernel
theorem dX12_fits_30 : decode cX12_fits 30 = .ok (.iload 6, 2) := by decide +kernel
theorem dX12_fits_32 : decode cX12_fits 32 = .ok (.iload_n 1, 1) := by decide +kernel
theorem dX12_fits_33 : decode cX12_fits 33 = .ok (.if_icmp .ge 30, 3) := by decide +kernel
theorem dX12_fits_36 : decode cX12_fits 36 = .ok (.iload 5, 2) := by decide +kernel
theorem dX12_fits_38 : decode cX12_fits 38 = .ok (.aload_n 0, 1) := by decide +kernel
theorem dX12_fits_39 : decode cX12_fits 39 = .ok (.getfield 81, 3) := by decide +kernel
theorem dX12_fits_42 : decode cX12_fits 42 = .ok (.iload 6, 2) := by decide +kernel
theorem dX12_fits_44 : decode cX12_fits 44 = .ok (.iaload, 1) := by decide +kernel
theorem dX12_fits_45 : decode cX12_fits 45 = .ok (.iload_n 2, 1) := by decide +kernel
theorem dX12_fits_46 : decode cX12_fits 46 = .ok (.if_icmp .ne 7, 3) := by decide +kernel
theorem dX12_fits_49 : decode cX12_fits 49 = .ok (.iconst 1, 1) := by decide +kernel
theorem dX12_fits_50 : decode cX12_fits 50 = .ok (.goto 4, 3) := by decide +kernel
theorem dX12_fits_53 : decode cX12_fits 53 = .ok (.iconst 0, 1) := by decide +kernel
theorem dX12_fits_54 : decode cX12_fits 54 = .ok (.iadd, 1) := by decide +kernel
theorem dX12_fits_55 : decode cX12_fits 55 = .ok (.istore 5, 2) := by decide +kernel
theorem dX12_fits_57 : decode cX12_fits 57 = .ok (.iinc 6 1, 3) := by decide +kernel
theorem dX12_fits_60 : decode cX12_fits 60 = .ok (.goto (-30), 3) := by decide +kernel
theorem dX12_fits_63 : decode cX12_fits 63 = .ok (.iload 5, 2) := by decide +kernel
theorem dX12_fits_65 : decode cX12_fits 65 = .ok (.aload_n 0, 1) := by decide +kernel
theorem dX12_fits_66 : decode cX12_fits 66 = .ok (.getfield 28, 3) := by decide +kernel
theorem dX12_fits_69 : decode cX12_fits 69 = .ok (.iload 4, 2) := by decide +kernel
theorem dX12_fits_71 : decode cX12_fits 71 = .ok (.iaload, 1) := by decide +kernel
theorem dX12_fits_72 : decode cX12_fits 72 = .ok (.if_icmp .ge 7, 3) := by decide +kernel
theorem dX12_fits_75 : decode cX12_fits 75 = .ok (.iconst 1, 1) := by decide +kernel
theorem dX12_fits_76 : decode cX12_fits 76 = .ok (.goto 4, 3) := by decide +kernel
theorem dX12_fits_79 : decode cX12_fits 79 = .ok (.iconst 0, 1) := by decide +kernel
theorem dX12_fits_80 : decode cX12_fits 80 = .ok (.istore 6, 2) := by decide +kernel
theorem dX12_fits_82 : decode cX12_fits 82 = .ok (.iconst 0, 1) := by decide +kernel
theorem dX12_fits_83 : decode cX12_fits 83 = .ok (.istore 7, 2) := by decide +kernel
theorem dX12_fits_85 : decode cX12_fits 85 = .ok (.iload 7, 2) := by decide +kernel
theorem dX12_fits_87 : decode cX12_fits 87 = .ok (.iload_n 1, 1) := by decide +kernel
theorem dX12_fits_88 : decode cX12_fits 88 = .ok (.if_icmp .ge 68, 3) := by decide +kernel
theorem dX12_fits_91 : decode cX12_fits 91 = .ok (.iload 6, 2) := by decide +kernel
theorem dX12_fits_93 : decode cX12_fits 93 = .ok (.ifCond .eq 63, 3) := by decide +kernel
theorem dX12_fits_96 : decode cX12_fits 96 = .ok (.aload_n 0, 1) := by decide +kernel
theorem dX12_fits_97 : decode cX12_fits 97 = .ok (.getfield 81, 3) := by decide +kernel
theorem dX12_fits_100 : decode cX12_fits 100 = .ok (.iload 7, 2) := by decide +kernel
theorem dX12_fits_102 : decode cX12_fits 102 = .ok (.iaload, 1) := by decide +kernel
theorem dX12_fits_103 : decode cX12_fits 103 = .ok (.ifCond .lt 40, 3) := by decide +kernel
theorem dX12_fits_106 : decode cX12_fits 106 = .ok (.aload_n 0, 1) := by decide +kernel
theorem dX12_fits_107 : decode cX12_fits 107 = .ok (.getfield 81, 3) := by decide +kernel
theorem dX12_fits_110 : decode cX12_fits 110 = .ok (.iload 7, 2) := by decide +kernel
theorem dX12_fits_112 : decode cX12_fits 112 = .ok (.iaload, 1) := by decide +kernel
theorem dX12_fits_113 : decode cX12_fits 113 = .ok (.bipush 6, 2) := by decide +kernel
theorem dX12_fits_115 : decode cX12_fits 115 = .ok (.idiv, 1) := by decide +kernel
theorem dX12_fits_116 : decode cX12_fits 116 = .ok (.iload_n 3, 1) := by decide +kernel
theorem dX12_fits_117 : decode cX12_fits 117 = .ok (.if_icmp .ne 26, 3) := by decide +kernel
theorem dX12_fits_120 : decode cX12_fits 120 = .ok (.aload_n 0, 1) := by decide +kernel
theorem dX12_fits_121 : decode cX12_fits 121 = .ok (.iload_n 1, 1) := by decide +kernel
theorem dX12_fits_122 : decode cX12_fits 122 = .ok (.iload 4, 2) := by decide +kernel
theorem dX12_fits_124 : decode cX12_fits 124 = .ok (.iload 7, 2) := by decide +kernel
theorem dX12_fits_126 : decode cX12_fits 126 = .ok (.aload_n 0, 1) := by decide +kernel
theorem dX12_fits_127 : decode cX12_fits 127 = .ok (.getfield 81, 3) := by decide +kernel
theorem dX12_fits_130 : decode cX12_fits 130 = .ok (.iload 7, 2) := by decide +kernel
theorem dX12_fits_132 : decode cX12_fits 132 = .ok (.iaload, 1) := by decide +kernel
theorem dX12_fits_133 : decode cX12_fits 133 = .ok (.bipush 6, 2) := by decide +kernel
theorem dX12_fits_135 : decode cX12_fits 135 = .ok (.irem, 1) := by decide +kernel
theorem dX12_fits_136 : decode cX12_fits 136 = .ok (.iload_n 3, 1) := by decide +kernel
theorem dX12_fits_137 : decode cX12_fits 137 = .ok (.invokevirtual 320, 3) := by decide +kernel
theorem dX12_fits_140 : decode cX12_fits 140 = .ok (.ifCond .eq 7, 3) := by decide +kernel
theorem dX12_fits_143 : decode cX12_fits 143 = .ok (.iconst 1, 1) := by decide +kernel
theorem dX12_fits_144 : decode cX12_fits 144 = .ok (.goto 4, 3) := by decide +kernel
theorem dX12_fits_147 : decode cX12_fits 147 = .ok (.iconst 0, 1) := by decide +kernel
theorem dX12_fits_148 : decode cX12_fits 148 = .ok (.istore 6, 2) := by decide +kernel
theorem dX12_fits_150 : decode cX12_fits 150 = .ok (.iinc 7 1, 3) := by decide +kernel
theorem dX12_fits_153 : decode cX12_fits 153 = .ok (.goto (-68), 3) := by decide +kernel
theorem dX12_fits_156 : decode cX12_fits 156 = .ok (.iload 6, 2) := by decide +kernel
theorem dX12_fits_158 : decode cX12_fits 158 = .ok (.ireturn, 1) := by decide +kernel
theorem dX12_tries_0 : decode cX12_tries 0 = .ok (.aload_n 0, 1) := by decide +kernel
theorem dX12_tries_1 : decode cX12_tries 1 = .ok (.getfield 306, 3) := by decide +kernel
theorem dX12_tries_4 : decode cX12_tries 4 = .ok (.ireturn, 1) := by decide +kernel
theorem dX12_out_0 : decode cX12_out 0 = .ok (.aload_n 0, 1) := by decide +kernel
theorem dX12_out_1 : decode cX12_out 1 = .ok (.getfield 138, 3) := by decide +kernel
theorem dX12_out_4 : decode cX12_out 4 = .ok (.ifCond .eq 45, 3) := by decide +kernel
theorem dX12_out_7 : decode cX12_out 7 = .ok (.aload_n 0, 1) := by decide +kernel
theorem dX12_out_8 : decode cX12_out 8 = .ok (.iload_n 1, 1) := by decide +kernel
theorem dX12_out_9 : decode cX12_out 9 = .ok (.invokevirtual 142, 3) := by decide +kernel
theorem dX12_out_12 : decode cX12_out 12 = .ok (.ifCond .eq 37, 3) := by decide +kernel
theorem dX12_out_15 : decode cX12_out 15 = .ok (.aload_n 0, 1) := by decide +kernel
theorem dX12_out_16 : decode cX12_out 16 = .ok (.getfield 84, 3) := by decide +kernel
theorem dX12_out_19 : decode cX12_out 19 = .ok (.iload_n 1, 1) := by decide +kernel
theorem dX12_out_20 : decode cX12_out 20 = .ok (.iaload, 1) := by decide +kernel
theorem dX12_out_21 : decode cX12_out 21 = .ok (.ifCond .lt 28, 3) := by decide +kernel
theorem dX12_out_24 : decode cX12_out 24 = .ok (.bipush 10, 2) := by decide +kernel
theorem dX12_out_26 : decode cX12_out 26 = .ok (.aload_n 0, 1) := by decide +kernel
theorem dX12_out_27 : decode cX12_out 27 = .ok (.getfield 84, 3) := by decide +kernel
theorem dX12_out_30 : decode cX12_out 30 = .ok (.iload_n 1, 1) := by decide +kernel
theorem dX12_out_31 : decode cX12_out 31 = .ok (.iaload, 1) := by decide +kernel
theorem dX12_out_32 : decode cX12_out 32 = .ok (.bipush 6, 2) := by decide +kernel
theorem dX12_out_34 : decode cX12_out 34 = .ok (.idiv, 1) := by decide +kernel
theorem dX12_out_35 : decode cX12_out 35 = .ok (.imul, 1) := by decide +kernel
theorem dX12_out_36 : decode cX12_out 36 = .ok (.aload_n 0, 1) := by decide +kernel
theorem dX12_out_37 : decode cX12_out 37 = .ok (.getfield 84, 3) := by decide +kernel
theorem dX12_out_40 : decode cX12_out 40 = .ok (.iload_n 1, 1) := by decide +kernel
theorem dX12_out_41 : decode cX12_out 41 = .ok (.iaload, 1) := by decide +kernel
theorem dX12_out_42 : decode cX12_out 42 = .ok (.bipush 6, 2) := by decide +kernel
theorem dX12_out_44 : decode cX12_out 44 = .ok (.irem, 1) := by decide +kernel
theorem dX12_out_45 : decode cX12_out 45 = .ok (.iadd, 1) := by decide +kernel
theorem dX12_out_46 : decode cX12_out 46 = .ok (.goto 4, 3) := by decide +kernel
theorem dX12_out_49 : decode cX12_out 49 = .ok (.iconst (-1), 1) := by decide +kernel
theorem dX12_out_50 : decode cX12_out 50 = .ok (.ireturn, 1) := by decide +kernel
theorem dX12_stuck_0 : decode cX12_stuck 0 = .ok (.iconst 0, 1) := by decide +kernel
theorem dX12_stuck_1 : decode cX12_stuck 1 = .ok (.istore_n 1, 1) := by decide +kernel
theorem dX12_stuck_2 : decode cX12_stuck 2 = .ok (.iload_n 1, 1) := by decide +kernel
theorem dX12_stuck_3 : decode cX12_stuck 3 = .ok (.aload_n 0, 1) := by decide +kernel
theorem dX12_stuck_4 : decode cX12_stuck 4 = .ok (.getfield 132, 3) := by decide +kernel
theorem dX12_stuck_7 : decode cX12_stuck 7 = .ok (.if_icmp .ge 63, 3) := by decide +kernel
theorem dX12_stuck_10 : decode cX12_stuck 10 = .ok (.aload_n 0, 1) := by decide +kernel
theorem dX12_stuck_11 : decode cX12_stuck 11 = .ok (.getfield 19, 3) := by decide +kernel
theorem dX12_stuck_14 : decode cX12_stuck 14 = .ok (.iload_n 1, 1) := by decide +kernel
theorem dX12_stuck_15 : decode cX12_stuck 15 = .ok (.iaload, 1) := by decide +kernel
theorem dX12_stuck_16 : decode cX12_stuck 16 = .ok (.iconst 1, 1) := by decide +kernel
theorem dX12_stuck_17 : decode cX12_stuck 17 = .ok (.if_icmp .ne 7, 3) := by decide +kernel
theorem dX12_stuck_20 : decode cX12_stuck 20 = .ok (.iconst 1, 1) := by decide +kernel
theorem dX12_stuck_21 : decode cX12_stuck 21 = .ok (.goto 4, 3) := by decide +kernel
theorem dX12_stuck_24 : decode cX12_stuck 24 = .ok (.iconst 0, 1) := by decide +kernel
theorem dX12_stuck_25 : decode cX12_stuck 25 = .ok (.istore_n 2, 1) := by decide +kernel
theorem dX12_stuck_26 : decode cX12_stuck 26 = .ok (.iconst 0, 1) := by decide +kernel
theorem dX12_stuck_27 : decode cX12_stuck 27 = .ok (.istore_n 3, 1) := by decide +kernel
theorem dX12_stuck_28 : decode cX12_stuck 28 = .ok (.iload_n 3, 1) := by decide +kernel
theorem dX12_stuck_29 : decode cX12_stuck 29 = .ok (.bipush 24, 2) := by decide +kernel
theorem dX12_stuck_31 : decode cX12_stuck 31 = .ok (.if_icmp .ge 27, 3) := by decide +kernel
theorem dX12_stuck_34 : decode cX12_stuck 34 = .ok (.iload_n 2, 1) := by decide +kernel
theorem dX12_stuck_35 : decode cX12_stuck 35 = .ok (.ifCond .ne 23, 3) := by decide +kernel
theorem dX12_stuck_38 : decode cX12_stuck 38 = .ok (.aload_n 0, 1) := by decide +kernel
theorem dX12_stuck_39 : decode cX12_stuck 39 = .ok (.iload_n 1, 1) := by decide +kernel
theorem dX12_stuck_40 : decode cX12_stuck 40 = .ok (.iload_n 3, 1) := by decide +kernel
theorem dX12_stuck_41 : decode cX12_stuck 41 = .ok (.bipush 6, 2) := by decide +kernel
theorem dX12_stuck_43 : decode cX12_stuck 43 = .ok (.irem, 1) := by decide +kernel
theorem dX12_stuck_44 : decode cX12_stuck 44 = .ok (.iload_n 3, 1) := by decide +kernel
theorem dX12_stuck_45 : decode cX12_stuck 45 = .ok (.bipush 6, 2) := by decide +kernel
theorem dX12_stuck_47 : decode cX12_stuck 47 = .ok (.idiv, 1) := by decide +kernel
theorem dX12_stuck_48 : decode cX12_stuck 48 = .ok (.invokevirtual 316, 3) := by decide +kernel
theorem dX12_stuck_51 : decode cX12_stuck 51 = .ok (.istore_n 2, 1) := by decide +kernel
theorem dX12_stuck_52 : decode cX12_stuck 52 = .ok (.iinc 3 1, 3) := by decide +kernel
theorem dX12_stuck_55 : decode cX12_stuck 55 = .ok (.goto (-27), 3) := by decide +kernel
theorem dX12_stuck_58 : decode cX12_stuck 58 = .ok (.iload_n 2, 1) := by decide +kernel
theorem dX12_stuck_59 : decode cX12_stuck 59 = .ok (.ifCond .ne 5, 3) := by decide +kernel
theorem dX12_stuck_62 : decode cX12_stuck 62 = .ok (.iload_n 1, 1) := by decide +kernel
theorem dX12_stuck_63 : decode cX12_stuck 63 = .ok (.ireturn, 1) := by decide +kernel
theorem dX12_stuck_64 : decode cX12_stuck 64 = .ok (.iinc 1 1, 3) := by decide +kernel
theorem dX12_stuck_67 : decode cX12_stuck 67 = .ok (.goto (-65), 3) := by decide +kernel
theorem dX12_stuck_70 : decode cX12_stuck 70 = .ok (.iconst (-1), 1) := by decide +kernel
theorem dX12_stuck_71 : decode cX12_stuck 71 = .ok (.ireturn, 1) := by decide +kernel
theorem dX12_lot_0 : decode cX12_lot 0 = .ok (.iload_n 1, 1) := by decide +kernel
theorem dX12_lot_1 : decode cX12_lot 1 = .ok (.invokestatic 324, 3) := by decide +kernel
theorem dX12_lot_4 : decode cX12_lot 4 = .ok (.ifCond .eq 40, 3) := by decide +kernel
theorem dX12_lot_7 : decode cX12_lot 7 = .ok (.aload_n 0, 1) := by decide +kernel
theorem dX12_lot_8 : decode cX12_lot 8 = .ok (.getfield 87, 3) := by decide +kernel
theorem dX12_lot_11 : decode cX12_lot 11 = .ok (.iload_n 1, 1) := by decide +kernel
theorem dX12_lot_12 : decode cX12_lot 12 = .ok (.iaload, 1) := by decide +kernel
theorem dX12_lot_13 : decode cX12_lot 13 = .ok (.bipush 20, 2) := by decide +kernel
theorem dX12_lot_15 : decode cX12_lot 15 = .ok (.if_icmp .eq 29, 3) := by decide +kernel
theorem dX12_lot_18 : decode cX12_lot 18 = .ok (.iload_n 2, 1) := by decide +kernel
theorem dX12_lot_19 : decode cX12_lot 19 = .ok (.iconst 1, 1) := by decide +kernel
theorem dX12_lot_20 : decode cX12_lot 20 = .ok (.if_icmp .lt 24, 3) := by decide +kernel
theorem dX12_lot_23 : decode cX12_lot 23 = .ok (.iload_n 2, 1) := by decide +kernel
theorem dX12_lot_24 : decode cX12_lot 24 = .ok (.sipush 10000, 3) := by decide +kernel
theorem dX12_lot_27 : decode cX12_lot 27 = .ok (.if_icmp .gt 17, 3) := by decide +kernel
theorem dX12_lot_30 : decode cX12_lot 30 = .ok (.iload_n 3, 1) := by decide +kernel
theorem dX12_lot_31 : decode cX12_lot 31 = .ok (.aload_n 0, 1) := by decide +kernel
theorem dX12_lot_32 : decode cX12_lot 32 = .ok (.getfield 135, 3) := by decide +kernel
theorem dX12_lot_35 : decode cX12_lot 35 = .ok (.if_icmp .lt 9, 3) := by decide +kernel
theorem dX12_lot_38 : decode cX12_lot 38 = .ok (.iload_n 3, 1) := by decide +kernel
theorem dX12_lot_39 : decode cX12_lot 39 = .ok (.ldc 149, 2) := by decide +kernel
theorem dX12_lot_41 : decode cX12_lot 41 = .ok (.if_icmp .le 5, 3) := by decide +kernel
theorem dX12_lot_44 : decode cX12_lot 44 = .ok (.iconst (-1), 1) := by decide +kernel
theorem dX12_lot_45 : decode cX12_lot 45 = .ok (.ireturn, 1) := by decide +kernel
theorem dX12_lot_46 : decode cX12_lot 46 = .ok (.aload_n 0, 1) := by decide +kernel
theorem dX12_lot_47 : decode cX12_lot 47 = .ok (.getfield 87, 3) := by decide +kernel
theorem dX12_lot_50 : decode cX12_lot 50 = .ok (.iload_n 1, 1) := by decide +kernel
theorem dX12_lot_51 : decode cX12_lot 51 = .ok (.iaload, 1) := by decide +kernel
theorem dX12_lot_52 : decode cX12_lot 52 = .ok (.istore 4, 2) := by decide +kernel
theorem dX12_lot_54 : decode cX12_lot 54 = .ok (.iload 4, 2) := by decide +kernel
theorem dX12_lot_56 : decode cX12_lot 56 = .ok (.ifCond .le 79, 3) := by decide +kernel
theorem dX12_lot_59 : decode cX12_lot 59 = .ok (.aload_n 0, 1) := by decide +kernel
theorem dX12_lot_60 : decode cX12_lot 60 = .ok (.getfield 93, 3) := by decide +kernel
theorem dX12_lot_63 : decode cX12_lot 63 = .ok (.bipush 20, 2) := by decide +kernel
theorem dX12_lot_65 : decode cX12_lot 65 = .ok (.iload_n 1, 1) := by decide +kernel
theorem dX12_lot_66 : decode cX12_lot 66 = .ok (.imul, 1) := by decide +kernel
theorem dX12_lot_67 : decode cX12_lot 67 = .ok (.iload 4, 2) := by decide +kernel
theorem dX12_lot_69 : decode cX12_lot 69 = .ok (.iadd, 1) := by decide +kernel
theorem dX12_lot_70 : decode cX12_lot 70 = .ok (.iconst 1, 1) := by decide +kernel
theorem dX12_lot_71 : decode cX12_lot 71 = .ok (.isub, 1) := by decide +kernel
theorem dX12_lot_72 : decode cX12_lot 72 = .ok (.iaload, 1) := by decide +kernel
theorem dX12_lot_73 : decode cX12_lot 73 = .ok (.iload_n 3, 1) := by decide +kernel
theorem dX12_lot_74 : decode cX12_lot 74 = .ok (.if_icmp .le 61, 3) := by decide +kernel
theorem dX12_lot_77 : decode cX12_lot 77 = .ok (.aload_n 0, 1) := by decide +kernel
theorem dX12_lot_78 : decode cX12_lot 78 = .ok (.getfield 93, 3) := by decide +kernel
theorem dX12_lot_81 : decode cX12_lot 81 = .ok (.bipush 20, 2) := by decide +kernel
theorem dX12_lot_83 : decode cX12_lot 83 = .ok (.iload_n 1, 1) := by decide +kernel
theorem dX12_lot_84 : decode cX12_lot 84 = .ok (.imul, 1) := by decide +kernel
theorem dX12_lot_85 : decode cX12_lot 85 = .ok (.iload 4, 2) := by decide +kernel
theorem dX12_lot_87 : decode cX12_lot 87 = .ok (.iadd, 1) := by decide +kernel
theorem dX12_lot_88 : decode cX12_lot 88 = .ok (.aload_n 0, 1) := by decide +kernel
theorem dX12_lot_89 : decode cX12_lot 89 = .ok (.getfield 93, 3) := by decide +kernel
theorem dX12_lot_92 : decode cX12_lot 92 = .ok (.bipush 20, 2) := by decide +kernel
theorem dX12_lot_94 : decode cX12_lot 94 = .ok (.iload_n 1, 1) := by decide +kernel
theorem dX12_lot_95 : decode cX12_lot 95 = .ok (.imul, 1) := by decide +kernel
theorem dX12_lot_96 : decode cX12_lot 96 = .ok (.iload 4, 2) := by decide +kernel
theorem dX12_lot_98 : decode cX12_lot 98 = .ok (.iadd, 1) := by decide +kernel
theorem dX12_lot_99 : decode cX12_lot 99 = .ok (.iconst 1, 1) := by decide +kernel
theorem dX12_lot_100 : decode cX12_lot 100 = .ok (.isub, 1) := by decide +kernel
theorem dX12_lot_101 : decode cX12_lot 101 = .ok (.iaload, 1) := by decide +kernel
theorem dX12_lot_102 : decode cX12_lot 102 = .ok (.iastore, 1) := by decide +kernel
theorem dX12_lot_103 : decode cX12_lot 103 = .ok (.aload_n 0, 1) := by decide +kernel
theorem dX12_lot_104 : decode cX12_lot 104 = .ok (.getfield 90, 3) := by decide +kernel
theorem dX12_lot_107 : decode cX12_lot 107 = .ok (.bipush 20, 2) := by decide +kernel
theorem dX12_lot_109 : decode cX12_lot 109 = .ok (.iload_n 1, 1) := by decide +kernel
theorem dX12_lot_110 : decode cX12_lot 110 = .ok (.imul, 1) := by decide +kernel
theorem dX12_lot_111 : decode cX12_lot 111 = .ok (.iload 4, 2) := by decide +kernel
theorem dX12_lot_113 : decode cX12_lot 113 = .ok (.iadd, 1) := by decide +kernel
theorem dX12_lot_114 : decode cX12_lot 114 = .ok (.aload_n 0, 1) := by decide +kernel
theorem dX12_lot_115 : decode cX12_lot 115 = .ok (.getfield 90, 3) := by decide +kernel
theorem dX12_lot_118 : decode cX12_lot 118 = .ok (.bipush 20, 2) := by decide +kernel
theorem dX12_lot_120 : decode cX12_lot 120 = .ok (.iload_n 1, 1) := by decide +kernel
theorem dX12_lot_121 : decode cX12_lot 121 = .ok (.imul, 1) := by decide +kernel
theorem dX12_lot_122 : decode cX12_lot 122 = .ok (.iload 4, 2) := by decide +kernel
theorem dX12_lot_124 : decode cX12_lot 124 = .ok (.iadd, 1) := by decide +kernel
theorem dX12_lot_125 : decode cX12_lot 125 = .ok (.iconst 1, 1) := by decide +kernel
theorem dX12_lot_126 : decode cX12_lot 126 = .ok (.isub, 1) := by decide +kernel
theorem dX12_lot_127 : decode cX12_lot 127 = .ok (.iaload, 1) := by decide +kernel
theorem dX12_lot_128 : decode cX12_lot 128 = .ok (.iastore, 1) := by decide +kernel
theorem dX12_lot_129 : decode cX12_lot 129 = .ok (.iinc 4 (-1), 3) := by decide +kernel
theorem dX12_lot_132 : decode cX12_lot 132 = .ok (.goto (-78), 3) := by decide +kernel
theorem dX12_lot_135 : decode cX12_lot 135 = .ok (.aload_n 0, 1) := by decide +kernel
theorem dX12_lot_136 : decode cX12_lot 136 = .ok (.getfield 93, 3) := by decide +kernel
theorem dX12_lot_139 : decode cX12_lot 139 = .ok (.bipush 20, 2) := by decide +kernel
theorem dX12_lot_141 : decode cX12_lot 141 = .ok (.iload_n 1, 1) := by decide +kernel
theorem dX12_lot_142 : decode cX12_lot 142 = .ok (.imul, 1) := by decide +kernel
theorem dX12_lot_143 : decode cX12_lot 143 = .ok (.iload 4, 2) := by decide +kernel
theorem dX12_lot_145 : decode cX12_lot 145 = .ok (.iadd, 1) := by decide +kernel
theorem dX12_lot_146 : decode cX12_lot 146 = .ok (.iload_n 3, 1) := by decide +kernel
theorem dX12_lot_147 : decode cX12_lot 147 = .ok (.iastore, 1) := by decide +kernel
theorem dX12_lot_148 : decode cX12_lot 148 = .ok (.aload_n 0, 1) := by decide +kernel
theorem dX12_lot_149 : decode cX12_lot 149 = .ok (.getfield 90, 3) := by decide +kernel
theorem dX12_lot_152 : decode cX12_lot 152 = .ok (.bipush 20, 2) := by decide +kernel
theorem dX12_lot_154 : decode cX12_lot 154 = .ok (.iload_n 1, 1) := by decide +kernel
theorem dX12_lot_155 : decode cX12_lot 155 = .ok (.imul, 1) := by decide +kernel
theorem dX12_lot_156 : decode cX12_lot 156 = .ok (.iload 4, 2) := by decide +kernel
theorem dX12_lot_158 : decode cX12_lot 158 = .ok (.iadd, 1) := by decide +kernel
theorem dX12_lot_159 : decode cX12_lot 159 = .ok (.iload_n 2, 1) := by decide +kernel
theorem dX12_lot_160 : decode cX12_lot 160 = .ok (.iastore, 1) := by decide +kernel
theorem dX12_lot_161 : decode cX12_lot 161 = .ok (.aload_n 0, 1) := by decide +kernel
theorem dX12_lot_162 : decode cX12_lot 162 = .ok (.getfield 87, 3) := by decide +kernel
theorem dX12_lot_165 : decode cX12_lot 165 = .ok (.iload_n 1, 1) := by decide +kernel
theorem dX12_lot_166 : decode cX12_lot 166 = .ok (.dup2, 1) := by decide +kernel
theorem dX12_lot_167 : decode cX12_lot 167 = .ok (.iaload, 1) := by decide +kernel
theorem dX12_lot_168 : decode cX12_lot 168 = .ok (.iconst 1, 1) := by decide +kernel
theorem dX12_lot_169 : decode cX12_lot 169 = .ok (.iadd, 1) := by decide +kernel
theorem dX12_lot_170 : decode cX12_lot 170 = .ok (.iastore, 1) := by decide +kernel
theorem dX12_lot_171 : decode cX12_lot 171 = .ok (.aload_n 0, 1) := by decide +kernel
theorem dX12_lot_172 : decode cX12_lot 172 = .ok (.getfield 87, 3) := by decide +kernel
theorem dX12_lot_175 : decode cX12_lot 175 = .ok (.iload_n 1, 1) := by decide +kernel
theorem dX12_lot_176 : decode cX12_lot 176 = .ok (.iaload, 1) := by decide +kernel
theorem dX12_lot_177 : decode cX12_lot 177 = .ok (.ireturn, 1) := by decide +kernel
theorem dX12_firstGoes_0 : decode cX12_firstGoes 0 = .ok (.iconst 1, 1) := by decide +kernel
theorem dX12_firstGoes_1 : decode cX12_firstGoes 1 = .ok (.istore_n 2, 1) := by decide +kernel
theorem dX12_firstGoes_2 : decode cX12_firstGoes 2 = .ok (.iload_n 2, 1) := by decide +kernel
theorem dX12_firstGoes_3 : decode cX12_firstGoes 3 = .ok (.aload_n 0, 1) := by decide +kernel
theorem dX12_firstGoes_4 : decode cX12_firstGoes 4 = .ok (.getfield 87, 3) := by decide +kernel
theorem dX12_firstGoes_7 : decode cX12_firstGoes 7 = .ok (.iload_n 1, 1) := by decide +kernel
theorem dX12_firstGoes_8 : decode cX12_firstGoes 8 = .ok (.iaload, 1) := by decide +kernel
theorem dX12_firstGoes_9 : decode cX12_firstGoes 9 = .ok (.if_icmp .ge 57, 3) := by decide +kernel
theorem dX12_firstGoes_12 : decode cX12_firstGoes 12 = .ok (.aload_n 0, 1) := by decide +kernel
theorem dX12_firstGoes_13 : decode cX12_firstGoes 13 = .ok (.getfield 93, 3) := by decide +kernel
theorem dX12_firstGoes_16 : decode cX12_firstGoes 16 = .ok (.bipush 20, 2) := by decide +kernel
theorem dX12_firstGoes_18 : decode cX12_firstGoes 18 = .ok (.iload_n 1, 1) := by decide +kernel
theorem dX12_firstGoes_19 : decode cX12_firstGoes 19 = .ok (.imul, 1) := by decide +kernel
theorem dX12_firstGoes_20 : decode cX12_firstGoes 20 = .ok (.iload_n 2, 1) := by decide +kernel
theorem dX12_firstGoes_21 : decode cX12_firstGoes 21 = .ok (.iadd, 1) := by decide +kernel
theorem dX12_firstGoes_22 : decode cX12_firstGoes 22 = .ok (.iconst 1, 1) := by decide +kernel
theorem dX12_firstGoes_23 : decode cX12_firstGoes 23 = .ok (.isub, 1) := by decide +kernel
theorem dX12_firstGoes_24 : decode cX12_firstGoes 24 = .ok (.aload_n 0, 1) := by decide +kernel
theorem dX12_firstGoes_25 : decode cX12_firstGoes 25 = .ok (.getfield 93, 3) := by decide +kernel
theorem dX12_firstGoes_28 : decode cX12_firstGoes 28 = .ok (.bipush 20, 2) := by decide +kernel
theorem dX12_firstGoes_30 : decode cX12_firstGoes 30 = .ok (.iload_n 1, 1) := by decide +kernel
theorem dX12_firstGoes_31 : decode cX12_firstGoes 31 = .ok (.imul, 1) := by decide +kernel
theorem dX12_firstGoes_32 : decode cX12_firstGoes 32 = .ok (.iload_n 2, 1) := by decide +kernel
theorem dX12_firstGoes_33 : decode cX12_firstGoes 33 = .ok (.iadd, 1) := by decide +kernel
theorem dX12_firstGoes_34 : decode cX12_firstGoes 34 = .ok (.iaload, 1) := by decide +kernel
theorem dX12_firstGoes_35 : decode cX12_firstGoes 35 = .ok (.iastore, 1) := by decide +kernel
theorem dX12_firstGoes_36 : decode cX12_firstGoes 36 = .ok (.aload_n 0, 1) := by decide +kernel
theorem dX12_firstGoes_37 : decode cX12_firstGoes 37 = .ok (.getfield 90, 3) := by decide +kernel
theorem dX12_firstGoes_40 : decode cX12_firstGoes 40 = .ok (.bipush 20, 2) := by decide +kernel
theorem dX12_firstGoes_42 : decode cX12_firstGoes 42 = .ok (.iload_n 1, 1) := by decide +kernel
theorem dX12_firstGoes_43 : decode cX12_firstGoes 43 = .ok (.imul, 1) := by decide +kernel
theorem dX12_firstGoes_44 : decode cX12_firstGoes 44 = .ok (.iload_n 2, 1) := by decide +kernel
theorem dX12_firstGoes_45 : decode cX12_firstGoes 45 = .ok (.iadd, 1) := by decide +kernel
theorem dX12_firstGoes_46 : decode cX12_firstGoes 46 = .ok (.iconst 1, 1) := by decide +kernel
theorem dX12_firstGoes_47 : decode cX12_firstGoes 47 = .ok (.isub, 1) := by decide +kernel
theorem dX12_firstGoes_48 : decode cX12_firstGoes 48 = .ok (.aload_n 0, 1) := by decide +kernel
theorem dX12_firstGoes_49 : decode cX12_firstGoes 49 = .ok (.getfield 90, 3) := by decide +kernel
theorem dX12_firstGoes_52 : decode cX12_firstGoes 52 = .ok (.bipush 20, 2) := by decide +kernel
theorem dX12_firstGoes_54 : decode cX12_firstGoes 54 = .ok (.iload_n 1, 1) := by decide +kernel
theorem dX12_firstGoes_55 : decode cX12_firstGoes 55 = .ok (.imul, 1) := by decide +kernel
theorem dX12_firstGoes_56 : decode cX12_firstGoes 56 = .ok (.iload_n 2, 1) := by decide +kernel
theorem dX12_firstGoes_57 : decode cX12_firstGoes 57 = .ok (.iadd, 1) := by decide +kernel
theorem dX12_firstGoes_58 : decode cX12_firstGoes 58 = .ok (.iaload, 1) := by decide +kernel
theorem dX12_firstGoes_59 : decode cX12_firstGoes 59 = .ok (.iastore, 1) := by decide +kernel
theorem dX12_firstGoes_60 : decode cX12_firstGoes 60 = .ok (.iinc 2 1, 3) := by decide +kernel
theorem dX12_firstGoes_63 : decode cX12_firstGoes 63 = .ok (.goto (-61), 3) := by decide +kernel
theorem dX12_firstGoes_66 : decode cX12_firstGoes 66 = .ok (.aload_n 0, 1) := by decide +kernel
theorem dX12_firstGoes_67 : decode cX12_firstGoes 67 = .ok (.getfield 87, 3) := by decide +kernel
theorem dX12_firstGoes_70 : decode cX12_firstGoes 70 = .ok (.iload_n 1, 1) := by decide +kernel
theorem dX12_firstGoes_71 : decode cX12_firstGoes 71 = .ok (.dup2, 1) := by decide +kernel
theorem dX12_firstGoes_72 : decode cX12_firstGoes 72 = .ok (.iaload, 1) := by decide +kernel
theorem dX12_firstGoes_73 : decode cX12_firstGoes 73 = .ok (.iconst 1, 1) := by decide +kernel
theorem dX12_firstGoes_74 : decode cX12_firstGoes 74 = .ok (.isub, 1) := by decide +kernel
theorem dX12_firstGoes_75 : decode cX12_firstGoes 75 = .ok (.iastore, 1) := by decide +kernel
theorem dX12_firstGoes_76 : decode cX12_firstGoes 76 = .ok (.return_, 1) := by decide +kernel
theorem dX12_takes_0 : decode cX12_takes 0 = .ok (.aload_n 0, 1) := by decide +kernel
theorem dX12_takes_1 : decode cX12_takes 1 = .ok (.iload_n 1, 1) := by decide +kernel
theorem dX12_takes_2 : decode cX12_takes 2 = .ok (.invokevirtual 142, 3) := by decide +kernel
theorem dX12_takes_5 : decode cX12_takes 5 = .ok (.ifCond .eq 20, 3) := by decide +kernel
theorem dX12_takes_8 : decode cX12_takes 8 = .ok (.iload_n 2, 1) := by decide +kernel
theorem dX12_takes_9 : decode cX12_takes 9 = .ok (.invokestatic 324, 3) := by decide +kernel
theorem dX12_takes_12 : decode cX12_takes 12 = .ok (.ifCond .eq 13, 3) := by decide +kernel
theorem dX12_takes_15 : decode cX12_takes 15 = .ok (.iload_n 3, 1) := by decide +kernel
theorem dX12_takes_16 : decode cX12_takes 16 = .ok (.ifCond .lt 9, 3) := by decide +kernel
theorem dX12_takes_19 : decode cX12_takes 19 = .ok (.iload_n 3, 1) := by decide +kernel
theorem dX12_takes_20 : decode cX12_takes 20 = .ok (.bipush 50, 2) := by decide +kernel
theorem dX12_takes_22 : decode cX12_takes 22 = .ok (.if_icmp .le 5, 3) := by decide +kernel
theorem dX12_takes_25 : decode cX12_takes 25 = .ok (.iconst 0, 1) := by decide +kernel
theorem dX12_takes_26 : decode cX12_takes 26 = .ok (.ireturn, 1) := by decide +kernel
theorem dX12_takes_27 : decode cX12_takes 27 = .ok (.aload_n 0, 1) := by decide +kernel
theorem dX12_takes_28 : decode cX12_takes 28 = .ok (.getfield 25, 3) := by decide +kernel
theorem dX12_takes_31 : decode cX12_takes 31 = .ok (.iconst 4, 1) := by decide +kernel
theorem dX12_takes_32 : decode cX12_takes 32 = .ok (.iload_n 1, 1) := by decide +kernel
theorem dX12_takes_33 : decode cX12_takes 33 = .ok (.imul, 1) := by decide +kernel
theorem dX12_takes_34 : decode cX12_takes 34 = .ok (.iload_n 2, 1) := by decide +kernel
theorem dX12_takes_35 : decode cX12_takes 35 = .ok (.iadd, 1) := by decide +kernel
theorem dX12_takes_36 : decode cX12_takes 36 = .ok (.iload_n 3, 1) := by decide +kernel
theorem dX12_takes_37 : decode cX12_takes 37 = .ok (.iastore, 1) := by decide +kernel
theorem dX12_takes_38 : decode cX12_takes 38 = .ok (.iconst 1, 1) := by decide +kernel
theorem dX12_takes_39 : decode cX12_takes 39 = .ok (.ireturn, 1) := by decide +kernel
theorem dX12_price_0 : decode cX12_price 0 = .ok (.iload_n 1, 1) := by decide +kernel
theorem dX12_price_1 : decode cX12_price 1 = .ok (.ifCond .lt 20, 3) := by decide +kernel
theorem dX12_price_4 : decode cX12_price 4 = .ok (.iload_n 1, 1) := by decide +kernel
theorem dX12_price_5 : decode cX12_price 5 = .ok (.bipush 7, 2) := by decide +kernel
theorem dX12_price_7 : decode cX12_price 7 = .ok (.if_icmp .gt 14, 3) := by decide +kernel
theorem dX12_price_10 : decode cX12_price 10 = .ok (.iload_n 2, 1) := by decide +kernel
theorem dX12_price_11 : decode cX12_price 11 = .ok (.ifCond .lt 10, 3) := by decide +kernel
theorem dX12_price_14 : decode cX12_price 14 = .ok (.iload_n 2, 1) := by decide +kernel
theorem dX12_price_15 : decode cX12_price 15 = .ok (.sipush 1000, 3) := by decide +kernel
theorem dX12_price_18 : decode cX12_price 18 = .ok (.if_icmp .le 5, 3) := by decide +kernel
theorem dX12_price_21 : decode cX12_price 21 = .ok (.iconst 0, 1) := by decide +kernel
theorem dX12_price_22 : decode cX12_price 22 = .ok (.ireturn, 1) := by decide +kernel
theorem dX12_price_23 : decode cX12_price 23 = .ok (.aload_n 0, 1) := by decide +kernel
theorem dX12_price_24 : decode cX12_price 24 = .ok (.getfield 99, 3) := by decide +kernel
theorem dX12_price_27 : decode cX12_price 27 = .ok (.iload_n 1, 1) := by decide +kernel
theorem dX12_price_28 : decode cX12_price 28 = .ok (.iload_n 2, 1) := by decide +kernel
theorem dX12_price_29 : decode cX12_price 29 = .ok (.iastore, 1) := by decide +kernel
theorem dX12_price_30 : decode cX12_price 30 = .ok (.iconst 1, 1) := by decide +kernel
theorem dX12_price_31 : decode cX12_price 31 = .ok (.ireturn, 1) := by decide +kernel
theorem dX12_falls_0 : decode cX12_falls 0 = .ok (.iload_n 1, 1) := by decide +kernel
theorem dX12_falls_1 : decode cX12_falls 1 = .ok (.ifCond .lt 19, 3) := by decide +kernel
theorem dX12_falls_4 : decode cX12_falls 4 = .ok (.iload_n 1, 1) := by decide +kernel
theorem dX12_falls_5 : decode cX12_falls 5 = .ok (.iconst 2, 1) := by decide +kernel
theorem dX12_falls_6 : decode cX12_falls 6 = .ok (.if_icmp .gt 14, 3) := by decide +kernel
theorem dX12_falls_9 : decode cX12_falls 9 = .ok (.iload_n 2, 1) := by decide +kernel
theorem dX12_falls_10 : decode cX12_falls 10 = .ok (.ifCond .lt 10, 3) := by decide +kernel
theorem dX12_falls_13 : decode cX12_falls 13 = .ok (.iload_n 2, 1) := by decide +kernel
theorem dX12_falls_14 : decode cX12_falls 14 = .ok (.sipush 400, 3) := by decide +kernel
theorem dX12_falls_17 : decode cX12_falls 17 = .ok (.if_icmp .le 5, 3) := by decide +kernel
theorem dX12_falls_20 : decode cX12_falls 20 = .ok (.iconst 0, 1) := by decide +kernel
theorem dX12_falls_21 : decode cX12_falls 21 = .ok (.ireturn, 1) := by decide +kernel
theorem dX12_falls_22 : decode cX12_falls 22 = .ok (.aload_n 0, 1) := by decide +kernel
theorem dX12_falls_23 : decode cX12_falls 23 = .ok (.getfield 102, 3) := by decide +kernel
theorem dX12_falls_26 : decode cX12_falls 26 = .ok (.iload_n 1, 1) := by decide +kernel
theorem dX12_falls_27 : decode cX12_falls 27 = .ok (.iload_n 2, 1) := by decide +kernel
theorem dX12_falls_28 : decode cX12_falls 28 = .ok (.iastore, 1) := by decide +kernel
theorem dX12_falls_29 : decode cX12_falls 29 = .ok (.iconst 1, 1) := by decide +kernel
theorem dX12_falls_30 : decode cX12_falls 30 = .ok (.ireturn, 1) := by decide +kernel
theorem dX12_serve_0 : decode cX12_serve 0 = .ok (.iconst 0, 1) := by decide +kernel
theorem dX12_serve_1 : decode cX12_serve 1 = .ok (.istore_n 3, 1) := by decide +kernel
theorem dX12_serve_2 : decode cX12_serve 2 = .ok (.iload_n 3, 1) := by decide +kernel
theorem dX12_serve_3 : decode cX12_serve 3 = .ok (.iload_n 2, 1) := by decide +kernel
theorem dX12_serve_4 : decode cX12_serve 4 = .ok (.if_icmp .ge 81, 3) := by decide +kernel
theorem dX12_serve_7 : decode cX12_serve 7 = .ok (.aload_n 0, 1) := by decide +kernel
theorem dX12_serve_8 : decode cX12_serve 8 = .ok (.getfield 87, 3) := by decide +kernel
theorem dX12_serve_11 : decode cX12_serve 11 = .ok (.iload_n 1, 1) := by decide +kernel
theorem dX12_serve_12 : decode cX12_serve 12 = .ok (.iaload, 1) := by decide +kernel
theorem dX12_serve_13 : decode cX12_serve 13 = .ok (.ifCond .le 72, 3) := by decide +kernel
theorem dX12_serve_16 : decode cX12_serve 16 = .ok (.bipush 20, 2) := by decide +kernel
theorem dX12_serve_18 : decode cX12_serve 18 = .ok (.iload_n 1, 1) := by decide +kernel
theorem dX12_serve_19 : decode cX12_serve 19 = .ok (.imul, 1) := by decide +kernel
theorem dX12_serve_20 : decode cX12_serve 20 = .ok (.istore 4, 2) := by decide +kernel
theorem dX12_serve_22 : decode cX12_serve 22 = .ok (.aload_n 0, 1) := by decide +kernel
theorem dX12_serve_23 : decode cX12_serve 23 = .ok (.getfield 90, 3) := by decide +kernel
theorem dX12_serve_26 : decode cX12_serve 26 = .ok (.iload 4, 2) := by decide +kernel
theorem dX12_serve_28 : decode cX12_serve 28 = .ok (.iaload, 1) := by decide +kernel
theorem dX12_serve_29 : decode cX12_serve 29 = .ok (.iload_n 2, 1) := by decide +kernel
theorem dX12_serve_30 : decode cX12_serve 30 = .ok (.iload_n 3, 1) := by decide +kernel
theorem dX12_serve_31 : decode cX12_serve 31 = .ok (.isub, 1) := by decide +kernel
theorem dX12_serve_32 : decode cX12_serve 32 = .ok (.if_icmp .ge 13, 3) := by decide +kernel
theorem dX12_serve_35 : decode cX12_serve 35 = .ok (.aload_n 0, 1) := by decide +kernel
theorem dX12_serve_36 : decode cX12_serve 36 = .ok (.getfield 90, 3) := by decide +kernel
theorem dX12_serve_39 : decode cX12_serve 39 = .ok (.iload 4, 2) := by decide +kernel
theorem dX12_serve_41 : decode cX12_serve 41 = .ok (.iaload, 1) := by decide +kernel
theorem dX12_serve_42 : decode cX12_serve 42 = .ok (.goto 6, 3) := by decide +kernel
theorem dX12_serve_45 : decode cX12_serve 45 = .ok (.iload_n 2, 1) := by decide +kernel
theorem dX12_serve_46 : decode cX12_serve 46 = .ok (.iload_n 3, 1) := by decide +kernel
theorem dX12_serve_47 : decode cX12_serve 47 = .ok (.isub, 1) := by decide +kernel
theorem dX12_serve_48 : decode cX12_serve 48 = .ok (.istore 5, 2) := by decide +kernel
theorem dX12_serve_50 : decode cX12_serve 50 = .ok (.iload_n 3, 1) := by decide +kernel
theorem dX12_serve_51 : decode cX12_serve 51 = .ok (.iload 5, 2) := by decide +kernel
theorem dX12_serve_53 : decode cX12_serve 53 = .ok (.iadd, 1) := by decide +kernel
theorem dX12_serve_54 : decode cX12_serve 54 = .ok (.istore_n 3, 1) := by decide +kernel
theorem dX12_serve_55 : decode cX12_serve 55 = .ok (.aload_n 0, 1) := by decide +kernel
theorem dX12_serve_56 : decode cX12_serve 56 = .ok (.getfield 90, 3) := by decide +kernel
theorem dX12_serve_59 : decode cX12_serve 59 = .ok (.iload 4, 2) := by decide +kernel
theorem dX12_serve_61 : decode cX12_serve 61 = .ok (.dup2, 1) := by decide +kernel
theorem dX12_serve_62 : decode cX12_serve 62 = .ok (.iaload, 1) := by decide +kernel
theorem dX12_serve_63 : decode cX12_serve 63 = .ok (.iload 5, 2) := by decide +kernel
theorem dX12_serve_65 : decode cX12_serve 65 = .ok (.isub, 1) := by decide +kernel
theorem dX12_serve_66 : decode cX12_serve 66 = .ok (.iastore, 1) := by decide +kernel
theorem dX12_serve_67 : decode cX12_serve 67 = .ok (.aload_n 0, 1) := by decide +kernel
theorem dX12_serve_68 : decode cX12_serve 68 = .ok (.getfield 90, 3) := by decide +kernel
theorem dX12_serve_71 : decode cX12_serve 71 = .ok (.iload 4, 2) := by decide +kernel
theorem dX12_serve_73 : decode cX12_serve 73 = .ok (.iaload, 1) := by decide +kernel
theorem dX12_serve_74 : decode cX12_serve 74 = .ok (.ifCond .ne 8, 3) := by decide +kernel
theorem dX12_serve_77 : decode cX12_serve 77 = .ok (.aload_n 0, 1) := by decide +kernel
theorem dX12_serve_78 : decode cX12_serve 78 = .ok (.iload_n 1, 1) := by decide +kernel
theorem dX12_serve_79 : decode cX12_serve 79 = .ok (.invokevirtual 327, 3) := by decide +kernel
theorem dX12_serve_82 : decode cX12_serve 82 = .ok (.goto (-80), 3) := by decide +kernel
theorem dX12_serve_85 : decode cX12_serve 85 = .ok (.iload_n 3, 1) := by decide +kernel
theorem dX12_serve_86 : decode cX12_serve 86 = .ok (.ireturn, 1) := by decide +kernel
theorem dX12_night_0 : decode cX12_night 0 = .ok (.aload_n 0, 1) := by decide +kernel
theorem dX12_night_1 : decode cX12_night 1 = .ok (.getfield 330, 3) := by decide +kernel
theorem dX12_night_4 : decode cX12_night 4 = .ok (.aload_n 0, 1) := by decide +kernel
theorem dX12_night_5 : decode cX12_night 5 = .ok (.getfield 132, 3) := by decide +kernel
theorem dX12_night_8 : decode cX12_night 8 = .ok (.iadd, 1) := by decide +kernel
theorem dX12_night_9 : decode cX12_night 9 = .ok (.sipush 2000, 3) := by decide +kernel
theorem dX12_night_12 : decode cX12_night 12 = .ok (.if_icmp .le 5, 3) := by decide +kernel
theorem dX12_night_15 : decode cX12_night 15 = .ok (.iconst (-1), 1) := by decide +kernel
theorem dX12_night_16 : decode cX12_night 16 = .ok (.ireturn, 1) := by decide +kernel
theorem dX12_night_17 : decode cX12_night 17 = .ok (.iconst 0, 1) := by decide +kernel
theorem dX12_night_18 : decode cX12_night 18 = .ok (.istore_n 1, 1) := by decide +kernel
theorem dX12_night_19 : decode cX12_night 19 = .ok (.iload_n 1, 1) := by decide +kernel
theorem dX12_night_20 : decode cX12_night 20 = .ok (.iconst 4, 1) := by decide +kernel
theorem dX12_night_21 : decode cX12_night 21 = .ok (.if_icmp .ge 60, 3) := by decide +kernel
theorem dX12_night_24 : decode cX12_night 24 = .ok (.aload_n 0, 1) := by decide +kernel
theorem dX12_night_25 : decode cX12_night 25 = .ok (.getfield 87, 3) := by decide +kernel
theorem dX12_night_28 : decode cX12_night 28 = .ok (.iload_n 1, 1) := by decide +kernel
theorem dX12_night_29 : decode cX12_night 29 = .ok (.iaload, 1) := by decide +kernel
theorem dX12_night_30 : decode cX12_night 30 = .ok (.ifCond .le 45, 3) := by decide +kernel
theorem dX12_night_33 : decode cX12_night 33 = .ok (.aload_n 0, 1) := by decide +kernel
theorem dX12_night_34 : decode cX12_night 34 = .ok (.getfield 93, 3) := by decide +kernel
theorem dX12_night_37 : decode cX12_night 37 = .ok (.bipush 20, 2) := by decide +kernel
theorem dX12_night_39 : decode cX12_night 39 = .ok (.iload_n 1, 1) := by decide +kernel
theorem dX12_night_40 : decode cX12_night 40 = .ok (.imul, 1) := by decide +kernel
theorem dX12_night_41 : decode cX12_night 41 = .ok (.iaload, 1) := by decide +kernel
theorem dX12_night_42 : decode cX12_night 42 = .ok (.aload_n 0, 1) := by decide +kernel
theorem dX12_night_43 : decode cX12_night 43 = .ok (.getfield 135, 3) := by decide +kernel
theorem dX12_night_46 : decode cX12_night 46 = .ok (.if_icmp .ge 29, 3) := by decide +kernel
theorem dX12_night_49 : decode cX12_night 49 = .ok (.aload_n 0, 1) := by decide +kernel
theorem dX12_night_50 : decode cX12_night 50 = .ok (.getfield 96, 3) := by decide +kernel
theorem dX12_night_53 : decode cX12_night 53 = .ok (.iload_n 1, 1) := by decide +kernel
theorem dX12_night_54 : decode cX12_night 54 = .ok (.dup2, 1) := by decide +kernel
theorem dX12_night_55 : decode cX12_night 55 = .ok (.iaload, 1) := by decide +kernel
theorem dX12_night_56 : decode cX12_night 56 = .ok (.aload_n 0, 1) := by decide +kernel
theorem dX12_night_57 : decode cX12_night 57 = .ok (.getfield 90, 3) := by decide +kernel
theorem dX12_night_60 : decode cX12_night 60 = .ok (.bipush 20, 2) := by decide +kernel
theorem dX12_night_62 : decode cX12_night 62 = .ok (.iload_n 1, 1) := by decide +kernel
theorem dX12_night_63 : decode cX12_night 63 = .ok (.imul, 1) := by decide +kernel
theorem dX12_night_64 : decode cX12_night 64 = .ok (.iaload, 1) := by decide +kernel
theorem dX12_night_65 : decode cX12_night 65 = .ok (.iadd, 1) := by decide +kernel
theorem dX12_night_66 : decode cX12_night 66 = .ok (.iastore, 1) := by decide +kernel
theorem dX12_night_67 : decode cX12_night 67 = .ok (.aload_n 0, 1) := by decide +kernel
theorem dX12_night_68 : decode cX12_night 68 = .ok (.iload_n 1, 1) := by decide +kernel
theorem dX12_night_69 : decode cX12_night 69 = .ok (.invokevirtual 327, 3) := by decide +kernel
theorem dX12_night_72 : decode cX12_night 72 = .ok (.goto (-48), 3) := by decide +kernel
theorem dX12_night_75 : decode cX12_night 75 = .ok (.iinc 1 1, 3) := by decide +kernel
theorem dX12_night_78 : decode cX12_night 78 = .ok (.goto (-59), 3) := by decide +kernel
theorem dX12_night_81 : decode cX12_night 81 = .ok (.iconst 0, 1) := by decide +kernel
theorem dX12_night_82 : decode cX12_night 82 = .ok (.istore_n 1, 1) := by decide +kernel
theorem dX12_night_83 : decode cX12_night 83 = .ok (.iconst 0, 1) := by decide +kernel
theorem dX12_night_84 : decode cX12_night 84 = .ok (.istore_n 2, 1) := by decide +kernel
theorem dX12_night_85 : decode cX12_night 85 = .ok (.iload_n 2, 1) := by decide +kernel
theorem dX12_night_86 : decode cX12_night 86 = .ok (.aload_n 0, 1) := by decide +kernel
theorem dX12_night_87 : decode cX12_night 87 = .ok (.getfield 132, 3) := by decide +kernel
theorem dX12_night_90 : decode cX12_night 90 = .ok (.if_icmp .ge 134, 3) := by decide +kernel
theorem dX12_night_93 : decode cX12_night 93 = .ok (.aload_n 0, 1) := by decide +kernel
theorem dX12_night_94 : decode cX12_night 94 = .ok (.getfield 99, 3) := by decide +kernel
theorem dX12_night_97 : decode cX12_night 97 = .ok (.iconst 0, 1) := by decide +kernel
theorem dX12_night_98 : decode cX12_night 98 = .ok (.iaload, 1) := by decide +kernel
theorem dX12_night_99 : decode cX12_night 99 = .ok (.istore_n 3, 1) := by decide +kernel
theorem dX12_night_100 : decode cX12_night 100 = .ok (.iconst 0, 1) := by decide +kernel
theorem dX12_night_101 : decode cX12_night 101 = .ok (.istore 4, 2) := by decide +kernel
theorem dX12_night_103 : decode cX12_night 103 = .ok (.iload 4, 2) := by decide +kernel
theorem dX12_night_105 : decode cX12_night 105 = .ok (.iconst 4, 1) := by decide +kernel
theorem dX12_night_106 : decode cX12_night 106 = .ok (.if_icmp .ge 69, 3) := by decide +kernel
theorem dX12_night_109 : decode cX12_night 109 = .ok (.aload_n 0, 1) := by decide +kernel
theorem dX12_night_110 : decode cX12_night 110 = .ok (.getfield 25, 3) := by decide +kernel
theorem dX12_night_113 : decode cX12_night 113 = .ok (.iconst 4, 1) := by decide +kernel
theorem dX12_night_114 : decode cX12_night 114 = .ok (.iload_n 2, 1) := by decide +kernel
theorem dX12_night_115 : decode cX12_night 115 = .ok (.imul, 1) := by decide +kernel
theorem dX12_night_116 : decode cX12_night 116 = .ok (.iload 4, 2) := by decide +kernel
theorem dX12_night_118 : decode cX12_night 118 = .ok (.iadd, 1) := by decide +kernel
theorem dX12_night_119 : decode cX12_night 119 = .ok (.iaload, 1) := by decide +kernel
theorem dX12_night_120 : decode cX12_night 120 = .ok (.istore 5, 2) := by decide +kernel
theorem dX12_night_122 : decode cX12_night 122 = .ok (.aload_n 0, 1) := by decide +kernel
theorem dX12_night_123 : decode cX12_night 123 = .ok (.iload 4, 2) := by decide +kernel
theorem dX12_night_125 : decode cX12_night 125 = .ok (.iload 5, 2) := by decide +kernel
theorem dX12_night_127 : decode cX12_night 127 = .ok (.invokevirtual 333, 3) := by decide +kernel
theorem dX12_night_130 : decode cX12_night 130 = .ok (.istore 6, 2) := by decide +kernel
theorem dX12_night_132 : decode cX12_night 132 = .ok (.iload_n 3, 1) := by decide +kernel
theorem dX12_night_133 : decode cX12_night 133 = .ok (.iload 6, 2) := by decide +kernel
theorem dX12_night_135 : decode cX12_night 135 = .ok (.aload_n 0, 1) := by decide +kernel
theorem dX12_night_136 : decode cX12_night 136 = .ok (.getfield 99, 3) := by decide +kernel
theorem dX12_night_139 : decode cX12_night 139 = .ok (.iconst 1, 1) := by decide +kernel
theorem dX12_night_140 : decode cX12_night 140 = .ok (.iload 4, 2) := by decide +kernel
theorem dX12_night_142 : decode cX12_night 142 = .ok (.iadd, 1) := by decide +kernel
theorem dX12_night_143 : decode cX12_night 143 = .ok (.iaload, 1) := by decide +kernel
theorem dX12_night_144 : decode cX12_night 144 = .ok (.imul, 1) := by decide +kernel
theorem dX12_night_145 : decode cX12_night 145 = .ok (.iadd, 1) := by decide +kernel
theorem dX12_night_146 : decode cX12_night 146 = .ok (.istore_n 3, 1) := by decide +kernel
theorem dX12_night_147 : decode cX12_night 147 = .ok (.aload_n 0, 1) := by decide +kernel
theorem dX12_night_148 : decode cX12_night 148 = .ok (.getfield 22, 3) := by decide +kernel
theorem dX12_night_151 : decode cX12_night 151 = .ok (.iload_n 2, 1) := by decide +kernel
theorem dX12_night_152 : decode cX12_night 152 = .ok (.dup2, 1) := by decide +kernel
theorem dX12_night_153 : decode cX12_night 153 = .ok (.iaload, 1) := by decide +kernel
theorem dX12_night_154 : decode cX12_night 154 = .ok (.iload 5, 2) := by decide +kernel
theorem dX12_night_156 : decode cX12_night 156 = .ok (.iload 6, 2) := by decide +kernel
theorem dX12_night_158 : decode cX12_night 158 = .ok (.isub, 1) := by decide +kernel
theorem dX12_night_159 : decode cX12_night 159 = .ok (.iadd, 1) := by decide +kernel
theorem dX12_night_160 : decode cX12_night 160 = .ok (.iastore, 1) := by decide +kernel
theorem dX12_night_161 : decode cX12_night 161 = .ok (.iload_n 1, 1) := by decide +kernel
theorem dX12_night_162 : decode cX12_night 162 = .ok (.iload 5, 2) := by decide +kernel
theorem dX12_night_164 : decode cX12_night 164 = .ok (.iload 6, 2) := by decide +kernel
theorem dX12_night_166 : decode cX12_night 166 = .ok (.isub, 1) := by decide +kernel
theorem dX12_night_167 : decode cX12_night 167 = .ok (.iadd, 1) := by decide +kernel
theorem dX12_night_168 : decode cX12_night 168 = .ok (.istore_n 1, 1) := by decide +kernel
theorem dX12_night_169 : decode cX12_night 169 = .ok (.iinc 4 1, 3) := by decide +kernel
theorem dX12_night_172 : decode cX12_night 172 = .ok (.goto (-69), 3) := by decide +kernel
theorem dX12_night_175 : decode cX12_night 175 = .ok (.aload_n 0, 1) := by decide +kernel
theorem dX12_night_176 : decode cX12_night 176 = .ok (.getfield 105, 3) := by decide +kernel
theorem dX12_night_179 : decode cX12_night 179 = .ok (.aload_n 0, 1) := by decide +kernel
theorem dX12_night_180 : decode cX12_night 180 = .ok (.getfield 330, 3) := by decide +kernel
theorem dX12_night_183 : decode cX12_night 183 = .ok (.iload_n 2, 1) := by decide +kernel
theorem dX12_night_184 : decode cX12_night 184 = .ok (.iastore, 1) := by decide +kernel
theorem dX12_night_185 : decode cX12_night 185 = .ok (.aload_n 0, 1) := by decide +kernel
theorem dX12_night_186 : decode cX12_night 186 = .ok (.getfield 108, 3) := by decide +kernel
theorem dX12_night_189 : decode cX12_night 189 = .ok (.aload_n 0, 1) := by decide +kernel
theorem dX12_night_190 : decode cX12_night 190 = .ok (.getfield 330, 3) := by decide +kernel
theorem dX12_night_193 : decode cX12_night 193 = .ok (.aload_n 0, 1) := by decide +kernel
theorem dX12_night_194 : decode cX12_night 194 = .ok (.getfield 135, 3) := by decide +kernel
theorem dX12_night_197 : decode cX12_night 197 = .ok (.iastore, 1) := by decide +kernel
theorem dX12_night_198 : decode cX12_night 198 = .ok (.aload_n 0, 1) := by decide +kernel
theorem dX12_night_199 : decode cX12_night 199 = .ok (.getfield 111, 3) := by decide +kernel
theorem dX12_night_202 : decode cX12_night 202 = .ok (.aload_n 0, 1) := by decide +kernel
theorem dX12_night_203 : decode cX12_night 203 = .ok (.getfield 330, 3) := by decide +kernel
theorem dX12_night_206 : decode cX12_night 206 = .ok (.iload_n 3, 1) := by decide +kernel
theorem dX12_night_207 : decode cX12_night 207 = .ok (.iastore, 1) := by decide +kernel
theorem dX12_night_208 : decode cX12_night 208 = .ok (.aload_n 0, 1) := by decide +kernel
theorem dX12_night_209 : decode cX12_night 209 = .ok (.dup, 1) := by decide +kernel
theorem dX12_night_210 : decode cX12_night 210 = .ok (.getfield 330, 3) := by decide +kernel
theorem dX12_night_213 : decode cX12_night 213 = .ok (.iconst 1, 1) := by decide +kernel
theorem dX12_night_214 : decode cX12_night 214 = .ok (.iadd, 1) := by decide +kernel
theorem dX12_night_215 : decode cX12_night 215 = .ok (.putfield 330, 3) := by decide +kernel
theorem dX12_night_218 : decode cX12_night 218 = .ok (.iinc 2 1, 3) := by decide +kernel
theorem dX12_night_221 : decode cX12_night 221 = .ok (.goto (-136), 3) := by decide +kernel
theorem dX12_night_224 : decode cX12_night 224 = .ok (.aload_n 0, 1) := by decide +kernel
theorem dX12_night_225 : decode cX12_night 225 = .ok (.dup, 1) := by decide +kernel
theorem dX12_night_226 : decode cX12_night 226 = .ok (.getfield 135, 3) := by decide +kernel
theorem dX12_night_229 : decode cX12_night 229 = .ok (.iconst 1, 1) := by decide +kernel
theorem dX12_night_230 : decode cX12_night 230 = .ok (.iadd, 1) := by decide +kernel
theorem dX12_night_231 : decode cX12_night 231 = .ok (.putfield 135, 3) := by decide +kernel
theorem dX12_night_234 : decode cX12_night 234 = .ok (.aload_n 0, 1) := by decide +kernel
theorem dX12_night_235 : decode cX12_night 235 = .ok (.iconst 0, 1) := by decide +kernel
theorem dX12_night_236 : decode cX12_night 236 = .ok (.putfield 138, 3) := by decide +kernel
theorem dX12_night_239 : decode cX12_night 239 = .ok (.iload_n 1, 1) := by decide +kernel
theorem dX12_night_240 : decode cX12_night 240 = .ok (.ireturn, 1) := by decide +kernel
theorem dX12_bin_0 : decode cX12_bin 0 = .ok (.iload_n 1, 1) := by decide +kernel
theorem dX12_bin_1 : decode cX12_bin 1 = .ok (.invokestatic 324, 3) := by decide +kernel
theorem dX12_bin_4 : decode cX12_bin 4 = .ok (.ifCond .ne 5, 3) := by decide +kernel
theorem dX12_bin_7 : decode cX12_bin 7 = .ok (.iconst (-1), 1) := by decide +kernel
theorem dX12_bin_8 : decode cX12_bin 8 = .ok (.ireturn, 1) := by decide +kernel
theorem dX12_bin_9 : decode cX12_bin 9 = .ok (.iload_n 2, 1) := by decide +kernel
theorem dX12_bin_10 : decode cX12_bin 10 = .ok (.tableswitch 106 0 3 #[30, 37, 76, 83], 30) := by decide +kernel
theorem dX12_bin_40 : decode cX12_bin 40 = .ok (.aload_n 0, 1) := by decide +kernel
theorem dX12_bin_41 : decode cX12_bin 41 = .ok (.getfield 87, 3) := by decide +kernel
theorem dX12_bin_44 : decode cX12_bin 44 = .ok (.iload_n 1, 1) := by decide +kernel
theorem dX12_bin_45 : decode cX12_bin 45 = .ok (.iaload, 1) := by decide +kernel
theorem dX12_bin_46 : decode cX12_bin 46 = .ok (.ireturn, 1) := by decide +kernel
theorem dX12_bin_47 : decode cX12_bin 47 = .ok (.iconst 0, 1) := by decide +kernel
theorem dX12_bin_48 : decode cX12_bin 48 = .ok (.istore_n 3, 1) := by decide +kernel
theorem dX12_bin_49 : decode cX12_bin 49 = .ok (.iconst 0, 1) := by decide +kernel
theorem dX12_bin_50 : decode cX12_bin 50 = .ok (.istore 4, 2) := by decide +kernel
theorem dX12_bin_52 : decode cX12_bin 52 = .ok (.iload 4, 2) := by decide +kernel
theorem dX12_bin_54 : decode cX12_bin 54 = .ok (.aload_n 0, 1) := by decide +kernel
theorem dX12_bin_55 : decode cX12_bin 55 = .ok (.getfield 87, 3) := by decide +kernel
theorem dX12_bin_58 : decode cX12_bin 58 = .ok (.iload_n 1, 1) := by decide +kernel
theorem dX12_bin_59 : decode cX12_bin 59 = .ok (.iaload, 1) := by decide +kernel
theorem dX12_bin_60 : decode cX12_bin 60 = .ok (.if_icmp .ge 24, 3) := by decide +kernel
theorem dX12_bin_63 : decode cX12_bin 63 = .ok (.iload_n 3, 1) := by decide +kernel
theorem dX12_bin_64 : decode cX12_bin 64 = .ok (.aload_n 0, 1) := by decide +kernel
theorem dX12_bin_65 : decode cX12_bin 65 = .ok (.getfield 90, 3) := by decide +kernel
theorem dX12_bin_68 : decode cX12_bin 68 = .ok (.bipush 20, 2) := by decide +kernel
theorem dX12_bin_70 : decode cX12_bin 70 = .ok (.iload_n 1, 1) := by decide +kernel
theorem dX12_bin_71 : decode cX12_bin 71 = .ok (.imul, 1) := by decide +kernel
theorem dX12_bin_72 : decode cX12_bin 72 = .ok (.iload 4, 2) := by decide +kernel
theorem dX12_bin_74 : decode cX12_bin 74 = .ok (.iadd, 1) := by decide +kernel
theorem dX12_bin_75 : decode cX12_bin 75 = .ok (.iaload, 1) := by decide +kernel
theorem dX12_bin_76 : decode cX12_bin 76 = .ok (.iadd, 1) := by decide +kernel
theorem dX12_bin_77 : decode cX12_bin 77 = .ok (.istore_n 3, 1) := by decide +kernel
theorem dX12_bin_78 : decode cX12_bin 78 = .ok (.iinc 4 1, 3) := by decide +kernel
theorem dX12_bin_81 : decode cX12_bin 81 = .ok (.goto (-29), 3) := by decide +kernel
theorem dX12_bin_84 : decode cX12_bin 84 = .ok (.iload_n 3, 1) := by decide +kernel
theorem dX12_bin_85 : decode cX12_bin 85 = .ok (.ireturn, 1) := by decide +kernel
theorem dX12_bin_86 : decode cX12_bin 86 = .ok (.aload_n 0, 1) := by decide +kernel
theorem dX12_bin_87 : decode cX12_bin 87 = .ok (.getfield 96, 3) := by decide +kernel
theorem dX12_bin_90 : decode cX12_bin 90 = .ok (.iload_n 1, 1) := by decide +kernel
theorem dX12_bin_91 : decode cX12_bin 91 = .ok (.iaload, 1) := by decide +kernel
theorem dX12_bin_92 : decode cX12_bin 92 = .ok (.ireturn, 1) := by decide +kernel
theorem dX12_bin_93 : decode cX12_bin 93 = .ok (.aload_n 0, 1) := by decide +kernel
theorem dX12_bin_94 : decode cX12_bin 94 = .ok (.getfield 87, 3) := by decide +kernel
theorem dX12_bin_97 : decode cX12_bin 97 = .ok (.iload_n 1, 1) := by decide +kernel
theorem dX12_bin_98 : decode cX12_bin 98 = .ok (.iaload, 1) := by decide +kernel
theorem dX12_bin_99 : decode cX12_bin 99 = .ok (.ifCond .le 15, 3) := by decide +kernel
theorem dX12_bin_102 : decode cX12_bin 102 = .ok (.aload_n 0, 1) := by decide +kernel
theorem dX12_bin_103 : decode cX12_bin 103 = .ok (.getfield 93, 3) := by decide +kernel
theorem dX12_bin_106 : decode cX12_bin 106 = .ok (.bipush 20, 2) := by decide +kernel
theorem dX12_bin_108 : decode cX12_bin 108 = .ok (.iload_n 1, 1) := by decide +kernel
theorem dX12_bin_109 : decode cX12_bin 109 = .ok (.imul, 1) := by decide +kernel
theorem dX12_bin_110 : decode cX12_bin 110 = .ok (.iaload, 1) := by decide +kernel
theorem dX12_bin_111 : decode cX12_bin 111 = .ok (.goto 4, 3) := by decide +kernel
theorem dX12_bin_114 : decode cX12_bin 114 = .ok (.iconst (-1), 1) := by decide +kernel
theorem dX12_bin_115 : decode cX12_bin 115 = .ok (.ireturn, 1) := by decide +kernel
theorem dX12_bin_116 : decode cX12_bin 116 = .ok (.iconst (-1), 1) := by decide +kernel
theorem dX12_bin_117 : decode cX12_bin 117 = .ok (.ireturn, 1) := by decide +kernel
theorem dX12_foretold_0 : decode cX12_foretold 0 = .ok (.iload_n 1, 1) := by decide +kernel
theorem dX12_foretold_1 : decode cX12_foretold 1 = .ok (.invokestatic 324, 3) := by decide +kernel
theorem dX12_foretold_4 : decode cX12_foretold 4 = .ok (.ifCond .ne 5, 3) := by decide +kernel
theorem dX12_foretold_7 : decode cX12_foretold 7 = .ok (.iconst (-1), 1) := by decide +kernel
theorem dX12_foretold_8 : decode cX12_foretold 8 = .ok (.ireturn, 1) := by decide +kernel
theorem dX12_foretold_9 : decode cX12_foretold 9 = .ok (.iconst 0, 1) := by decide +kernel
theorem dX12_foretold_10 : decode cX12_foretold 10 = .ok (.istore_n 2, 1) := by decide +kernel
theorem dX12_foretold_11 : decode cX12_foretold 11 = .ok (.iconst 0, 1) := by decide +kernel
theorem dX12_foretold_12 : decode cX12_foretold 12 = .ok (.istore_n 3, 1) := by decide +kernel
theorem dX12_foretold_13 : decode cX12_foretold 13 = .ok (.iload_n 3, 1) := by decide +kernel
theorem dX12_foretold_14 : decode cX12_foretold 14 = .ok (.aload_n 0, 1) := by decide +kernel
theorem dX12_foretold_15 : decode cX12_foretold 15 = .ok (.getfield 132, 3) := by decide +kernel
theorem dX12_foretold_18 : decode cX12_foretold 18 = .ok (.if_icmp .ge 22, 3) := by decide +kernel
theorem dX12_foretold_21 : decode cX12_foretold 21 = .ok (.iload_n 2, 1) := by decide +kernel
theorem dX12_foretold_22 : decode cX12_foretold 22 = .ok (.aload_n 0, 1) := by decide +kernel
theorem dX12_foretold_23 : decode cX12_foretold 23 = .ok (.getfield 25, 3) := by decide +kernel
theorem dX12_foretold_26 : decode cX12_foretold 26 = .ok (.iconst 4, 1) := by decide +kernel
theorem dX12_foretold_27 : decode cX12_foretold 27 = .ok (.iload_n 3, 1) := by decide +kernel
theorem dX12_foretold_28 : decode cX12_foretold 28 = .ok (.imul, 1) := by decide +kernel
theorem dX12_foretold_29 : decode cX12_foretold 29 = .ok (.iload_n 1, 1) := by decide +kernel
theorem dX12_foretold_30 : decode cX12_foretold 30 = .ok (.iadd, 1) := by decide +kernel
theorem dX12_foretold_31 : decode cX12_foretold 31 = .ok (.iaload, 1) := by decide +kernel
theorem dX12_foretold_32 : decode cX12_foretold 32 = .ok (.iadd, 1) := by decide +kernel
theorem dX12_foretold_33 : decode cX12_foretold 33 = .ok (.istore_n 2, 1) := by decide +kernel
theorem dX12_foretold_34 : decode cX12_foretold 34 = .ok (.iinc 3 1, 3) := by decide +kernel
theorem dX12_foretold_37 : decode cX12_foretold 37 = .ok (.goto (-24), 3) := by decide +kernel
theorem dX12_foretold_40 : decode cX12_foretold 40 = .ok (.iconst 0, 1) := by decide +kernel
theorem dX12_foretold_41 : decode cX12_foretold 41 = .ok (.istore_n 3, 1) := by decide +kernel
theorem dX12_foretold_42 : decode cX12_foretold 42 = .ok (.iload_n 3, 1) := by decide +kernel
theorem dX12_foretold_43 : decode cX12_foretold 43 = .ok (.aload_n 0, 1) := by decide +kernel
theorem dX12_foretold_44 : decode cX12_foretold 44 = .ok (.getfield 87, 3) := by decide +kernel
theorem dX12_foretold_47 : decode cX12_foretold 47 = .ok (.iload_n 1, 1) := by decide +kernel
theorem dX12_foretold_48 : decode cX12_foretold 48 = .ok (.iaload, 1) := by decide +kernel
theorem dX12_foretold_49 : decode cX12_foretold 49 = .ok (.if_icmp .ge 26, 3) := by decide +kernel
theorem dX12_foretold_52 : decode cX12_foretold 52 = .ok (.aload_n 0, 1) := by decide +kernel
theorem dX12_foretold_53 : decode cX12_foretold 53 = .ok (.getfield 129, 3) := by decide +kernel
theorem dX12_foretold_56 : decode cX12_foretold 56 = .ok (.iload_n 3, 1) := by decide +kernel
theorem dX12_foretold_57 : decode cX12_foretold 57 = .ok (.aload_n 0, 1) := by decide +kernel
theorem dX12_foretold_58 : decode cX12_foretold 58 = .ok (.getfield 90, 3) := by decide +kernel
theorem dX12_foretold_61 : decode cX12_foretold 61 = .ok (.bipush 20, 2) := by decide +kernel
theorem dX12_foretold_63 : decode cX12_foretold 63 = .ok (.iload_n 1, 1) := by decide +kernel
theorem dX12_foretold_64 : decode cX12_foretold 64 = .ok (.imul, 1) := by decide +kernel
theorem dX12_foretold_65 : decode cX12_foretold 65 = .ok (.iload_n 3, 1) := by decide +kernel
theorem dX12_foretold_66 : decode cX12_foretold 66 = .ok (.iadd, 1) := by decide +kernel
theorem dX12_foretold_67 : decode cX12_foretold 67 = .ok (.iaload, 1) := by decide +kernel
theorem dX12_foretold_68 : decode cX12_foretold 68 = .ok (.iastore, 1) := by decide +kernel
theorem dX12_foretold_69 : decode cX12_foretold 69 = .ok (.iinc 3 1, 3) := by decide +kernel
theorem dX12_foretold_72 : decode cX12_foretold 72 = .ok (.goto (-30), 3) := by decide +kernel
theorem dX12_foretold_75 : decode cX12_foretold 75 = .ok (.iconst 0, 1) := by decide +kernel
theorem dX12_foretold_76 : decode cX12_foretold 76 = .ok (.istore_n 3, 1) := by decide +kernel
theorem dX12_foretold_77 : decode cX12_foretold 77 = .ok (.iload_n 3, 1) := by decide +kernel
theorem dX12_foretold_78 : decode cX12_foretold 78 = .ok (.sipush 400, 3) := by decide +kernel
theorem dX12_foretold_81 : decode cX12_foretold 81 = .ok (.if_icmp .ge 113, 3) := by decide +kernel
theorem dX12_foretold_84 : decode cX12_foretold 84 = .ok (.iload_n 2, 1) := by decide +kernel
theorem dX12_foretold_85 : decode cX12_foretold 85 = .ok (.istore 4, 2) := by decide +kernel
theorem dX12_foretold_87 : decode cX12_foretold 87 = .ok (.iconst 0, 1) := by decide +kernel
theorem dX12_foretold_88 : decode cX12_foretold 88 = .ok (.istore 5, 2) := by decide +kernel
theorem dX12_foretold_90 : decode cX12_foretold 90 = .ok (.iload 5, 2) := by decide +kernel
theorem dX12_foretold_92 : decode cX12_foretold 92 = .ok (.aload_n 0, 1) := by decide +kernel
theorem dX12_foretold_93 : decode cX12_foretold 93 = .ok (.getfield 87, 3) := by decide +kernel
theorem dX12_foretold_96 : decode cX12_foretold 96 = .ok (.iload_n 1, 1) := by decide +kernel
theorem dX12_foretold_97 : decode cX12_foretold 97 = .ok (.iaload, 1) := by decide +kernel
theorem dX12_foretold_98 : decode cX12_foretold 98 = .ok (.if_icmp .ge 83, 3) := by decide +kernel
theorem dX12_foretold_101 : decode cX12_foretold 101 = .ok (.iload 4, 2) := by decide +kernel
theorem dX12_foretold_103 : decode cX12_foretold 103 = .ok (.ifCond .le 78, 3) := by decide +kernel
theorem dX12_foretold_106 : decode cX12_foretold 106 = .ok (.aload_n 0, 1) := by decide +kernel
theorem dX12_foretold_107 : decode cX12_foretold 107 = .ok (.getfield 93, 3) := by decide +kernel
theorem dX12_foretold_110 : decode cX12_foretold 110 = .ok (.bipush 20, 2) := by decide +kernel
theorem dX12_foretold_112 : decode cX12_foretold 112 = .ok (.iload_n 1, 1) := by decide +kernel
theorem dX12_foretold_113 : decode cX12_foretold 113 = .ok (.imul, 1) := by decide +kernel
theorem dX12_foretold_114 : decode cX12_foretold 114 = .ok (.iload 5, 2) := by decide +kernel
theorem dX12_foretold_116 : decode cX12_foretold 116 = .ok (.iadd, 1) := by decide +kernel
theorem dX12_foretold_117 : decode cX12_foretold 117 = .ok (.iaload, 1) := by decide +kernel
theorem dX12_foretold_118 : decode cX12_foretold 118 = .ok (.aload_n 0, 1) := by decide +kernel
theorem dX12_foretold_119 : decode cX12_foretold 119 = .ok (.getfield 135, 3) := by decide +kernel
theorem dX12_foretold_122 : decode cX12_foretold 122 = .ok (.iload_n 3, 1) := by decide +kernel
theorem dX12_foretold_123 : decode cX12_foretold 123 = .ok (.iadd, 1) := by decide +kernel
theorem dX12_foretold_124 : decode cX12_foretold 124 = .ok (.if_icmp .ge 6, 3) := by decide +kernel
theorem dX12_foretold_127 : decode cX12_foretold 127 = .ok (.goto 48, 3) := by decide +kernel
theorem dX12_foretold_130 : decode cX12_foretold 130 = .ok (.aload_n 0, 1) := by decide +kernel
theorem dX12_foretold_131 : decode cX12_foretold 131 = .ok (.getfield 129, 3) := by decide +kernel
theorem dX12_foretold_134 : decode cX12_foretold 134 = .ok (.iload 5, 2) := by decide +kernel
theorem dX12_foretold_136 : decode cX12_foretold 136 = .ok (.iaload, 1) := by decide +kernel
theorem dX12_foretold_137 : decode cX12_foretold 137 = .ok (.iload 4, 2) := by decide +kernel
theorem dX12_foretold_139 : decode cX12_foretold 139 = .ok (.if_icmp .ge 13, 3) := by decide +kernel
theorem dX12_foretold_142 : decode cX12_foretold 142 = .ok (.aload_n 0, 1) := by decide +kernel
theorem dX12_foretold_143 : decode cX12_foretold 143 = .ok (.getfield 129, 3) := by decide +kernel
theorem dX12_foretold_146 : decode cX12_foretold 146 = .ok (.iload 5, 2) := by decide +kernel
theorem dX12_foretold_148 : decode cX12_foretold 148 = .ok (.iaload, 1) := by decide +kernel
theorem dX12_foretold_149 : decode cX12_foretold 149 = .ok (.goto 5, 3) := by decide +kernel
theorem dX12_foretold_152 : decode cX12_foretold 152 = .ok (.iload 4, 2) := by decide +kernel
theorem dX12_foretold_154 : decode cX12_foretold 154 = .ok (.istore 6, 2) := by decide +kernel
theorem dX12_foretold_156 : decode cX12_foretold 156 = .ok (.aload_n 0, 1) := by decide +kernel
theorem dX12_foretold_157 : decode cX12_foretold 157 = .ok (.getfield 129, 3) := by decide +kernel
theorem dX12_foretold_160 : decode cX12_foretold 160 = .ok (.iload 5, 2) := by decide +kernel
theorem dX12_foretold_162 : decode cX12_foretold 162 = .ok (.dup2, 1) := by decide +kernel
theorem dX12_foretold_163 : decode cX12_foretold 163 = .ok (.iaload, 1) := by decide +kernel
theorem dX12_foretold_164 : decode cX12_foretold 164 = .ok (.iload 6, 2) := by decide +kernel
theorem dX12_foretold_166 : decode cX12_foretold 166 = .ok (.isub, 1) := by decide +kernel
theorem dX12_foretold_167 : decode cX12_foretold 167 = .ok (.iastore, 1) := by decide +kernel
theorem dX12_foretold_168 : decode cX12_foretold 168 = .ok (.iload 4, 2) := by decide +kernel
theorem dX12_foretold_170 : decode cX12_foretold 170 = .ok (.iload 6, 2) := by decide +kernel
theorem dX12_foretold_172 : decode cX12_foretold 172 = .ok (.isub, 1) := by decide +kernel
theorem dX12_foretold_173 : decode cX12_foretold 173 = .ok (.istore 4, 2) := by decide +kernel
theorem dX12_foretold_175 : decode cX12_foretold 175 = .ok (.iinc 5 1, 3) := by decide +kernel
theorem dX12_foretold_178 : decode cX12_foretold 178 = .ok (.goto (-88), 3) := by decide +kernel
theorem dX12_foretold_181 : decode cX12_foretold 181 = .ok (.iload 4, 2) := by decide +kernel
theorem dX12_foretold_183 : decode cX12_foretold 183 = .ok (.ifCond .le 5, 3) := by decide +kernel
theorem dX12_foretold_186 : decode cX12_foretold 186 = .ok (.iload_n 3, 1) := by decide +kernel
theorem dX12_foretold_187 : decode cX12_foretold 187 = .ok (.ireturn, 1) := by decide +kernel
theorem dX12_foretold_188 : decode cX12_foretold 188 = .ok (.iinc 3 1, 3) := by decide +kernel
theorem dX12_foretold_191 : decode cX12_foretold 191 = .ok (.goto (-114), 3) := by decide +kernel
theorem dX12_foretold_194 : decode cX12_foretold 194 = .ok (.sipush 400, 3) := by decide +kernel
theorem dX12_foretold_197 : decode cX12_foretold 197 = .ok (.ireturn, 1) := by decide +kernel
theorem dX12_work_0 : decode cX12_work 0 = .ok (.aload_n 0, 1) := by decide +kernel
theorem dX12_work_1 : decode cX12_work 1 = .ok (.getfield 337, 3) := by decide +kernel
theorem dX12_work_4 : decode cX12_work 4 = .ok (.sipush 200, 3) := by decide +kernel
theorem dX12_work_7 : decode cX12_work 7 = .ok (.if_icmp .eq 38, 3) := by decide +kernel
theorem dX12_work_10 : decode cX12_work 10 = .ok (.aload_n 0, 1) := by decide +kernel
theorem dX12_work_11 : decode cX12_work 11 = .ok (.iload_n 1, 1) := by decide +kernel
theorem dX12_work_12 : decode cX12_work 12 = .ok (.invokevirtual 142, 3) := by decide +kernel
theorem dX12_work_15 : decode cX12_work 15 = .ok (.ifCond .eq 30, 3) := by decide +kernel
theorem dX12_work_18 : decode cX12_work 18 = .ok (.iload_n 2, 1) := by decide +kernel
theorem dX12_work_19 : decode cX12_work 19 = .ok (.ifCond .lt 26, 3) := by decide +kernel
theorem dX12_work_22 : decode cX12_work 22 = .ok (.iload_n 2, 1) := by decide +kernel
theorem dX12_work_23 : decode cX12_work 23 = .ok (.iconst 2, 1) := by decide +kernel
theorem dX12_work_24 : decode cX12_work 24 = .ok (.if_icmp .gt 21, 3) := by decide +kernel
theorem dX12_work_27 : decode cX12_work 27 = .ok (.iload_n 3, 1) := by decide +kernel
theorem dX12_work_28 : decode cX12_work 28 = .ok (.aload_n 0, 1) := by decide +kernel
theorem dX12_work_29 : decode cX12_work 29 = .ok (.getfield 135, 3) := by decide +kernel
theorem dX12_work_32 : decode cX12_work 32 = .ok (.if_icmp .gt 13, 3) := by decide +kernel
theorem dX12_work_35 : decode cX12_work 35 = .ok (.iload_n 3, 1) := by decide +kernel
theorem dX12_work_36 : decode cX12_work 36 = .ok (.aload_n 0, 1) := by decide +kernel
theorem dX12_work_37 : decode cX12_work 37 = .ok (.getfield 16, 3) := by decide +kernel
theorem dX12_work_40 : decode cX12_work 40 = .ok (.iload_n 1, 1) := by decide +kernel
theorem dX12_work_41 : decode cX12_work 41 = .ok (.iaload, 1) := by decide +kernel
theorem dX12_work_42 : decode cX12_work 42 = .ok (.if_icmp .ge 5, 3) := by decide +kernel
theorem dX12_work_45 : decode cX12_work 45 = .ok (.iconst (-1), 1) := by decide +kernel
theorem dX12_work_46 : decode cX12_work 46 = .ok (.ireturn, 1) := by decide +kernel
theorem dX12_work_47 : decode cX12_work 47 = .ok (.aload_n 0, 1) := by decide +kernel
theorem dX12_work_48 : decode cX12_work 48 = .ok (.getfield 114, 3) := by decide +kernel
theorem dX12_work_51 : decode cX12_work 51 = .ok (.aload_n 0, 1) := by decide +kernel
theorem dX12_work_52 : decode cX12_work 52 = .ok (.getfield 337, 3) := by decide +kernel
theorem dX12_work_55 : decode cX12_work 55 = .ok (.iload_n 1, 1) := by decide +kernel
theorem dX12_work_56 : decode cX12_work 56 = .ok (.iastore, 1) := by decide +kernel
theorem dX12_work_57 : decode cX12_work 57 = .ok (.aload_n 0, 1) := by decide +kernel
theorem dX12_work_58 : decode cX12_work 58 = .ok (.getfield 117, 3) := by decide +kernel
theorem dX12_work_61 : decode cX12_work 61 = .ok (.aload_n 0, 1) := by decide +kernel
theorem dX12_work_62 : decode cX12_work 62 = .ok (.getfield 337, 3) := by decide +kernel
theorem dX12_work_65 : decode cX12_work 65 = .ok (.iload_n 2, 1) := by decide +kernel
theorem dX12_work_66 : decode cX12_work 66 = .ok (.iastore, 1) := by decide +kernel
theorem dX12_work_67 : decode cX12_work 67 = .ok (.aload_n 0, 1) := by decide +kernel
theorem dX12_work_68 : decode cX12_work 68 = .ok (.getfield 120, 3) := by decide +kernel
theorem dX12_work_71 : decode cX12_work 71 = .ok (.aload_n 0, 1) := by decide +kernel
theorem dX12_work_72 : decode cX12_work 72 = .ok (.getfield 337, 3) := by decide +kernel
theorem dX12_work_75 : decode cX12_work 75 = .ok (.iload_n 3, 1) := by decide +kernel
theorem dX12_work_76 : decode cX12_work 76 = .ok (.iastore, 1) := by decide +kernel
theorem dX12_work_77 : decode cX12_work 77 = .ok (.aload_n 0, 1) := by decide +kernel
theorem dX12_work_78 : decode cX12_work 78 = .ok (.getfield 123, 3) := by decide +kernel
theorem dX12_work_81 : decode cX12_work 81 = .ok (.aload_n 0, 1) := by decide +kernel
theorem dX12_work_82 : decode cX12_work 82 = .ok (.getfield 337, 3) := by decide +kernel
theorem dX12_work_85 : decode cX12_work 85 = .ok (.aload_n 0, 1) := by decide +kernel
theorem dX12_work_86 : decode cX12_work 86 = .ok (.getfield 135, 3) := by decide +kernel
theorem dX12_work_89 : decode cX12_work 89 = .ok (.iastore, 1) := by decide +kernel
theorem dX12_work_90 : decode cX12_work 90 = .ok (.aload_n 0, 1) := by decide +kernel
theorem dX12_work_91 : decode cX12_work 91 = .ok (.getfield 126, 3) := by decide +kernel
theorem dX12_work_94 : decode cX12_work 94 = .ok (.aload_n 0, 1) := by decide +kernel
theorem dX12_work_95 : decode cX12_work 95 = .ok (.getfield 337, 3) := by decide +kernel
theorem dX12_work_98 : decode cX12_work 98 = .ok (.aload_n 0, 1) := by decide +kernel
theorem dX12_work_99 : decode cX12_work 99 = .ok (.getfield 99, 3) := by decide +kernel
theorem dX12_work_102 : decode cX12_work 102 = .ok (.iconst 5, 1) := by decide +kernel
theorem dX12_work_103 : decode cX12_work 103 = .ok (.iload_n 2, 1) := by decide +kernel
theorem dX12_work_104 : decode cX12_work 104 = .ok (.iadd, 1) := by decide +kernel
theorem dX12_work_105 : decode cX12_work 105 = .ok (.iaload, 1) := by decide +kernel
theorem dX12_work_106 : decode cX12_work 106 = .ok (.iastore, 1) := by decide +kernel
theorem dX12_work_107 : decode cX12_work 107 = .ok (.aload_n 0, 1) := by decide +kernel
theorem dX12_work_108 : decode cX12_work 108 = .ok (.dup, 1) := by decide +kernel
theorem dX12_work_109 : decode cX12_work 109 = .ok (.getfield 337, 3) := by decide +kernel
theorem dX12_work_112 : decode cX12_work 112 = .ok (.iconst 1, 1) := by decide +kernel
theorem dX12_work_113 : decode cX12_work 113 = .ok (.iadd, 1) := by decide +kernel
theorem dX12_work_114 : decode cX12_work 114 = .ok (.putfield 337, 3) := by decide +kernel
theorem dX12_work_117 : decode cX12_work 117 = .ok (.aload_n 0, 1) := by decide +kernel
theorem dX12_work_118 : decode cX12_work 118 = .ok (.getfield 337, 3) := by decide +kernel
theorem dX12_work_121 : decode cX12_work 121 = .ok (.ireturn, 1) := by decide +kernel
theorem dX12_due_0 : decode cX12_due 0 = .ok (.aload_n 0, 1) := by decide +kernel
theorem dX12_due_1 : decode cX12_due 1 = .ok (.iload_n 1, 1) := by decide +kernel
theorem dX12_due_2 : decode cX12_due 2 = .ok (.invokevirtual 142, 3) := by decide +kernel
theorem dX12_due_5 : decode cX12_due 5 = .ok (.ifCond .eq 21, 3) := by decide +kernel
theorem dX12_due_8 : decode cX12_due 8 = .ok (.iload_n 2, 1) := by decide +kernel
theorem dX12_due_9 : decode cX12_due 9 = .ok (.ifCond .lt 17, 3) := by decide +kernel
theorem dX12_due_12 : decode cX12_due 12 = .ok (.iload_n 2, 1) := by decide +kernel
theorem dX12_due_13 : decode cX12_due 13 = .ok (.iconst 2, 1) := by decide +kernel
theorem dX12_due_14 : decode cX12_due 14 = .ok (.if_icmp .gt 12, 3) := by decide +kernel
theorem dX12_due_17 : decode cX12_due 17 = .ok (.aload_n 0, 1) := by decide +kernel
theorem dX12_due_18 : decode cX12_due 18 = .ok (.getfield 102, 3) := by decide +kernel
theorem dX12_due_21 : decode cX12_due 21 = .ok (.iload_n 2, 1) := by decide +kernel
theorem dX12_due_22 : decode cX12_due 22 = .ok (.iaload, 1) := by decide +kernel
theorem dX12_due_23 : decode cX12_due 23 = .ok (.ifCond .ne 5, 3) := by decide +kernel
theorem dX12_due_26 : decode cX12_due 26 = .ok (.iconst (-1), 1) := by decide +kernel
theorem dX12_due_27 : decode cX12_due 27 = .ok (.ireturn, 1) := by decide +kernel
theorem dX12_due_28 : decode cX12_due 28 = .ok (.aload_n 0, 1) := by decide +kernel
theorem dX12_due_29 : decode cX12_due 29 = .ok (.getfield 16, 3) := by decide +kernel
theorem dX12_due_32 : decode cX12_due 32 = .ok (.iload_n 1, 1) := by decide +kernel
theorem dX12_due_33 : decode cX12_due 33 = .ok (.iaload, 1) := by decide +kernel
theorem dX12_due_34 : decode cX12_due 34 = .ok (.istore_n 3, 1) := by decide +kernel
theorem dX12_due_35 : decode cX12_due 35 = .ok (.iconst 0, 1) := by decide +kernel
theorem dX12_due_36 : decode cX12_due 36 = .ok (.istore 4, 2) := by decide +kernel
theorem dX12_due_38 : decode cX12_due 38 = .ok (.iload 4, 2) := by decide +kernel
theorem dX12_due_40 : decode cX12_due 40 = .ok (.aload_n 0, 1) := by decide +kernel
theorem dX12_due_41 : decode cX12_due 41 = .ok (.getfield 337, 3) := by decide +kernel
theorem dX12_due_44 : decode cX12_due 44 = .ok (.if_icmp .ge 50, 3) := by decide +kernel
theorem dX12_due_47 : decode cX12_due 47 = .ok (.aload_n 0, 1) := by decide +kernel
theorem dX12_due_48 : decode cX12_due 48 = .ok (.getfield 114, 3) := by decide +kernel
theorem dX12_due_51 : decode cX12_due 51 = .ok (.iload 4, 2) := by decide +kernel
theorem dX12_due_53 : decode cX12_due 53 = .ok (.iaload, 1) := by decide +kernel
theorem dX12_due_54 : decode cX12_due 54 = .ok (.iload_n 1, 1) := by decide +kernel
theorem dX12_due_55 : decode cX12_due 55 = .ok (.if_icmp .ne 33, 3) := by decide +kernel
theorem dX12_due_58 : decode cX12_due 58 = .ok (.aload_n 0, 1) := by decide +kernel
theorem dX12_due_59 : decode cX12_due 59 = .ok (.getfield 117, 3) := by decide +kernel
theorem dX12_due_62 : decode cX12_due 62 = .ok (.iload 4, 2) := by decide +kernel
theorem dX12_due_64 : decode cX12_due 64 = .ok (.iaload, 1) := by decide +kernel
theorem dX12_due_65 : decode cX12_due 65 = .ok (.iload_n 2, 1) := by decide +kernel
theorem dX12_due_66 : decode cX12_due 66 = .ok (.if_icmp .ne 22, 3) := by decide +kernel
theorem dX12_due_69 : decode cX12_due 69 = .ok (.aload_n 0, 1) := by decide +kernel
theorem dX12_due_70 : decode cX12_due 70 = .ok (.getfield 120, 3) := by decide +kernel
theorem dX12_due_73 : decode cX12_due 73 = .ok (.iload 4, 2) := by decide +kernel
theorem dX12_due_75 : decode cX12_due 75 = .ok (.iaload, 1) := by decide +kernel
theorem dX12_due_76 : decode cX12_due 76 = .ok (.iload_n 3, 1) := by decide +kernel
theorem dX12_due_77 : decode cX12_due 77 = .ok (.if_icmp .le 11, 3) := by decide +kernel
theorem dX12_due_80 : decode cX12_due 80 = .ok (.aload_n 0, 1) := by decide +kernel
theorem dX12_due_81 : decode cX12_due 81 = .ok (.getfield 120, 3) := by decide +kernel
theorem dX12_due_84 : decode cX12_due 84 = .ok (.iload 4, 2) := by decide +kernel
theorem dX12_due_86 : decode cX12_due 86 = .ok (.iaload, 1) := by decide +kernel
theorem dX12_due_87 : decode cX12_due 87 = .ok (.istore_n 3, 1) := by decide +kernel
theorem dX12_due_88 : decode cX12_due 88 = .ok (.iinc 4 1, 3) := by decide +kernel
theorem dX12_due_91 : decode cX12_due 91 = .ok (.goto (-53), 3) := by decide +kernel
theorem dX12_due_94 : decode cX12_due 94 = .ok (.iload_n 3, 1) := by decide +kernel
theorem dX12_due_95 : decode cX12_due 95 = .ok (.aload_n 0, 1) := by decide +kernel
theorem dX12_due_96 : decode cX12_due 96 = .ok (.getfield 102, 3) := by decide +kernel
theorem dX12_due_99 : decode cX12_due 99 = .ok (.iload_n 2, 1) := by decide +kernel
theorem dX12_due_100 : decode cX12_due 100 = .ok (.iaload, 1) := by decide +kernel
theorem dX12_due_101 : decode cX12_due 101 = .ok (.iadd, 1) := by decide +kernel
theorem dX12_due_102 : decode cX12_due 102 = .ok (.ireturn, 1) := by decide +kernel
theorem dX12_bill_0 : decode cX12_bill 0 = .ok (.aload_n 0, 1) := by decide +kernel
theorem dX12_bill_1 : decode cX12_bill 1 = .ok (.iload_n 1, 1) := by decide +kernel
theorem dX12_bill_2 : decode cX12_bill 2 = .ok (.invokevirtual 142, 3) := by decide +kernel
theorem dX12_bill_5 : decode cX12_bill 5 = .ok (.ifCond .eq 8, 3) := by decide +kernel
theorem dX12_bill_8 : decode cX12_bill 8 = .ok (.iload_n 2, 1) := by decide +kernel
theorem dX12_bill_9 : decode cX12_bill 9 = .ok (.iload_n 3, 1) := by decide +kernel
theorem dX12_bill_10 : decode cX12_bill 10 = .ok (.if_icmp .le 5, 3) := by decide +kernel
theorem dX12_bill_13 : decode cX12_bill 13 = .ok (.iconst (-1), 1) := by decide +kernel
theorem dX12_bill_14 : decode cX12_bill 14 = .ok (.ireturn, 1) := by decide +kernel
theorem dX12_bill_15 : decode cX12_bill 15 = .ok (.iconst 0, 1) := by decide +kernel
theorem dX12_bill_16 : decode cX12_bill 16 = .ok (.istore 5, 2) := by decide +kernel
theorem dX12_bill_18 : decode cX12_bill 18 = .ok (.iconst 0, 1) := by decide +kernel
theorem dX12_bill_19 : decode cX12_bill 19 = .ok (.istore 6, 2) := by decide +kernel
theorem dX12_bill_21 : decode cX12_bill 21 = .ok (.iload 6, 2) := by decide +kernel
theorem dX12_bill_23 : decode cX12_bill 23 = .ok (.aload_n 0, 1) := by decide +kernel
theorem dX12_bill_24 : decode cX12_bill 24 = .ok (.getfield 330, 3) := by decide +kernel
theorem dX12_bill_27 : decode cX12_bill 27 = .ok (.if_icmp .ge 66, 3) := by decide +kernel
theorem dX12_bill_30 : decode cX12_bill 30 = .ok (.aload_n 0, 1) := by decide +kernel
theorem dX12_bill_31 : decode cX12_bill 31 = .ok (.getfield 105, 3) := by decide +kernel
theorem dX12_bill_34 : decode cX12_bill 34 = .ok (.iload 6, 2) := by decide +kernel
theorem dX12_bill_36 : decode cX12_bill 36 = .ok (.iaload, 1) := by decide +kernel
theorem dX12_bill_37 : decode cX12_bill 37 = .ok (.iload_n 1, 1) := by decide +kernel
theorem dX12_bill_38 : decode cX12_bill 38 = .ok (.if_icmp .ne 49, 3) := by decide +kernel
theorem dX12_bill_41 : decode cX12_bill 41 = .ok (.aload_n 0, 1) := by decide +kernel
theorem dX12_bill_42 : decode cX12_bill 42 = .ok (.getfield 108, 3) := by decide +kernel
theorem dX12_bill_45 : decode cX12_bill 45 = .ok (.iload 6, 2) := by decide +kernel
theorem dX12_bill_47 : decode cX12_bill 47 = .ok (.iaload, 1) := by decide +kernel
theorem dX12_bill_48 : decode cX12_bill 48 = .ok (.iload_n 2, 1) := by decide +kernel
theorem dX12_bill_49 : decode cX12_bill 49 = .ok (.if_icmp .lt 38, 3) := by decide +kernel
theorem dX12_bill_52 : decode cX12_bill 52 = .ok (.aload_n 0, 1) := by decide +kernel
theorem dX12_bill_53 : decode cX12_bill 53 = .ok (.getfield 108, 3) := by decide +kernel
theorem dX12_bill_56 : decode cX12_bill 56 = .ok (.iload 6, 2) := by decide +kernel
theorem dX12_bill_58 : decode cX12_bill 58 = .ok (.iaload, 1) := by decide +kernel
theorem dX12_bill_59 : decode cX12_bill 59 = .ok (.iload_n 3, 1) := by decide +kernel
theorem dX12_bill_60 : decode cX12_bill 60 = .ok (.if_icmp .gt 27, 3) := by decide +kernel
theorem dX12_bill_63 : decode cX12_bill 63 = .ok (.aload_n 0, 1) := by decide +kernel
theorem dX12_bill_64 : decode cX12_bill 64 = .ok (.getfield 108, 3) := by decide +kernel
theorem dX12_bill_67 : decode cX12_bill 67 = .ok (.iload 6, 2) := by decide +kernel
theorem dX12_bill_69 : decode cX12_bill 69 = .ok (.iaload, 1) := by decide +kernel
theorem dX12_bill_70 : decode cX12_bill 70 = .ok (.iload 4, 2) := by decide +kernel
theorem dX12_bill_72 : decode cX12_bill 72 = .ok (.if_icmp .gt 15, 3) := by decide +kernel
theorem dX12_bill_75 : decode cX12_bill 75 = .ok (.iload 5, 2) := by decide +kernel
theorem dX12_bill_77 : decode cX12_bill 77 = .ok (.aload_n 0, 1) := by decide +kernel
theorem dX12_bill_78 : decode cX12_bill 78 = .ok (.getfield 111, 3) := by decide +kernel
theorem dX12_bill_81 : decode cX12_bill 81 = .ok (.iload 6, 2) := by decide +kernel
theorem dX12_bill_83 : decode cX12_bill 83 = .ok (.iaload, 1) := by decide +kernel
theorem dX12_bill_84 : decode cX12_bill 84 = .ok (.iadd, 1) := by decide +kernel
theorem dX12_bill_85 : decode cX12_bill 85 = .ok (.istore 5, 2) := by decide +kernel
theorem dX12_bill_87 : decode cX12_bill 87 = .ok (.iinc 6 1, 3) := by decide +kernel
theorem dX12_bill_90 : decode cX12_bill 90 = .ok (.goto (-69), 3) := by decide +kernel
theorem dX12_bill_93 : decode cX12_bill 93 = .ok (.iconst 0, 1) := by decide +kernel
theorem dX12_bill_94 : decode cX12_bill 94 = .ok (.istore 6, 2) := by decide +kernel
theorem dX12_bill_96 : decode cX12_bill 96 = .ok (.iload 6, 2) := by decide +kernel
theorem dX12_bill_98 : decode cX12_bill 98 = .ok (.aload_n 0, 1) := by decide +kernel
theorem dX12_bill_99 : decode cX12_bill 99 = .ok (.getfield 337, 3) := by decide +kernel
theorem dX12_bill_102 : decode cX12_bill 102 = .ok (.if_icmp .ge 66, 3) := by decide +kernel
theorem dX12_bill_105 : decode cX12_bill 105 = .ok (.aload_n 0, 1) := by decide +kernel
theorem dX12_bill_106 : decode cX12_bill 106 = .ok (.getfield 114, 3) := by decide +kernel
theorem dX12_bill_109 : decode cX12_bill 109 = .ok (.iload 6, 2) := by decide +kernel
theorem dX12_bill_111 : decode cX12_bill 111 = .ok (.iaload, 1) := by decide +kernel
theorem dX12_bill_112 : decode cX12_bill 112 = .ok (.iload_n 1, 1) := by decide +kernel
theorem dX12_bill_113 : decode cX12_bill 113 = .ok (.if_icmp .ne 49, 3) := by decide +kernel
theorem dX12_bill_116 : decode cX12_bill 116 = .ok (.aload_n 0, 1) := by decide +kernel
theorem dX12_bill_117 : decode cX12_bill 117 = .ok (.getfield 120, 3) := by decide +kernel
theorem dX12_bill_120 : decode cX12_bill 120 = .ok (.iload 6, 2) := by decide +kernel
theorem dX12_bill_122 : decode cX12_bill 122 = .ok (.iaload, 1) := by decide +kernel
theorem dX12_bill_123 : decode cX12_bill 123 = .ok (.iload_n 2, 1) := by decide +kernel
theorem dX12_bill_124 : decode cX12_bill 124 = .ok (.if_icmp .lt 38, 3) := by decide +kernel
theorem dX12_bill_127 : decode cX12_bill 127 = .ok (.aload_n 0, 1) := by decide +kernel
theorem dX12_bill_128 : decode cX12_bill 128 = .ok (.getfield 120, 3) := by decide +kernel
theorem dX12_bill_131 : decode cX12_bill 131 = .ok (.iload 6, 2) := by decide +kernel
theorem dX12_bill_133 : decode cX12_bill 133 = .ok (.iaload, 1) := by decide +kernel
theorem dX12_bill_134 : decode cX12_bill 134 = .ok (.iload_n 3, 1) := by decide +kernel
theorem dX12_bill_135 : decode cX12_bill 135 = .ok (.if_icmp .gt 27, 3) := by decide +kernel
theorem dX12_bill_138 : decode cX12_bill 138 = .ok (.aload_n 0, 1) := by decide +kernel
theorem dX12_bill_139 : decode cX12_bill 139 = .ok (.getfield 123, 3) := by decide +kernel
theorem dX12_bill_142 : decode cX12_bill 142 = .ok (.iload 6, 2) := by decide +kernel
theorem dX12_bill_144 : decode cX12_bill 144 = .ok (.iaload, 1) := by decide +kernel
theorem dX12_bill_145 : decode cX12_bill 145 = .ok (.iload 4, 2) := by decide +kernel
theorem dX12_bill_147 : decode cX12_bill 147 = .ok (.if_icmp .gt 15, 3) := by decide +kernel
theorem dX12_bill_150 : decode cX12_bill 150 = .ok (.iload 5, 2) := by decide +kernel
theorem dX12_bill_152 : decode cX12_bill 152 = .ok (.aload_n 0, 1) := by decide +kernel
theorem dX12_bill_153 : decode cX12_bill 153 = .ok (.getfield 126, 3) := by decide +kernel
theorem dX12_bill_156 : decode cX12_bill 156 = .ok (.iload 6, 2) := by decide +kernel
theorem dX12_bill_158 : decode cX12_bill 158 = .ok (.iaload, 1) := by decide +kernel
theorem dX12_bill_159 : decode cX12_bill 159 = .ok (.iadd, 1) := by decide +kernel
theorem dX12_bill_160 : decode cX12_bill 160 = .ok (.istore 5, 2) := by decide +kernel
theorem dX12_bill_162 : decode cX12_bill 162 = .ok (.iinc 6 1, 3) := by decide +kernel
theorem dX12_bill_165 : decode cX12_bill 165 = .ok (.goto (-69), 3) := by decide +kernel
theorem dX12_bill_168 : decode cX12_bill 168 = .ok (.iload 5, 2) := by decide +kernel
theorem dX12_bill_170 : decode cX12_bill 170 = .ok (.ireturn, 1) := by decide +kernel
theorem dX12_lacked_0 : decode cX12_lacked 0 = .ok (.aload_n 0, 1) := by decide +kernel
theorem dX12_lacked_1 : decode cX12_lacked 1 = .ok (.iload_n 1, 1) := by decide +kernel
theorem dX12_lacked_2 : decode cX12_lacked 2 = .ok (.invokevirtual 142, 3) := by decide +kernel
theorem dX12_lacked_5 : decode cX12_lacked 5 = .ok (.ifCond .eq 12, 3) := by decide +kernel
theorem dX12_lacked_8 : decode cX12_lacked 8 = .ok (.aload_n 0, 1) := by decide +kernel
theorem dX12_lacked_9 : decode cX12_lacked 9 = .ok (.getfield 22, 3) := by decide +kernel
theorem dX12_lacked_12 : decode cX12_lacked 12 = .ok (.iload_n 1, 1) := by decide +kernel
theorem dX12_lacked_13 : decode cX12_lacked 13 = .ok (.iaload, 1) := by decide +kernel
theorem dX12_lacked_14 : decode cX12_lacked 14 = .ok (.goto 4, 3) := by decide +kernel
theorem dX12_lacked_17 : decode cX12_lacked 17 = .ok (.iconst (-1), 1) := by decide +kernel
theorem dX12_lacked_18 : decode cX12_lacked 18 = .ok (.ireturn, 1) := by decide +kernel
theorem dX12_about_0 : decode cX12_about 0 = .ok (.iload_n 1, 1) := by decide +kernel
theorem dX12_about_1 : decode cX12_about 1 = .ok (.tableswitch 86 0 6 #[43, 48, 53, 58, 63, 76, 81], 43) := by decide +kernel
theorem dX12_about_44 : decode cX12_about 44 = .ok (.aload_n 0, 1) := by decide +kernel
theorem dX12_about_45 : decode cX12_about 45 = .ok (.getfield 135, 3) := by decide +kernel
theorem dX12_about_48 : decode cX12_about 48 = .ok (.ireturn, 1) := by decide +kernel
theorem dX12_about_49 : decode cX12_about 49 = .ok (.aload_n 0, 1) := by decide +kernel
theorem dX12_about_50 : decode cX12_about 50 = .ok (.getfield 132, 3) := by decide +kernel
theorem dX12_about_53 : decode cX12_about 53 = .ok (.ireturn, 1) := by decide +kernel
theorem dX12_about_54 : decode cX12_about 54 = .ok (.aload_n 0, 1) := by decide +kernel
theorem dX12_about_55 : decode cX12_about 55 = .ok (.getfield 287, 3) := by decide +kernel
theorem dX12_about_58 : decode cX12_about 58 = .ok (.ireturn, 1) := by decide +kernel
theorem dX12_about_59 : decode cX12_about 59 = .ok (.aload_n 0, 1) := by decide +kernel
theorem dX12_about_60 : decode cX12_about 60 = .ok (.getfield 337, 3) := by decide +kernel
theorem dX12_about_63 : decode cX12_about 63 = .ok (.ireturn, 1) := by decide +kernel
theorem dX12_about_64 : decode cX12_about 64 = .ok (.aload_n 0, 1) := by decide +kernel
theorem dX12_about_65 : decode cX12_about 65 = .ok (.getfield 138, 3) := by decide +kernel
theorem dX12_about_68 : decode cX12_about 68 = .ok (.ifCond .eq 7, 3) := by decide +kernel
theorem dX12_about_71 : decode cX12_about 71 = .ok (.iconst 1, 1) := by decide +kernel
theorem dX12_about_72 : decode cX12_about 72 = .ok (.goto 4, 3) := by decide +kernel
theorem dX12_about_75 : decode cX12_about 75 = .ok (.iconst 0, 1) := by decide +kernel
theorem dX12_about_76 : decode cX12_about 76 = .ok (.ireturn, 1) := by decide +kernel
theorem dX12_about_77 : decode cX12_about 77 = .ok (.aload_n 0, 1) := by decide +kernel
theorem dX12_about_78 : decode cX12_about 78 = .ok (.getfield 150, 3) := by decide +kernel
theorem dX12_about_81 : decode cX12_about 81 = .ok (.ireturn, 1) := by decide +kernel
theorem dX12_about_82 : decode cX12_about 82 = .ok (.aload_n 0, 1) := by decide +kernel
theorem dX12_about_83 : decode cX12_about 83 = .ok (.getfield 330, 3) := by decide +kernel
theorem dX12_about_86 : decode cX12_about 86 = .ok (.ireturn, 1) := by decide +kernel
theorem dX12_about_87 : decode cX12_about 87 = .ok (.iconst (-1), 1) := by decide +kernel
theorem dX12_about_88 : decode cX12_about 88 = .ok (.ireturn, 1) := by decide +kernel
theorem dJ9_max_7cf53_0 : decode cJ9_max_7cf53 0 = .ok (.iload_n 0, 1) := by decide +kernel
theorem dJ9_max_7cf53_1 : decode cJ9_max_7cf53 1 = .ok (.iload_n 1, 1) := by decide +kernel
theorem dJ9_max_7cf53_2 : decode cJ9_max_7cf53 2 = .ok (.if_icmp .lt 7, 3) := by decide +kernel
theorem dJ9_max_7cf53_5 : decode cJ9_max_7cf53 5 = .ok (.iload_n 0, 1) := by decide +kernel
theorem dJ9_max_7cf53_6 : decode cJ9_max_7cf53 6 = .ok (.goto 4, 3) := by decide +kernel
theorem dJ9_max_7cf53_9 : decode cJ9_max_7cf53 9 = .ok (.iload_n 1, 1) := by decide +kernel
theorem dJ9_max_7cf53_10 : decode cJ9_max_7cf53 10 = .ok (.ireturn, 1) := by decide +kernel
theorem dJ9_min_7cf53_0 : decode cJ9_min_7cf53 0 = .ok (.iload_n 0, 1) := by decide +kernel
theorem dJ9_min_7cf53_1 : decode cJ9_min_7cf53 1 = .ok (.iload_n 1, 1) := by decide +kernel
theorem dJ9_min_7cf53_2 : decode cJ9_min_7cf53 2 = .ok (.if_icmp .gt 7, 3) := by decide +kernel
theorem dJ9_min_7cf53_5 : decode cJ9_min_7cf53 5 = .ok (.iload_n 0, 1) := by decide +kernel
theorem dJ9_min_7cf53_6 : decode cJ9_min_7cf53 6 = .ok (.goto 4, 3) := by decide +kernel
theorem dJ9_min_7cf53_9 : decode cJ9_min_7cf53 9 = .ok (.iload_n 1, 1) := by decide +kernel
theorem dJ9_min_7cf53_10 : decode cJ9_min_7cf53 10 = .ok (.ireturn, 1) := by decide +kernel
theorem dJ0_length_8abf5_0 : decode cJ0_length_8abf5 0 = .ok (.aload_n 0, 1) := by decide +kernel
theorem dJ0_length_8abf5_1 : decode cJ0_length_8abf5 1 = .ok (.getfield 9, 3) := by decide +kernel
theorem dJ0_length_8abf5_4 : decode cJ0_length_8abf5 4 = .ok (.arraylength, 1) := by decide +kernel
theorem dJ0_length_8abf5_5 : decode cJ0_length_8abf5 5 = .ok (.aload_n 0, 1) := by decide +kernel
theorem dJ0_length_8abf5_6 : decode cJ0_length_8abf5 6 = .ok (.invokevirtual 335, 3) := by decide +kernel
theorem dJ0_length_8abf5_9 : decode cJ0_length_8abf5 9 = .ok (.ishr, 1) := by decide +kernel
theorem dJ0_length_8abf5_10 : decode cJ0_length_8abf5 10 = .ok (.ireturn, 1) := by decide +kernel
theorem dJ0_charAt_5068e_0 : decode cJ0_charAt_5068e 0 = .ok (.aload_n 0, 1) := by decide +kernel
theorem dJ0_charAt_5068e_1 : decode cJ0_charAt_5068e 1 = .ok (.invokevirtual 492, 3) := by decide +kernel
theorem dJ0_charAt_5068e_4 : decode cJ0_charAt_5068e 4 = .ok (.ifCond .eq 12, 3) := by decide +kernel
theorem dJ0_charAt_5068e_7 : decode cJ0_charAt_5068e 7 = .ok (.aload_n 0, 1) := by decide +kernel
theorem dJ0_charAt_5068e_8 : decode cJ0_charAt_5068e 8 = .ok (.getfield 9, 3) := by decide +kernel
theorem dJ0_charAt_5068e_11 : decode cJ0_charAt_5068e 11 = .ok (.iload_n 1, 1) := by decide +kernel
theorem dJ0_charAt_5068e_12 : decode cJ0_charAt_5068e 12 = .ok (.invokestatic 495, 3) := by decide +kernel
theorem dJ0_charAt_5068e_15 : decode cJ0_charAt_5068e 15 = .ok (.ireturn, 1) := by decide +kernel
theorem dJ0_charAt_5068e_16 : decode cJ0_charAt_5068e 16 = .ok (.aload_n 0, 1) := by decide +kernel
theorem dJ0_charAt_5068e_17 : decode cJ0_charAt_5068e 17 = .ok (.getfield 9, 3) := by decide +kernel
theorem dJ0_charAt_5068e_20 : decode cJ0_charAt_5068e 20 = .ok (.iload_n 1, 1) := by decide +kernel
theorem dJ0_charAt_5068e_21 : decode cJ0_charAt_5068e 21 = .ok (.invokestatic 498, 3) := by decide +kernel
theorem dJ0_charAt_5068e_24 : decode cJ0_charAt_5068e 24 = .ok (.ireturn, 1) := by decide +kernel
theorem dJ0_coder_7d493_0 : decode cJ0_coder_7d493 0 = .ok (.getstatic 38, 3) := by decide +kernel
theorem dJ0_coder_7d493_3 : decode cJ0_coder_7d493 3 = .ok (.ifCond .eq 10, 3) := by decide +kernel
theorem dJ0_coder_7d493_6 : decode cJ0_coder_7d493 6 = .ok (.aload_n 0, 1) := by decide +kernel
theorem dJ0_coder_7d493_7 : decode cJ0_coder_7d493 7 = .ok (.getfield 15, 3) := by decide +kernel
theorem dJ0_coder_7d493_10 : decode cJ0_coder_7d493 10 = .ok (.goto 4, 3) := by decide +kernel
theorem dJ0_coder_7d493_13 : decode cJ0_coder_7d493 13 = .ok (.iconst 1, 1) := by decide +kernel
theorem dJ0_coder_7d493_14 : decode cJ0_coder_7d493 14 = .ok (.ireturn, 1) := by decide +kernel
theorem dJ0_isLatin1_aae02_0 : decode cJ0_isLatin1_aae02 0 = .ok (.getstatic 38, 3) := by decide +kernel
theorem dJ0_isLatin1_aae02_3 : decode cJ0_isLatin1_aae02 3 = .ok (.ifCond .eq 14, 3) := by decide +kernel
theorem dJ0_isLatin1_aae02_6 : decode cJ0_isLatin1_aae02 6 = .ok (.aload_n 0, 1) := by decide +kernel
theorem dJ0_isLatin1_aae02_7 : decode cJ0_isLatin1_aae02 7 = .ok (.getfield 15, 3) := by decide +kernel
theorem dJ0_isLatin1_aae02_10 : decode cJ0_isLatin1_aae02 10 = .ok (.ifCond .ne 7, 3) := by decide +kernel
theorem dJ0_isLatin1_aae02_13 : decode cJ0_isLatin1_aae02 13 = .ok (.iconst 1, 1) := by decide +kernel
theorem dJ0_isLatin1_aae02_14 : decode cJ0_isLatin1_aae02 14 = .ok (.goto 4, 3) := by decide +kernel
theorem dJ0_isLatin1_aae02_17 : decode cJ0_isLatin1_aae02 17 = .ok (.iconst 0, 1) := by decide +kernel
theorem dJ0_isLatin1_aae02_18 : decode cJ0_isLatin1_aae02 18 = .ok (.ireturn, 1) := by decide +kernel
theorem dJ0_checkIndex_df160_0 : decode cJ0_checkIndex_df160 0 = .ok (.iload_n 0, 1) := by decide +kernel
theorem dJ0_checkIndex_df160_1 : decode cJ0_checkIndex_df160 1 = .ok (.iload_n 1, 1) := by decide +kernel
theorem dJ0_checkIndex_df160_2 : decode cJ0_checkIndex_df160 2 = .ok (.getstatic 1053, 3) := by decide +kernel
theorem dJ0_checkIndex_df160_5 : decode cJ0_checkIndex_df160 5 = .ok (.invokestatic 1059, 3) := by decide +kernel
theorem dJ0_checkIndex_df160_8 : decode cJ0_checkIndex_df160 8 = .ok (.pop, 1) := by decide +kernel
theorem dJ0_checkIndex_df160_9 : decode cJ0_checkIndex_df160 9 = .ok (.return_, 1) := by decide +kernel
theorem dJ1_charAt_3b067_0 : decode cJ1_charAt_3b067 0 = .ok (.iload_n 1, 1) := by decide +kernel
theorem dJ1_charAt_3b067_1 : decode cJ1_charAt_3b067 1 = .ok (.aload_n 0, 1) := by decide +kernel
theorem dJ1_charAt_3b067_2 : decode cJ1_charAt_3b067 2 = .ok (.arraylength, 1) := by decide +kernel
theorem dJ1_charAt_3b067_3 : decode cJ1_charAt_3b067 3 = .ok (.invokestatic 9, 3) := by decide +kernel
theorem dJ1_charAt_3b067_6 : decode cJ1_charAt_3b067 6 = .ok (.aload_n 0, 1) := by decide +kernel
theorem dJ1_charAt_3b067_7 : decode cJ1_charAt_3b067 7 = .ok (.iload_n 1, 1) := by decide +kernel
theorem dJ1_charAt_3b067_8 : decode cJ1_charAt_3b067 8 = .ok (.baload, 1) := by decide +kernel
theorem dJ1_charAt_3b067_9 : decode cJ1_charAt_3b067 9 = .ok (.sipush 255, 3) := by decide +kernel
theorem dJ1_charAt_3b067_12 : decode cJ1_charAt_3b067 12 = .ok (.iand, 1) := by decide +kernel
theorem dJ1_charAt_3b067_13 : decode cJ1_charAt_3b067 13 = .ok (.i2c, 1) := by decide +kernel
theorem dJ1_charAt_3b067_14 : decode cJ1_charAt_3b067 14 = .ok (.ireturn, 1) := by decide +kernel
theorem dJ2_getChar_3b067_0 : decode cJ2_getChar_3b067 0 = .ok (.getstatic 44, 3) := by decide +kernel
theorem dJ2_getChar_3b067_3 : decode cJ2_getChar_3b067 3 = .ok (.ifCond .ne 25, 3) := by decide +kernel
theorem dJ2_getChar_3b067_6 : decode cJ2_getChar_3b067 6 = .ok (.iload_n 1, 1) := by decide +kernel
theorem dJ2_getChar_3b067_7 : decode cJ2_getChar_3b067 7 = .ok (.ifCond .lt 11, 3) := by decide +kernel
theorem dJ2_getChar_3b067_10 : decode cJ2_getChar_3b067 10 = .ok (.iload_n 1, 1) := by decide +kernel
theorem dJ2_getChar_3b067_11 : decode cJ2_getChar_3b067 11 = .ok (.aload_n 0, 1) := by decide +kernel
theorem dJ2_getChar_3b067_12 : decode cJ2_getChar_3b067 12 = .ok (.invokestatic 48, 3) := by decide +kernel
theorem dJ2_getChar_3b067_15 : decode cJ2_getChar_3b067 15 = .ok (.if_icmp .lt 13, 3) := by decide +kernel
theorem dJ2_getChar_3b067_18 : decode cJ2_getChar_3b067 18 = .ok (.new 52, 3) := by decide +kernel
theorem dJ2_getChar_3b067_21 : decode cJ2_getChar_3b067 21 = .ok (.dup, 1) := by decide +kernel
theorem dJ2_getChar_3b067_22 : decode cJ2_getChar_3b067 22 = .ok (.ldc 54, 2) := by decide +kernel
theorem dJ2_getChar_3b067_24 : decode cJ2_getChar_3b067 24 = .ok (.invokespecial 56, 3) := by decide +kernel
theorem dJ2_getChar_3b067_27 : decode cJ2_getChar_3b067 27 = .ok (.athrow, 1) := by decide +kernel
theorem dJ2_getChar_3b067_28 : decode cJ2_getChar_3b067 28 = .ok (.iload_n 1, 1) := by decide +kernel
theorem dJ2_getChar_3b067_29 : decode cJ2_getChar_3b067 29 = .ok (.iconst 1, 1) := by decide +kernel
theorem dJ2_getChar_3b067_30 : decode cJ2_getChar_3b067 30 = .ok (.ishl, 1) := by decide +kernel
theorem dJ2_getChar_3b067_31 : decode cJ2_getChar_3b067 31 = .ok (.istore_n 1, 1) := by decide +kernel
theorem dJ2_getChar_3b067_32 : decode cJ2_getChar_3b067 32 = .ok (.aload_n 0, 1) := by decide +kernel
theorem dJ2_getChar_3b067_33 : decode cJ2_getChar_3b067 33 = .ok (.iload_n 1, 1) := by decide +kernel
theorem dJ2_getChar_3b067_34 : decode cJ2_getChar_3b067 34 = .ok (.iinc 1 1, 3) := by decide +kernel
theorem dJ2_getChar_3b067_37 : decode cJ2_getChar_3b067 37 = .ok (.baload, 1) := by decide +kernel
theorem dJ2_getChar_3b067_38 : decode cJ2_getChar_3b067 38 = .ok (.sipush 255, 3) := by decide +kernel
theorem dJ2_getChar_3b067_41 : decode cJ2_getChar_3b067 41 = .ok (.iand, 1) := by decide +kernel
theorem dJ2_getChar_3b067_42 : decode cJ2_getChar_3b067 42 = .ok (.getstatic 59, 3) := by decide +kernel
theorem dJ2_getChar_3b067_45 : decode cJ2_getChar_3b067 45 = .ok (.ishl, 1) := by decide +kernel
theorem dJ2_getChar_3b067_46 : decode cJ2_getChar_3b067 46 = .ok (.aload_n 0, 1) := by decide +kernel
theorem dJ2_getChar_3b067_47 : decode cJ2_getChar_3b067 47 = .ok (.iload_n 1, 1) := by decide +kernel
theorem dJ2_getChar_3b067_48 : decode cJ2_getChar_3b067 48 = .ok (.baload, 1) := by decide +kernel
theorem dJ2_getChar_3b067_49 : decode cJ2_getChar_3b067 49 = .ok (.sipush 255, 3) := by decide +kernel
theorem dJ2_getChar_3b067_52 : decode cJ2_getChar_3b067 52 = .ok (.iand, 1) := by decide +kernel
theorem dJ2_getChar_3b067_53 : decode cJ2_getChar_3b067 53 = .ok (.getstatic 63, 3) := by decide +kernel
theorem dJ2_getChar_3b067_56 : decode cJ2_getChar_3b067 56 = .ok (.ishl, 1) := by decide +kernel
theorem dJ2_getChar_3b067_57 : decode cJ2_getChar_3b067 57 = .ok (.ior, 1) := by decide +kernel
theorem dJ2_getChar_3b067_58 : decode cJ2_getChar_3b067 58 = .ok (.i2c, 1) := by decide +kernel
theorem dJ2_getChar_3b067_59 : decode cJ2_getChar_3b067 59 = .ok (.ireturn, 1) := by decide +kernel
theorem dJ2_length_9d52b_0 : decode cJ2_length_9d52b 0 = .ok (.aload_n 0, 1) := by decide +kernel
theorem dJ2_length_9d52b_1 : decode cJ2_length_9d52b 1 = .ok (.arraylength, 1) := by decide +kernel
theorem dJ2_length_9d52b_2 : decode cJ2_length_9d52b 2 = .ok (.iconst 1, 1) := by decide +kernel
theorem dJ2_length_9d52b_3 : decode cJ2_length_9d52b 3 = .ok (.ishr, 1) := by decide +kernel
theorem dJ2_length_9d52b_4 : decode cJ2_length_9d52b 4 = .ok (.ireturn, 1) := by decide +kernel
theorem dJ2_charAt_3b067_0 : decode cJ2_charAt_3b067 0 = .ok (.iload_n 1, 1) := by decide +kernel
theorem dJ2_charAt_3b067_1 : decode cJ2_charAt_3b067 1 = .ok (.aload_n 0, 1) := by decide +kernel
theorem dJ2_charAt_3b067_2 : decode cJ2_charAt_3b067 2 = .ok (.invokestatic 67, 3) := by decide +kernel
theorem dJ2_charAt_3b067_5 : decode cJ2_charAt_3b067 5 = .ok (.aload_n 0, 1) := by decide +kernel
theorem dJ2_charAt_3b067_6 : decode cJ2_charAt_3b067 6 = .ok (.iload_n 1, 1) := by decide +kernel
theorem dJ2_charAt_3b067_7 : decode cJ2_charAt_3b067 7 = .ok (.invokestatic 71, 3) := by decide +kernel
theorem dJ2_charAt_3b067_10 : decode cJ2_charAt_3b067 10 = .ok (.ireturn, 1) := by decide +kernel
theorem dJ2_checkIndex_2214a_0 : decode cJ2_checkIndex_2214a 0 = .ok (.iload_n 0, 1) := by decide +kernel
theorem dJ2_checkIndex_2214a_1 : decode cJ2_checkIndex_2214a 1 = .ok (.aload_n 1, 1) := by decide +kernel
theorem dJ2_checkIndex_2214a_2 : decode cJ2_checkIndex_2214a 2 = .ok (.invokestatic 48, 3) := by decide +kernel
theorem dJ2_checkIndex_2214a_5 : decode cJ2_checkIndex_2214a 5 = .ok (.invokestatic 414, 3) := by decide +kernel
theorem dJ2_checkIndex_2214a_8 : decode cJ2_checkIndex_2214a 8 = .ok (.return_, 1) := by decide +kernel
theorem dJ7_fill_53178_0 : decode cJ7_fill_53178 0 = .ok (.iconst 0, 1) := by decide +kernel
theorem dJ7_fill_53178_1 : decode cJ7_fill_53178 1 = .ok (.istore_n 2, 1) := by decide +kernel
theorem dJ7_fill_53178_2 : decode cJ7_fill_53178 2 = .ok (.aload_n 0, 1) := by decide +kernel
theorem dJ7_fill_53178_3 : decode cJ7_fill_53178 3 = .ok (.arraylength, 1) := by decide +kernel
theorem dJ7_fill_53178_4 : decode cJ7_fill_53178 4 = .ok (.istore_n 3, 1) := by decide +kernel
theorem dJ7_fill_53178_5 : decode cJ7_fill_53178 5 = .ok (.iload_n 2, 1) := by decide +kernel
theorem dJ7_fill_53178_6 : decode cJ7_fill_53178 6 = .ok (.iload_n 3, 1) := by decide +kernel
theorem dJ7_fill_53178_7 : decode cJ7_fill_53178 7 = .ok (.if_icmp .ge 13, 3) := by decide +kernel
theorem dJ7_fill_53178_10 : decode cJ7_fill_53178 10 = .ok (.aload_n 0, 1) := by decide +kernel
theorem dJ7_fill_53178_11 : decode cJ7_fill_53178 11 = .ok (.iload_n 2, 1) := by decide +kernel
theorem dJ7_fill_53178_12 : decode cJ7_fill_53178 12 = .ok (.iload_n 1, 1) := by decide +kernel
theorem dJ7_fill_53178_13 : decode cJ7_fill_53178 13 = .ok (.iastore, 1) := by decide +kernel
theorem dJ7_fill_53178_14 : decode cJ7_fill_53178 14 = .ok (.iinc 2 1, 3) := by decide +kernel
theorem dJ7_fill_53178_17 : decode cJ7_fill_53178 17 = .ok (.goto (-12), 3) := by decide +kernel
theorem dJ7_fill_53178_20 : decode cJ7_fill_53178 20 = .ok (.return_, 1) := by decide +kernel
theorem dJ3_checkIndex_8e157_0 : decode cJ3_checkIndex_8e157 0 = .ok (.iload_n 0, 1) := by decide +kernel
theorem dJ3_checkIndex_8e157_1 : decode cJ3_checkIndex_8e157 1 = .ok (.ifCond .lt 8, 3) := by decide +kernel
theorem dJ3_checkIndex_8e157_4 : decode cJ3_checkIndex_8e157 4 = .ok (.iload_n 0, 1) := by decide +kernel
theorem dJ3_checkIndex_8e157_5 : decode cJ3_checkIndex_8e157 5 = .ok (.iload_n 1, 1) := by decide +kernel
theorem dJ3_checkIndex_8e157_6 : decode cJ3_checkIndex_8e157 6 = .ok (.if_icmp .lt 10, 3) := by decide +kernel
theorem dJ3_checkIndex_8e157_9 : decode cJ3_checkIndex_8e157 9 = .ok (.aload_n 2, 1) := by decide +kernel
theorem dJ3_checkIndex_8e157_10 : decode cJ3_checkIndex_8e157 10 = .ok (.iload_n 0, 1) := by decide +kernel
theorem dJ3_checkIndex_8e157_11 : decode cJ3_checkIndex_8e157 11 = .ok (.iload_n 1, 1) := by decide +kernel
theorem dJ3_checkIndex_8e157_12 : decode cJ3_checkIndex_8e157 12 = .ok (.invokestatic 95, 3) := by decide +kernel
theorem dJ3_checkIndex_8e157_15 : decode cJ3_checkIndex_8e157 15 = .ok (.athrow, 1) := by decide +kernel
theorem dJ3_checkIndex_8e157_16 : decode cJ3_checkIndex_8e157 16 = .ok (.iload_n 0, 1) := by decide +kernel
theorem dJ3_checkIndex_8e157_17 : decode cJ3_checkIndex_8e157 17 = .ok (.ireturn, 1) := by decide +kernel
theorem dL_law_0 : decode cL_law 0 = .ok (.new 7, 3) := by decide +kernel
theorem dL_law_3 : decode cL_law 3 = .ok (.dup, 1) := by decide +kernel
theorem dL_law_4 : decode cL_law 4 = .ok (.invokespecial 9, 3) := by decide +kernel
theorem dL_law_7 : decode cL_law 7 = .ok (.astore_n 1, 1) := by decide +kernel
theorem dL_law_8 : decode cL_law 8 = .ok (.new 10, 3) := by decide +kernel
theorem dL_law_11 : decode cL_law 11 = .ok (.dup, 1) := by decide +kernel
theorem dL_law_12 : decode cL_law 12 = .ok (.invokespecial 12, 3) := by decide +kernel
theorem dL_law_15 : decode cL_law 15 = .ok (.astore_n 2, 1) := by decide +kernel
theorem dL_law_16 : decode cL_law 16 = .ok (.iconst 0, 1) := by decide +kernel
theorem dL_law_17 : decode cL_law 17 = .ok (.istore_n 3, 1) := by decide +kernel
theorem dL_law_18 : decode cL_law 18 = .ok (.iload_n 3, 1) := by decide +kernel
theorem dL_law_19 : decode cL_law 19 = .ok (.aload_n 0, 1) := by decide +kernel
theorem dL_law_20 : decode cL_law 20 = .ok (.arraylength, 1) := by decide +kernel
theorem dL_law_21 : decode cL_law 21 = .ok (.bipush 6, 2) := by decide +kernel
theorem dL_law_23 : decode cL_law 23 = .ok (.isub, 1) := by decide +kernel
theorem dL_law_24 : decode cL_law 24 = .ok (.if_icmp .gt 1041, 3) := by decide +kernel
theorem dL_law_27 : decode cL_law 27 = .ok (.aload_n 0, 1) := by decide +kernel
theorem dL_law_28 : decode cL_law 28 = .ok (.iload_n 3, 1) := by decide +kernel
theorem dL_law_29 : decode cL_law 29 = .ok (.iaload, 1) := by decide +kernel
theorem dL_law_30 : decode cL_law 30 = .ok (.bipush 31, 2) := by decide +kernel
theorem dL_law_32 : decode cL_law 32 = .ok (.iand, 1) := by decide +kernel
theorem dL_law_33 : decode cL_law 33 = .ok (.tableswitch 1026 0 26 #[123, 156, 205, 248, 281, 340, 403, 426, 439, 462, 505, 568, 581, 594, 617, 630, 673, 716, 749, 782, 795, 828, 851, 894, 927, 980, 1003], 123) := by decide +kernel
theorem dL_law_156 : decode cL_law 156 = .ok (.aload_n 1, 1) := by decide +kernel
theorem dL_law_157 : decode cL_law 157 = .ok (.aload_n 0, 1) := by decide +kernel
theorem dL_law_158 : decode cL_law 158 = .ok (.iload_n 3, 1) := by decide +kernel
theorem dL_law_159 : decode cL_law 159 = .ok (.iconst 1, 1) := by decide +kernel
theorem dL_law_160 : decode cL_law 160 = .ok (.iadd, 1) := by decide +kernel
theorem dL_law_161 : decode cL_law 161 = .ok (.iaload, 1) := by decide +kernel
theorem dL_law_162 : decode cL_law 162 = .ok (.aload_n 0, 1) := by decide +kernel
theorem dL_law_163 : decode cL_law 163 = .ok (.iload_n 3, 1) := by decide +kernel
theorem dL_law_164 : decode cL_law 164 = .ok (.iconst 2, 1) := by decide +kernel
theorem dL_law_165 : decode cL_law 165 = .ok (.iadd, 1) := by decide +kernel
theorem dL_law_166 : decode cL_law 166 = .ok (.iaload, 1) := by decide +kernel
theorem dL_law_167 : decode cL_law 167 = .ok (.invokevirtual 13, 3) := by decide +kernel
theorem dL_law_170 : decode cL_law 170 = .ok (.aload_n 2, 1) := by decide +kernel
theorem dL_law_171 : decode cL_law 171 = .ok (.aload_n 0, 1) := by decide +kernel
theorem dL_law_172 : decode cL_law 172 = .ok (.iload_n 3, 1) := by decide +kernel
theorem dL_law_173 : decode cL_law 173 = .ok (.iconst 1, 1) := by decide +kernel
theorem dL_law_174 : decode cL_law 174 = .ok (.iadd, 1) := by decide +kernel
theorem dL_law_175 : decode cL_law 175 = .ok (.iaload, 1) := by decide +kernel
theorem dL_law_176 : decode cL_law 176 = .ok (.aload_n 0, 1) := by decide +kernel
theorem dL_law_177 : decode cL_law 177 = .ok (.iload_n 3, 1) := by decide +kernel
theorem dL_law_178 : decode cL_law 178 = .ok (.iconst 2, 1) := by decide +kernel
theorem dL_law_179 : decode cL_law 179 = .ok (.iadd, 1) := by decide +kernel
theorem dL_law_180 : decode cL_law 180 = .ok (.iaload, 1) := by decide +kernel
theorem dL_law_181 : decode cL_law 181 = .ok (.invokevirtual 17, 3) := by decide +kernel
theorem dL_law_184 : decode cL_law 184 = .ok (.if_icmp .eq 875, 3) := by decide +kernel
theorem dL_law_187 : decode cL_law 187 = .ok (.iconst 0, 1) := by decide +kernel
theorem dL_law_188 : decode cL_law 188 = .ok (.ireturn, 1) := by decide +kernel
theorem dL_law_189 : decode cL_law 189 = .ok (.aload_n 1, 1) := by decide +kernel
theorem dL_law_190 : decode cL_law 190 = .ok (.aload_n 0, 1) := by decide +kernel
theorem dL_law_191 : decode cL_law 191 = .ok (.iload_n 3, 1) := by decide +kernel
theorem dL_law_192 : decode cL_law 192 = .ok (.iconst 1, 1) := by decide +kernel
theorem dL_law_193 : decode cL_law 193 = .ok (.iadd, 1) := by decide +kernel
theorem dL_law_194 : decode cL_law 194 = .ok (.iaload, 1) := by decide +kernel
theorem dL_law_195 : decode cL_law 195 = .ok (.aload_n 0, 1) := by decide +kernel
theorem dL_law_196 : decode cL_law 196 = .ok (.iload_n 3, 1) := by decide +kernel
theorem dL_law_197 : decode cL_law 197 = .ok (.iconst 2, 1) := by decide +kernel
theorem dL_law_198 : decode cL_law 198 = .ok (.iadd, 1) := by decide +kernel
theorem dL_law_199 : decode cL_law 199 = .ok (.iaload, 1) := by decide +kernel
theorem dL_law_200 : decode cL_law 200 = .ok (.ifCond .eq 7, 3) := by decide +kernel
theorem dL_law_203 : decode cL_law 203 = .ok (.iconst 1, 1) := by decide +kernel
theorem dL_law_204 : decode cL_law 204 = .ok (.goto 4, 3) := by decide +kernel
theorem dL_law_207 : decode cL_law 207 = .ok (.iconst 0, 1) := by decide +kernel
theorem dL_law_208 : decode cL_law 208 = .ok (.invokevirtual 18, 3) := by decide +kernel
theorem dL_law_211 : decode cL_law 211 = .ok (.aload_n 2, 1) := by decide +kernel
theorem dL_law_212 : decode cL_law 212 = .ok (.aload_n 0, 1) := by decide +kernel
theorem dL_law_213 : decode cL_law 213 = .ok (.iload_n 3, 1) := by decide +kernel
theorem dL_law_214 : decode cL_law 214 = .ok (.iconst 1, 1) := by decide +kernel
theorem dL_law_215 : decode cL_law 215 = .ok (.iadd, 1) := by decide +kernel
theorem dL_law_216 : decode cL_law 216 = .ok (.iaload, 1) := by decide +kernel
theorem dL_law_217 : decode cL_law 217 = .ok (.aload_n 0, 1) := by decide +kernel
theorem dL_law_218 : decode cL_law 218 = .ok (.iload_n 3, 1) := by decide +kernel
theorem dL_law_219 : decode cL_law 219 = .ok (.iconst 2, 1) := by decide +kernel
theorem dL_law_220 : decode cL_law 220 = .ok (.iadd, 1) := by decide +kernel
theorem dL_law_221 : decode cL_law 221 = .ok (.iaload, 1) := by decide +kernel
theorem dL_law_222 : decode cL_law 222 = .ok (.ifCond .eq 7, 3) := by decide +kernel
theorem dL_law_225 : decode cL_law 225 = .ok (.iconst 1, 1) := by decide +kernel
theorem dL_law_226 : decode cL_law 226 = .ok (.goto 4, 3) := by decide +kernel
theorem dL_law_229 : decode cL_law 229 = .ok (.iconst 0, 1) := by decide +kernel
theorem dL_law_230 : decode cL_law 230 = .ok (.invokevirtual 22, 3) := by decide +kernel
theorem dL_law_233 : decode cL_law 233 = .ok (.if_icmp .eq 826, 3) := by decide +kernel
theorem dL_law_236 : decode cL_law 236 = .ok (.iconst 0, 1) := by decide +kernel
theorem dL_law_237 : decode cL_law 237 = .ok (.ireturn, 1) := by decide +kernel
theorem dL_law_238 : decode cL_law 238 = .ok (.aload_n 1, 1) := by decide +kernel
theorem dL_law_239 : decode cL_law 239 = .ok (.aload_n 0, 1) := by decide +kernel
theorem dL_law_240 : decode cL_law 240 = .ok (.iload_n 3, 1) := by decide +kernel
theorem dL_law_241 : decode cL_law 241 = .ok (.iconst 1, 1) := by decide +kernel
theorem dL_law_242 : decode cL_law 242 = .ok (.iadd, 1) := by decide +kernel
theorem dL_law_243 : decode cL_law 243 = .ok (.iaload, 1) := by decide +kernel
theorem dL_law_244 : decode cL_law 244 = .ok (.aload_n 0, 1) := by decide +kernel
theorem dL_law_245 : decode cL_law 245 = .ok (.iload_n 3, 1) := by decide +kernel
theorem dL_law_246 : decode cL_law 246 = .ok (.iconst 2, 1) := by decide +kernel
theorem dL_law_247 : decode cL_law 247 = .ok (.iadd, 1) := by decide +kernel
theorem dL_law_248 : decode cL_law 248 = .ok (.iaload, 1) := by decide +kernel
theorem dL_law_249 : decode cL_law 249 = .ok (.aload_n 0, 1) := by decide +kernel
theorem dL_law_250 : decode cL_law 250 = .ok (.iload_n 3, 1) := by decide +kernel
theorem dL_law_251 : decode cL_law 251 = .ok (.iconst 3, 1) := by decide +kernel
theorem dL_law_252 : decode cL_law 252 = .ok (.iadd, 1) := by decide +kernel
theorem dL_law_253 : decode cL_law 253 = .ok (.iaload, 1) := by decide +kernel
theorem dL_law_254 : decode cL_law 254 = .ok (.invokevirtual 23, 3) := by decide +kernel
theorem dL_law_257 : decode cL_law 257 = .ok (.aload_n 2, 1) := by decide +kernel
theorem dL_law_258 : decode cL_law 258 = .ok (.aload_n 0, 1) := by decide +kernel
theorem dL_law_259 : decode cL_law 259 = .ok (.iload_n 3, 1) := by decide +kernel
theorem dL_law_260 : decode cL_law 260 = .ok (.iconst 1, 1) := by decide +kernel
theorem dL_law_261 : decode cL_law 261 = .ok (.iadd, 1) := by decide +kernel
theorem dL_law_262 : decode cL_law 262 = .ok (.iaload, 1) := by decide +kernel
theorem dL_law_263 : decode cL_law 263 = .ok (.aload_n 0, 1) := by decide +kernel
theorem dL_law_264 : decode cL_law 264 = .ok (.iload_n 3, 1) := by decide +kernel
theorem dL_law_265 : decode cL_law 265 = .ok (.iconst 2, 1) := by decide +kernel
theorem dL_law_266 : decode cL_law 266 = .ok (.iadd, 1) := by decide +kernel
theorem dL_law_267 : decode cL_law 267 = .ok (.iaload, 1) := by decide +kernel
theorem dL_law_268 : decode cL_law 268 = .ok (.aload_n 0, 1) := by decide +kernel
theorem dL_law_269 : decode cL_law 269 = .ok (.iload_n 3, 1) := by decide +kernel
theorem dL_law_270 : decode cL_law 270 = .ok (.iconst 3, 1) := by decide +kernel
theorem dL_law_271 : decode cL_law 271 = .ok (.iadd, 1) := by decide +kernel
theorem dL_law_272 : decode cL_law 272 = .ok (.iaload, 1) := by decide +kernel
theorem dL_law_273 : decode cL_law 273 = .ok (.invokevirtual 27, 3) := by decide +kernel
theorem dL_law_276 : decode cL_law 276 = .ok (.if_icmp .eq 783, 3) := by decide +kernel
theorem dL_law_279 : decode cL_law 279 = .ok (.iconst 0, 1) := by decide +kernel
theorem dL_law_280 : decode cL_law 280 = .ok (.ireturn, 1) := by decide +kernel
theorem dL_law_281 : decode cL_law 281 = .ok (.aload_n 1, 1) := by decide +kernel
theorem dL_law_282 : decode cL_law 282 = .ok (.aload_n 0, 1) := by decide +kernel
theorem dL_law_283 : decode cL_law 283 = .ok (.iload_n 3, 1) := by decide +kernel
theorem dL_law_284 : decode cL_law 284 = .ok (.iconst 1, 1) := by decide +kernel
theorem dL_law_285 : decode cL_law 285 = .ok (.iadd, 1) := by decide +kernel
theorem dL_law_286 : decode cL_law 286 = .ok (.iaload, 1) := by decide +kernel
theorem dL_law_287 : decode cL_law 287 = .ok (.aload_n 0, 1) := by decide +kernel
theorem dL_law_288 : decode cL_law 288 = .ok (.iload_n 3, 1) := by decide +kernel
theorem dL_law_289 : decode cL_law 289 = .ok (.iconst 2, 1) := by decide +kernel
theorem dL_law_290 : decode cL_law 290 = .ok (.iadd, 1) := by decide +kernel
theorem dL_law_291 : decode cL_law 291 = .ok (.iaload, 1) := by decide +kernel
theorem dL_law_292 : decode cL_law 292 = .ok (.invokevirtual 28, 3) := by decide +kernel
theorem dL_law_295 : decode cL_law 295 = .ok (.aload_n 2, 1) := by decide +kernel
theorem dL_law_296 : decode cL_law 296 = .ok (.aload_n 0, 1) := by decide +kernel
theorem dL_law_297 : decode cL_law 297 = .ok (.iload_n 3, 1) := by decide +kernel
theorem dL_law_298 : decode cL_law 298 = .ok (.iconst 1, 1) := by decide +kernel
theorem dL_law_299 : decode cL_law 299 = .ok (.iadd, 1) := by decide +kernel
theorem dL_law_300 : decode cL_law 300 = .ok (.iaload, 1) := by decide +kernel
theorem dL_law_301 : decode cL_law 301 = .ok (.aload_n 0, 1) := by decide +kernel
theorem dL_law_302 : decode cL_law 302 = .ok (.iload_n 3, 1) := by decide +kernel
theorem dL_law_303 : decode cL_law 303 = .ok (.iconst 2, 1) := by decide +kernel
theorem dL_law_304 : decode cL_law 304 = .ok (.iadd, 1) := by decide +kernel
theorem dL_law_305 : decode cL_law 305 = .ok (.iaload, 1) := by decide +kernel
theorem dL_law_306 : decode cL_law 306 = .ok (.invokevirtual 32, 3) := by decide +kernel
theorem dL_law_309 : decode cL_law 309 = .ok (.if_icmp .eq 750, 3) := by decide +kernel
theorem dL_law_312 : decode cL_law 312 = .ok (.iconst 0, 1) := by decide +kernel
theorem dL_law_313 : decode cL_law 313 = .ok (.ireturn, 1) := by decide +kernel
theorem dL_law_314 : decode cL_law 314 = .ok (.aload_n 1, 1) := by decide +kernel
theorem dL_law_315 : decode cL_law 315 = .ok (.aload_n 0, 1) := by decide +kernel
theorem dL_law_316 : decode cL_law 316 = .ok (.iload_n 3, 1) := by decide +kernel
theorem dL_law_317 : decode cL_law 317 = .ok (.iconst 1, 1) := by decide +kernel
theorem dL_law_318 : decode cL_law 318 = .ok (.iadd, 1) := by decide +kernel
theorem dL_law_319 : decode cL_law 319 = .ok (.iaload, 1) := by decide +kernel
theorem dL_law_320 : decode cL_law 320 = .ok (.aload_n 0, 1) := by decide +kernel
theorem dL_law_321 : decode cL_law 321 = .ok (.iload_n 3, 1) := by decide +kernel
theorem dL_law_322 : decode cL_law 322 = .ok (.iconst 2, 1) := by decide +kernel
theorem dL_law_323 : decode cL_law 323 = .ok (.iadd, 1) := by decide +kernel
theorem dL_law_324 : decode cL_law 324 = .ok (.iaload, 1) := by decide +kernel
theorem dL_law_325 : decode cL_law 325 = .ok (.aload_n 0, 1) := by decide +kernel
theorem dL_law_326 : decode cL_law 326 = .ok (.iload_n 3, 1) := by decide +kernel
theorem dL_law_327 : decode cL_law 327 = .ok (.iconst 3, 1) := by decide +kernel
theorem dL_law_328 : decode cL_law 328 = .ok (.iadd, 1) := by decide +kernel
theorem dL_law_329 : decode cL_law 329 = .ok (.iaload, 1) := by decide +kernel
theorem dL_law_330 : decode cL_law 330 = .ok (.ifCond .eq 7, 3) := by decide +kernel
theorem dL_law_333 : decode cL_law 333 = .ok (.iconst 1, 1) := by decide +kernel
theorem dL_law_334 : decode cL_law 334 = .ok (.goto 4, 3) := by decide +kernel
theorem dL_law_337 : decode cL_law 337 = .ok (.iconst 0, 1) := by decide +kernel
theorem dL_law_338 : decode cL_law 338 = .ok (.invokevirtual 33, 3) := by decide +kernel
theorem dL_law_341 : decode cL_law 341 = .ok (.aload_n 2, 1) := by decide +kernel
theorem dL_law_342 : decode cL_law 342 = .ok (.aload_n 0, 1) := by decide +kernel
theorem dL_law_343 : decode cL_law 343 = .ok (.iload_n 3, 1) := by decide +kernel
theorem dL_law_344 : decode cL_law 344 = .ok (.iconst 1, 1) := by decide +kernel
theorem dL_law_345 : decode cL_law 345 = .ok (.iadd, 1) := by decide +kernel
theorem dL_law_346 : decode cL_law 346 = .ok (.iaload, 1) := by decide +kernel
theorem dL_law_347 : decode cL_law 347 = .ok (.aload_n 0, 1) := by decide +kernel
theorem dL_law_348 : decode cL_law 348 = .ok (.iload_n 3, 1) := by decide +kernel
theorem dL_law_349 : decode cL_law 349 = .ok (.iconst 2, 1) := by decide +kernel
theorem dL_law_350 : decode cL_law 350 = .ok (.iadd, 1) := by decide +kernel
theorem dL_law_351 : decode cL_law 351 = .ok (.iaload, 1) := by decide +kernel
theorem dL_law_352 : decode cL_law 352 = .ok (.aload_n 0, 1) := by decide +kernel
theorem dL_law_353 : decode cL_law 353 = .ok (.iload_n 3, 1) := by decide +kernel
theorem dL_law_354 : decode cL_law 354 = .ok (.iconst 3, 1) := by decide +kernel
theorem dL_law_355 : decode cL_law 355 = .ok (.iadd, 1) := by decide +kernel
theorem dL_law_356 : decode cL_law 356 = .ok (.iaload, 1) := by decide +kernel
theorem dL_law_357 : decode cL_law 357 = .ok (.ifCond .eq 7, 3) := by decide +kernel
theorem dL_law_360 : decode cL_law 360 = .ok (.iconst 1, 1) := by decide +kernel
theorem dL_law_361 : decode cL_law 361 = .ok (.goto 4, 3) := by decide +kernel
theorem dL_law_364 : decode cL_law 364 = .ok (.iconst 0, 1) := by decide +kernel
theorem dL_law_365 : decode cL_law 365 = .ok (.invokevirtual 37, 3) := by decide +kernel
theorem dL_law_368 : decode cL_law 368 = .ok (.if_icmp .eq 691, 3) := by decide +kernel
theorem dL_law_371 : decode cL_law 371 = .ok (.iconst 0, 1) := by decide +kernel
theorem dL_law_372 : decode cL_law 372 = .ok (.ireturn, 1) := by decide +kernel
theorem dL_law_373 : decode cL_law 373 = .ok (.aload_n 1, 1) := by decide +kernel
theorem dL_law_374 : decode cL_law 374 = .ok (.aload_n 0, 1) := by decide +kernel
theorem dL_law_375 : decode cL_law 375 = .ok (.iload_n 3, 1) := by decide +kernel
theorem dL_law_376 : decode cL_law 376 = .ok (.iconst 1, 1) := by decide +kernel
theorem dL_law_377 : decode cL_law 377 = .ok (.iadd, 1) := by decide +kernel
theorem dL_law_378 : decode cL_law 378 = .ok (.iaload, 1) := by decide +kernel
theorem dL_law_379 : decode cL_law 379 = .ok (.aload_n 0, 1) := by decide +kernel
theorem dL_law_380 : decode cL_law 380 = .ok (.iload_n 3, 1) := by decide +kernel
theorem dL_law_381 : decode cL_law 381 = .ok (.iconst 2, 1) := by decide +kernel
theorem dL_law_382 : decode cL_law 382 = .ok (.iadd, 1) := by decide +kernel
theorem dL_law_383 : decode cL_law 383 = .ok (.iaload, 1) := by decide +kernel
theorem dL_law_384 : decode cL_law 384 = .ok (.aload_n 0, 1) := by decide +kernel
theorem dL_law_385 : decode cL_law 385 = .ok (.iload_n 3, 1) := by decide +kernel
theorem dL_law_386 : decode cL_law 386 = .ok (.iconst 3, 1) := by decide +kernel
theorem dL_law_387 : decode cL_law 387 = .ok (.iadd, 1) := by decide +kernel
theorem dL_law_388 : decode cL_law 388 = .ok (.iaload, 1) := by decide +kernel
theorem dL_law_389 : decode cL_law 389 = .ok (.aload_n 0, 1) := by decide +kernel
theorem dL_law_390 : decode cL_law 390 = .ok (.iload_n 3, 1) := by decide +kernel
theorem dL_law_391 : decode cL_law 391 = .ok (.iconst 4, 1) := by decide +kernel
theorem dL_law_392 : decode cL_law 392 = .ok (.iadd, 1) := by decide +kernel
theorem dL_law_393 : decode cL_law 393 = .ok (.iaload, 1) := by decide +kernel
theorem dL_law_394 : decode cL_law 394 = .ok (.aload_n 0, 1) := by decide +kernel
theorem dL_law_395 : decode cL_law 395 = .ok (.iload_n 3, 1) := by decide +kernel
theorem dL_law_396 : decode cL_law 396 = .ok (.iconst 5, 1) := by decide +kernel
theorem dL_law_397 : decode cL_law 397 = .ok (.iadd, 1) := by decide +kernel
theorem dL_law_398 : decode cL_law 398 = .ok (.iaload, 1) := by decide +kernel
theorem dL_law_399 : decode cL_law 399 = .ok (.invokevirtual 38, 3) := by decide +kernel
theorem dL_law_402 : decode cL_law 402 = .ok (.aload_n 2, 1) := by decide +kernel
theorem dL_law_403 : decode cL_law 403 = .ok (.aload_n 0, 1) := by decide +kernel
theorem dL_law_404 : decode cL_law 404 = .ok (.iload_n 3, 1) := by decide +kernel
theorem dL_law_405 : decode cL_law 405 = .ok (.iconst 1, 1) := by decide +kernel
theorem dL_law_406 : decode cL_law 406 = .ok (.iadd, 1) := by decide +kernel
theorem dL_law_407 : decode cL_law 407 = .ok (.iaload, 1) := by decide +kernel
theorem dL_law_408 : decode cL_law 408 = .ok (.aload_n 0, 1) := by decide +kernel
theorem dL_law_409 : decode cL_law 409 = .ok (.iload_n 3, 1) := by decide +kernel
theorem dL_law_410 : decode cL_law 410 = .ok (.iconst 2, 1) := by decide +kernel
theorem dL_law_411 : decode cL_law 411 = .ok (.iadd, 1) := by decide +kernel
theorem dL_law_412 : decode cL_law 412 = .ok (.iaload, 1) := by decide +kernel
theorem dL_law_413 : decode cL_law 413 = .ok (.aload_n 0, 1) := by decide +kernel
theorem dL_law_414 : decode cL_law 414 = .ok (.iload_n 3, 1) := by decide +kernel
theorem dL_law_415 : decode cL_law 415 = .ok (.iconst 3, 1) := by decide +kernel
theorem dL_law_416 : decode cL_law 416 = .ok (.iadd, 1) := by decide +kernel
theorem dL_law_417 : decode cL_law 417 = .ok (.iaload, 1) := by decide +kernel
theorem dL_law_418 : decode cL_law 418 = .ok (.aload_n 0, 1) := by decide +kernel
theorem dL_law_419 : decode cL_law 419 = .ok (.iload_n 3, 1) := by decide +kernel
theorem dL_law_420 : decode cL_law 420 = .ok (.iconst 4, 1) := by decide +kernel
theorem dL_law_421 : decode cL_law 421 = .ok (.iadd, 1) := by decide +kernel
theorem dL_law_422 : decode cL_law 422 = .ok (.iaload, 1) := by decide +kernel
theorem dL_law_423 : decode cL_law 423 = .ok (.aload_n 0, 1) := by decide +kernel
theorem dL_law_424 : decode cL_law 424 = .ok (.iload_n 3, 1) := by decide +kernel
theorem dL_law_425 : decode cL_law 425 = .ok (.iconst 5, 1) := by decide +kernel
theorem dL_law_426 : decode cL_law 426 = .ok (.iadd, 1) := by decide +kernel
theorem dL_law_427 : decode cL_law 427 = .ok (.iaload, 1) := by decide +kernel
theorem dL_law_428 : decode cL_law 428 = .ok (.invokevirtual 42, 3) := by decide +kernel
theorem dL_law_431 : decode cL_law 431 = .ok (.if_icmp .eq 628, 3) := by decide +kernel
theorem dL_law_434 : decode cL_law 434 = .ok (.iconst 0, 1) := by decide +kernel
theorem dL_law_435 : decode cL_law 435 = .ok (.ireturn, 1) := by decide +kernel
theorem dL_law_436 : decode cL_law 436 = .ok (.aload_n 1, 1) := by decide +kernel
theorem dL_law_437 : decode cL_law 437 = .ok (.aload_n 0, 1) := by decide +kernel
theorem dL_law_438 : decode cL_law 438 = .ok (.iload_n 3, 1) := by decide +kernel
theorem dL_law_439 : decode cL_law 439 = .ok (.iconst 1, 1) := by decide +kernel
theorem dL_law_440 : decode cL_law 440 = .ok (.iadd, 1) := by decide +kernel
theorem dL_law_441 : decode cL_law 441 = .ok (.iaload, 1) := by decide +kernel
theorem dL_law_442 : decode cL_law 442 = .ok (.invokevirtual 43, 3) := by decide +kernel
theorem dL_law_445 : decode cL_law 445 = .ok (.aload_n 2, 1) := by decide +kernel
theorem dL_law_446 : decode cL_law 446 = .ok (.aload_n 0, 1) := by decide +kernel
theorem dL_law_447 : decode cL_law 447 = .ok (.iload_n 3, 1) := by decide +kernel
theorem dL_law_448 : decode cL_law 448 = .ok (.iconst 1, 1) := by decide +kernel
theorem dL_law_449 : decode cL_law 449 = .ok (.iadd, 1) := by decide +kernel
theorem dL_law_450 : decode cL_law 450 = .ok (.iaload, 1) := by decide +kernel
theorem dL_law_451 : decode cL_law 451 = .ok (.invokevirtual 47, 3) := by decide +kernel
theorem dL_law_454 : decode cL_law 454 = .ok (.if_icmp .eq 605, 3) := by decide +kernel
theorem dL_law_457 : decode cL_law 457 = .ok (.iconst 0, 1) := by decide +kernel
theorem dL_law_458 : decode cL_law 458 = .ok (.ireturn, 1) := by decide +kernel
theorem dL_law_459 : decode cL_law 459 = .ok (.aload_n 1, 1) := by decide +kernel
theorem dL_law_460 : decode cL_law 460 = .ok (.invokevirtual 48, 3) := by decide +kernel
theorem dL_law_463 : decode cL_law 463 = .ok (.aload_n 2, 1) := by decide +kernel
theorem dL_law_464 : decode cL_law 464 = .ok (.invokevirtual 52, 3) := by decide +kernel
theorem dL_law_467 : decode cL_law 467 = .ok (.if_icmp .eq 592, 3) := by decide +kernel
theorem dL_law_470 : decode cL_law 470 = .ok (.iconst 0, 1) := by decide +kernel
theorem dL_law_471 : decode cL_law 471 = .ok (.ireturn, 1) := by decide +kernel
theorem dL_law_472 : decode cL_law 472 = .ok (.aload_n 1, 1) := by decide +kernel
theorem dL_law_473 : decode cL_law 473 = .ok (.aload_n 0, 1) := by decide +kernel
theorem dL_law_474 : decode cL_law 474 = .ok (.iload_n 3, 1) := by decide +kernel
theorem dL_law_475 : decode cL_law 475 = .ok (.iconst 1, 1) := by decide +kernel
theorem dL_law_476 : decode cL_law 476 = .ok (.iadd, 1) := by decide +kernel
theorem dL_law_477 : decode cL_law 477 = .ok (.iaload, 1) := by decide +kernel
theorem dL_law_478 : decode cL_law 478 = .ok (.invokevirtual 53, 3) := by decide +kernel
theorem dL_law_481 : decode cL_law 481 = .ok (.aload_n 2, 1) := by decide +kernel
theorem dL_law_482 : decode cL_law 482 = .ok (.aload_n 0, 1) := by decide +kernel
theorem dL_law_483 : decode cL_law 483 = .ok (.iload_n 3, 1) := by decide +kernel
theorem dL_law_484 : decode cL_law 484 = .ok (.iconst 1, 1) := by decide +kernel
theorem dL_law_485 : decode cL_law 485 = .ok (.iadd, 1) := by decide +kernel
theorem dL_law_486 : decode cL_law 486 = .ok (.iaload, 1) := by decide +kernel
theorem dL_law_487 : decode cL_law 487 = .ok (.invokevirtual 56, 3) := by decide +kernel
theorem dL_law_490 : decode cL_law 490 = .ok (.if_icmp .eq 569, 3) := by decide +kernel
theorem dL_law_493 : decode cL_law 493 = .ok (.iconst 0, 1) := by decide +kernel
theorem dL_law_494 : decode cL_law 494 = .ok (.ireturn, 1) := by decide +kernel
theorem dL_law_495 : decode cL_law 495 = .ok (.aload_n 1, 1) := by decide +kernel
theorem dL_law_496 : decode cL_law 496 = .ok (.aload_n 0, 1) := by decide +kernel
theorem dL_law_497 : decode cL_law 497 = .ok (.iload_n 3, 1) := by decide +kernel
theorem dL_law_498 : decode cL_law 498 = .ok (.iconst 1, 1) := by decide +kernel
theorem dL_law_499 : decode cL_law 499 = .ok (.iadd, 1) := by decide +kernel
theorem dL_law_500 : decode cL_law 500 = .ok (.iaload, 1) := by decide +kernel
theorem dL_law_501 : decode cL_law 501 = .ok (.aload_n 0, 1) := by decide +kernel
theorem dL_law_502 : decode cL_law 502 = .ok (.iload_n 3, 1) := by decide +kernel
theorem dL_law_503 : decode cL_law 503 = .ok (.iconst 2, 1) := by decide +kernel
theorem dL_law_504 : decode cL_law 504 = .ok (.iadd, 1) := by decide +kernel
theorem dL_law_505 : decode cL_law 505 = .ok (.iaload, 1) := by decide +kernel
theorem dL_law_506 : decode cL_law 506 = .ok (.aload_n 0, 1) := by decide +kernel
theorem dL_law_507 : decode cL_law 507 = .ok (.iload_n 3, 1) := by decide +kernel
theorem dL_law_508 : decode cL_law 508 = .ok (.iconst 3, 1) := by decide +kernel
theorem dL_law_509 : decode cL_law 509 = .ok (.iadd, 1) := by decide +kernel
theorem dL_law_510 : decode cL_law 510 = .ok (.iaload, 1) := by decide +kernel
theorem dL_law_511 : decode cL_law 511 = .ok (.invokevirtual 57, 3) := by decide +kernel
theorem dL_law_514 : decode cL_law 514 = .ok (.aload_n 2, 1) := by decide +kernel
theorem dL_law_515 : decode cL_law 515 = .ok (.aload_n 0, 1) := by decide +kernel
theorem dL_law_516 : decode cL_law 516 = .ok (.iload_n 3, 1) := by decide +kernel
theorem dL_law_517 : decode cL_law 517 = .ok (.iconst 1, 1) := by decide +kernel
theorem dL_law_518 : decode cL_law 518 = .ok (.iadd, 1) := by decide +kernel
theorem dL_law_519 : decode cL_law 519 = .ok (.iaload, 1) := by decide +kernel
theorem dL_law_520 : decode cL_law 520 = .ok (.aload_n 0, 1) := by decide +kernel
theorem dL_law_521 : decode cL_law 521 = .ok (.iload_n 3, 1) := by decide +kernel
theorem dL_law_522 : decode cL_law 522 = .ok (.iconst 2, 1) := by decide +kernel
theorem dL_law_523 : decode cL_law 523 = .ok (.iadd, 1) := by decide +kernel
theorem dL_law_524 : decode cL_law 524 = .ok (.iaload, 1) := by decide +kernel
theorem dL_law_525 : decode cL_law 525 = .ok (.aload_n 0, 1) := by decide +kernel
theorem dL_law_526 : decode cL_law 526 = .ok (.iload_n 3, 1) := by decide +kernel
theorem dL_law_527 : decode cL_law 527 = .ok (.iconst 3, 1) := by decide +kernel
theorem dL_law_528 : decode cL_law 528 = .ok (.iadd, 1) := by decide +kernel
theorem dL_law_529 : decode cL_law 529 = .ok (.iaload, 1) := by decide +kernel
theorem dL_law_530 : decode cL_law 530 = .ok (.invokevirtual 60, 3) := by decide +kernel
theorem dL_law_533 : decode cL_law 533 = .ok (.if_icmp .eq 526, 3) := by decide +kernel
theorem dL_law_536 : decode cL_law 536 = .ok (.iconst 0, 1) := by decide +kernel
theorem dL_law_537 : decode cL_law 537 = .ok (.ireturn, 1) := by decide +kernel
theorem dL_law_538 : decode cL_law 538 = .ok (.aload_n 1, 1) := by decide +kernel
theorem dL_law_539 : decode cL_law 539 = .ok (.aload_n 0, 1) := by decide +kernel
theorem dL_law_540 : decode cL_law 540 = .ok (.iload_n 3, 1) := by decide +kernel
theorem dL_law_541 : decode cL_law 541 = .ok (.iconst 1, 1) := by decide +kernel
theorem dL_law_542 : decode cL_law 542 = .ok (.iadd, 1) := by decide +kernel
theorem dL_law_543 : decode cL_law 543 = .ok (.iaload, 1) := by decide +kernel
theorem dL_law_544 : decode cL_law 544 = .ok (.aload_n 0, 1) := by decide +kernel
theorem dL_law_545 : decode cL_law 545 = .ok (.iload_n 3, 1) := by decide +kernel
theorem dL_law_546 : decode cL_law 546 = .ok (.iconst 2, 1) := by decide +kernel
theorem dL_law_547 : decode cL_law 547 = .ok (.iadd, 1) := by decide +kernel
theorem dL_law_548 : decode cL_law 548 = .ok (.iaload, 1) := by decide +kernel
theorem dL_law_549 : decode cL_law 549 = .ok (.aload_n 0, 1) := by decide +kernel
theorem dL_law_550 : decode cL_law 550 = .ok (.iload_n 3, 1) := by decide +kernel
theorem dL_law_551 : decode cL_law 551 = .ok (.iconst 3, 1) := by decide +kernel
theorem dL_law_552 : decode cL_law 552 = .ok (.iadd, 1) := by decide +kernel
theorem dL_law_553 : decode cL_law 553 = .ok (.iaload, 1) := by decide +kernel
theorem dL_law_554 : decode cL_law 554 = .ok (.aload_n 0, 1) := by decide +kernel
theorem dL_law_555 : decode cL_law 555 = .ok (.iload_n 3, 1) := by decide +kernel
theorem dL_law_556 : decode cL_law 556 = .ok (.iconst 4, 1) := by decide +kernel
theorem dL_law_557 : decode cL_law 557 = .ok (.iadd, 1) := by decide +kernel
theorem dL_law_558 : decode cL_law 558 = .ok (.iaload, 1) := by decide +kernel
theorem dL_law_559 : decode cL_law 559 = .ok (.aload_n 0, 1) := by decide +kernel
theorem dL_law_560 : decode cL_law 560 = .ok (.iload_n 3, 1) := by decide +kernel
theorem dL_law_561 : decode cL_law 561 = .ok (.iconst 5, 1) := by decide +kernel
theorem dL_law_562 : decode cL_law 562 = .ok (.iadd, 1) := by decide +kernel
theorem dL_law_563 : decode cL_law 563 = .ok (.iaload, 1) := by decide +kernel
theorem dL_law_564 : decode cL_law 564 = .ok (.invokevirtual 61, 3) := by decide +kernel
theorem dL_law_567 : decode cL_law 567 = .ok (.aload_n 2, 1) := by decide +kernel
theorem dL_law_568 : decode cL_law 568 = .ok (.aload_n 0, 1) := by decide +kernel
theorem dL_law_569 : decode cL_law 569 = .ok (.iload_n 3, 1) := by decide +kernel
theorem dL_law_570 : decode cL_law 570 = .ok (.iconst 1, 1) := by decide +kernel
theorem dL_law_571 : decode cL_law 571 = .ok (.iadd, 1) := by decide +kernel
theorem dL_law_572 : decode cL_law 572 = .ok (.iaload, 1) := by decide +kernel
theorem dL_law_573 : decode cL_law 573 = .ok (.aload_n 0, 1) := by decide +kernel
theorem dL_law_574 : decode cL_law 574 = .ok (.iload_n 3, 1) := by decide +kernel
theorem dL_law_575 : decode cL_law 575 = .ok (.iconst 2, 1) := by decide +kernel
theorem dL_law_576 : decode cL_law 576 = .ok (.iadd, 1) := by decide +kernel
theorem dL_law_577 : decode cL_law 577 = .ok (.iaload, 1) := by decide +kernel
theorem dL_law_578 : decode cL_law 578 = .ok (.aload_n 0, 1) := by decide +kernel
theorem dL_law_579 : decode cL_law 579 = .ok (.iload_n 3, 1) := by decide +kernel
theorem dL_law_580 : decode cL_law 580 = .ok (.iconst 3, 1) := by decide +kernel
theorem dL_law_581 : decode cL_law 581 = .ok (.iadd, 1) := by decide +kernel
theorem dL_law_582 : decode cL_law 582 = .ok (.iaload, 1) := by decide +kernel
theorem dL_law_583 : decode cL_law 583 = .ok (.aload_n 0, 1) := by decide +kernel
theorem dL_law_584 : decode cL_law 584 = .ok (.iload_n 3, 1) := by decide +kernel
theorem dL_law_585 : decode cL_law 585 = .ok (.iconst 4, 1) := by decide +kernel
theorem dL_law_586 : decode cL_law 586 = .ok (.iadd, 1) := by decide +kernel
theorem dL_law_587 : decode cL_law 587 = .ok (.iaload, 1) := by decide +kernel
theorem dL_law_588 : decode cL_law 588 = .ok (.aload_n 0, 1) := by decide +kernel
theorem dL_law_589 : decode cL_law 589 = .ok (.iload_n 3, 1) := by decide +kernel
theorem dL_law_590 : decode cL_law 590 = .ok (.iconst 5, 1) := by decide +kernel
theorem dL_law_591 : decode cL_law 591 = .ok (.iadd, 1) := by decide +kernel
theorem dL_law_592 : decode cL_law 592 = .ok (.iaload, 1) := by decide +kernel
theorem dL_law_593 : decode cL_law 593 = .ok (.invokevirtual 65, 3) := by decide +kernel
theorem dL_law_596 : decode cL_law 596 = .ok (.if_icmp .eq 463, 3) := by decide +kernel
theorem dL_law_599 : decode cL_law 599 = .ok (.iconst 0, 1) := by decide +kernel
theorem dL_law_600 : decode cL_law 600 = .ok (.ireturn, 1) := by decide +kernel
theorem dL_law_601 : decode cL_law 601 = .ok (.aload_n 1, 1) := by decide +kernel
theorem dL_law_602 : decode cL_law 602 = .ok (.invokevirtual 66, 3) := by decide +kernel
theorem dL_law_605 : decode cL_law 605 = .ok (.aload_n 2, 1) := by decide +kernel
theorem dL_law_606 : decode cL_law 606 = .ok (.invokevirtual 69, 3) := by decide +kernel
theorem dL_law_609 : decode cL_law 609 = .ok (.if_icmp .eq 450, 3) := by decide +kernel
theorem dL_law_612 : decode cL_law 612 = .ok (.iconst 0, 1) := by decide +kernel
theorem dL_law_613 : decode cL_law 613 = .ok (.ireturn, 1) := by decide +kernel
theorem dL_law_614 : decode cL_law 614 = .ok (.aload_n 1, 1) := by decide +kernel
theorem dL_law_615 : decode cL_law 615 = .ok (.invokevirtual 70, 3) := by decide +kernel
theorem dL_law_618 : decode cL_law 618 = .ok (.aload_n 2, 1) := by decide +kernel
theorem dL_law_619 : decode cL_law 619 = .ok (.invokevirtual 73, 3) := by decide +kernel
theorem dL_law_622 : decode cL_law 622 = .ok (.if_icmp .eq 437, 3) := by decide +kernel
theorem dL_law_625 : decode cL_law 625 = .ok (.iconst 0, 1) := by decide +kernel
theorem dL_law_626 : decode cL_law 626 = .ok (.ireturn, 1) := by decide +kernel
theorem dL_law_627 : decode cL_law 627 = .ok (.aload_n 1, 1) := by decide +kernel
theorem dL_law_628 : decode cL_law 628 = .ok (.aload_n 0, 1) := by decide +kernel
theorem dL_law_629 : decode cL_law 629 = .ok (.iload_n 3, 1) := by decide +kernel
theorem dL_law_630 : decode cL_law 630 = .ok (.iconst 1, 1) := by decide +kernel
theorem dL_law_631 : decode cL_law 631 = .ok (.iadd, 1) := by decide +kernel
theorem dL_law_632 : decode cL_law 632 = .ok (.iaload, 1) := by decide +kernel
theorem dL_law_633 : decode cL_law 633 = .ok (.invokevirtual 74, 3) := by decide +kernel
theorem dL_law_636 : decode cL_law 636 = .ok (.aload_n 2, 1) := by decide +kernel
theorem dL_law_637 : decode cL_law 637 = .ok (.aload_n 0, 1) := by decide +kernel
theorem dL_law_638 : decode cL_law 638 = .ok (.iload_n 3, 1) := by decide +kernel
theorem dL_law_639 : decode cL_law 639 = .ok (.iconst 1, 1) := by decide +kernel
theorem dL_law_640 : decode cL_law 640 = .ok (.iadd, 1) := by decide +kernel
theorem dL_law_641 : decode cL_law 641 = .ok (.iaload, 1) := by decide +kernel
theorem dL_law_642 : decode cL_law 642 = .ok (.invokevirtual 77, 3) := by decide +kernel
theorem dL_law_645 : decode cL_law 645 = .ok (.if_icmp .eq 414, 3) := by decide +kernel
theorem dL_law_648 : decode cL_law 648 = .ok (.iconst 0, 1) := by decide +kernel
theorem dL_law_649 : decode cL_law 649 = .ok (.ireturn, 1) := by decide +kernel
theorem dL_law_650 : decode cL_law 650 = .ok (.aload_n 1, 1) := by decide +kernel
theorem dL_law_651 : decode cL_law 651 = .ok (.invokevirtual 78, 3) := by decide +kernel
theorem dL_law_654 : decode cL_law 654 = .ok (.aload_n 2, 1) := by decide +kernel
theorem dL_law_655 : decode cL_law 655 = .ok (.invokevirtual 81, 3) := by decide +kernel
theorem dL_law_658 : decode cL_law 658 = .ok (.if_icmp .eq 401, 3) := by decide +kernel
theorem dL_law_661 : decode cL_law 661 = .ok (.iconst 0, 1) := by decide +kernel
theorem dL_law_662 : decode cL_law 662 = .ok (.ireturn, 1) := by decide +kernel
theorem dL_law_663 : decode cL_law 663 = .ok (.aload_n 1, 1) := by decide +kernel
theorem dL_law_664 : decode cL_law 664 = .ok (.aload_n 0, 1) := by decide +kernel
theorem dL_law_665 : decode cL_law 665 = .ok (.iload_n 3, 1) := by decide +kernel
theorem dL_law_666 : decode cL_law 666 = .ok (.iconst 1, 1) := by decide +kernel
theorem dL_law_667 : decode cL_law 667 = .ok (.iadd, 1) := by decide +kernel
theorem dL_law_668 : decode cL_law 668 = .ok (.iaload, 1) := by decide +kernel
theorem dL_law_669 : decode cL_law 669 = .ok (.aload_n 0, 1) := by decide +kernel
theorem dL_law_670 : decode cL_law 670 = .ok (.iload_n 3, 1) := by decide +kernel
theorem dL_law_671 : decode cL_law 671 = .ok (.iconst 2, 1) := by decide +kernel
theorem dL_law_672 : decode cL_law 672 = .ok (.iadd, 1) := by decide +kernel
theorem dL_law_673 : decode cL_law 673 = .ok (.iaload, 1) := by decide +kernel
theorem dL_law_674 : decode cL_law 674 = .ok (.aload_n 0, 1) := by decide +kernel
theorem dL_law_675 : decode cL_law 675 = .ok (.iload_n 3, 1) := by decide +kernel
theorem dL_law_676 : decode cL_law 676 = .ok (.iconst 3, 1) := by decide +kernel
theorem dL_law_677 : decode cL_law 677 = .ok (.iadd, 1) := by decide +kernel
theorem dL_law_678 : decode cL_law 678 = .ok (.iaload, 1) := by decide +kernel
theorem dL_law_679 : decode cL_law 679 = .ok (.invokevirtual 82, 3) := by decide +kernel
theorem dL_law_682 : decode cL_law 682 = .ok (.aload_n 2, 1) := by decide +kernel
theorem dL_law_683 : decode cL_law 683 = .ok (.aload_n 0, 1) := by decide +kernel
theorem dL_law_684 : decode cL_law 684 = .ok (.iload_n 3, 1) := by decide +kernel
theorem dL_law_685 : decode cL_law 685 = .ok (.iconst 1, 1) := by decide +kernel
theorem dL_law_686 : decode cL_law 686 = .ok (.iadd, 1) := by decide +kernel
theorem dL_law_687 : decode cL_law 687 = .ok (.iaload, 1) := by decide +kernel
theorem dL_law_688 : decode cL_law 688 = .ok (.aload_n 0, 1) := by decide +kernel
theorem dL_law_689 : decode cL_law 689 = .ok (.iload_n 3, 1) := by decide +kernel
theorem dL_law_690 : decode cL_law 690 = .ok (.iconst 2, 1) := by decide +kernel
theorem dL_law_691 : decode cL_law 691 = .ok (.iadd, 1) := by decide +kernel
theorem dL_law_692 : decode cL_law 692 = .ok (.iaload, 1) := by decide +kernel
theorem dL_law_693 : decode cL_law 693 = .ok (.aload_n 0, 1) := by decide +kernel
theorem dL_law_694 : decode cL_law 694 = .ok (.iload_n 3, 1) := by decide +kernel
theorem dL_law_695 : decode cL_law 695 = .ok (.iconst 3, 1) := by decide +kernel
theorem dL_law_696 : decode cL_law 696 = .ok (.iadd, 1) := by decide +kernel
theorem dL_law_697 : decode cL_law 697 = .ok (.iaload, 1) := by decide +kernel
theorem dL_law_698 : decode cL_law 698 = .ok (.invokevirtual 86, 3) := by decide +kernel
theorem dL_law_701 : decode cL_law 701 = .ok (.if_icmp .eq 358, 3) := by decide +kernel
theorem dL_law_704 : decode cL_law 704 = .ok (.iconst 0, 1) := by decide +kernel
theorem dL_law_705 : decode cL_law 705 = .ok (.ireturn, 1) := by decide +kernel
theorem dL_law_706 : decode cL_law 706 = .ok (.aload_n 1, 1) := by decide +kernel
theorem dL_law_707 : decode cL_law 707 = .ok (.aload_n 0, 1) := by decide +kernel
theorem dL_law_708 : decode cL_law 708 = .ok (.iload_n 3, 1) := by decide +kernel
theorem dL_law_709 : decode cL_law 709 = .ok (.iconst 1, 1) := by decide +kernel
theorem dL_law_710 : decode cL_law 710 = .ok (.iadd, 1) := by decide +kernel
theorem dL_law_711 : decode cL_law 711 = .ok (.iaload, 1) := by decide +kernel
theorem dL_law_712 : decode cL_law 712 = .ok (.aload_n 0, 1) := by decide +kernel
theorem dL_law_713 : decode cL_law 713 = .ok (.iload_n 3, 1) := by decide +kernel
theorem dL_law_714 : decode cL_law 714 = .ok (.iconst 2, 1) := by decide +kernel
theorem dL_law_715 : decode cL_law 715 = .ok (.iadd, 1) := by decide +kernel
theorem dL_law_716 : decode cL_law 716 = .ok (.iaload, 1) := by decide +kernel
theorem dL_law_717 : decode cL_law 717 = .ok (.aload_n 0, 1) := by decide +kernel
theorem dL_law_718 : decode cL_law 718 = .ok (.iload_n 3, 1) := by decide +kernel
theorem dL_law_719 : decode cL_law 719 = .ok (.iconst 3, 1) := by decide +kernel
theorem dL_law_720 : decode cL_law 720 = .ok (.iadd, 1) := by decide +kernel
theorem dL_law_721 : decode cL_law 721 = .ok (.iaload, 1) := by decide +kernel
theorem dL_law_722 : decode cL_law 722 = .ok (.invokevirtual 87, 3) := by decide +kernel
theorem dL_law_725 : decode cL_law 725 = .ok (.aload_n 2, 1) := by decide +kernel
theorem dL_law_726 : decode cL_law 726 = .ok (.aload_n 0, 1) := by decide +kernel
theorem dL_law_727 : decode cL_law 727 = .ok (.iload_n 3, 1) := by decide +kernel
theorem dL_law_728 : decode cL_law 728 = .ok (.iconst 1, 1) := by decide +kernel
theorem dL_law_729 : decode cL_law 729 = .ok (.iadd, 1) := by decide +kernel
theorem dL_law_730 : decode cL_law 730 = .ok (.iaload, 1) := by decide +kernel
theorem dL_law_731 : decode cL_law 731 = .ok (.aload_n 0, 1) := by decide +kernel
theorem dL_law_732 : decode cL_law 732 = .ok (.iload_n 3, 1) := by decide +kernel
theorem dL_law_733 : decode cL_law 733 = .ok (.iconst 2, 1) := by decide +kernel
theorem dL_law_734 : decode cL_law 734 = .ok (.iadd, 1) := by decide +kernel
theorem dL_law_735 : decode cL_law 735 = .ok (.iaload, 1) := by decide +kernel
theorem dL_law_736 : decode cL_law 736 = .ok (.aload_n 0, 1) := by decide +kernel
theorem dL_law_737 : decode cL_law 737 = .ok (.iload_n 3, 1) := by decide +kernel
theorem dL_law_738 : decode cL_law 738 = .ok (.iconst 3, 1) := by decide +kernel
theorem dL_law_739 : decode cL_law 739 = .ok (.iadd, 1) := by decide +kernel
theorem dL_law_740 : decode cL_law 740 = .ok (.iaload, 1) := by decide +kernel
theorem dL_law_741 : decode cL_law 741 = .ok (.invokevirtual 90, 3) := by decide +kernel
theorem dL_law_744 : decode cL_law 744 = .ok (.if_icmp .eq 315, 3) := by decide +kernel
theorem dL_law_747 : decode cL_law 747 = .ok (.iconst 0, 1) := by decide +kernel
theorem dL_law_748 : decode cL_law 748 = .ok (.ireturn, 1) := by decide +kernel
theorem dL_law_749 : decode cL_law 749 = .ok (.aload_n 1, 1) := by decide +kernel
theorem dL_law_750 : decode cL_law 750 = .ok (.aload_n 0, 1) := by decide +kernel
theorem dL_law_751 : decode cL_law 751 = .ok (.iload_n 3, 1) := by decide +kernel
theorem dL_law_752 : decode cL_law 752 = .ok (.iconst 1, 1) := by decide +kernel
theorem dL_law_753 : decode cL_law 753 = .ok (.iadd, 1) := by decide +kernel
theorem dL_law_754 : decode cL_law 754 = .ok (.iaload, 1) := by decide +kernel
theorem dL_law_755 : decode cL_law 755 = .ok (.aload_n 0, 1) := by decide +kernel
theorem dL_law_756 : decode cL_law 756 = .ok (.iload_n 3, 1) := by decide +kernel
theorem dL_law_757 : decode cL_law 757 = .ok (.iconst 2, 1) := by decide +kernel
theorem dL_law_758 : decode cL_law 758 = .ok (.iadd, 1) := by decide +kernel
theorem dL_law_759 : decode cL_law 759 = .ok (.iaload, 1) := by decide +kernel
theorem dL_law_760 : decode cL_law 760 = .ok (.invokevirtual 91, 3) := by decide +kernel
theorem dL_law_763 : decode cL_law 763 = .ok (.aload_n 2, 1) := by decide +kernel
theorem dL_law_764 : decode cL_law 764 = .ok (.aload_n 0, 1) := by decide +kernel
theorem dL_law_765 : decode cL_law 765 = .ok (.iload_n 3, 1) := by decide +kernel
theorem dL_law_766 : decode cL_law 766 = .ok (.iconst 1, 1) := by decide +kernel
theorem dL_law_767 : decode cL_law 767 = .ok (.iadd, 1) := by decide +kernel
theorem dL_law_768 : decode cL_law 768 = .ok (.iaload, 1) := by decide +kernel
theorem dL_law_769 : decode cL_law 769 = .ok (.aload_n 0, 1) := by decide +kernel
theorem dL_law_770 : decode cL_law 770 = .ok (.iload_n 3, 1) := by decide +kernel
theorem dL_law_771 : decode cL_law 771 = .ok (.iconst 2, 1) := by decide +kernel
theorem dL_law_772 : decode cL_law 772 = .ok (.iadd, 1) := by decide +kernel
theorem dL_law_773 : decode cL_law 773 = .ok (.iaload, 1) := by decide +kernel
theorem dL_law_774 : decode cL_law 774 = .ok (.invokevirtual 94, 3) := by decide +kernel
theorem dL_law_777 : decode cL_law 777 = .ok (.if_icmp .eq 282, 3) := by decide +kernel
theorem dL_law_780 : decode cL_law 780 = .ok (.iconst 0, 1) := by decide +kernel
theorem dL_law_781 : decode cL_law 781 = .ok (.ireturn, 1) := by decide +kernel
theorem dL_law_782 : decode cL_law 782 = .ok (.aload_n 1, 1) := by decide +kernel
theorem dL_law_783 : decode cL_law 783 = .ok (.aload_n 0, 1) := by decide +kernel
theorem dL_law_784 : decode cL_law 784 = .ok (.iload_n 3, 1) := by decide +kernel
theorem dL_law_785 : decode cL_law 785 = .ok (.iconst 1, 1) := by decide +kernel
theorem dL_law_786 : decode cL_law 786 = .ok (.iadd, 1) := by decide +kernel
theorem dL_law_787 : decode cL_law 787 = .ok (.iaload, 1) := by decide +kernel
theorem dL_law_788 : decode cL_law 788 = .ok (.aload_n 0, 1) := by decide +kernel
theorem dL_law_789 : decode cL_law 789 = .ok (.iload_n 3, 1) := by decide +kernel
theorem dL_law_790 : decode cL_law 790 = .ok (.iconst 2, 1) := by decide +kernel
theorem dL_law_791 : decode cL_law 791 = .ok (.iadd, 1) := by decide +kernel
theorem dL_law_792 : decode cL_law 792 = .ok (.iaload, 1) := by decide +kernel
theorem dL_law_793 : decode cL_law 793 = .ok (.invokevirtual 95, 3) := by decide +kernel
theorem dL_law_796 : decode cL_law 796 = .ok (.aload_n 2, 1) := by decide +kernel
theorem dL_law_797 : decode cL_law 797 = .ok (.aload_n 0, 1) := by decide +kernel
theorem dL_law_798 : decode cL_law 798 = .ok (.iload_n 3, 1) := by decide +kernel
theorem dL_law_799 : decode cL_law 799 = .ok (.iconst 1, 1) := by decide +kernel
theorem dL_law_800 : decode cL_law 800 = .ok (.iadd, 1) := by decide +kernel
theorem dL_law_801 : decode cL_law 801 = .ok (.iaload, 1) := by decide +kernel
theorem dL_law_802 : decode cL_law 802 = .ok (.aload_n 0, 1) := by decide +kernel
theorem dL_law_803 : decode cL_law 803 = .ok (.iload_n 3, 1) := by decide +kernel
theorem dL_law_804 : decode cL_law 804 = .ok (.iconst 2, 1) := by decide +kernel
theorem dL_law_805 : decode cL_law 805 = .ok (.iadd, 1) := by decide +kernel
theorem dL_law_806 : decode cL_law 806 = .ok (.iaload, 1) := by decide +kernel
theorem dL_law_807 : decode cL_law 807 = .ok (.invokevirtual 98, 3) := by decide +kernel
theorem dL_law_810 : decode cL_law 810 = .ok (.if_icmp .eq 249, 3) := by decide +kernel
theorem dL_law_813 : decode cL_law 813 = .ok (.iconst 0, 1) := by decide +kernel
theorem dL_law_814 : decode cL_law 814 = .ok (.ireturn, 1) := by decide +kernel
theorem dL_law_815 : decode cL_law 815 = .ok (.aload_n 1, 1) := by decide +kernel
theorem dL_law_816 : decode cL_law 816 = .ok (.invokevirtual 99, 3) := by decide +kernel
theorem dL_law_819 : decode cL_law 819 = .ok (.aload_n 2, 1) := by decide +kernel
theorem dL_law_820 : decode cL_law 820 = .ok (.invokevirtual 102, 3) := by decide +kernel
theorem dL_law_823 : decode cL_law 823 = .ok (.if_icmp .eq 236, 3) := by decide +kernel
theorem dL_law_826 : decode cL_law 826 = .ok (.iconst 0, 1) := by decide +kernel
theorem dL_law_827 : decode cL_law 827 = .ok (.ireturn, 1) := by decide +kernel
theorem dL_law_828 : decode cL_law 828 = .ok (.aload_n 1, 1) := by decide +kernel
theorem dL_law_829 : decode cL_law 829 = .ok (.aload_n 0, 1) := by decide +kernel
theorem dL_law_830 : decode cL_law 830 = .ok (.iload_n 3, 1) := by decide +kernel
theorem dL_law_831 : decode cL_law 831 = .ok (.iconst 1, 1) := by decide +kernel
theorem dL_law_832 : decode cL_law 832 = .ok (.iadd, 1) := by decide +kernel
theorem dL_law_833 : decode cL_law 833 = .ok (.iaload, 1) := by decide +kernel
theorem dL_law_834 : decode cL_law 834 = .ok (.aload_n 0, 1) := by decide +kernel
theorem dL_law_835 : decode cL_law 835 = .ok (.iload_n 3, 1) := by decide +kernel
theorem dL_law_836 : decode cL_law 836 = .ok (.iconst 2, 1) := by decide +kernel
theorem dL_law_837 : decode cL_law 837 = .ok (.iadd, 1) := by decide +kernel
theorem dL_law_838 : decode cL_law 838 = .ok (.iaload, 1) := by decide +kernel
theorem dL_law_839 : decode cL_law 839 = .ok (.invokevirtual 103, 3) := by decide +kernel
theorem dL_law_842 : decode cL_law 842 = .ok (.aload_n 2, 1) := by decide +kernel
theorem dL_law_843 : decode cL_law 843 = .ok (.aload_n 0, 1) := by decide +kernel
theorem dL_law_844 : decode cL_law 844 = .ok (.iload_n 3, 1) := by decide +kernel
theorem dL_law_845 : decode cL_law 845 = .ok (.iconst 1, 1) := by decide +kernel
theorem dL_law_846 : decode cL_law 846 = .ok (.iadd, 1) := by decide +kernel
theorem dL_law_847 : decode cL_law 847 = .ok (.iaload, 1) := by decide +kernel
theorem dL_law_848 : decode cL_law 848 = .ok (.aload_n 0, 1) := by decide +kernel
theorem dL_law_849 : decode cL_law 849 = .ok (.iload_n 3, 1) := by decide +kernel
theorem dL_law_850 : decode cL_law 850 = .ok (.iconst 2, 1) := by decide +kernel
theorem dL_law_851 : decode cL_law 851 = .ok (.iadd, 1) := by decide +kernel
theorem dL_law_852 : decode cL_law 852 = .ok (.iaload, 1) := by decide +kernel
theorem dL_law_853 : decode cL_law 853 = .ok (.invokevirtual 106, 3) := by decide +kernel
theorem dL_law_856 : decode cL_law 856 = .ok (.if_icmp .eq 203, 3) := by decide +kernel
theorem dL_law_859 : decode cL_law 859 = .ok (.iconst 0, 1) := by decide +kernel
theorem dL_law_860 : decode cL_law 860 = .ok (.ireturn, 1) := by decide +kernel
theorem dL_law_861 : decode cL_law 861 = .ok (.aload_n 1, 1) := by decide +kernel
theorem dL_law_862 : decode cL_law 862 = .ok (.aload_n 0, 1) := by decide +kernel
theorem dL_law_863 : decode cL_law 863 = .ok (.iload_n 3, 1) := by decide +kernel
theorem dL_law_864 : decode cL_law 864 = .ok (.iconst 1, 1) := by decide +kernel
theorem dL_law_865 : decode cL_law 865 = .ok (.iadd, 1) := by decide +kernel
theorem dL_law_866 : decode cL_law 866 = .ok (.iaload, 1) := by decide +kernel
theorem dL_law_867 : decode cL_law 867 = .ok (.invokevirtual 107, 3) := by decide +kernel
theorem dL_law_870 : decode cL_law 870 = .ok (.aload_n 2, 1) := by decide +kernel
theorem dL_law_871 : decode cL_law 871 = .ok (.aload_n 0, 1) := by decide +kernel
theorem dL_law_872 : decode cL_law 872 = .ok (.iload_n 3, 1) := by decide +kernel
theorem dL_law_873 : decode cL_law 873 = .ok (.iconst 1, 1) := by decide +kernel
theorem dL_law_874 : decode cL_law 874 = .ok (.iadd, 1) := by decide +kernel
theorem dL_law_875 : decode cL_law 875 = .ok (.iaload, 1) := by decide +kernel
theorem dL_law_876 : decode cL_law 876 = .ok (.invokevirtual 110, 3) := by decide +kernel
theorem dL_law_879 : decode cL_law 879 = .ok (.if_icmp .eq 180, 3) := by decide +kernel
theorem dL_law_882 : decode cL_law 882 = .ok (.iconst 0, 1) := by decide +kernel
theorem dL_law_883 : decode cL_law 883 = .ok (.ireturn, 1) := by decide +kernel
theorem dL_law_884 : decode cL_law 884 = .ok (.aload_n 1, 1) := by decide +kernel
theorem dL_law_885 : decode cL_law 885 = .ok (.aload_n 0, 1) := by decide +kernel
theorem dL_law_886 : decode cL_law 886 = .ok (.iload_n 3, 1) := by decide +kernel
theorem dL_law_887 : decode cL_law 887 = .ok (.iconst 1, 1) := by decide +kernel
theorem dL_law_888 : decode cL_law 888 = .ok (.iadd, 1) := by decide +kernel
theorem dL_law_889 : decode cL_law 889 = .ok (.iaload, 1) := by decide +kernel
theorem dL_law_890 : decode cL_law 890 = .ok (.aload_n 0, 1) := by decide +kernel
theorem dL_law_891 : decode cL_law 891 = .ok (.iload_n 3, 1) := by decide +kernel
theorem dL_law_892 : decode cL_law 892 = .ok (.iconst 2, 1) := by decide +kernel
theorem dL_law_893 : decode cL_law 893 = .ok (.iadd, 1) := by decide +kernel
theorem dL_law_894 : decode cL_law 894 = .ok (.iaload, 1) := by decide +kernel
theorem dL_law_895 : decode cL_law 895 = .ok (.aload_n 0, 1) := by decide +kernel
theorem dL_law_896 : decode cL_law 896 = .ok (.iload_n 3, 1) := by decide +kernel
theorem dL_law_897 : decode cL_law 897 = .ok (.iconst 3, 1) := by decide +kernel
theorem dL_law_898 : decode cL_law 898 = .ok (.iadd, 1) := by decide +kernel
theorem dL_law_899 : decode cL_law 899 = .ok (.iaload, 1) := by decide +kernel
theorem dL_law_900 : decode cL_law 900 = .ok (.invokevirtual 111, 3) := by decide +kernel
theorem dL_law_903 : decode cL_law 903 = .ok (.aload_n 2, 1) := by decide +kernel
theorem dL_law_904 : decode cL_law 904 = .ok (.aload_n 0, 1) := by decide +kernel
theorem dL_law_905 : decode cL_law 905 = .ok (.iload_n 3, 1) := by decide +kernel
theorem dL_law_906 : decode cL_law 906 = .ok (.iconst 1, 1) := by decide +kernel
theorem dL_law_907 : decode cL_law 907 = .ok (.iadd, 1) := by decide +kernel
theorem dL_law_908 : decode cL_law 908 = .ok (.iaload, 1) := by decide +kernel
theorem dL_law_909 : decode cL_law 909 = .ok (.aload_n 0, 1) := by decide +kernel
theorem dL_law_910 : decode cL_law 910 = .ok (.iload_n 3, 1) := by decide +kernel
theorem dL_law_911 : decode cL_law 911 = .ok (.iconst 2, 1) := by decide +kernel
theorem dL_law_912 : decode cL_law 912 = .ok (.iadd, 1) := by decide +kernel
theorem dL_law_913 : decode cL_law 913 = .ok (.iaload, 1) := by decide +kernel
theorem dL_law_914 : decode cL_law 914 = .ok (.aload_n 0, 1) := by decide +kernel
theorem dL_law_915 : decode cL_law 915 = .ok (.iload_n 3, 1) := by decide +kernel
theorem dL_law_916 : decode cL_law 916 = .ok (.iconst 3, 1) := by decide +kernel
theorem dL_law_917 : decode cL_law 917 = .ok (.iadd, 1) := by decide +kernel
theorem dL_law_918 : decode cL_law 918 = .ok (.iaload, 1) := by decide +kernel
theorem dL_law_919 : decode cL_law 919 = .ok (.invokevirtual 114, 3) := by decide +kernel
theorem dL_law_922 : decode cL_law 922 = .ok (.if_icmp .eq 137, 3) := by decide +kernel
theorem dL_law_925 : decode cL_law 925 = .ok (.iconst 0, 1) := by decide +kernel
theorem dL_law_926 : decode cL_law 926 = .ok (.ireturn, 1) := by decide +kernel
theorem dL_law_927 : decode cL_law 927 = .ok (.aload_n 1, 1) := by decide +kernel
theorem dL_law_928 : decode cL_law 928 = .ok (.aload_n 0, 1) := by decide +kernel
theorem dL_law_929 : decode cL_law 929 = .ok (.iload_n 3, 1) := by decide +kernel
theorem dL_law_930 : decode cL_law 930 = .ok (.iconst 1, 1) := by decide +kernel
theorem dL_law_931 : decode cL_law 931 = .ok (.iadd, 1) := by decide +kernel
theorem dL_law_932 : decode cL_law 932 = .ok (.iaload, 1) := by decide +kernel
theorem dL_law_933 : decode cL_law 933 = .ok (.aload_n 0, 1) := by decide +kernel
theorem dL_law_934 : decode cL_law 934 = .ok (.iload_n 3, 1) := by decide +kernel
theorem dL_law_935 : decode cL_law 935 = .ok (.iconst 2, 1) := by decide +kernel
theorem dL_law_936 : decode cL_law 936 = .ok (.iadd, 1) := by decide +kernel
theorem dL_law_937 : decode cL_law 937 = .ok (.iaload, 1) := by decide +kernel
theorem dL_law_938 : decode cL_law 938 = .ok (.invokevirtual 115, 3) := by decide +kernel
theorem dL_law_941 : decode cL_law 941 = .ok (.aload_n 2, 1) := by decide +kernel
theorem dL_law_942 : decode cL_law 942 = .ok (.aload_n 0, 1) := by decide +kernel
theorem dL_law_943 : decode cL_law 943 = .ok (.iload_n 3, 1) := by decide +kernel
theorem dL_law_944 : decode cL_law 944 = .ok (.iconst 1, 1) := by decide +kernel
theorem dL_law_945 : decode cL_law 945 = .ok (.iadd, 1) := by decide +kernel
theorem dL_law_946 : decode cL_law 946 = .ok (.iaload, 1) := by decide +kernel
theorem dL_law_947 : decode cL_law 947 = .ok (.aload_n 0, 1) := by decide +kernel
theorem dL_law_948 : decode cL_law 948 = .ok (.iload_n 3, 1) := by decide +kernel
theorem dL_law_949 : decode cL_law 949 = .ok (.iconst 2, 1) := by decide +kernel
theorem dL_law_950 : decode cL_law 950 = .ok (.iadd, 1) := by decide +kernel
theorem dL_law_951 : decode cL_law 951 = .ok (.iaload, 1) := by decide +kernel
theorem dL_law_952 : decode cL_law 952 = .ok (.invokevirtual 118, 3) := by decide +kernel
theorem dL_law_955 : decode cL_law 955 = .ok (.if_icmp .eq 104, 3) := by decide +kernel
theorem dL_law_958 : decode cL_law 958 = .ok (.iconst 0, 1) := by decide +kernel
theorem dL_law_959 : decode cL_law 959 = .ok (.ireturn, 1) := by decide +kernel
theorem dL_law_960 : decode cL_law 960 = .ok (.aload_n 1, 1) := by decide +kernel
theorem dL_law_961 : decode cL_law 961 = .ok (.aload_n 0, 1) := by decide +kernel
theorem dL_law_962 : decode cL_law 962 = .ok (.iload_n 3, 1) := by decide +kernel
theorem dL_law_963 : decode cL_law 963 = .ok (.iconst 1, 1) := by decide +kernel
theorem dL_law_964 : decode cL_law 964 = .ok (.iadd, 1) := by decide +kernel
theorem dL_law_965 : decode cL_law 965 = .ok (.iaload, 1) := by decide +kernel
theorem dL_law_966 : decode cL_law 966 = .ok (.aload_n 0, 1) := by decide +kernel
theorem dL_law_967 : decode cL_law 967 = .ok (.iload_n 3, 1) := by decide +kernel
theorem dL_law_968 : decode cL_law 968 = .ok (.iconst 2, 1) := by decide +kernel
theorem dL_law_969 : decode cL_law 969 = .ok (.iadd, 1) := by decide +kernel
theorem dL_law_970 : decode cL_law 970 = .ok (.iaload, 1) := by decide +kernel
theorem dL_law_971 : decode cL_law 971 = .ok (.aload_n 0, 1) := by decide +kernel
theorem dL_law_972 : decode cL_law 972 = .ok (.iload_n 3, 1) := by decide +kernel
theorem dL_law_973 : decode cL_law 973 = .ok (.iconst 3, 1) := by decide +kernel
theorem dL_law_974 : decode cL_law 974 = .ok (.iadd, 1) := by decide +kernel
theorem dL_law_975 : decode cL_law 975 = .ok (.iaload, 1) := by decide +kernel
theorem dL_law_976 : decode cL_law 976 = .ok (.aload_n 0, 1) := by decide +kernel
theorem dL_law_977 : decode cL_law 977 = .ok (.iload_n 3, 1) := by decide +kernel
theorem dL_law_978 : decode cL_law 978 = .ok (.iconst 4, 1) := by decide +kernel
theorem dL_law_979 : decode cL_law 979 = .ok (.iadd, 1) := by decide +kernel
theorem dL_law_980 : decode cL_law 980 = .ok (.iaload, 1) := by decide +kernel
theorem dL_law_981 : decode cL_law 981 = .ok (.invokevirtual 119, 3) := by decide +kernel
theorem dL_law_984 : decode cL_law 984 = .ok (.aload_n 2, 1) := by decide +kernel
theorem dL_law_985 : decode cL_law 985 = .ok (.aload_n 0, 1) := by decide +kernel
theorem dL_law_986 : decode cL_law 986 = .ok (.iload_n 3, 1) := by decide +kernel
theorem dL_law_987 : decode cL_law 987 = .ok (.iconst 1, 1) := by decide +kernel
theorem dL_law_988 : decode cL_law 988 = .ok (.iadd, 1) := by decide +kernel
theorem dL_law_989 : decode cL_law 989 = .ok (.iaload, 1) := by decide +kernel
theorem dL_law_990 : decode cL_law 990 = .ok (.aload_n 0, 1) := by decide +kernel
theorem dL_law_991 : decode cL_law 991 = .ok (.iload_n 3, 1) := by decide +kernel
theorem dL_law_992 : decode cL_law 992 = .ok (.iconst 2, 1) := by decide +kernel
theorem dL_law_993 : decode cL_law 993 = .ok (.iadd, 1) := by decide +kernel
theorem dL_law_994 : decode cL_law 994 = .ok (.iaload, 1) := by decide +kernel
theorem dL_law_995 : decode cL_law 995 = .ok (.aload_n 0, 1) := by decide +kernel
theorem dL_law_996 : decode cL_law 996 = .ok (.iload_n 3, 1) := by decide +kernel
theorem dL_law_997 : decode cL_law 997 = .ok (.iconst 3, 1) := by decide +kernel
theorem dL_law_998 : decode cL_law 998 = .ok (.iadd, 1) := by decide +kernel
theorem dL_law_999 : decode cL_law 999 = .ok (.iaload, 1) := by decide +kernel
theorem dL_law_1000 : decode cL_law 1000 = .ok (.aload_n 0, 1) := by decide +kernel
theorem dL_law_1001 : decode cL_law 1001 = .ok (.iload_n 3, 1) := by decide +kernel
theorem dL_law_1002 : decode cL_law 1002 = .ok (.iconst 4, 1) := by decide +kernel
theorem dL_law_1003 : decode cL_law 1003 = .ok (.iadd, 1) := by decide +kernel
theorem dL_law_1004 : decode cL_law 1004 = .ok (.iaload, 1) := by decide +kernel
theorem dL_law_1005 : decode cL_law 1005 = .ok (.invokevirtual 123, 3) := by decide +kernel
theorem dL_law_1008 : decode cL_law 1008 = .ok (.if_icmp .eq 51, 3) := by decide +kernel
theorem dL_law_1011 : decode cL_law 1011 = .ok (.iconst 0, 1) := by decide +kernel
theorem dL_law_1012 : decode cL_law 1012 = .ok (.ireturn, 1) := by decide +kernel
theorem dL_law_1013 : decode cL_law 1013 = .ok (.aload_n 1, 1) := by decide +kernel
theorem dL_law_1014 : decode cL_law 1014 = .ok (.aload_n 0, 1) := by decide +kernel
theorem dL_law_1015 : decode cL_law 1015 = .ok (.iload_n 3, 1) := by decide +kernel
theorem dL_law_1016 : decode cL_law 1016 = .ok (.iconst 1, 1) := by decide +kernel
theorem dL_law_1017 : decode cL_law 1017 = .ok (.iadd, 1) := by decide +kernel
theorem dL_law_1018 : decode cL_law 1018 = .ok (.iaload, 1) := by decide +kernel
theorem dL_law_1019 : decode cL_law 1019 = .ok (.invokevirtual 124, 3) := by decide +kernel
theorem dL_law_1022 : decode cL_law 1022 = .ok (.aload_n 2, 1) := by decide +kernel
theorem dL_law_1023 : decode cL_law 1023 = .ok (.aload_n 0, 1) := by decide +kernel
theorem dL_law_1024 : decode cL_law 1024 = .ok (.iload_n 3, 1) := by decide +kernel
theorem dL_law_1025 : decode cL_law 1025 = .ok (.iconst 1, 1) := by decide +kernel
theorem dL_law_1026 : decode cL_law 1026 = .ok (.iadd, 1) := by decide +kernel
theorem dL_law_1027 : decode cL_law 1027 = .ok (.iaload, 1) := by decide +kernel
theorem dL_law_1028 : decode cL_law 1028 = .ok (.invokevirtual 127, 3) := by decide +kernel
theorem dL_law_1031 : decode cL_law 1031 = .ok (.if_icmp .eq 28, 3) := by decide +kernel
theorem dL_law_1034 : decode cL_law 1034 = .ok (.iconst 0, 1) := by decide +kernel
theorem dL_law_1035 : decode cL_law 1035 = .ok (.ireturn, 1) := by decide +kernel
theorem dL_law_1036 : decode cL_law 1036 = .ok (.aload_n 1, 1) := by decide +kernel
theorem dL_law_1037 : decode cL_law 1037 = .ok (.aload_n 0, 1) := by decide +kernel
theorem dL_law_1038 : decode cL_law 1038 = .ok (.iload_n 3, 1) := by decide +kernel
theorem dL_law_1039 : decode cL_law 1039 = .ok (.iconst 1, 1) := by decide +kernel
theorem dL_law_1040 : decode cL_law 1040 = .ok (.iadd, 1) := by decide +kernel
theorem dL_law_1041 : decode cL_law 1041 = .ok (.iaload, 1) := by decide +kernel
theorem dL_law_1042 : decode cL_law 1042 = .ok (.invokevirtual 128, 3) := by decide +kernel
theorem dL_law_1045 : decode cL_law 1045 = .ok (.aload_n 2, 1) := by decide +kernel
theorem dL_law_1046 : decode cL_law 1046 = .ok (.aload_n 0, 1) := by decide +kernel
theorem dL_law_1047 : decode cL_law 1047 = .ok (.iload_n 3, 1) := by decide +kernel
theorem dL_law_1048 : decode cL_law 1048 = .ok (.iconst 1, 1) := by decide +kernel
theorem dL_law_1049 : decode cL_law 1049 = .ok (.iadd, 1) := by decide +kernel
theorem dL_law_1050 : decode cL_law 1050 = .ok (.iaload, 1) := by decide +kernel
theorem dL_law_1051 : decode cL_law 1051 = .ok (.invokevirtual 131, 3) := by decide +kernel
theorem dL_law_1054 : decode cL_law 1054 = .ok (.if_icmp .eq 5, 3) := by decide +kernel
theorem dL_law_1057 : decode cL_law 1057 = .ok (.iconst 0, 1) := by decide +kernel
theorem dL_law_1058 : decode cL_law 1058 = .ok (.ireturn, 1) := by decide +kernel
theorem dL_law_1059 : decode cL_law 1059 = .ok (.iinc 3 6, 3) := by decide +kernel
theorem dL_law_1062 : decode cL_law 1062 = .ok (.goto (-1044), 3) := by decide +kernel
theorem dL_law_1065 : decode cL_law 1065 = .ok (.iconst 1, 1) := by decide +kernel
theorem dL_law_1066 : decode cL_law 1066 = .ok (.ireturn, 1) := by decide +kernel
end
section
abbrev MD : Type := MethodName × ByteArray × Nat × Option FieldType
abbrev PH : Type := Nat × (Nat → va_E)
abbrev ROs : Type := Nat → Option (Nat × (Nat → Int32))
def jBig : Nat := 1000000
def adF (z : Nat) (b : Nat → Nat) (k : Nat) : Nat := if k < jBig then z + k else b k
def cv (ad : Nat → Nat) (v : Value) : Value := match v with
  | .ref k => .ref (ad k)
  | w => w
theorem cv_cat (ad : Nat → Nat) (v : Value) : (cv ad v).category = v.category := by cases v <;> rfl
theorem cv_cats (ad : Nat → Nat) (st : List Value) : ((st.map (cv ad)).map fun v => v.category).sum = (st.map fun v => v.category).sum := by
  induction st with
  | nil => rfl
  | cons v r ih => simp only [List.map_cons, List.sum_cons, cv_cat, ih]
def cA (ad : Nat → Nat) (x : (Nat → Int32) ⊕ (Nat → Int64) ⊕ (Nat → UInt32) ⊕ (Nat → UInt64) ⊕ (Nat → Option Nat)) : (Nat → Int32) ⊕ (Nat → Int64) ⊕ (Nat → UInt32) ⊕ (Nat → UInt64) ⊕ (Nat → Option Nat) := match x with
  | .inl f => .inl f
  | .inr (.inl f) => .inr (.inl f)
  | .inr (.inr (.inl f)) => .inr (.inr (.inl f))
  | .inr (.inr (.inr (.inl f))) => .inr (.inr (.inr (.inl f)))
  | .inr (.inr (.inr (.inr f))) => .inr (.inr (.inr (.inr (fun j => (f j).map ad))))
def cE (ad dA : Nat → Nat) (e : va_E) : va_E := match e with
  | .inl (t, n, x) => .inl (dA t, n, cA ad x)
  | .inr (ci, fs) => .inr (ci, fs.map (cv ad))
def wsOf (ad dA : Nat → Nat) (h : PH) : va_W := (List.range h.1).map (fun k => (ad k, cE ad dA (h.2 k)))
theorem wsOf_at {ad dA : Nat → Nat} {h : PH} {k : Nat} (hk : k < h.1) : (wsOf ad dA h)[k]? = some (ad k, cE ad dA (h.2 k)) := by
  simp [wsOf, List.getElem?_range hk]
theorem wsOf_inv {ad dA : Nat → Nat} {h : PH} {k : Nat} {q : Nat × va_E} (hq : (wsOf ad dA h)[k]? = some q) : k < h.1 ∧ q = (ad k, cE ad dA (h.2 k)) := by
  by_cases hk : k < h.1
  · rw [wsOf_at hk] at hq
    exact ⟨hk, (Option.some.inj hq).symm⟩
  · simp [wsOf, hk] at hq
theorem wsOf_set {ad dA : Nat → Nat} {h : PH} {k : Nat} {e : va_E} (hk : k < h.1) : (wsOf ad dA h).set k (ad k, cE ad dA e) = wsOf ad dA (h.1, va_up h.2 k e) := by
  apply List.ext_getElem?
  intro i
  by_cases hi : i < h.1
  · rw [wsOf_at (h := (h.1, va_up h.2 k e)) hi]
    by_cases hik : i = k
    · subst hik
      rw [List.getElem?_set_self (by simpa [wsOf] using hi)]
      simp [va_up]
    · rw [List.getElem?_set_ne (Ne.symm hik), wsOf_at hi]
      simp [va_up, hik]
  · simp [wsOf, hi]
theorem wsOf_push {ad dA : Nat → Nat} {h : PH} {e : va_E} : wsOf ad dA h ++ [(ad h.1, cE ad dA e)] = wsOf ad dA (h.1 + 1, va_up h.2 h.1 e) := by
  simp only [wsOf, List.range_succ, List.map_append, List.map_cons, List.map_nil]
  congr 1
  · apply List.map_congr_left
    intro k hk
    have : k < h.1 := List.mem_range.mp hk
    simp [va_up, Nat.ne_of_lt this]
  · simp [va_up]
theorem adF_lt {z k : Nat} {b : Nat → Nat} (h : k < jBig) : adF z b k = z + k := if_pos h
theorem wsOf_D {z : Nat} {b : Nat → Nat} {dA : Nat → Nat} {h : PH} (hb : h.1 ≤ jBig) : va_D (fun q => z ≤ q) (wsOf (adF z b) dA h) := by
  refine ⟨fun i j x y hi hj hxy => ?_, fun k q hk => ?_⟩
  · obtain ⟨h1, rfl⟩ := wsOf_inv hi
    obtain ⟨h2, rfl⟩ := wsOf_inv hj
    have e1 := adF_lt (z := z) (b := b) (Nat.lt_of_lt_of_le h1 hb)
    have e2 := adF_lt (z := z) (b := b) (Nat.lt_of_lt_of_le h2 hb)
    simp only [e1, e2] at hxy
    omega
  · obtain ⟨h1, rfl⟩ := wsOf_inv hk
    show z ≤ adF z b k
    rw [adF_lt (Nat.lt_of_lt_of_le h1 hb)]
    omega
/-- the tables' words that a method carries along -/
def TBL (s : State) : Prop := (∀ w ∈ lw_tbl, goodWord w = true → w.before #[] s = true) ∧ (∀ (o : String) (i : Nat) (y : MethodName) (ho : String), Cond.methodLinkNest o i y ho ∈ lw_tbl → va_Nw (.methodLinkNest o i y ho) s) ∧ va_AO RX0 s
theorem TBL.use {s : State} (h : TBL s) {w : Cond} (hw : w ∈ lw_tbl) (hg : goodWord w = true) (a : Array Value) : w.before a s = true := word_at (State.WarmedH.refl s) (good_of_word hg) (h.1 w hw hg)
theorem TBL.warm {s U : State} (h : TBL s) (hW : s.WarmedH U.vm) : TBL U := ⟨fun w hw hg => word_at hW (good_of_word hg) (h.1 w hw hg), fun o i y ho hw => va_Nw.warmM hW (h.2.1 o i y ho hw), h.2.2.moved hW.alike⟩
def Cx (md : MD) (p : Program) (R : Room) (s : State) (m : MethodId) (meth : Method) (c : Code) (d : Nat) : Prop :=
  p.tables.exec = Jvm.exec ∧ c.code = md.2.1 ∧ meth.sig.returnType = md.2.2.2 ∧ c.maxLocals = md.2.2.1 ∧ s.vm.findClass md.1.cls = some m.cls ∧ meth.locks = false ∧ (md.1.name = "<init>" → meth.name = "<init>") ∧ TBL s ∧ d ≤ R.frames ∧ d * 64 ≤ R.locals
def tysOf (dA : Nat → Nat) : List (ClassId × FieldType) := [(dA 0, .int), (dA 1, .boolean), (dA 2, .object RX0)]
def wTx : String := "horse   kind    age     days    lame    field   wet     hour    gate    horse2  kind2   age2    days2   lame2   place   pair    or      and     not     "
def wBy : List Int32 := [104, 111, 114, 115, 101, 32, 32, 32, 107, 105, 110, 100, 32, 32, 32, 32, 97, 103, 101, 32, 32, 32, 32, 32, 100, 97, 121, 115, 32, 32, 32, 32, 108, 97, 109, 101, 32, 32, 32, 32, 102, 105, 101, 108, 100, 32, 32, 32, 119, 101, 116, 32, 32, 32, 32, 32, 104, 111, 117, 114, 32, 32, 32, 32, 103, 97, 116, 101, 32, 32, 32, 32, 104, 111, 114, 115, 101, 50, 32, 32, 107, 105, 110, 100, 50, 32, 32, 32, 97, 103, 101, 50, 32, 32, 32, 32, 100, 97, 121, 115, 50, 32, 32, 32, 108, 97, 109, 101, 50, 32, 32, 32, 112, 108, 97, 99, 101, 32, 32, 32, 112, 97, 105, 114, 32, 32, 32, 32, 111, 114, 32, 32, 32, 32, 32, 32, 97, 110, 100, 32, 32, 32, 32, 32, 110, 111, 116, 32, 32, 32, 32, 32]
/-- the text of the words: its object and its bytes lie outside, nobody changes them -/
def SX (z : Nat) (b : Nat → Nat) (U : State) : Prop :=
  vk_R "LiveryYard$Tokens" 70 wTx (b (jBig + 1)) U ∧ va_O "java/lang/String" (b (jBig + 1)) (fun q => z ≤ q) U U.heap ∧ va_OF "java/lang/String" "coder" "B" (.int 0) (b (jBig + 1)) (fun q => z ≤ q) U U.heap ∧ va_OF "java/lang/String" "value" "[B" (.ref (b (jBig + 2))) (b (jBig + 1)) (fun q => z ≤ q) U U.heap ∧ va_T .byte (b (jBig + 2)) 152 (fun j => .int (wBy.getD j 0)) (fun q => z ≤ q) U U.heap ∧ va_Z "java/lang/String" "COMPACT_STRINGS" "Z" (.int 1) (fun q => z ≤ q) U U.heap ∧ (va_Z "jdk/internal/util/Preconditions" "SIOOBE_FORMATTER" "Ljava/util/function/BiFunction;" .null (fun q => z ≤ q) U U.heap ∨ va_Z "jdk/internal/util/Preconditions" "SIOOBE_FORMATTER" "Ljava/util/function/BiFunction;" (.ref (b (jBig + 3))) (fun q => z ≤ q) U U.heap)
theorem SX.go {z : Nat} {b : Nat → Nat} {s U : State} (h : SX z b s) (hW : s.WarmedH U.vm) (hq : ∀ a : Nat, a < s.heap.size → ¬ z ≤ a → U.heap[a]? = s.heap[a]?) : SX z b U :=
  ⟨h.1.warm hW, (va_O.moved hW.alike h.2.1).kept hq, (va_OF.moved hW.alike h.2.2.1).kept hq, (va_OF.moved hW.alike h.2.2.2.1).kept hq, (va_T.moved hW.alike h.2.2.2.2.1).kept hq, (va_Z.moved hW.alike h.2.2.2.2.2.1).kept hq, h.2.2.2.2.2.2.imp (fun q => (va_Z.moved hW.alike q).kept hq) (fun q => (va_Z.moved hW.alike q).kept hq)⟩
def KX (z : Nat) (b : Nat → Nat) (dC : Nat → ClassId) (dI : Nat → Nat → Nat) (dA : Nat → Nat) (Ro : ROs) (s : State) : Prop :=
  va_K (dC, dI) vwCl (tysOf dA) s ∧ (z ≤ s.heap.size ∧ SX z b s) ∧ ∀ (k L : Nat) (xs : Nat → Int32), Ro k = some (L, xs) → jBig ≤ k ∧ va_X (b k) L xs s s.heap ∧ b k < s.heap.size ∧ b k < z
def WD (z : Nat) (b : Nat → Nat) (dC : Nat → ClassId) (dI : Nat → Nat → Nat) (dA : Nat → Nat) (s : State) (h : PH) (H : Heap) (locs : List Loc) : Prop :=
  H.size = z + h.1 ∧ h.1 ≤ jBig ∧ va_P (dC, dI) vwCl (wsOf (adF z b) dA h) H ∧ va_S (fun q => z ≤ q) s.heap H locs
/-- the locals -/
def LH (las : Array Slot) (nL : Nat) (ad : Nat → Nat) (ls : List (Option Value)) : Prop := las.size = nL ∧ lv_wf las ∧ ∀ (i : Nat) (v : Value), ls[i]? = some (some v) → las[i]? = some (.val (cv ad v))
def LLf (ad : Nat → Nat) : Nat → List (Option Value) → List (Nat × Value)
  | _, [] => []
  | i, none :: r => LLf ad (i + 1) r
  | i, some v :: r => (i, cv ad v) :: LLf ad (i + 1) r
theorem LLf_in {ad : Nat → Nat} : ∀ (ls : List (Option Value)) (i j : Nat) (w : Value), ls[j]? = some (some w) → (i + j, cv ad w) ∈ LLf ad i ls
  | [], i, j, w, h => by simp at h
  | x :: r, i, 0, w, h => by
    simp at h; subst h
    exact List.mem_cons_self
  | x :: r, i, j + 1, w, h => by
    have h2 := LLf_in (ad := ad) r (i + 1) j w (by simpa using h)
    have e : i + 1 + j = i + (j + 1) := by omega
    rw [e] at h2
    cases x with
    | none => exact h2
    | some v => exact List.mem_cons_of_mem _ h2
theorem LLf_of {ad : Nat → Nat} : ∀ (ls : List (Option Value)) (i : Nat) (q : Nat × Value), q ∈ LLf ad i ls → ∃ (j : Nat) (w : Value), q = (i + j, cv ad w) ∧ ls[j]? = some (some w)
  | [], i, q, h => by simp [LLf] at h
  | none :: r, i, q, h => by
    obtain ⟨j, w, h1, h2⟩ := LLf_of r (i + 1) q h
    exact ⟨j + 1, w, by rw [h1]; congr 1; omega, by simpa using h2⟩
  | some v :: r, i, q, h => by
    rcases List.mem_cons.mp h with h | h
    · exact ⟨0, v, h, rfl⟩
    · obtain ⟨j, w, h1, h2⟩ := LLf_of r (i + 1) q h
      exact ⟨j + 1, w, by rw [h1]; congr 1; omega, by simpa using h2⟩
theorem LH.has {las : Array Slot} {nL : Nat} {ad : Nat → Nat} {ls : List (Option Value)} (h : LH las nL ad ls) : lv_has las nL (LLf ad 0 ls) := by
  refine ⟨h.1, h.2.1, fun q hq => ?_⟩
  obtain ⟨j, w, rfl, h2⟩ := LLf_of ls 0 q hq
  have := h.2.2 j w h2
  simpa using this
def setL : List (Option Value) → Nat → Value → List (Option Value)
  | [], 0, v => [some v]
  | [], n + 1, v => none :: setL [] n v
  | _ :: r, 0, v => some v :: r
  | x :: r, n + 1, v => x :: setL r n v
theorem setL_at : ∀ (ls : List (Option Value)) (i : Nat) (v : Value) (j : Nat) (w : Value), (setL ls i v)[j]? = some (some w) → (j = i ∧ w = v) ∨ (j ≠ i ∧ ls[j]? = some (some w))
  | [], 0, v, j, w, h => by
    cases j with
    | zero => simp [setL] at h; exact Or.inl ⟨rfl, h.symm⟩
    | succ j => simp [setL] at h
  | [], n + 1, v, j, w, h => by
    cases j with
    | zero => simp [setL] at h
    | succ j =>
      rcases setL_at [] n v j w (by simpa [setL] using h) with ⟨h1, h2⟩ | ⟨h1, h2⟩
      · exact Or.inl ⟨by omega, h2⟩
      · simp at h2
  | x :: r, 0, v, j, w, h => by
    cases j with
    | zero => simp [setL] at h; exact Or.inl ⟨rfl, h.symm⟩
    | succ j => exact Or.inr ⟨by omega, by simpa [setL] using h⟩
  | x :: r, n + 1, v, j, w, h => by
    cases j with
    | zero => exact Or.inr ⟨by omega, by simpa [setL] using h⟩
    | succ j =>
      rcases setL_at r n v j w (by simpa [setL] using h) with ⟨h1, h2⟩ | ⟨h1, h2⟩
      · exact Or.inl ⟨by omega, h2⟩
      · exact Or.inr ⟨by omega, by simpa using h2⟩
def noLong (ls : List (Option Value)) (i : Nat) : Bool := match i with
  | 0 => true
  | j + 1 => match ls[j]? with
    | some (some v) => v.category == 1
    | _ => true
theorem LH.store {las : Array Slot} {nL i : Nat} {ad : Nat → Nat} {ls : List (Option Value)} {v : Value} (h : lv_has las nL ((i, cv ad v) :: (LLf ad 0 ls).filter (fun q => !(q.1 == i) && !(q.1 + 1 == i && q.2.category == 2)))) (hn : noLong ls i = true) : LH las nL ad (setL ls i v) := by
  refine ⟨h.1, h.2.1, fun j w hj => ?_⟩
  rcases setL_at ls i v j w hj with ⟨rfl, rfl⟩ | ⟨h1, h2⟩
  · exact h.2.2 _ List.mem_cons_self
  · have h3 := LLf_in (ad := ad) ls 0 j w h2
    rw [Nat.zero_add] at h3
    refine h.2.2 (j, cv ad w) (List.mem_cons_of_mem _ (List.mem_filter.mpr ⟨h3, ?_⟩))
    simp only [Bool.and_eq_true, Bool.not_eq_true', beq_eq_false_iff_ne, ne_eq, Bool.and_eq_false_iff, cv_cat]
    refine ⟨h1, ?_⟩
    by_cases e : j + 1 = i
    · right
      subst e
      simp only [noLong, h2, beq_iff_eq] at hn
      omega
    · exact Or.inl e
def RT (md : MD) (p : Program) (l : Launch) (e : Env) (R : Room) (s : State) (m : MethodId) (args : Array Value) (below : List Frame) (meth : Method) (c : Code) (Q : State → Prop) (mc ms z : Nat) (b : Nat → Nat) (dC : Nat → ClassId) (dI : Nat → Nat → Nat) (dA : Nat → Nat) (Φ : Option Int32 → PH → Prop) : Prop :=
  ∀ (v : Option Int32) (h : PH) (H : Heap) (locs : List Loc) (cells slots pc : Nat) (las : Array Slot), Φ v h → WD z b dC dI dA s h H locs → cells ≤ mc → slots ≤ ms →
    (match v with
      | some x => decode md.2.1 pc = .ok (.ireturn, 1) ∧ ∃ rt, md.2.2.2 = some rt ∧ narrow rt (.int x) = .int x
      | none => decode md.2.1 pc = .ok (.return_, 1) ∧ md.2.2.2 = none) →
    W p l e R s m args below meth c H locs cells slots Q (F0 m pc las (match v with
      | some x => [.int x]
      | none => []))
/-- from here the method comes to its end, with Φ of its answer and of the new heap; d frames deep at most, bc cells of bs slots made at most -/
def J (Ro : ROs) (d bc bs : Nat) (md : MD) (pc : Nat) (ls : List (Option Value)) (st : List Value) (h : PH) (Φ : Option Int32 → PH → Prop) : Prop :=
  ∀ (p : Program) (l : Launch) (e : Env) (R : Room) (s : State) (m : MethodId) (args : Array Value) (below : List Frame) (meth : Method) (c : Code) (H : Heap) (locs : List Loc) (cells slots mc ms : Nat) (Q : State → Prop) (z : Nat) (b : Nat → Nat) (dC : Nat → ClassId) (dI : Nat → Nat → Nat) (dA : Nat → Nat) (las : Array Slot),
    Cx md p R s m meth c d → cells + bc ≤ mc ∧ slots + bs ≤ ms ∧ mc ≤ R.cells ∧ ms ≤ R.slots → KX z b dC dI dA Ro s → WD z b dC dI dA s h H locs → LH las md.2.2.1 (adF z b) ls →
    RT md p l e R s m args below meth c Q mc ms z b dC dI dA Φ → W p l e R s m args below meth c H locs cells slots Q (F0 m pc las (st.map (cv (adF z b))))
section JR
variable {Ro : ROs} {d bc bs : Nat} {md : MD} {pc : Nat} {ls : List (Option Value)} {st : List Value} {h : PH} {Φ : Option Int32 → PH → Prop}
theorem J_iconst {n : Int} {v : Int32} (hd : decode md.2.1 pc = .ok (.iconst n, 1)) (hv : Int32.ofInt n = v) (k : J Ro d bc bs md (pc + 1) ls (.int v :: st) h Φ) : J Ro d bc bs md pc ls (st) h Φ := by
  intro p l e R s m args below meth c H locs cells slots mc ms Q z b dC dI dA las hC hB hK hW hL hR
  exact lv_iconst hC.1 hC.2.1 hd hv (k p l e R s m args below meth c H locs cells slots mc ms Q z b dC dI dA las hC hB hK hW hL hR)
theorem J_bipush {n : Int} {v : Int32} (hd : decode md.2.1 pc = .ok (.bipush n, 2)) (hv : (Int8.ofInt n).toInt32 = v) (k : J Ro d bc bs md (pc + 2) ls (.int v :: st) h Φ) : J Ro d bc bs md pc ls (st) h Φ := by
  intro p l e R s m args below meth c H locs cells slots mc ms Q z b dC dI dA las hC hB hK hW hL hR
  exact lv_bipush hC.1 hC.2.1 hd hv (k p l e R s m args below meth c H locs cells slots mc ms Q z b dC dI dA las hC hB hK hW hL hR)
theorem J_sipush {n : Int} {v : Int32} (hd : decode md.2.1 pc = .ok (.sipush n, 3)) (hv : (Int16.ofInt n).toInt32 = v) (k : J Ro d bc bs md (pc + 3) ls (.int v :: st) h Φ) : J Ro d bc bs md pc ls (st) h Φ := by
  intro p l e R s m args below meth c H locs cells slots mc ms Q z b dC dI dA las hC hB hK hW hL hR
  exact lv_sipush hC.1 hC.2.1 hd hv (k p l e R s m args below meth c H locs cells slots mc ms Q z b dC dI dA las hC hB hK hW hL hR)
theorem J_lconst {n : Fin 2} {v : Int64} (hd : decode md.2.1 pc = .ok (.lconst n, 1)) (hv : Int64.ofNat (n : Nat) = v) (k : J Ro d bc bs md (pc + 1) ls (.long v :: st) h Φ) : J Ro d bc bs md pc ls (st) h Φ := by
  intro p l e R s m args below meth c H locs cells slots mc ms Q z b dC dI dA las hC hB hK hW hL hR
  exact lv_lconst hC.1 hC.2.1 hd hv (k p l e R s m args below meth c H locs cells slots mc ms Q z b dC dI dA las hC hB hK hW hL hR)
theorem J_iadd {x y : Int32} (hd : decode md.2.1 pc = .ok (.iadd, 1)) (k : J Ro d bc bs md (pc + 1) ls (.int (x + y) :: st) h Φ) : J Ro d bc bs md pc ls (.int y :: .int x :: st) h Φ := by
  intro p l e R s m args below meth c H locs cells slots mc ms Q z b dC dI dA las hC hB hK hW hL hR
  exact lv_iadd hC.1 hC.2.1 hd (k p l e R s m args below meth c H locs cells slots mc ms Q z b dC dI dA las hC hB hK hW hL hR)
theorem J_isub {x y : Int32} (hd : decode md.2.1 pc = .ok (.isub, 1)) (k : J Ro d bc bs md (pc + 1) ls (.int (x - y) :: st) h Φ) : J Ro d bc bs md pc ls (.int y :: .int x :: st) h Φ := by
  intro p l e R s m args below meth c H locs cells slots mc ms Q z b dC dI dA las hC hB hK hW hL hR
  exact lv_isub hC.1 hC.2.1 hd (k p l e R s m args below meth c H locs cells slots mc ms Q z b dC dI dA las hC hB hK hW hL hR)
theorem J_imul {x y : Int32} (hd : decode md.2.1 pc = .ok (.imul, 1)) (k : J Ro d bc bs md (pc + 1) ls (.int (x * y) :: st) h Φ) : J Ro d bc bs md pc ls (.int y :: .int x :: st) h Φ := by
  intro p l e R s m args below meth c H locs cells slots mc ms Q z b dC dI dA las hC hB hK hW hL hR
  exact lv_imul hC.1 hC.2.1 hd (k p l e R s m args below meth c H locs cells slots mc ms Q z b dC dI dA las hC hB hK hW hL hR)
theorem J_iand {x y : Int32} (hd : decode md.2.1 pc = .ok (.iand, 1)) (k : J Ro d bc bs md (pc + 1) ls (.int (x &&& y) :: st) h Φ) : J Ro d bc bs md pc ls (.int y :: .int x :: st) h Φ := by
  intro p l e R s m args below meth c H locs cells slots mc ms Q z b dC dI dA las hC hB hK hW hL hR
  exact lv_iand hC.1 hC.2.1 hd (k p l e R s m args below meth c H locs cells slots mc ms Q z b dC dI dA las hC hB hK hW hL hR)
theorem J_ior {x y : Int32} (hd : decode md.2.1 pc = .ok (.ior, 1)) (k : J Ro d bc bs md (pc + 1) ls (.int (x ||| y) :: st) h Φ) : J Ro d bc bs md pc ls (.int y :: .int x :: st) h Φ := by
  intro p l e R s m args below meth c H locs cells slots mc ms Q z b dC dI dA las hC hB hK hW hL hR
  exact lv_ior hC.1 hC.2.1 hd (k p l e R s m args below meth c H locs cells slots mc ms Q z b dC dI dA las hC hB hK hW hL hR)
theorem J_ishl {x y : Int32} (hd : decode md.2.1 pc = .ok (.ishl, 1)) (k : J Ro d bc bs md (pc + 1) ls (.int (x <<< (y &&& 31)) :: st) h Φ) : J Ro d bc bs md pc ls (.int y :: .int x :: st) h Φ := by
  intro p l e R s m args below meth c H locs cells slots mc ms Q z b dC dI dA las hC hB hK hW hL hR
  exact lv_ishl hC.1 hC.2.1 hd (k p l e R s m args below meth c H locs cells slots mc ms Q z b dC dI dA las hC hB hK hW hL hR)
theorem J_ishr {x y : Int32} (hd : decode md.2.1 pc = .ok (.ishr, 1)) (k : J Ro d bc bs md (pc + 1) ls (.int (x >>> (y &&& 31)) :: st) h Φ) : J Ro d bc bs md pc ls (.int y :: .int x :: st) h Φ := by
  intro p l e R s m args below meth c H locs cells slots mc ms Q z b dC dI dA las hC hB hK hW hL hR
  exact lv_ishr hC.1 hC.2.1 hd (k p l e R s m args below meth c H locs cells slots mc ms Q z b dC dI dA las hC hB hK hW hL hR)
theorem J_idiv {x y : Int32} (hd : decode md.2.1 pc = .ok (.idiv, 1)) (hne : ¬ y = 0) (k : J Ro d bc bs md (pc + 1) ls (.int (x / y) :: st) h Φ) : J Ro d bc bs md pc ls (.int y :: .int x :: st) h Φ := by
  intro p l e R s m args below meth c H locs cells slots mc ms Q z b dC dI dA las hC hB hK hW hL hR
  exact lv_idiv hC.1 hC.2.1 hd hne (k p l e R s m args below meth c H locs cells slots mc ms Q z b dC dI dA las hC hB hK hW hL hR)
theorem J_irem {x y : Int32} (hd : decode md.2.1 pc = .ok (.irem, 1)) (hne : ¬ y = 0) (k : J Ro d bc bs md (pc + 1) ls (.int (x - x / y * y) :: st) h Φ) : J Ro d bc bs md pc ls (.int y :: .int x :: st) h Φ := by
  intro p l e R s m args below meth c H locs cells slots mc ms Q z b dC dI dA las hC hB hK hW hL hR
  exact lv_irem hC.1 hC.2.1 hd hne (k p l e R s m args below meth c H locs cells slots mc ms Q z b dC dI dA las hC hB hK hW hL hR)
theorem J_i2l {x : Int32} (hd : decode md.2.1 pc = .ok (.i2l, 1)) (k : J Ro d bc bs md (pc + 1) ls (.long x.toInt64 :: st) h Φ) : J Ro d bc bs md pc ls (.int x :: st) h Φ := by
  intro p l e R s m args below meth c H locs cells slots mc ms Q z b dC dI dA las hC hB hK hW hL hR
  exact lv_i2l hC.1 hC.2.1 hd rfl (k p l e R s m args below meth c H locs cells slots mc ms Q z b dC dI dA las hC hB hK hW hL hR)
theorem J_lshl {x : Int64} {y : Int32} (hd : decode md.2.1 pc = .ok (.lshl, 1)) (k : J Ro d bc bs md (pc + 1) ls (.long (x <<< (y.toInt64 &&& 63)) :: st) h Φ) : J Ro d bc bs md pc ls (.int y :: .long x :: st) h Φ := by
  intro p l e R s m args below meth c H locs cells slots mc ms Q z b dC dI dA las hC hB hK hW hL hR
  exact lv_lshl hC.1 hC.2.1 hd rfl (k p l e R s m args below meth c H locs cells slots mc ms Q z b dC dI dA las hC hB hK hW hL hR)
theorem J_lor {x y : Int64} (hd : decode md.2.1 pc = .ok (.lor, 1)) (k : J Ro d bc bs md (pc + 1) ls (.long (x ||| y) :: st) h Φ) : J Ro d bc bs md pc ls (.long y :: .long x :: st) h Φ := by
  intro p l e R s m args below meth c H locs cells slots mc ms Q z b dC dI dA las hC hB hK hW hL hR
  exact lv_lor hC.1 hC.2.1 hd (k p l e R s m args below meth c H locs cells slots mc ms Q z b dC dI dA las hC hB hK hW hL hR)
theorem J_lcmp {x y : Int64} (hd : decode md.2.1 pc = .ok (.lcmp, 1)) (k : J Ro d bc bs md (pc + 1) ls (.int (lg_cmp x y) :: st) h Φ) : J Ro d bc bs md pc ls (.long y :: .long x :: st) h Φ := by
  intro p l e R s m args below meth c H locs cells slots mc ms Q z b dC dI dA las hC hB hK hW hL hR
  exact W.lcmp hC.1 hC.2.1 hd (k p l e R s m args below meth c H locs cells slots mc ms Q z b dC dI dA las hC hB hK hW hL hR)
theorem J_iload_n {k : Fin 4} {x : Int32} (hd : decode md.2.1 pc = .ok (.iload_n k, 1)) (hl : ls[(k : Nat)]? = some (some (.int x))) (k : J Ro d bc bs md (pc + 1) ls (.int x :: st) h Φ) : J Ro d bc bs md pc ls (st) h Φ := by
  intro p l e R s m args below meth c H locs cells slots mc ms Q z b dC dI dA las hC hB hK hW hL hR
  exact lv_iload_n hC.1 hC.2.1 hd rfl (hL.2.2 _ _ hl) (k p l e R s m args below meth c H locs cells slots mc ms Q z b dC dI dA las hC hB hK hW hL hR)
theorem J_lload_n {k : Fin 4} {x : Int64} (hd : decode md.2.1 pc = .ok (.lload_n k, 1)) (hl : ls[(k : Nat)]? = some (some (.long x))) (k : J Ro d bc bs md (pc + 1) ls (.long x :: st) h Φ) : J Ro d bc bs md pc ls (st) h Φ := by
  intro p l e R s m args below meth c H locs cells slots mc ms Q z b dC dI dA las hC hB hK hW hL hR
  exact lv_lload_n hC.1 hC.2.1 hd rfl (hL.2.2 _ _ hl) (k p l e R s m args below meth c H locs cells slots mc ms Q z b dC dI dA las hC hB hK hW hL hR)
theorem J_iload {i : Nat} {x : Int32} (hd : decode md.2.1 pc = .ok (.iload i, 2)) (hl : ls[i]? = some (some (.int x))) (k : J Ro d bc bs md (pc + 2) ls (.int x :: st) h Φ) : J Ro d bc bs md pc ls (st) h Φ := by
  intro p l e R s m args below meth c H locs cells slots mc ms Q z b dC dI dA las hC hB hK hW hL hR
  exact lv_iload hC.1 hC.2.1 hd (hL.2.2 _ _ hl) (k p l e R s m args below meth c H locs cells slots mc ms Q z b dC dI dA las hC hB hK hW hL hR)
theorem J_aload_n {k : Fin 4} {x : Nat} (hd : decode md.2.1 pc = .ok (.aload_n k, 1)) (hl : ls[(k : Nat)]? = some (some (.ref x))) (k : J Ro d bc bs md (pc + 1) ls (.ref x :: st) h Φ) : J Ro d bc bs md pc ls (st) h Φ := by
  intro p l e R s m args below meth c H locs cells slots mc ms Q z b dC dI dA las hC hB hK hW hL hR
  exact lv_aload_n hC.1 hC.2.1 hd rfl (hL.2.2 _ _ hl) (k p l e R s m args below meth c H locs cells slots mc ms Q z b dC dI dA las hC hB hK hW hL hR)
theorem J_aload {i x : Nat} (hd : decode md.2.1 pc = .ok (.aload i, 2)) (hl : ls[i]? = some (some (.ref x))) (k : J Ro d bc bs md (pc + 2) ls (.ref x :: st) h Φ) : J Ro d bc bs md pc ls (st) h Φ := by
  intro p l e R s m args below meth c H locs cells slots mc ms Q z b dC dI dA las hC hB hK hW hL hR
  exact lv_aload hC.1 hC.2.1 hd (hL.2.2 _ _ hl) (k p l e R s m args below meth c H locs cells slots mc ms Q z b dC dI dA las hC hB hK hW hL hR)
theorem J_dup {v : Value} (hd : decode md.2.1 pc = .ok (.dup, 1)) (hv : v.category = 1) (k : J Ro d bc bs md (pc + 1) ls (v :: v :: st) h Φ) : J Ro d bc bs md pc ls (v :: st) h Φ := by
  intro p l e R s m args below meth c H locs cells slots mc ms Q z b dC dI dA las hC hB hK hW hL hR
  exact lv_dup hC.1 hC.2.1 hd ((cv_cat _ _).trans hv) (k p l e R s m args below meth c H locs cells slots mc ms Q z b dC dI dA las hC hB hK hW hL hR)
theorem J_dup2 {v w : Value} (hd : decode md.2.1 pc = .ok (.dup2, 1)) (hv : v.category = 1) (hw : w.category = 1) (k : J Ro d bc bs md (pc + 1) ls (v :: w :: v :: w :: st) h Φ) : J Ro d bc bs md pc ls (v :: w :: st) h Φ := by
  intro p l e R s m args below meth c H locs cells slots mc ms Q z b dC dI dA las hC hB hK hW hL hR
  exact lv_dup2_11 hC.1 hC.2.1 hd ((cv_cat _ _).trans hv) ((cv_cat _ _).trans hw) (k p l e R s m args below meth c H locs cells slots mc ms Q z b dC dI dA las hC hB hK hW hL hR)
theorem J_ldc {index : Nat} {v : Int32} (hd : decode md.2.1 pc = .ok (.ldc index, 2)) (hc : Cond.constant md.1.cls index v ∈ lw_tbl) (k : J Ro d bc bs md (pc + 2) ls (.int v :: st) h Φ) : J Ro d bc bs md pc ls st h Φ := by
  intro p l e R s m args below meth c H locs cells slots mc ms Q z b dC dI dA las hC hB hK hW hL hR
  exact lv_ldc hC.1 hC.2.1 hC.2.2.2.2.1 (hC.2.2.2.2.2.2.2.1.use hc rfl args) hd (k p l e R s m args below meth c H locs cells slots mc ms Q z b dC dI dA las hC hB hK hW hL hR)
theorem J_ldc2 {index : Nat} {v : Int64} (hd : decode md.2.1 pc = .ok (.ldc2_w index, 3)) (hc : Cond.constantLong md.1.cls index v ∈ lw_tbl) (k : J Ro d bc bs md (pc + 3) ls (.long v :: st) h Φ) : J Ro d bc bs md pc ls st h Φ := by
  intro p l e R s m args below meth c H locs cells slots mc ms Q z b dC dI dA las hC hB hK hW hL hR
  exact lv_ldc2 hC.1 hC.2.1 hC.2.2.2.2.1 (hC.2.2.2.2.2.2.2.1.use hc rfl args) hd (k p l e R s m args below meth c H locs cells slots mc ms Q z b dC dI dA las hC hB hK hW hL hR)
theorem J_istore_n {j : Fin 4} {x : Int32} (hd : decode md.2.1 pc = .ok (.istore_n j, 1)) (hn : (j : Nat) < md.2.2.1) (hq : noLong ls (j : Nat) = true) (k : J Ro d bc bs md (pc + 1) (setL ls (j : Nat) (.int x)) st h Φ) : J Ro d bc bs md pc ls (.int x :: st) h Φ := by
  intro p l e R s m args below meth c H locs cells slots mc ms Q z b dC dI dA las hC hB hK hW hL hR
  exact lv_istore_n hC.1 hC.2.1 hd rfl hL.has hn rfl (fun las2 hL2 => k p l e R s m args below meth c H locs cells slots mc ms Q z b dC dI dA las2 hC hB hK hW (LH.store hL2 hq) hR)
theorem J_istore {j : Nat} {x : Int32} (hd : decode md.2.1 pc = .ok (.istore j, 2)) (hn : j < md.2.2.1) (hq : noLong ls j = true) (k : J Ro d bc bs md (pc + 2) (setL ls j (.int x)) st h Φ) : J Ro d bc bs md pc ls (.int x :: st) h Φ := by
  intro p l e R s m args below meth c H locs cells slots mc ms Q z b dC dI dA las hC hB hK hW hL hR
  exact lv_istore hC.1 hC.2.1 hd hL.has hn rfl (fun las2 hL2 => k p l e R s m args below meth c H locs cells slots mc ms Q z b dC dI dA las2 hC hB hK hW (LH.store hL2 hq) hR)
theorem J_astore_n {j : Fin 4} {x : Nat} (hd : decode md.2.1 pc = .ok (.astore_n j, 1)) (hn : (j : Nat) < md.2.2.1) (hq : noLong ls (j : Nat) = true) (k : J Ro d bc bs md (pc + 1) (setL ls (j : Nat) (.ref x)) st h Φ) : J Ro d bc bs md pc ls (.ref x :: st) h Φ := by
  intro p l e R s m args below meth c H locs cells slots mc ms Q z b dC dI dA las hC hB hK hW hL hR
  exact lv_astore_n hC.1 hC.2.1 hd rfl hL.has hn rfl (fun las2 hL2 => k p l e R s m args below meth c H locs cells slots mc ms Q z b dC dI dA las2 hC hB hK hW (LH.store hL2 hq) hR)
theorem J_iinc {i : Nat} {n : Int} {x v : Int32} (hd : decode md.2.1 pc = .ok (.iinc i n, 3)) (hl : ls[i]? = some (some (.int x))) (hv : x + Int32.ofInt n = v) (hn : i < md.2.2.1) (hq : noLong ls i = true) (k : J Ro d bc bs md (pc + 3) (setL ls i (.int v)) st h Φ) : J Ro d bc bs md pc ls st h Φ := by
  intro p l e R s m args below meth c H locs cells slots mc ms Q z b dC dI dA las hC hB hK hW hL hR
  have h0 := LLf_in (ad := adF z b) ls 0 i (.int x) hl
  rw [Nat.zero_add] at h0
  obtain ⟨kq, hkq⟩ := List.getElem?_of_mem h0
  exact lv_iinc hC.1 hC.2.1 hd hL.has hkq hv hn rfl (fun las2 hL2 => k p l e R s m args below meth c H locs cells slots mc ms Q z b dC dI dA las2 hC hB hK hW (LH.store hL2 hq) hR)
theorem J_if_eq {x : Int32} {off : Int} {tgt : Nat} (hd : decode md.2.1 pc = .ok (.ifCond .eq off, 3)) (ht : (pc : Int) + off = (tgt : Int)) (kt : x = 0 → J Ro d bc bs md tgt ls st h Φ) (kf : ¬ x = 0 → J Ro d bc bs md (pc + 3) ls st h Φ) : J Ro d bc bs md pc ls (.int x :: st) h Φ := by
  intro p l e R s m args below meth c H locs cells slots mc ms Q z b dC dI dA las hC hB hK hW hL hR
  exact lv_if_eq hC.1 hC.2.1 hd ht (fun q => kt q p l e R s m args below meth c H locs cells slots mc ms Q z b dC dI dA las hC hB hK hW hL hR) (fun q => kf q p l e R s m args below meth c H locs cells slots mc ms Q z b dC dI dA las hC hB hK hW hL hR)
theorem J_icmp_eq {x y : Int32} {off : Int} {tgt : Nat} (hd : decode md.2.1 pc = .ok (.if_icmp .eq off, 3)) (ht : (pc : Int) + off = (tgt : Int)) (kt : x = y → J Ro d bc bs md tgt ls st h Φ) (kf : ¬ x = y → J Ro d bc bs md (pc + 3) ls st h Φ) : J Ro d bc bs md pc ls (.int y :: .int x :: st) h Φ := by
  intro p l e R s m args below meth c H locs cells slots mc ms Q z b dC dI dA las hC hB hK hW hL hR
  exact lv_icmp_eq hC.1 hC.2.1 hd ht (fun q => kt q p l e R s m args below meth c H locs cells slots mc ms Q z b dC dI dA las hC hB hK hW hL hR) (fun q => kf q p l e R s m args below meth c H locs cells slots mc ms Q z b dC dI dA las hC hB hK hW hL hR)
theorem J_if_ne {x : Int32} {off : Int} {tgt : Nat} (hd : decode md.2.1 pc = .ok (.ifCond .ne off, 3)) (ht : (pc : Int) + off = (tgt : Int)) (kt : ¬ x = 0 → J Ro d bc bs md tgt ls st h Φ) (kf : x = 0 → J Ro d bc bs md (pc + 3) ls st h Φ) : J Ro d bc bs md pc ls (.int x :: st) h Φ := by
  intro p l e R s m args below meth c H locs cells slots mc ms Q z b dC dI dA las hC hB hK hW hL hR
  exact lv_if_ne hC.1 hC.2.1 hd ht (fun q => kt q p l e R s m args below meth c H locs cells slots mc ms Q z b dC dI dA las hC hB hK hW hL hR) (fun q => kf q p l e R s m args below meth c H locs cells slots mc ms Q z b dC dI dA las hC hB hK hW hL hR)
theorem J_icmp_ne {x y : Int32} {off : Int} {tgt : Nat} (hd : decode md.2.1 pc = .ok (.if_icmp .ne off, 3)) (ht : (pc : Int) + off = (tgt : Int)) (kt : ¬ x = y → J Ro d bc bs md tgt ls st h Φ) (kf : x = y → J Ro d bc bs md (pc + 3) ls st h Φ) : J Ro d bc bs md pc ls (.int y :: .int x :: st) h Φ := by
  intro p l e R s m args below meth c H locs cells slots mc ms Q z b dC dI dA las hC hB hK hW hL hR
  exact lv_icmp_ne hC.1 hC.2.1 hd ht (fun q => kt q p l e R s m args below meth c H locs cells slots mc ms Q z b dC dI dA las hC hB hK hW hL hR) (fun q => kf q p l e R s m args below meth c H locs cells slots mc ms Q z b dC dI dA las hC hB hK hW hL hR)
theorem J_if_lt {x : Int32} {off : Int} {tgt : Nat} (hd : decode md.2.1 pc = .ok (.ifCond .lt off, 3)) (ht : (pc : Int) + off = (tgt : Int)) (kt : x < 0 → J Ro d bc bs md tgt ls st h Φ) (kf : ¬ x < 0 → J Ro d bc bs md (pc + 3) ls st h Φ) : J Ro d bc bs md pc ls (.int x :: st) h Φ := by
  intro p l e R s m args below meth c H locs cells slots mc ms Q z b dC dI dA las hC hB hK hW hL hR
  exact lv_if_lt hC.1 hC.2.1 hd ht (fun q => kt q p l e R s m args below meth c H locs cells slots mc ms Q z b dC dI dA las hC hB hK hW hL hR) (fun q => kf q p l e R s m args below meth c H locs cells slots mc ms Q z b dC dI dA las hC hB hK hW hL hR)
theorem J_icmp_lt {x y : Int32} {off : Int} {tgt : Nat} (hd : decode md.2.1 pc = .ok (.if_icmp .lt off, 3)) (ht : (pc : Int) + off = (tgt : Int)) (kt : x < y → J Ro d bc bs md tgt ls st h Φ) (kf : ¬ x < y → J Ro d bc bs md (pc + 3) ls st h Φ) : J Ro d bc bs md pc ls (.int y :: .int x :: st) h Φ := by
  intro p l e R s m args below meth c H locs cells slots mc ms Q z b dC dI dA las hC hB hK hW hL hR
  exact lv_icmp_lt hC.1 hC.2.1 hd ht (fun q => kt q p l e R s m args below meth c H locs cells slots mc ms Q z b dC dI dA las hC hB hK hW hL hR) (fun q => kf q p l e R s m args below meth c H locs cells slots mc ms Q z b dC dI dA las hC hB hK hW hL hR)
theorem J_if_ge {x : Int32} {off : Int} {tgt : Nat} (hd : decode md.2.1 pc = .ok (.ifCond .ge off, 3)) (ht : (pc : Int) + off = (tgt : Int)) (kt : 0 ≤ x → J Ro d bc bs md tgt ls st h Φ) (kf : ¬ 0 ≤ x → J Ro d bc bs md (pc + 3) ls st h Φ) : J Ro d bc bs md pc ls (.int x :: st) h Φ := by
  intro p l e R s m args below meth c H locs cells slots mc ms Q z b dC dI dA las hC hB hK hW hL hR
  exact lv_if_ge hC.1 hC.2.1 hd ht (fun q => kt q p l e R s m args below meth c H locs cells slots mc ms Q z b dC dI dA las hC hB hK hW hL hR) (fun q => kf q p l e R s m args below meth c H locs cells slots mc ms Q z b dC dI dA las hC hB hK hW hL hR)
theorem J_icmp_ge {x y : Int32} {off : Int} {tgt : Nat} (hd : decode md.2.1 pc = .ok (.if_icmp .ge off, 3)) (ht : (pc : Int) + off = (tgt : Int)) (kt : y ≤ x → J Ro d bc bs md tgt ls st h Φ) (kf : ¬ y ≤ x → J Ro d bc bs md (pc + 3) ls st h Φ) : J Ro d bc bs md pc ls (.int y :: .int x :: st) h Φ := by
  intro p l e R s m args below meth c H locs cells slots mc ms Q z b dC dI dA las hC hB hK hW hL hR
  exact lv_icmp_ge hC.1 hC.2.1 hd ht (fun q => kt q p l e R s m args below meth c H locs cells slots mc ms Q z b dC dI dA las hC hB hK hW hL hR) (fun q => kf q p l e R s m args below meth c H locs cells slots mc ms Q z b dC dI dA las hC hB hK hW hL hR)
theorem J_if_gt {x : Int32} {off : Int} {tgt : Nat} (hd : decode md.2.1 pc = .ok (.ifCond .gt off, 3)) (ht : (pc : Int) + off = (tgt : Int)) (kt : 0 < x → J Ro d bc bs md tgt ls st h Φ) (kf : ¬ 0 < x → J Ro d bc bs md (pc + 3) ls st h Φ) : J Ro d bc bs md pc ls (.int x :: st) h Φ := by
  intro p l e R s m args below meth c H locs cells slots mc ms Q z b dC dI dA las hC hB hK hW hL hR
  exact lv_if_gt hC.1 hC.2.1 hd ht (fun q => kt q p l e R s m args below meth c H locs cells slots mc ms Q z b dC dI dA las hC hB hK hW hL hR) (fun q => kf q p l e R s m args below meth c H locs cells slots mc ms Q z b dC dI dA las hC hB hK hW hL hR)
theorem J_icmp_gt {x y : Int32} {off : Int} {tgt : Nat} (hd : decode md.2.1 pc = .ok (.if_icmp .gt off, 3)) (ht : (pc : Int) + off = (tgt : Int)) (kt : y < x → J Ro d bc bs md tgt ls st h Φ) (kf : ¬ y < x → J Ro d bc bs md (pc + 3) ls st h Φ) : J Ro d bc bs md pc ls (.int y :: .int x :: st) h Φ := by
  intro p l e R s m args below meth c H locs cells slots mc ms Q z b dC dI dA las hC hB hK hW hL hR
  exact lv_icmp_gt hC.1 hC.2.1 hd ht (fun q => kt q p l e R s m args below meth c H locs cells slots mc ms Q z b dC dI dA las hC hB hK hW hL hR) (fun q => kf q p l e R s m args below meth c H locs cells slots mc ms Q z b dC dI dA las hC hB hK hW hL hR)
theorem J_if_le {x : Int32} {off : Int} {tgt : Nat} (hd : decode md.2.1 pc = .ok (.ifCond .le off, 3)) (ht : (pc : Int) + off = (tgt : Int)) (kt : x ≤ 0 → J Ro d bc bs md tgt ls st h Φ) (kf : ¬ x ≤ 0 → J Ro d bc bs md (pc + 3) ls st h Φ) : J Ro d bc bs md pc ls (.int x :: st) h Φ := by
  intro p l e R s m args below meth c H locs cells slots mc ms Q z b dC dI dA las hC hB hK hW hL hR
  exact lv_if_le hC.1 hC.2.1 hd ht (fun q => kt q p l e R s m args below meth c H locs cells slots mc ms Q z b dC dI dA las hC hB hK hW hL hR) (fun q => kf q p l e R s m args below meth c H locs cells slots mc ms Q z b dC dI dA las hC hB hK hW hL hR)
theorem J_icmp_le {x y : Int32} {off : Int} {tgt : Nat} (hd : decode md.2.1 pc = .ok (.if_icmp .le off, 3)) (ht : (pc : Int) + off = (tgt : Int)) (kt : x ≤ y → J Ro d bc bs md tgt ls st h Φ) (kf : ¬ x ≤ y → J Ro d bc bs md (pc + 3) ls st h Φ) : J Ro d bc bs md pc ls (.int y :: .int x :: st) h Φ := by
  intro p l e R s m args below meth c H locs cells slots mc ms Q z b dC dI dA las hC hB hK hW hL hR
  exact lv_icmp_le hC.1 hC.2.1 hd ht (fun q => kt q p l e R s m args below meth c H locs cells slots mc ms Q z b dC dI dA las hC hB hK hW hL hR) (fun q => kf q p l e R s m args below meth c H locs cells slots mc ms Q z b dC dI dA las hC hB hK hW hL hR)
theorem J_goto {off : Int} {tgt : Nat} (hd : decode md.2.1 pc = .ok (.goto off, 3)) (ht : (pc : Int) + off = (tgt : Int)) (k : J Ro d bc bs md tgt ls st h Φ) : J Ro d bc bs md pc ls st h Φ := by
  intro p l e R s m args below meth c H locs cells slots mc ms Q z b dC dI dA las hC hB hK hW hL hR
  exact lv_goto hC.1 hC.2.1 hd ht (k p l e R s m args below meth c H locs cells slots mc ms Q z b dC dI dA las hC hB hK hW hL hR)
theorem J_lookup {dflt : Int} {ps : Array (Int × Int)} {len : Nat} {x : Int32} {off : Int} {tgt : Nat} (hd : decode md.2.1 pc = .ok (.lookupswitch dflt ps, len)) (hp : (ps.toList.zip (ps.toList.drop 1)).all (fun (a, next) => a.1 < next.1) = true) (ho : Op.lookupswitch.offset ps.toList dflt x.toInt = off) (ht : (pc : Int) + off = (tgt : Int)) (k : J Ro d bc bs md tgt ls st h Φ) : J Ro d bc bs md pc ls (.int x :: st) h Φ := by
  intro p l e R s m args below meth c H locs cells slots mc ms Q z b dC dI dA las hC hB hK hW hL hR
  exact lv_lookup hC.1 hC.2.1 hd hp ho ht (k p l e R s m args below meth c H locs cells slots mc ms Q z b dC dI dA las hC hB hK hW hL hR)
theorem J_tabOut {dflt lo hi : Int} {offs : Array Int} {len : Nat} {x : Int32} {tgt : Nat} (hd : decode md.2.1 pc = .ok (.tableswitch dflt lo hi offs, len)) (hx : x.toInt < lo ∨ hi < x.toInt) (ht : (pc : Int) + dflt = (tgt : Int)) (k : J Ro d bc bs md tgt ls st h Φ) : J Ro d bc bs md pc ls (.int x :: st) h Φ := by
  intro p l e R s m args below meth c H locs cells slots mc ms Q z b dC dI dA las hC hB hK hW hL hR
  exact lv_tableOut hC.1 hC.2.1 hd hx ht (k p l e R s m args below meth c H locs cells slots mc ms Q z b dC dI dA las hC hB hK hW hL hR)
theorem J_tabIn {dflt lo hi : Int} {offs : Array Int} {len : Nat} {x : Int32} {off : Int} {tgt : Nat} (hd : decode md.2.1 pc = .ok (.tableswitch dflt lo hi offs, len)) (h1 : ¬ x.toInt < lo) (h2 : ¬ hi < x.toInt) (ho : offs[(x.toInt - lo).toNat]? = some off) (ht : (pc : Int) + off = (tgt : Int)) (k : J Ro d bc bs md tgt ls st h Φ) : J Ro d bc bs md pc ls (.int x :: st) h Φ := by
  intro p l e R s m args below meth c H locs cells slots mc ms Q z b dC dI dA las hC hB hK hW hL hR
  exact lv_tableIn hC.1 hC.2.1 hd h1 h2 ho ht (k p l e R s m args below meth c H locs cells slots mc ms Q z b dC dI dA las hC hB hK hW hL hR)
theorem J_iret {x : Int32} {rt : FieldType} (hd : decode md.2.1 pc = .ok (.ireturn, 1)) (hr : md.2.2.2 = some rt) (hn : narrow rt (.int x) = .int x) (k : Φ (some x) h) : J Ro d bc bs md pc ls [.int x] h Φ := by
  intro p l e R s m args below meth c H locs cells slots mc ms Q z b dC dI dA las hC hB hK hW hL hR
  exact hR (some x) h H locs cells slots pc las k hW (by omega) (by omega) ⟨hd, rt, hr, hn⟩
theorem J_vret (hd : decode md.2.1 pc = .ok (.return_, 1)) (hr : md.2.2.2 = none) (k : Φ none h) : J Ro d bc bs md pc ls [] h Φ := by
  intro p l e R s m args below meth c H locs cells slots mc ms Q z b dC dI dA las hC hB hK hW hL hR
  exact hR none h H locs cells slots pc las k hW (by omega) (by omega) ⟨hd, hr⟩
theorem J_more {d2 bc2 bs2 : Nat} (h1 : d ≤ d2) (h2 : bc ≤ bc2) (h3 : bs ≤ bs2) (k : J Ro d bc bs md pc ls st h Φ) : J Ro d2 bc2 bs2 md pc ls st h Φ := by
  intro p l e R s m args below meth c H locs cells slots mc ms Q z b dC dI dA las hC hB hK hW hL hR
  exact k p l e R s m args below meth c H locs cells slots mc ms Q z b dC dI dA las ⟨hC.1, hC.2.1, hC.2.2.1, hC.2.2.2.1, hC.2.2.2.2.1, hC.2.2.2.2.2.1, hC.2.2.2.2.2.2.1, hC.2.2.2.2.2.2.2.1, Nat.le_trans h1 hC.2.2.2.2.2.2.2.2.1, Nat.le_trans (Nat.mul_le_mul_right 64 h1) hC.2.2.2.2.2.2.2.2.2⟩ ⟨by omega, by omega, hB.2.2.1, hB.2.2.2⟩ hK hW hL hR
theorem J_post {Ψ : Option Int32 → PH → Prop} (hP : ∀ v g, Φ v g → Ψ v g) (k : J Ro d bc bs md pc ls st h Φ) : J Ro d bc bs md pc ls st h Ψ := by
  intro p l e R s m args below meth c H locs cells slots mc ms Q z b dC dI dA las hC hB hK hW hL hR
  exact k p l e R s m args below meth c H locs cells slots mc ms Q z b dC dI dA las hC hB hK hW hL (fun v g H2 l2 c2 s2 p2 la2 q => hR v g H2 l2 c2 s2 p2 la2 (hP v g q))
end JR
end
section
section JW
variable {p : Program} {l : Launch} {e : Env} {R : Room} {s : State} {m : MethodId} {args : Array Value} {below : List Frame} {meth : Method} {c : Code} {H : Heap} {locs : List Loc} {cells slots : Nat} {Q : State → Prop}
variable {cc : ByteArray} {pc : Nat} {ls : Array Slot} {rest : List Value} {D : va_G} {cl : List vw_C} {A : Nat → Prop} {a : Nat} {tys : List (ClassId × FieldType)} {ws : va_W} {H0 : Heap}
/-- a field is written; the heap keeps its size (int or reference, not final) -/
theorem jw_put (hexec : p.tables.exec = Jvm.exec) (hb : c.code = cc) {own C : String} {T : u_T} {N ci index : Nat} {Ts : List Cond} (hts : ∀ w ∈ Ts, w.before args s = true) (hin : ∀ w ∈ u_ws C T N, w ∈ Ts) (ty0 : Nat → FieldType) (hty : ∀ k, k < N → parseFieldDescriptor (T k).2.2.1 = some (ty0 k)) (hnm : ∀ a, a < N → ∀ b, b < N → a ≠ b → (T a).2.1 ≠ (T b).2.1) (hown : s.vm.findClass own = some m.cls) (hK : va_K D cl tys s) (hP : va_P D cl ws H) (hD : va_D A ws) (hS0 : va_S A H0 H locs) (q0 : Nat) {fs : List Value} (he : ws[q0]? = some (a, .inr (ci, fs))) (hc : cl[ci]? = some (C, T, N)) (k : Nat) (hk : k < N) (hlink : (Cond.fieldLink own index (T k).1 (T k).2.1 (T k).2.2.1).before args s = true) (hfin : (T k).2.2.2 = false) {ty : FieldType} {v : Value} (hd : parseFieldDescriptor (T k).2.2.1 = some ty) (hn : narrow ty v = v) (hfit : fits ty v = true) (hl : k < fs.length)
    (hdg : decode cc pc = .ok (.putfield index, 3)) (kk : ∀ (H1 : Heap) (locs1 : List Loc), H1.size = H.size → va_P D cl (ws.set q0 (a, .inr (ci, fs.set k v))) H1 → va_S A H0 H1 locs1 → W p l e R s m args below meth c H1 locs1 cells slots Q (F0 m (pc + 3) ls rest)) : W p l e R s m args below meth c H locs cells slots Q (F0 m pc ls (v :: .ref a :: rest)) := by
  have hap := va_apart (own := own) hts hin ty0 hty hnm hK hc
  obtain ⟨r, h1, cell, q1, q2, q3, q4⟩ := hP q0 _ he
  cases h1.symm.trans hc
  obtain ⟨hS, hfc, kC, hkC, hkind⟩ := hK.1 ci _ hc
  obtain ⟨cf, kf, fi, f, hi, hsl⟩ := hS k hk
  have hlay := hts _ (hin _ (u_in_lay hk))
  unfold u_lay at hlay
  rw [if_neg (by rw [hfin]; decide)] at hlay
  refine W.putK hexec hb (f := f) ⟨hown, hlink, ⟨_, _, _, hi⟩, (u_facts hfc hkC (u_lays hts hin hk) hi).1⟩ (by rw [q2]; exact u_store hfc hkC hkind hlay hi hd hn hfit) q1 q3 (by rw [hsl]; exact k2_hasslot (q4 k hk)) rfl rfl hdg fun H' e1 e2 e3 => ?_
  rw [hsl] at e1 ⊢
  exact kk H' _ e2 (hP.set hD he ⟨_, hc, t_OB.to (V := updV (vp_V fs) k v) ⟨_, e1, q2, q3, t_set q4 hap hk v⟩ (fun j _ => vp_updV_set hl v j)⟩ e3) (hS0.put e2 e3 (hD.2 q0 _ he))
/-- the same of a final field, in a constructor -/
theorem jw_putF (hexec : p.tables.exec = Jvm.exec) (hb : c.code = cc) {own C : String} {T : u_T} {N ci index : Nat} {Ts : List Cond} (hts : ∀ w ∈ Ts, w.before args s = true) (hin : ∀ w ∈ u_ws C T N, w ∈ Ts) (ty0 : Nat → FieldType) (hty : ∀ k, k < N → parseFieldDescriptor (T k).2.2.1 = some (ty0 k)) (hnm : ∀ a, a < N → ∀ b, b < N → a ≠ b → (T a).2.1 ≠ (T b).2.1) (hown : s.vm.findClass own = some m.cls) (hK : va_K D cl tys s) (hP : va_P D cl ws H) (hD : va_D A ws) (hS0 : va_S A H0 H locs) (q0 : Nat) {fs : List Value} (he : ws[q0]? = some (a, .inr (ci, fs))) (hc : cl[ci]? = some (C, T, N)) (k : Nat) (hk : k < N) (hlink : (Cond.fieldLink own index (T k).1 (T k).2.1 (T k).2.2.1).before args s = true) (hfin : (T k).2.2.2 = true) (hin2 : meth.name = "<init>") (hdecl : (T k).1 = own) {ty : FieldType} {v : Value} (hd : parseFieldDescriptor (T k).2.2.1 = some ty) (hn : narrow ty v = v) (hfit : fits ty v = true) (hl : k < fs.length)
    (hdg : decode cc pc = .ok (.putfield index, 3)) (kk : ∀ (H1 : Heap) (locs1 : List Loc), H1.size = H.size → va_P D cl (ws.set q0 (a, .inr (ci, fs.set k v))) H1 → va_S A H0 H1 locs1 → W p l e R s m args below meth c H1 locs1 cells slots Q (F0 m (pc + 3) ls rest)) : W p l e R s m args below meth c H locs cells slots Q (F0 m pc ls (v :: .ref a :: rest)) := by
  have hap := va_apart (own := own) hts hin ty0 hty hnm hK hc
  obtain ⟨r, h1, cell, q1, q2, q3, q4⟩ := hP q0 _ he
  cases h1.symm.trans hc
  obtain ⟨hS, hfc, kC, hkC, hkind⟩ := hK.1 ci _ hc
  obtain ⟨cf, kf, fi, f, hi, hsl⟩ := hS k hk
  have hlay := hts _ (hin _ (u_in_lay hk))
  unfold u_lay at hlay
  rw [if_pos hfin] at hlay
  have hcf : m.cls = cf := by
    obtain ⟨_, _, c', _, _, _, -, -, hf', -, -, -, hown2, -⟩ := Cond.laysFinal_spec hlay
    have e1 : c' = cf := by have := hi.symm.trans hf'; simp at this; exact this.1.symm
    rw [hdecl] at hown2
    rw [← e1]; exact Option.some.inj (hown.symm.trans hown2)
  refine W.putFinK hexec hb hown hlink hi (u_facts hfc hkC (u_lays hts hin hk) hi).1 hcf hin2 (by rw [q2]; exact u_fits hfc hkC hkind (Or.inr hlay) hi hd hn hfit) q1 q3 (by rw [hsl]; exact k2_hasslot (q4 k hk)) rfl rfl hdg fun H' e1 e2 e3 => ?_
  rw [hsl] at e1 ⊢
  exact kk H' _ e2 (hP.set hD he ⟨_, hc, t_OB.to (V := updV (vp_V fs) k v) ⟨_, e1, q2, q3, t_set q4 hap hk v⟩ (fun j _ => vp_updV_set hl v j)⟩ e3) (hS0.put e2 e3 (hD.2 q0 _ he))
theorem jw_upd {cA : ClassId} {n i : Nat} {f : Nat → Int32} {x : Int32} : arrV cA n (updV (fun j => .int (f j)) i (.int x)) = vp_cell cA (n, .inl (upd f i x)) := by
  rw [vp_cell_i]
  congr 1
  funext q
  by_cases hq : q = i
  · subst hq; simp [updV, upd]
  · simp [updV, upd, hq]
theorem jw_iast (hexec : p.tables.exec = Jvm.exec) (hb : c.code = cc) (hK : va_K D cl tys s) (hP : va_P D cl ws H) (hD : va_D A ws) (hS : va_S A H0 H locs) (q0 t0 : Nat) {cA : ClassId} {n : Nat} {f : Nat → Int32} (ha : ws[q0]? = some (a, .inl (cA, n, .inl f))) (ht : tys[t0]? = some (cA, .int)) {i : Int32} {x : Int32} (hin : vp_in i n) (hdg : decode cc pc = .ok (.iastore, 1))
    (kk : ∀ (H1 : Heap) (locs1 : List Loc), H1.size = H.size → va_P D cl (ws.set q0 (a, .inl (cA, n, .inl (upd f i.toNatClampNeg x)))) H1 → va_S A H0 H1 locs1 → W p l e R s m args below meth c H1 locs1 cells slots Q (F0 m (pc + 1) ls rest)) : W p l e R s m args below meth c H locs cells slots Q (F0 m pc ls (.int x :: .int i :: .ref a :: rest)) := by
  refine W.iast hexec hb (hP q0 _ ha) ((hK.2 t0 _ ht).1 n (fun j => .int (f j))) (fun q => by cases q) (by show ¬ (i < 0 ∨ (arrV _ _ _).slots.size ≤ _); rw [arrV_size]; exact hin) rfl rfl hdg fun H1 e z oq => ?_
  refine kk H1 _ z (hP.set hD ha ?_ oq) (hS.put z oq (hD.2 q0 _ ha))
  show H1[a]? = some (vp_cell _ _)
  rw [e, vp_cell_i, arrV_store, jw_upd]
theorem jw_zast (hexec : p.tables.exec = Jvm.exec) (hb : c.code = cc) (hK : va_K D cl tys s) (hP : va_P D cl ws H) (hD : va_D A ws) (hS : va_S A H0 H locs) (q0 t0 : Nat) {cA : ClassId} {n : Nat} {f : Nat → Int32} (ha : ws[q0]? = some (a, .inl (cA, n, .inl f))) (ht : tys[t0]? = some (cA, .boolean)) {i : Int32} {x : Int32} (hin : vp_in i n) (hx : narrow .boolean (.int x) = .int x) (hdg : decode cc pc = .ok (.bastore, 1))
    (kk : ∀ (H1 : Heap) (locs1 : List Loc), H1.size = H.size → va_P D cl (ws.set q0 (a, .inl (cA, n, .inl (upd f i.toNatClampNeg x)))) H1 → va_S A H0 H1 locs1 → W p l e R s m args below meth c H1 locs1 cells slots Q (F0 m (pc + 1) ls rest)) : W p l e R s m args below meth c H locs cells slots Q (F0 m pc ls (.int x :: .int i :: .ref a :: rest)) := by
  refine W.zast hexec hb (hP q0 _ ha) ((hK.2 t0 _ ht).1 n (fun j => .int (f j))) (fun q => by cases q) (by show ¬ (i < 0 ∨ (arrV _ _ _).slots.size ≤ _); rw [arrV_size]; exact hin) rfl rfl hdg fun H1 e z oq => ?_
  refine kk H1 _ z (hP.set hD ha ?_ oq) (hS.put z oq (hD.2 q0 _ ha))
  show H1[a]? = some (vp_cell _ _)
  rw [e, vp_cell_i]
  first | rw [hx, arrV_store, jw_upd] | (simp only [hx]; rw [arrV_store, jw_upd])
/-- a new array of ints or booleans: it lies at the heap's end -/
theorem jw_newa (hexec : p.tables.exec = Jvm.exec) (hb : c.code = cc) {atype : ArrayType} (harr : (Cond.arrayClass (newarray.typeOf atype)).before args s = true) {ty : FieldType} (hty : newarray.typeOf atype = ty) (hP : va_P D cl ws H) (hS : va_S A H0 H locs)
    {n : Int32} {N' : Nat} {a0 : vp_A} {cT : ClassId} (hfc : s.vm.findClass ("[" ++ ty.toString) = some cT) (ha : vp_cell cT a0 = arrV cT N' (fun _ => defaultValue ty)) (hn : ¬ n < 0) (hN : n.toNatClampNeg = N') (hbytes : N' * componentBytes ty ≤ 536870912) (hcells : cells + 1 ≤ R.cells) (hslots : slots + N' ≤ R.slots) (hdg : decode cc pc = .ok (.newarray atype, 2))
    (kk : ∀ (H1 : Heap), H1.size = H.size + 1 → va_P D cl (ws ++ [(H.size, .inl (cT, a0))]) H1 → va_S A H0 H1 locs → W p l e R s m args below meth c H1 locs (cells + 1) (slots + N') Q (F0 m (pc + 2) ls (.ref H.size :: rest))) : W p l e R s m args below meth c H locs cells slots Q (F0 m pc ls (.int n :: rest)) := by
  subst hty
  refine va_newaK hexec hb harr rfl hdg rfl hn hN hbytes hcells hslots rfl fun H1 cA e1 z1 o1 hAr hNm => ?_
  cases hfc.symm.trans hNm
  refine kk H1 z1 ((hP.kept fun k x hx => o1 x.1 ((hP k x hx).lt)).app (fun k x hx => ?_)) ⟨Nat.le_trans hS.1 (by omega), fun x h1 h2 => (o1 x (Nat.lt_of_lt_of_le h1 hS.1)).trans (hS.2.1 x h1 h2), hS.2.2⟩
  have hz : k < 1 := (List.getElem?_eq_some_iff.mp hx).1
  rw [show k = 0 by omega] at hx
  cases hx
  show H1[H.size]? = some (vp_cell _ _)
  rw [ha]
  exact e1
theorem jw_new (hexec : p.tables.exec = Jvm.exec) (hb : c.code = cc) {own C : String} {T : u_T} {N ci index : Nat} {Ts : List Cond} (hts : ∀ w ∈ Ts, w.before args s = true) (hin : ∀ w ∈ u_ws C T N, w ∈ Ts) (ty : Nat → FieldType) (hty : ∀ k, k < N → parseFieldDescriptor (T k).2.2.1 = some (ty k)) (hown : s.vm.findClass own = some m.cls) (hcl : (Cond.classLink own index C).before args s = true) (hinst : (Cond.instantiable C N).before args s = true) (hini : (Cond.initialized C).before args s = true)
    (hK : va_K D cl tys s) (hP : va_P D cl ws H) (hS : va_S A H0 H locs) (hc : cl[ci]? = some (C, T, N)) {fs : List Value} (hfs : ∀ j, j < N → defaultValue (ty j) = vp_V fs j) (hcells : cells + 1 ≤ R.cells) (hslots : slots + N ≤ R.slots) (hdg : decode cc pc = .ok (.new index, 3))
    (kk : ∀ (H1 : Heap), H1.size = H.size + 1 → va_P D cl (ws ++ [(H.size, .inr (ci, fs))]) H1 → va_S A H0 H1 locs → W p l e R s m args below meth c H1 locs (cells + 1) (slots + N) Q (F0 m (pc + 3) ls (.ref H.size :: rest))) : W p l e R s m args below meth c H locs cells slots Q (F0 m pc ls rest) := by
  have hKn := hK.1 ci _ hc
  refine W.newcK hexec hb hown hcl hinst hini rfl hdg hcells hslots hKn.2.1 rfl fun H1 kC hkC e1 z1 o1 => ?_
  refine kk H1 z1 ((hP.kept fun k x hx => o1 x.1 ((hP k x hx).lt)).app (fun k x hx => ?_)) ⟨Nat.le_trans hS.1 (by omega), fun x h1 h2 => (o1 x (Nat.lt_of_lt_of_le h1 hS.1)).trans (hS.2.1 x h1 h2), hS.2.2⟩
  have hz : k < 1 := (List.getElem?_eq_some_iff.mp hx).1
  rw [show k = 0 by omega] at hx
  cases hx
  exact ⟨_, hc, (u_born ty hts hin hKn hkC e1 hty).to hfs⟩
theorem jw_newq (hexec : p.tables.exec = Jvm.exec) (hb : c.code = cc) {own C : String} {index : Nat} (hown : s.vm.findClass own = some m.cls) (hclink : (Cond.classLink own index C).before args s = true) (hover : va_AO C s) {cT : ClassId} (hfc : s.vm.findClass ("[" ++ (FieldType.object C).toString) = some cT) (hP : va_P D cl ws H) (hS : va_S A H0 H locs)
    {n : Int32} {N' : Nat} (hn : ¬ n < 0) (hN : n.toNatClampNeg = N') (hbytes : N' * 4 ≤ 536870912) (hcells : cells + 1 ≤ R.cells) (hslots : slots + N' ≤ R.slots) (hdg : decode cc pc = .ok (.anewarray index, 3))
    (kk : ∀ (H1 : Heap), H1.size = H.size + 1 → va_P D cl (ws ++ [(H.size, .inl (cT, N', .inr (.inr (.inr (.inr (fun _ => none))))))]) H1 → va_S A H0 H1 locs → W p l e R s m args below meth c H1 locs (cells + 1) (slots + N') Q (F0 m (pc + 3) ls (.ref H.size :: rest))) : W p l e R s m args below meth c H locs cells slots Q (F0 m pc ls (.int n :: rest)) := by
  subst hN
  refine W.anew hexec hb hown hclink (va_AO.use hover) rfl hdg rfl hn hbytes hcells hslots fun cA kA comp f1 f2 f3 f4 => ?_
  cases hfc.symm.trans f1
  generalize hH1 : H.push ({ cls := cT, slots := Array.replicate n.toNatClampNeg .null, vm := .none } : Cell) = H1
  have z1 : H1.size = H.size + 1 := by rw [← hH1, Array.size_push]
  have e1 : H1[H.size]? = some (arrV cT n.toNatClampNeg (fun _ => .null)) := by rw [← hH1, Array.getElem?_push_size, ← arrV_new]
  have o1 : ∀ q : Nat, q < H.size → H1[q]? = H[q]? := fun q hq => by rw [← hH1, Array.getElem?_push, if_neg (Nat.ne_of_lt hq)]
  refine kk H1 z1 ((hP.kept fun k x hx => o1 x.1 ((hP k x hx).lt)).app (fun k x hx => ?_)) ⟨Nat.le_trans hS.1 (by omega), fun x h1 h2 => (o1 x (Nat.lt_of_lt_of_le h1 hS.1)).trans (hS.2.1 x h1 h2), hS.2.2⟩
  have hz : k < 1 := (List.getElem?_eq_some_iff.mp hx).1
  rw [show k = 0 by omega] at hx
  cases hx
  show H1[H.size]? = some (vp_cell _ _)
  rw [vp_cell_q]
  exact e1
theorem jw_astq (hexec : p.tables.exec = Jvm.exec) (hb : c.code = cc) (hK : va_K D cl tys s) (hP : va_P D cl ws H) (hD : va_D A ws) (hS : va_S A H0 H locs) (q0 t0 qk ci : Nat) {cA : ClassId} {r : vw_C} {n v : Nat} {vs : List Value} {f : Nat → Option Nat} (ha : ws[q0]? = some (a, .inl (cA, n, .inr (.inr (.inr (.inr f)))))) (ht : tys[t0]? = some (cA, .object r.1)) (hv : ws[qk]? = some (v, .inr (ci, vs))) (hc : cl[ci]? = some r) {i : Int32} (hin : vp_in i n) (hdg : decode cc pc = .ok (.aastore, 1))
    (kk : ∀ (H1 : Heap) (locs1 : List Loc), H1.size = H.size → va_P D cl (ws.set q0 (a, .inl (cA, n, .inr (.inr (.inr (.inr (va_up f i.toNatClampNeg (some v)))))))) H1 → va_S A H0 H1 locs1 → W p l e R s m args below meth c H1 locs1 cells slots Q (F0 m (pc + 1) ls rest)) : W p l e R s m args below meth c H locs cells slots Q (F0 m pc ls (.ref v :: .int i :: .ref a :: rest)) := by
  have hlt : i.toNatClampNeg < n := Nat.not_le.mp fun q => hin (Or.inr q)
  obtain ⟨r', hr', cellV, g1, g2, g3, -⟩ := hP qk _ hv
  have hcls := (hK.1 ci r hc).2
  obtain ⟨kA, comp, k1, k2, k3, -⟩ := (hK.2 t0 _ ht).2
  have hcomp : comp = D.1 ci := Option.some.inj (k3.symm.trans hcls.1)
  subst hcomp
  obtain ⟨kC, hkC, -⟩ := hcls.2
  refine W.aast hexec hb (hP q0 _ ha) (fun q h => by cases h) (fun h => by cases h) k1 k2 rfl hkC ⟨fun q => hin (Or.inl q), by show _ < (arrV _ _ _).slots.size; rw [arrV_size]; exact hlt⟩ g1 (fun q h => by rw [g3] at h; cases h) (by rw [g2]; exact hkC) (by rw [g2]; exact va_assign hcls) rfl rfl hdg fun H1 e z oq => ?_
  refine kk H1 _ z (hP.set hD ha ?_ oq) (hS.put z oq (hD.2 q0 _ ha))
  show H1[a]? = some (vp_cell _ _)
  rw [e, vp_cell_q, vp_cell_q, arrV_store]
  congr 2
  funext q
  by_cases hq : q = i.toNatClampNeg
  · subst hq
    simp [updV, va_up, va_rf]
  · simp [updV, va_up, hq]
end JW
end
section
def entL : List Value → List (Option Value)
  | [] => []
  | v :: r => if v.category = 2 then some v :: none :: entL r else some v :: entL r
theorem entL_in (ad : Nat → Nat) : ∀ (vs : List Value) (i0 i : Nat) (v : Value), (entL vs)[i]? = some (some v) → (i0 + i, cv ad v) ∈ lv_args i0 (vs.map (cv ad))
  | [], i0, i, v, h => by simp [entL] at h
  | w :: r, i0, i, v, h => by
    by_cases hc : w.category = 2
    · simp only [entL, hc, if_true] at h
      simp only [List.map_cons, lv_args, cv_cat, hc, if_true]
      match i, h with
      | 0, h =>
        simp at h; subst h
        exact List.mem_cons_self
      | 1, h => simp at h
      | i + 2, h =>
        have h2 := entL_in ad r (i0 + 2) i v (by simpa using h)
        have e : i0 + 2 + i = i0 + (i + 2) := by omega
        rw [e] at h2
        exact List.mem_cons_of_mem _ h2
    · simp only [entL, hc, if_false] at h
      simp only [List.map_cons, lv_args, cv_cat, hc, if_false]
      match i, h with
      | 0, h =>
        simp at h; subst h
        exact List.mem_cons_self
      | i + 1, h =>
        have h2 := entL_in ad r (i0 + 1) i v (by simpa using h)
        have e : i0 + 1 + i = i0 + (i + 1) := by omega
        rw [e] at h2
        exact List.mem_cons_of_mem _ h2
theorem entL_len (ad : Nat → Nat) : ∀ (vs : List Value), (lg_sl (vs.map (cv ad))).length = (entL vs).length
  | [] => rfl
  | w :: r => by
    have ih := entL_len ad r
    by_cases hc : w.category = 2
    · simp only [lg_sl, List.map_cons, List.flatMap_cons, cv_cat, hc, if_true, List.length_append, entL, List.length_cons, List.length_nil] at ih ⊢
      omega
    · simp only [lg_sl, List.map_cons, List.flatMap_cons, cv_cat, hc, if_false, List.length_append, entL, List.length_cons, List.length_nil] at ih ⊢
      omega
def pushR : Option Int32 → List Value → List Value
  | some x, r => .int x :: r
  | none, r => r
def noRo : ROs := fun _ => none
def PcJ (z : Nat) (b : Nat → Nat) (dC : Nat → ClassId) (dI : Nat → Nat → Nat) (dA : Nat → Nat) (as : List Value) (h : PH) : Array Value → State → Prop := fun a U =>
  a = (as.map (cv (adF z b))).toArray ∧ U.heap.size = z + h.1 ∧ h.1 ≤ jBig ∧ va_P (dC, dI) vwCl (wsOf (adF z b) dA h) U.heap ∧ va_K (dC, dI) vwCl (tysOf dA) U ∧ SX z b U ∧ TBL U
def QcJ (z : Nat) (b : Nat → Nat) (dC : Nat → ClassId) (dI : Nat → Nat → Nat) (dA : Nat → Nat) (Φ : Option Int32 → PH → Prop) : Array Value → State → Outcome → State → Prop := fun _ st o t =>
  ∃ (v : Option Int32) (h : PH), o = .returned (v.map Value.int) ∧ Φ v h ∧ t.heap.size = z + h.1 ∧ h.1 ≤ jBig ∧ va_P (dC, dI) vwCl (wsOf (adF z b) dA h) t.heap ∧ st.heap.size ≤ t.heap.size ∧ ∀ q : Nat, q < st.heap.size → ¬ z ≤ q → t.heap[q]? = st.heap[q]?
theorem PcJ_blind {z : Nat} {b : Nat → Nat} {dC : Nat → ClassId} {dI : Nat → Nat → Nat} {dA : Nat → Nat} {as : List Value} {h : PH} : FrameBlind (PcJ z b dC dI dA as h) := by
  intro a U g mk q
  obtain ⟨q0, q1, q2, qP, qK, qS, qT⟩ := q
  exact ⟨q0, q1, q2, qP, va_K.moved (u := U) (U := U.calling g mk a) (Vm.Alike.refl U.vm) qK, qS.go (U := U.calling g mk a) (State.WarmedH.refl U) (fun _ _ _ => rfl), qT.warm (U := U.calling g mk a) (State.WarmedH.refl U)⟩
abbrev rmJ (d bc bs : Nat) : Room := { frames := d, cells := bc, slots := bs, locals := d * 64 }
set_option maxHeartbeats 1000000 in
theorem met_of_J {md : MD} {d bc bs : Nat} {as : List Value} {h : PH} {Φ : Option Int32 → PH → Prop} (hpl : plainName md.1.cls = true) (hlen : (entL as).length ≤ md.2.2.1) (hJ : J noRo d bc bs md 0 (entL as) [] h Φ)
    (l : Launch) (z : Nat) (b : Nat → Nat) (dC : Nat → ClassId) (dI : Nat → Nat → Nat) (dA : Nat → Nat) : Met l md.1 [Cond.code md.1 md.2.1 md.2.2.1 md.2.2.2] (rmJ d bc bs) (PcJ z b dC dI dA as h) (QcJ z b dC dI dA Φ) bc bs (fun q => z ≤ q) := by
  refine Met.ofW (cc := md.2.1) (maxL := md.2.2.1) (ret := md.2.2.2) hpl rfl ?_
  intro p e s m args below meth c s₁ B hml hv
  obtain ⟨rfl, hsz, hbig, hP, hK, hSx, hT⟩ := hv
  have hin : meth.name = md.1.name := (name_of_methodNamed B.named B.method).1
  have hC : Cx md p (rmJ d bc bs) s m meth c d := ⟨B.exec, B.bytes, B.returns, hml, findClass_of_methodNamed B.named, B.notSynchronized, fun q => hin.trans q, hT, Nat.le_refl _, Nat.le_refl _⟩
  have hl := lv_entry (as.map (cv (adF z b))) (n := md.2.2.1) (by rw [entL_len]; exact hlen)
  rw [lg_entry_eq]
  refine hJ p l e (rmJ d bc bs) s m _ below meth c s.heap [] 0 0 bc bs _ z b dC dI dA _ hC ⟨by omega, by omega, Nat.le_refl _, Nat.le_refl _⟩ ⟨hK, ⟨by rw [hsz]; omega, hSx⟩, fun k L xs q => by cases q⟩ ⟨hsz, hbig, hP, va_S.rf⟩ ⟨hl.1, hl.2.1, fun i v hi => ?_⟩ ?_
  · have h2 := entL_in (adF z b) as 0 i v hi
    rw [Nat.zero_add] at h2
    exact hl.2.2 _ h2
  · intro v h' H' locs' cells' slots' pc' las' hΦ hW hc hs hret
    refine W.widen (k := bc) (n := bs) hc hs ?_
    cases v with
    | some x =>
      obtain ⟨hd, rt, hrt, hn⟩ := hret
      exact W.zret B.exec B.bytes (B.returns.trans hrt) hn (fun t ht hWm => ⟨some x, h', rfl, hΦ, by rw [ht]; exact hW.1, hW.2.1, by rw [ht]; exact hW.2.2.1, by rw [ht]; exact hW.2.2.2.1, fun q q1 q2 => by rw [ht]; exact hW.2.2.2.2.1 q q1 q2⟩) hW.2.2.2.2.2 hd B.notSynchronized
    | none =>
      obtain ⟨hd, hrt⟩ := hret
      exact W.vret B.exec B.bytes (B.returns.trans hrt) (fun t ht hWm => ⟨none, h', rfl, hΦ, by rw [ht]; exact hW.1, hW.2.1, by rw [ht]; exact hW.2.2.1, by rw [ht]; exact hW.2.2.2.1, fun q q1 q2 => by rw [ht]; exact hW.2.2.2.2.1 q q1 q2⟩) hW.2.2.2.2.2 hd B.notSynchronized
/-- behind a call -/
theorem jfin {p : Program} {l : Launch} {e : Env} {R : Room} {s : State} {m : MethodId} {args : Array Value} {below : List Frame} {meth : Method} {c : Code} {H : Heap} {locs : List Loc} {cells slots mc ms : Nat} {Q : State → Prop} {z : Nat} {b : Nat → Nat} {dC : Nat → ClassId} {dI : Nat → Nat → Nat} {dA : Nat → Nat} {las : Array Slot}
    {Ro : ROs} {d bc1 bs1 bc2 bs2 : Nat} {md : MD} {pc : Nat} {ls : List (Option Value)} {st0 rest : List Value} {Φ : Option Int32 → PH → Prop} {a : Array Value}
    (hrun : va_Run p l e R s m args below meth c H locs cells slots bc1 bs1 (F0 m pc las st0) (rest.map (cv (adF z b))) (QcJ z b dC dI dA (fun r g => J Ro d bc2 bs2 md (pc + 3) ls (pushR r rest) g Φ) a) (fun q => z ≤ q))
    (hC : Cx md p R s m meth c d) (hB : cells + (bc1 + bc2) ≤ mc ∧ slots + (bs1 + bs2) ≤ ms ∧ mc ≤ R.cells ∧ ms ≤ R.slots) (hK : KX z b dC dI dA Ro s) (hS : va_S (fun q => z ≤ q) s.heap H locs) (hL : LH las md.2.2.1 (adF z b) ls) (hR : RT md p l e R s m args below meth c Q mc ms z b dC dI dA Φ) :
    W p l e R s m args below meth c H locs cells slots Q (F0 m pc las st0) := by
  intro T hT X
  obtain ⟨v, st₀, t, T', L, h0, X', hLo, e1, e2, ⟨v', h', ho, hΦ, hz, hbig, hP, hle, hun⟩, st⟩ := hrun T hT X
  cases ho
  rw [h0] at hle hun
  have hW : WD z b dC dI dA s h' T'.heap (locs ++ L) := by
    refine ⟨by rw [e1]; exact hz, hbig, by rw [e1]; exact hP, Nat.le_trans hS.1 (by rw [e1]; exact hle), fun q h1 h2 => ?_, fun q hq => ?_⟩
    · rw [e1, hun q (Nat.lt_of_lt_of_le h1 hS.1) h2]
      exact hS.2.1 q h1 h2
    · rcases List.mem_append.mp hq with h | h
      · exact hS.2.2 q h
      · exact hLo q h
  obtain ⟨t2, a1, b1⟩ := hΦ p l e R s m args below meth c T'.heap (locs ++ L) (cells + bc1) (slots + bs1) mc ms Q z b dC dI dA las hC ⟨by omega, by omega, hB.2.2.1, hB.2.2.2⟩ hK hW hL hR T' rfl X'
  refine ⟨t2, st t2 ?_, b1⟩
  cases v' <;> exact a1
def MOK (mc : MD) (n : Nat) : Prop := Cond.code mc.1 mc.2.1 mc.2.2.1 mc.2.2.2 ∈ lw_tbl ∧ Cond.initialized mc.1.cls ∈ lw_tbl ∧ plainName mc.1.cls = true ∧ (mc.1.cls ≠ "java/lang/invoke/MethodHandle" ∧ mc.1.cls ≠ "java/lang/invoke/VarHandle") ∧ (parseMethodDescriptor mc.1.desc).map (fun d => d.parameters.length) = some n ∧ mc.2.2.1 ≤ 45
def MOKv (mc : MD) (n : Nat) : Prop := MOK mc n ∧ Cond.instanceMethod mc.1 ∈ lw_tbl ∧ Cond.selects mc.1.cls mc.1 mc.1 ∈ lw_tbl
def MOKs (mc : MD) (n : Nat) : Prop := MOK mc n ∧ Cond.static mc.1 ∈ lw_tbl
def MOKi (mc : MD) (n : Nat) : Prop := MOK mc n ∧ mc.1.name = "<init>" ∧ mc.2.2.2 = none ∧ Cond.instanceMethod mc.1 ∈ lw_tbl
section JC
variable {Ro : ROs} {d bc bs bc2 bs2 : Nat} {md mc : MD} {pc n idx k : Nat} {ls : List (Option Value)} {rest As : List Value} {h : PH} {Φ : Option Int32 → PH → Prop}
theorem jroom {R : Room} {d x : Nat} (h1 : d + 1 ≤ R.frames ∧ (d + 1) * 64 ≤ R.locals) (hx : x ≤ 45) : (rmJ d bc bs).frames + 1 ≤ R.frames ∧ 8 + (x + 11) + (rmJ d bc bs).locals ≤ R.locals := by
  refine ⟨h1.1, ?_⟩
  show 8 + (x + 11) + d * 64 ≤ R.locals
  have := h1.2
  omega
theorem jcb {mc : MD} {n idx d : Nat} {own : String} {R : Room} {s : State} {args : Array Value} (ho : MOK mc n) (hl : Cond.methodLink own idx mc.1 ∈ lw_tbl) (hT : TBL s) (hr : d + 1 ≤ R.frames ∧ (d + 1) * 64 ≤ R.locals) :
    CallB R s args own idx mc.1 mc.2.1 mc.2.2.1 mc.2.2.2 [Cond.code mc.1 mc.2.1 mc.2.2.1 mc.2.2.2] (rmJ d bc bs) bc bs n := by
  obtain ⟨h1, h2, h3, h4, h5, h6⟩ := ho
  have hr2 := jroom (bc := bc) (bs := bs) hr h6
  refine ⟨rfl, rfl, hr2.1, hr2.2, fun w hw a' U hW => ?_, List.mem_cons_self, hT.use h1 rfl args, hT.use h2 rfl args, h4, fun sig q => ?_, hT.use hl rfl args⟩
  · rw [List.mem_singleton.mp hw]
    exact (hT.warm hW).use h1 rfl a'
  · rw [q] at h5
    exact (Option.some.inj h5).symm
theorem jcn {mc : MD} {n idx d : Nat} {own host : String} {R : Room} {s : State} {args : Array Value} (ho : MOK mc n) (hl : Cond.methodLinkNest own idx mc.1 host ∈ lw_tbl) (hT : TBL s) (hr : d + 1 ≤ R.frames ∧ (d + 1) * 64 ≤ R.locals) :
    va_CN R s args own idx mc.1 host mc.2.1 mc.2.2.1 mc.2.2.2 [Cond.code mc.1 mc.2.1 mc.2.2.1 mc.2.2.2] (rmJ d bc bs) bc bs n := by
  obtain ⟨h1, h2, h3, h4, h5, h6⟩ := ho
  have hr2 := jroom (bc := bc) (bs := bs) hr h6
  refine ⟨⟨rfl, rfl, hr2.1, hr2.2, fun w hw a' U hW => ?_, List.mem_cons_self⟩, hT.use h1 rfl args, hT.use h2 rfl args, h4, fun sig q => ?_, va_Nw.use rfl (hT.2.1 _ _ _ _ hl)⟩
  · rw [List.mem_singleton.mp hw]
    exact (hT.warm hW).use h1 rfl a'
  · rw [q] at h5
    exact (Option.some.inj h5).symm
theorem jpre {z : Nat} {b : Nat → Nat} {dC : Nat → ClassId} {dI : Nat → Nat → Nat} {dA : Nat → Nat} {Ro : ROs} {s : State} {h : PH} {H : Heap} {locs : List Loc} {as : List Value} (hT : TBL s) (hK : KX z b dC dI dA Ro s) (hW : WD z b dC dI dA s h H locs) :
    PreS s H (PcJ z b dC dI dA as h) (as.map (cv (adF z b))) :=
  ⟨PcJ_blind, fun U hU hWm => ⟨rfl, by rw [hU]; exact hW.1, hW.2.1, by rw [hU]; exact hW.2.2.1, va_K.moved hWm.alike hK.1, hK.2.1.2.go hWm (fun a h1 h2 => by rw [hU]; exact hW.2.2.2.2.1 a h1 h2), hT.warm hWm⟩⟩
theorem jst {ad : Nat → Nat} {As rest : List Value} : (As.reverse ++ rest).map (cv ad) = (As.map (cv ad)).reverse ++ rest.map (cv ad) := by simp
theorem jrest {m : MethodId} {pc : Nat} {las : Array Slot} {st0 : List Value} {ad : Nat → Nat} (hr : (rest.map fun v => v.category).sum ≤ 8) : 2 * (F0 m pc las st0).monitorRoom + ((rest.map (cv ad)).map fun v => v.category).sum ≤ 8 := by
  rw [cv_cats]
  exact lv_room hr
theorem J_callS (hd : decode md.2.1 pc = .ok (.invokestatic idx, 3)) (hl : Cond.methodLink md.1.cls idx mc.1 ∈ lw_tbl) (ho : MOKs mc n) (hn : As.length = n) (hlen : (entL As).length ≤ mc.2.2.1) (hr : (rest.map fun v => v.category).sum ≤ 8)
    (hJ : J noRo d bc bs mc 0 (entL As) [] h (fun r g => J Ro (d + 1) bc2 bs2 md (pc + 3) ls (pushR r rest) g Φ)) : J Ro (d + 1) (bc + bc2) (bs + bs2) md pc ls (As.reverse ++ rest) h Φ := by
  intro p l e R s m args below meth c H locs cells slots mx ms Q z b dC dI dA las hC hB hK hW hL hR
  have hT := hC.2.2.2.2.2.2.2.1
  rw [jst]
  refine jfin (va_runS (Ts := []) (nL := md.2.2.1) (n := n) ⟨hC.1, hC.2.1, hC.2.2.2.1, hC.2.2.2.2.1, fun w q => by cases q⟩ (met_of_J ho.1.2.2.1 hlen hJ l z b dC dI dA) ⟨jcb ho.1 hl hT hC.2.2.2.2.2.2.2.2, hT.use ho.2 rfl args⟩ (jpre hT hK hW) rfl (by rw [List.length_map]; exact hn) hL.1 rfl (jrest hr) hd ⟨by omega, by omega⟩) hC hB hK hW.2.2.2 hL hR
theorem J_callSN {host : String} (hd : decode md.2.1 pc = .ok (.invokestatic idx, 3)) (hl : Cond.methodLinkNest md.1.cls idx mc.1 host ∈ lw_tbl) (ho : MOKs mc n) (hn : As.length = n) (hlen : (entL As).length ≤ mc.2.2.1) (hr : (rest.map fun v => v.category).sum ≤ 8)
    (hJ : J noRo d bc bs mc 0 (entL As) [] h (fun r g => J Ro (d + 1) bc2 bs2 md (pc + 3) ls (pushR r rest) g Φ)) : J Ro (d + 1) (bc + bc2) (bs + bs2) md pc ls (As.reverse ++ rest) h Φ := by
  intro p l e R s m args below meth c H locs cells slots mx ms Q z b dC dI dA las hC hB hK hW hL hR
  have hT := hC.2.2.2.2.2.2.2.1
  rw [jst]
  refine jfin (va_runSN (Ts := []) (nL := md.2.2.1) (n := n) ⟨hC.1, hC.2.1, hC.2.2.2.1, hC.2.2.2.2.1, fun w q => by cases q⟩ (met_of_J ho.1.2.2.1 hlen hJ l z b dC dI dA) ⟨jcn ho.1 hl hT hC.2.2.2.2.2.2.2.2, hT.use ho.2 rfl args, trivial⟩ (jpre hT hK hW) rfl (by rw [List.length_map]; exact hn) hL.1 rfl (jrest hr) hd ⟨by omega, by omega⟩) hC hB hK hW.2.2.2 hL hR
theorem J_callV {ci : Nat} {fs : List Value} {T : u_T} {N : Nat} (hd : decode md.2.1 pc = .ok (.invokevirtual idx, 3)) (hl : Cond.methodLink md.1.cls idx mc.1 ∈ lw_tbl) (ho : MOKv mc n) (hn : As.length = n) (hlen : (entL (.ref k :: As)).length ≤ mc.2.2.1) (hr : (rest.map fun v => v.category).sum ≤ 8) (hk : k < h.1) (he : h.2 k = .inr (ci, fs)) (hc : vwCl[ci]? = some (mc.1.cls, T, N))
    (hJ : J noRo d bc bs mc 0 (entL (.ref k :: As)) [] h (fun r g => J Ro (d + 1) bc2 bs2 md (pc + 3) ls (pushR r rest) g Φ)) : J Ro (d + 1) (bc + bc2) (bs + bs2) md pc ls (As.reverse ++ .ref k :: rest) h Φ := by
  intro p l e R s m args below meth c H locs cells slots mx ms Q z b dC dI dA las hC hB hK hW hL hR
  have hT := hC.2.2.2.2.2.2.2.1
  rw [jst]
  have he2 : (wsOf (adF z b) dA h)[k]? = some (adF z b k, .inr (ci, fs.map (cv (adF z b)))) := by rw [wsOf_at hk, he]; rfl
  have hp := jpre (as := .ref k :: As) hT hK hW
  refine jfin (va_runV (C := mc.1.cls) (b := adF z b k) (As := As.map (cv (adF z b))) (Ts := []) (nL := md.2.2.1) (n := n) ⟨hC.1, hC.2.1, hC.2.2.2.1, hC.2.2.2.2.1, fun w q => by cases q⟩ (met_of_J ho.1.2.2.1 hlen hJ l z b dC dI dA) ⟨jcb ho.1 hl hT hC.2.2.2.2.2.2.2.2, hT.use ho.2.1 rfl args, hT.use ho.2.2 rfl args⟩ ⟨hp.1, va_recv hK.1 hW.2.2.1 hc he2, hp.2⟩ rfl (by rw [List.length_map]; exact hn) hL.1 rfl (jrest hr) hd ⟨by omega, by omega⟩) hC hB hK hW.2.2.2 hL hR
theorem J_callI (hd : decode md.2.1 pc = .ok (.invokespecial idx, 3)) (hl : Cond.methodLink md.1.cls idx mc.1 ∈ lw_tbl) (ho : MOKi mc n) (hn : As.length = n) (hlen : (entL (.ref k :: As)).length ≤ mc.2.2.1) (hr : (rest.map fun v => v.category).sum ≤ 8)
    (hJ : J noRo d bc bs mc 0 (entL (.ref k :: As)) [] h (fun r g => J Ro (d + 1) bc2 bs2 md (pc + 3) ls (pushR r rest) g Φ)) : J Ro (d + 1) (bc + bc2) (bs + bs2) md pc ls (As.reverse ++ .ref k :: rest) h Φ := by
  intro p l e R s m args below meth c H locs cells slots mx ms Q z b dC dI dA las hC hB hK hW hL hR
  have hT := hC.2.2.2.2.2.2.2.1
  rw [jst]
  have hM := met_of_J ho.1.2.2.1 hlen hJ l z b dC dI dA
  have hcb := jcb (R := R) (args := args) (bc := bc) (bs := bs) ho.1 hl hT hC.2.2.2.2.2.2.2.2
  rw [ho.2.2.1] at hM hcb
  exact jfin (va_runI (b := adF z b k) (As := As.map (cv (adF z b))) (Ts := []) (nL := md.2.2.1) (n := n) ⟨hC.1, hC.2.1, hC.2.2.2.1, hC.2.2.2.2.1, fun w q => by cases q⟩ hM ⟨hcb, ho.2.1, hT.use ho.2.2.2 rfl args⟩ (jpre (as := .ref k :: As) hT hK hW) rfl (by rw [List.length_map]; exact hn) hL.1 rfl (jrest hr) hd ⟨by omega, by omega⟩) hC hB hK hW.2.2.2 hL hR
theorem J_callIN {host : String} (hd : decode md.2.1 pc = .ok (.invokespecial idx, 3)) (hl : Cond.methodLinkNest md.1.cls idx mc.1 host ∈ lw_tbl) (ho : MOKi mc n) (hn : As.length = n) (hlen : (entL (.ref k :: As)).length ≤ mc.2.2.1) (hr : (rest.map fun v => v.category).sum ≤ 8)
    (hJ : J noRo d bc bs mc 0 (entL (.ref k :: As)) [] h (fun r g => J Ro (d + 1) bc2 bs2 md (pc + 3) ls (pushR r rest) g Φ)) : J Ro (d + 1) (bc + bc2) (bs + bs2) md pc ls (As.reverse ++ .ref k :: rest) h Φ := by
  intro p l e R s m args below meth c H locs cells slots mx ms Q z b dC dI dA las hC hB hK hW hL hR
  have hT := hC.2.2.2.2.2.2.2.1
  rw [jst]
  have hM := met_of_J ho.1.2.2.1 hlen hJ l z b dC dI dA
  have hcb := jcn (R := R) (args := args) (bc := bc) (bs := bs) ho.1 hl hT hC.2.2.2.2.2.2.2.2
  rw [ho.2.2.1] at hM hcb
  exact jfin (va_runIN (b := adF z b k) (As := As.map (cv (adF z b))) (Ts := []) (nL := md.2.2.1) (n := n) ⟨hC.1, hC.2.1, hC.2.2.2.1, hC.2.2.2.2.1, fun w q => by cases q⟩ hM ⟨hcb, ho.2.1, hT.use ho.2.2.2 rfl args⟩ (jpre (as := .ref k :: As) hT hK hW) rfl (by rw [List.length_map]; exact hn) hL.1 rfl (jrest hr) hd ⟨by omega, by omega⟩) hC hB hK hW.2.2.2 hL hR
theorem J_obj {st : List Value} (hd : decode md.2.1 pc = .ok (.invokespecial idx, 3)) (hl : Cond.methodLink md.1.cls idx Lib.objectInit ∈ lw_tbl) (h1 : Cond.instanceMethod Lib.objectInit ∈ lw_tbl) (h2 : Cond.code Lib.objectInit ⟨#[0xb1]⟩ 1 none ∈ lw_tbl) (hr : (st.map fun v => v.category).sum ≤ 8)
    (kk : J Ro (d + 1) bc bs md (pc + 3) ls st h Φ) : J Ro (d + 1) bc bs md pc ls (.ref k :: st) h Φ := by
  intro p l e R s m args below meth c H locs cells slots mx ms Q z b dC dI dA las hC hB hK hW hL hR
  have hT := hC.2.2.2.2.2.2.2.1
  refine W.objInit hC.1 hC.2.1 hC.2.2.2.2.1 (hT.use hl rfl args) (hT.use h1 rfl args) (hT.use h2 rfl args) rfl (hL.1.trans hC.2.2.2.1.symm) rfl hd (Nat.le_trans (by omega) hC.2.2.2.2.2.2.2.2.1) ?_ (kk p l e R s m args below meth c H locs cells slots mx ms Q z b dC dI dA las hC hB hK hW hL hR)
  have := jrest (m := m) (pc := pc) (las := las) (st0 := (Value.ref k :: st).map (cv (adF z b))) (rest := st) (ad := adF z b) hr
  have h3 := hC.2.2.2.2.2.2.2.2.2
  omega
end JC
end
section
def FOK (own : String) (idx ci j : Nat) : Prop := ∃ (C : String) (T : u_T) (N : Nat), vwCl[ci]? = some (C, T, N) ∧ j < N ∧ Cond.fieldLink own idx (T j).1 (T j).2.1 (T j).2.2.1 ∈ lw_tbl ∧ (∀ w ∈ u_ws C T N, w ∈ lw_tbl ∧ goodWord w = true)
def POK (own : String) (idx ci j : Nat) (ty : FieldType) : Prop := ∃ (C : String) (T : u_T) (N : Nat) (ty0 : Nat → FieldType), vwCl[ci]? = some (C, T, N) ∧ j < N ∧ Cond.fieldLink own idx (T j).1 (T j).2.1 (T j).2.2.1 ∈ lw_tbl ∧ (∀ w ∈ u_ws C T N, w ∈ lw_tbl ∧ goodWord w = true) ∧ (∀ k, k < N → parseFieldDescriptor (T k).2.2.1 = some (ty0 k)) ∧ (∀ a, a < N → ∀ b, b < N → a ≠ b → (T a).2.1 ≠ (T b).2.1) ∧ (T j).2.2.2 = false ∧ parseFieldDescriptor (T j).2.2.1 = some ty
def PFOK (own : String) (idx ci j : Nat) (ty : FieldType) : Prop := ∃ (C : String) (T : u_T) (N : Nat) (ty0 : Nat → FieldType), vwCl[ci]? = some (C, T, N) ∧ j < N ∧ Cond.fieldLink own idx (T j).1 (T j).2.1 (T j).2.2.1 ∈ lw_tbl ∧ (∀ w ∈ u_ws C T N, w ∈ lw_tbl ∧ goodWord w = true) ∧ (∀ k, k < N → parseFieldDescriptor (T k).2.2.1 = some (ty0 k)) ∧ (∀ a, a < N → ∀ b, b < N → a ≠ b → (T a).2.1 ≠ (T b).2.1) ∧ (T j).2.2.2 = true ∧ (T j).1 = own ∧ parseFieldDescriptor (T j).2.2.1 = some ty
def NOK (own : String) (idx ci N : Nat) (fs : List Value) : Prop := ∃ (C : String) (T : u_T) (ty : Nat → FieldType), vwCl[ci]? = some (C, T, N) ∧ Cond.classLink own idx C ∈ lw_tbl ∧ Cond.instantiable C N ∈ lw_tbl ∧ Cond.initialized C ∈ lw_tbl ∧ (∀ w ∈ u_ws C T N, w ∈ lw_tbl ∧ goodWord w = true) ∧ (∀ k, k < N → parseFieldDescriptor (T k).2.2.1 = some (ty k)) ∧ (∀ j, j < N → defaultValue (ty j) = vp_V fs j) ∧ ∀ ad, fs.map (cv ad) = fs
theorem TBL.us {s : State} (h : TBL s) {C : String} {T : u_T} {N : Nat} (hw : ∀ w ∈ u_ws C T N, w ∈ lw_tbl ∧ goodWord w = true) (a : Array Value) : ∀ w ∈ u_ws C T N, w.before a s = true := fun w q => h.use (hw w q).1 (hw w q).2 a
section JH
variable {Ro : ROs} {d bc bs : Nat} {md : MD} {pc k : Nat} {ls : List (Option Value)} {st : List Value} {h : PH} {Φ : Option Int32 → PH → Prop}
theorem J_getf {idx ci j : Nat} {fs : List Value} {v : Value} (hd : decode md.2.1 pc = .ok (.getfield idx, 3)) (hf : FOK md.1.cls idx ci j) (hk : k < h.1) (he : h.2 k = .inr (ci, fs)) (hv : fs[j]? = some v) (kk : J Ro d bc bs md (pc + 3) ls (v :: st) h Φ) : J Ro d bc bs md pc ls (.ref k :: st) h Φ := by
  intro p l e R s m args below meth c H locs cells slots mc ms Q z b dC dI dA las hC hB hK hW hL hR
  obtain ⟨C, T, N, h1, h2, h3, h4⟩ := hf
  have hT := hC.2.2.2.2.2.2.2.1
  exact va_get hC.1 hC.2.1 (hT.us h4 args) (fun _ q => q) hC.2.2.2.2.1 hK.1 hW.2.2.1 k (fs := fs.map (cv (adF z b))) (by rw [wsOf_at hk, he]; rfl) h1 j h2 (hT.use h3 rfl args) (fun _ q => q) (v := cv (adF z b) v) (by rw [List.getElem?_map, hv]; rfl) hd (kk p l e R s m args below meth c H locs cells slots mc ms Q z b dC dI dA las hC hB hK hW hL hR)
theorem J_put {idx ci j : Nat} {ty : FieldType} {fs : List Value} {v : Value} (hd : decode md.2.1 pc = .ok (.putfield idx, 3)) (hf : POK md.1.cls idx ci j ty) (hk : k < h.1) (he : h.2 k = .inr (ci, fs)) (hj : j < fs.length) (hn : ∀ ad, narrow ty (cv ad v) = cv ad v) (hfit : ∀ ad, fits ty (cv ad v) = true) (kk : J Ro d bc bs md (pc + 3) ls st (h.1, va_up h.2 k (.inr (ci, fs.set j v))) Φ) : J Ro d bc bs md pc ls (v :: .ref k :: st) h Φ := by
  intro p l e R s m args below meth c H locs cells slots mc ms Q z b dC dI dA las hC hB hK hW hL hR
  obtain ⟨C, T, N, ty0, h1, h2, h3, h4, h5, h6, h7, h8⟩ := hf
  have hT := hC.2.2.2.2.2.2.2.1
  refine jw_put hC.1 hC.2.1 (hT.us h4 args) (fun _ q => q) ty0 h5 h6 hC.2.2.2.2.1 hK.1 hW.2.2.1 (wsOf_D hW.2.1) hW.2.2.2 k (fs := fs.map (cv (adF z b))) (by rw [wsOf_at hk, he]; rfl) h1 j h2 (hT.use h3 rfl args) h7 h8 (hn _) (hfit _) (by rw [List.length_map]; exact hj) hd (fun H1 locs1 hz hP hS => ?_)
  rw [← List.map_set, show (adF z b k, (Sum.inr (ci, (fs.set j v).map (cv (adF z b))) : va_E)) = (adF z b k, cE (adF z b) dA (.inr (ci, fs.set j v))) from rfl, wsOf_set hk] at hP
  exact kk p l e R s m args below meth c H1 locs1 cells slots mc ms Q z b dC dI dA las hC hB hK ⟨hz.trans hW.1, hW.2.1, hP, hS⟩ hL hR
theorem J_putF {idx ci j : Nat} {ty : FieldType} {fs : List Value} {v : Value} (hd : decode md.2.1 pc = .ok (.putfield idx, 3)) (hf : PFOK md.1.cls idx ci j ty) (hi : md.1.name = "<init>") (hk : k < h.1) (he : h.2 k = .inr (ci, fs)) (hj : j < fs.length) (hn : ∀ ad, narrow ty (cv ad v) = cv ad v) (hfit : ∀ ad, fits ty (cv ad v) = true) (kk : J Ro d bc bs md (pc + 3) ls st (h.1, va_up h.2 k (.inr (ci, fs.set j v))) Φ) : J Ro d bc bs md pc ls (v :: .ref k :: st) h Φ := by
  intro p l e R s m args below meth c H locs cells slots mc ms Q z b dC dI dA las hC hB hK hW hL hR
  obtain ⟨C, T, N, ty0, h1, h2, h3, h4, h5, h6, h7, h8, h9⟩ := hf
  have hT := hC.2.2.2.2.2.2.2.1
  refine jw_putF hC.1 hC.2.1 (hT.us h4 args) (fun _ q => q) ty0 h5 h6 hC.2.2.2.2.1 hK.1 hW.2.2.1 (wsOf_D hW.2.1) hW.2.2.2 k (fs := fs.map (cv (adF z b))) (by rw [wsOf_at hk, he]; rfl) h1 j h2 (hT.use h3 rfl args) h7 (hC.2.2.2.2.2.2.1 hi) h8 h9 (hn _) (hfit _) (by rw [List.length_map]; exact hj) hd (fun H1 locs1 hz hP hS => ?_)
  rw [← List.map_set, show (adF z b k, (Sum.inr (ci, (fs.set j v).map (cv (adF z b))) : va_E)) = (adF z b k, cE (adF z b) dA (.inr (ci, fs.set j v))) from rfl, wsOf_set hk] at hP
  exact kk p l e R s m args below meth c H1 locs1 cells slots mc ms Q z b dC dI dA las hC hB hK ⟨hz.trans hW.1, hW.2.1, hP, hS⟩ hL hR
theorem J_iald {n : Nat} {f : Nat → Int32} {i : Int32} (hd : decode md.2.1 pc = .ok (.iaload, 1)) (hk : k < h.1) (he : h.2 k = .inl (0, n, .inl f)) (hin : vp_in i n) (kk : J Ro d bc bs md (pc + 1) ls (.int (f i.toNatClampNeg) :: st) h Φ) : J Ro d bc bs md pc ls (.int i :: .ref k :: st) h Φ := by
  intro p l e R s m args below meth c H locs cells slots mc ms Q z b dC dI dA las hC hB hK hW hL hR
  exact va_iald hC.1 hC.2.1 hK.1 hW.2.2.1 k 0 (by rw [wsOf_at hk, he]; rfl) rfl hin hd (kk p l e R s m args below meth c H locs cells slots mc ms Q z b dC dI dA las hC hB hK hW hL hR)
theorem J_zald {n : Nat} {f : Nat → Int32} {i : Int32} (hd : decode md.2.1 pc = .ok (.baload, 1)) (hk : k < h.1) (he : h.2 k = .inl (1, n, .inl f)) (hin : vp_in i n) (kk : J Ro d bc bs md (pc + 1) ls (.int (f i.toNatClampNeg) :: st) h Φ) : J Ro d bc bs md pc ls (.int i :: .ref k :: st) h Φ := by
  intro p l e R s m args below meth c H locs cells slots mc ms Q z b dC dI dA las hC hB hK hW hL hR
  exact va_zald hC.1 hC.2.1 hK.1 hW.2.2.1 k 1 (by rw [wsOf_at hk, he]; rfl) rfl hin hd (kk p l e R s m args below meth c H locs cells slots mc ms Q z b dC dI dA las hC hB hK hW hL hR)
theorem J_iast {n : Nat} {f : Nat → Int32} {i x : Int32} (hd : decode md.2.1 pc = .ok (.iastore, 1)) (hk : k < h.1) (he : h.2 k = .inl (0, n, .inl f)) (hin : vp_in i n) (kk : J Ro d bc bs md (pc + 1) ls st (h.1, va_up h.2 k (.inl (0, n, .inl (upd f i.toNatClampNeg x)))) Φ) : J Ro d bc bs md pc ls (.int x :: .int i :: .ref k :: st) h Φ := by
  intro p l e R s m args below meth c H locs cells slots mc ms Q z b dC dI dA las hC hB hK hW hL hR
  refine jw_iast hC.1 hC.2.1 hK.1 hW.2.2.1 (wsOf_D hW.2.1) hW.2.2.2 k 0 (by rw [wsOf_at hk, he]; rfl) rfl hin hd (fun H1 locs1 hz hP hS => ?_)
  rw [show (adF z b k, (Sum.inl (dA 0, n, .inl (upd f i.toNatClampNeg x)) : va_E)) = (adF z b k, cE (adF z b) dA (.inl (0, n, .inl (upd f i.toNatClampNeg x)))) from rfl, wsOf_set hk] at hP
  exact kk p l e R s m args below meth c H1 locs1 cells slots mc ms Q z b dC dI dA las hC hB hK ⟨hz.trans hW.1, hW.2.1, hP, hS⟩ hL hR
theorem J_zast {n : Nat} {f : Nat → Int32} {i x : Int32} (hd : decode md.2.1 pc = .ok (.bastore, 1)) (hk : k < h.1) (he : h.2 k = .inl (1, n, .inl f)) (hin : vp_in i n) (hx : narrow .boolean (.int x) = .int x) (kk : J Ro d bc bs md (pc + 1) ls st (h.1, va_up h.2 k (.inl (1, n, .inl (upd f i.toNatClampNeg x)))) Φ) : J Ro d bc bs md pc ls (.int x :: .int i :: .ref k :: st) h Φ := by
  intro p l e R s m args below meth c H locs cells slots mc ms Q z b dC dI dA las hC hB hK hW hL hR
  refine jw_zast hC.1 hC.2.1 hK.1 hW.2.2.1 (wsOf_D hW.2.1) hW.2.2.2 k 1 (by rw [wsOf_at hk, he]; rfl) rfl hin hx hd (fun H1 locs1 hz hP hS => ?_)
  rw [show (adF z b k, (Sum.inl (dA 1, n, .inl (upd f i.toNatClampNeg x)) : va_E)) = (adF z b k, cE (adF z b) dA (.inl (1, n, .inl (upd f i.toNatClampNeg x)))) from rfl, wsOf_set hk] at hP
  exact kk p l e R s m args below meth c H1 locs1 cells slots mc ms Q z b dC dI dA las hC hB hK ⟨hz.trans hW.1, hW.2.1, hP, hS⟩ hL hR
theorem J_alen {n : Nat} {f : Nat → Int32} {v : Int32} (hd : decode md.2.1 pc = .ok (.arraylength, 1)) (hk : k < h.1) (he : h.2 k = .inl (0, n, .inl f)) (hv : Int32.ofNat n = v) (kk : J Ro d bc bs md (pc + 1) ls (.int v :: st) h Φ) : J Ro d bc bs md pc ls (.ref k :: st) h Φ := by
  intro p l e R s m args below meth c H locs cells slots mc ms Q z b dC dI dA las hC hB hK hW hL hR
  exact va_alen hC.1 hC.2.1 hK.1 hW.2.2.1 k 0 (x := (n, .inl f)) (by rw [wsOf_at hk, he]; rfl) rfl hv hd (kk p l e R s m args below meth c H locs cells slots mc ms Q z b dC dI dA las hC hB hK hW hL hR)
theorem J_aald {n r : Nat} {f : Nat → Option Nat} {i : Int32} (hd : decode md.2.1 pc = .ok (.aaload, 1)) (hk : k < h.1) (he : h.2 k = .inl (2, n, .inr (.inr (.inr (.inr f))))) (hin : vp_in i n) (hr : f i.toNatClampNeg = some r) (kk : J Ro d bc bs md (pc + 1) ls (.ref r :: st) h Φ) : J Ro d bc bs md pc ls (.int i :: .ref k :: st) h Φ := by
  intro p l e R s m args below meth c H locs cells slots mc ms Q z b dC dI dA las hC hB hK hW hL hR
  refine va_aldq hC.1 hC.2.1 hK.1 hW.2.2.1 k 2 (C := RX0) (f := fun j => (f j).map (adF z b)) (by rw [wsOf_at hk, he]; rfl) rfl hin hd ?_
  rw [hr]
  exact kk p l e R s m args below meth c H locs cells slots mc ms Q z b dC dI dA las hC hB hK hW hL hR
theorem J_aast {n r ci : Nat} {fs : List Value} {T : u_T} {N : Nat} {f : Nat → Option Nat} {i : Int32} (hd : decode md.2.1 pc = .ok (.aastore, 1)) (hk : k < h.1) (he : h.2 k = .inl (2, n, .inr (.inr (.inr (.inr f))))) (hr : r < h.1) (hr2 : h.2 r = .inr (ci, fs)) (hc : vwCl[ci]? = some (RX0, T, N)) (hin : vp_in i n) (kk : J Ro d bc bs md (pc + 1) ls st (h.1, va_up h.2 k (.inl (2, n, .inr (.inr (.inr (.inr (va_up f i.toNatClampNeg (some r)))))))) Φ) : J Ro d bc bs md pc ls (.ref r :: .int i :: .ref k :: st) h Φ := by
  intro p l e R s m args below meth c H locs cells slots mc ms Q z b dC dI dA las hC hB hK hW hL hR
  refine jw_astq hC.1 hC.2.1 hK.1 hW.2.2.1 (wsOf_D hW.2.1) hW.2.2.2 k 2 r ci (r := (RX0, T, N)) (vs := fs.map (cv (adF z b))) (f := fun j => (f j).map (adF z b)) (by rw [wsOf_at hk, he]; rfl) rfl (by rw [wsOf_at hr, hr2]; rfl) hc hin hd (fun H1 locs1 hz hP hS => ?_)
  have ev : (va_up (fun j => (f j).map (adF z b)) i.toNatClampNeg (some (adF z b r))) = (fun j => (va_up f i.toNatClampNeg (some r) j).map (adF z b)) := by
    funext j
    by_cases hj : j = i.toNatClampNeg
    · simp [va_up, hj]
    · simp [va_up, hj]
  rw [ev, show (adF z b k, (Sum.inl (dA 2, n, .inr (.inr (.inr (.inr (fun j => (va_up f i.toNatClampNeg (some r) j).map (adF z b)))))) : va_E)) = (adF z b k, cE (adF z b) dA (.inl (2, n, .inr (.inr (.inr (.inr (va_up f i.toNatClampNeg (some r)))))))) from rfl, wsOf_set hk] at hP
  exact kk p l e R s m args below meth c H1 locs1 cells slots mc ms Q z b dC dI dA las hC hB hK ⟨hz.trans hW.1, hW.2.1, hP, hS⟩ hL hR
theorem J_new {idx ci N : Nat} {fs : List Value} (hd : decode md.2.1 pc = .ok (.new idx, 3)) (hf : NOK md.1.cls idx ci N fs) (hb : h.1 < jBig) (kk : J Ro d bc bs md (pc + 3) ls (.ref h.1 :: st) (h.1 + 1, va_up h.2 h.1 (.inr (ci, fs))) Φ) : J Ro d (bc + 1) (bs + N) md pc ls st h Φ := by
  intro p l e R s m args below meth c H locs cells slots mc ms Q z b dC dI dA las hC hB hK hW hL hR
  obtain ⟨C, T, ty, h1, h2, h3, h4, h5, h6, h7, h8⟩ := hf
  have hT := hC.2.2.2.2.2.2.2.1
  refine jw_new hC.1 hC.2.1 (hT.us h5 args) (fun _ q => q) ty h6 hC.2.2.2.2.1 (hT.use h2 rfl args) (hT.use h3 rfl args) (hT.use h4 rfl args) hK.1 hW.2.2.1 hW.2.2.2 h1 h7 (by omega) (by omega) hd (fun H1 hz hP hS => ?_)
  have ea : H.size = adF z b h.1 := by rw [adF_lt hb]; exact hW.1
  rw [ea, show (adF z b h.1, (Sum.inr (ci, fs) : va_E)) = (adF z b h.1, cE (adF z b) dA (.inr (ci, fs))) by simp only [cE, h8], wsOf_push] at hP
  rw [ea]
  exact kk p l e R s m args below meth c H1 locs (cells + 1) (slots + N) mc ms Q z b dC dI dA las hC ⟨by omega, by omega, hB.2.2.1, hB.2.2.2⟩ hK ⟨by rw [hz, hW.1]; show z + h.1 + 1 = z + (h.1 + 1); omega, hb, hP, hS⟩ hL hR
theorem J_newI {n : Int32} {N : Nat} (hd : decode md.2.1 pc = .ok (.newarray .int, 2)) (ha : Cond.arrayClass .int ∈ lw_tbl) (hn : ¬ n < 0) (hN : n.toNatClampNeg = N) (hN2 : N ≤ 100000) (hb : h.1 < jBig) (kk : J Ro d bc bs md (pc + 2) ls (.ref h.1 :: st) (h.1 + 1, va_up h.2 h.1 (.inl (0, N, .inl (fun _ => 0)))) Φ) : J Ro d (bc + 1) (bs + N) md pc ls (.int n :: st) h Φ := by
  intro p l e R s m args below meth c H locs cells slots mc ms Q z b dC dI dA las hC hB hK hW hL hR
  have hT := hC.2.2.2.2.2.2.2.1
  have hfc : s.vm.findClass ("[" ++ FieldType.int.toString) = some (dA 0) := (hK.1.2 0 (dA 0, .int) rfl).2
  have hty : newarray.typeOf ArrayType.int = FieldType.int := rfl
  have hcb : componentBytes FieldType.int = 4 := rfl
  have hcl : ∀ cT : ClassId, vp_cell cT (N, .inl (fun _ => 0)) = arrV cT N (fun _ => defaultValue FieldType.int) := fun cT => rfl
  have har : (Cond.arrayClass (newarray.typeOf ArrayType.int)).before args s = true := by rw [hty]; exact hT.use ha rfl args
  have hby : N * componentBytes FieldType.int ≤ 536870912 := by rw [hcb]; omega
  refine jw_newa (atype := ArrayType.int) (ty := FieldType.int) (N' := N) (cT := dA 0) (a0 := (N, .inl (fun _ => 0))) hC.1 hC.2.1 har hty hW.2.2.1 hW.2.2.2 hfc (hcl _) hn hN hby (by omega) (by omega) hd (fun H1 hz hP hS => ?_)
  have ea : H.size = adF z b h.1 := by rw [adF_lt hb]; exact hW.1
  rw [ea, show (adF z b h.1, (Sum.inl (dA 0, N, .inl (fun _ => 0)) : va_E)) = (adF z b h.1, cE (adF z b) dA (.inl (0, N, .inl (fun _ => 0)))) from rfl, wsOf_push] at hP
  rw [ea]
  exact kk p l e R s m args below meth c H1 locs (cells + 1) (slots + N) mc ms Q z b dC dI dA las hC ⟨by omega, by omega, hB.2.2.1, hB.2.2.2⟩ hK ⟨by rw [hz, hW.1]; show z + h.1 + 1 = z + (h.1 + 1); omega, hb, hP, hS⟩ hL hR
theorem J_newZ {n : Int32} {N : Nat} (hd : decode md.2.1 pc = .ok (.newarray .boolean, 2)) (ha : Cond.arrayClass .boolean ∈ lw_tbl) (hn : ¬ n < 0) (hN : n.toNatClampNeg = N) (hN2 : N ≤ 100000) (hb : h.1 < jBig) (kk : J Ro d bc bs md (pc + 2) ls (.ref h.1 :: st) (h.1 + 1, va_up h.2 h.1 (.inl (1, N, .inl (fun _ => 0)))) Φ) : J Ro d (bc + 1) (bs + N) md pc ls (.int n :: st) h Φ := by
  intro p l e R s m args below meth c H locs cells slots mc ms Q z b dC dI dA las hC hB hK hW hL hR
  have hT := hC.2.2.2.2.2.2.2.1
  have hfc : s.vm.findClass ("[" ++ FieldType.boolean.toString) = some (dA 1) := (hK.1.2 1 (dA 1, .boolean) rfl).2
  have hty : newarray.typeOf ArrayType.boolean = FieldType.boolean := rfl
  have hcb : componentBytes FieldType.boolean = 1 := rfl
  have hcl : ∀ cT : ClassId, vp_cell cT (N, .inl (fun _ => 0)) = arrV cT N (fun _ => defaultValue FieldType.boolean) := fun cT => rfl
  have har : (Cond.arrayClass (newarray.typeOf ArrayType.boolean)).before args s = true := by rw [hty]; exact hT.use ha rfl args
  have hby : N * componentBytes FieldType.boolean ≤ 536870912 := by rw [hcb]; omega
  refine jw_newa (atype := ArrayType.boolean) (ty := FieldType.boolean) (N' := N) (cT := dA 1) (a0 := (N, .inl (fun _ => 0))) hC.1 hC.2.1 har hty hW.2.2.1 hW.2.2.2 hfc (hcl _) hn hN hby (by omega) (by omega) hd (fun H1 hz hP hS => ?_)
  have ea : H.size = adF z b h.1 := by rw [adF_lt hb]; exact hW.1
  rw [ea, show (adF z b h.1, (Sum.inl (dA 1, N, .inl (fun _ => 0)) : va_E)) = (adF z b h.1, cE (adF z b) dA (.inl (1, N, .inl (fun _ => 0)))) from rfl, wsOf_push] at hP
  rw [ea]
  exact kk p l e R s m args below meth c H1 locs (cells + 1) (slots + N) mc ms Q z b dC dI dA las hC ⟨by omega, by omega, hB.2.2.1, hB.2.2.2⟩ hK ⟨by rw [hz, hW.1]; show z + h.1 + 1 = z + (h.1 + 1); omega, hb, hP, hS⟩ hL hR
theorem J_newQ {n : Int32} {N idx : Nat} (hd : decode md.2.1 pc = .ok (.anewarray idx, 3)) (hl : Cond.classLink md.1.cls idx RX0 ∈ lw_tbl) (hn : ¬ n < 0) (hN : n.toNatClampNeg = N) (hN2 : N ≤ 100000) (hb : h.1 < jBig) (kk : J Ro d bc bs md (pc + 3) ls (.ref h.1 :: st) (h.1 + 1, va_up h.2 h.1 (.inl (2, N, .inr (.inr (.inr (.inr (fun _ => none))))))) Φ) : J Ro d (bc + 1) (bs + N) md pc ls (.int n :: st) h Φ := by
  intro p l e R s m args below meth c H locs cells slots mc ms Q z b dC dI dA las hC hB hK hW hL hR
  have hT := hC.2.2.2.2.2.2.2.1
  obtain ⟨kA, comp, q1, q2, q3, q4⟩ := (hK.1.2 2 (dA 2, .object RX0) rfl).2
  refine jw_newq hC.1 hC.2.1 hC.2.2.2.2.1 (hT.use hl rfl args) hT.2.2 q4 hW.2.2.1 hW.2.2.2 hn hN (by omega) (by omega) (by omega) hd (fun H1 hz hP hS => ?_)
  have ea : H.size = adF z b h.1 := by rw [adF_lt hb]; exact hW.1
  rw [ea, show (adF z b h.1, (Sum.inl (dA 2, N, .inr (.inr (.inr (.inr (fun _ => none))))) : va_E)) = (adF z b h.1, cE (adF z b) dA (.inl (2, N, .inr (.inr (.inr (.inr (fun _ => none))))))) from rfl, wsOf_push] at hP
  rw [ea]
  exact kk p l e R s m args below meth c H1 locs (cells + 1) (slots + N) mc ms Q z b dC dI dA las hC ⟨by omega, by omega, hB.2.2.1, hB.2.2.2⟩ hK ⟨by rw [hz, hW.1]; show z + h.1 + 1 = z + (h.1 + 1); omega, hb, hP, hS⟩ hL hR
theorem J_sld {L : Nat} {xs : Nat → Int32} {i : Int32} (hd : decode md.2.1 pc = .ok (.iaload, 1)) (hr : Ro k = some (L, xs)) (hin : vp_in i L) (kk : J Ro d bc bs md (pc + 1) ls (.int (xs i.toNatClampNeg) :: st) h Φ) : J Ro d bc bs md pc ls (.int i :: .ref k :: st) h Φ := by
  intro p l e R s m args below meth c H locs cells slots mc ms Q z b dC dI dA las hC hB hK hW hL hR
  obtain ⟨q1, q2, q3, q4⟩ := hK.2.2 k L xs hr
  have eb : adF z b k = b k := if_neg (Nat.not_lt.mpr q1)
  have := va_sld hC.1 hC.2.1 q2 q3 (Nat.not_le.mpr q4) hW.2.2.2 hin hd (kk p l e R s m args below meth c H locs cells slots mc ms Q z b dC dI dA las hC hB hK hW hL hR)
  show W p l e R s m args below meth c H locs cells slots Q (F0 m pc las (.int i :: .ref (adF z b k) :: st.map (cv (adF z b))))
  rw [eb]
  exact this
theorem J_slen {L : Nat} {xs : Nat → Int32} (hd : decode md.2.1 pc = .ok (.arraylength, 1)) (hr : Ro k = some (L, xs)) (kk : J Ro d bc bs md (pc + 1) ls (.int (nI L) :: st) h Φ) : J Ro d bc bs md pc ls (.ref k :: st) h Φ := by
  intro p l e R s m args below meth c H locs cells slots mc ms Q z b dC dI dA las hC hB hK hW hL hR
  obtain ⟨q1, q2, q3, q4⟩ := hK.2.2 k L xs hr
  have eb : adF z b k = b k := if_neg (Nat.not_lt.mpr q1)
  have := va_slen hC.1 hC.2.1 q2 q3 (Nat.not_le.mpr q4) hW.2.2.2 hd (kk p l e R s m args below meth c H locs cells slots mc ms Q z b dC dI dA las hC hB hK hW hL hR)
  show W p l e R s m args below meth c H locs cells slots Q (F0 m pc las (.ref (adF z b k) :: st.map (cv (adF z b))))
  rw [eb]
  exact this
end JH
end
section
theorem in1 {w : Cond} (h : w ∈ tables_1_1) : w ∈ lw_tbl := List.mem_append_right _ (show w ∈ tables_1 from (List.mem_append_left _ h))
theorem in2 {w : Cond} (h : w ∈ tables_1_2) : w ∈ lw_tbl := List.mem_append_right _ (show w ∈ tables_1 from (List.mem_append_right _ (List.mem_append_left _ h)))
theorem in3 {w : Cond} (h : w ∈ tables_1_3) : w ∈ lw_tbl := List.mem_append_right _ (show w ∈ tables_1 from (List.mem_append_right _ (List.mem_append_right _ (List.mem_append_left _ h))))
theorem in4 {w : Cond} (h : w ∈ tables_1_4) : w ∈ lw_tbl := List.mem_append_right _ (show w ∈ tables_1 from (List.mem_append_right _ (List.mem_append_right _ (List.mem_append_right _ (List.mem_append_left _ h)))))
theorem in5 {w : Cond} (h : w ∈ tables_1_5) : w ∈ lw_tbl := List.mem_append_right _ (show w ∈ tables_1 from (List.mem_append_right _ (List.mem_append_right _ (List.mem_append_right _ (List.mem_append_right _ (List.mem_append_left _ h))))))
theorem in6 {w : Cond} (h : w ∈ tables_1_6) : w ∈ lw_tbl := List.mem_append_right _ (show w ∈ tables_1 from (List.mem_append_right _ (List.mem_append_right _ (List.mem_append_right _ (List.mem_append_right _ (List.mem_append_right _ h))))))
theorem inS {w : Cond} (h : w ∈ k2_sels lw_privs) : w ∈ lw_tbl := List.mem_append_left _ h
theorem wIn {ws : List Cond} {big : List Cond} (hb : ∀ w ∈ big, w ∈ lw_tbl) (ps : List Nat) (hp : ws = ps.filterMap (fun i => big[i]?)) (h : ws.all goodWord = true) : ∀ w ∈ ws, w ∈ lw_tbl ∧ goodWord w = true := by
  intro w hw
  refine ⟨?_, List.all_eq_true.mp h w hw⟩
  rw [hp] at hw
  obtain ⟨i, -, hi⟩ := List.mem_filterMap.mp hw
  exact hb w (List.mem_of_getElem? hi)
theorem inT {w : Cond} (h : w ∈ tables_1) : w ∈ lw_tbl := List.mem_append_right _ h
theorem wX0 : ∀ w ∈ u_ws RX0 TX0 5, w ∈ lw_tbl ∧ goodWord w = true := wIn (big := tables_1) (fun w h => inT h) [228, 230, 232, 234, 236] (by decide +kernel) (by decide +kernel)
theorem wX1 : ∀ w ∈ u_ws RX1 TX1 7, w ∈ lw_tbl ∧ goodWord w = true := wIn (big := tables_1) (fun w h => inT h) [42, 44, 46, 48, 50, 52, 54] (by decide +kernel) (by decide +kernel)
theorem wX2 : ∀ w ∈ u_ws RX2 TX2 4, w ∈ lw_tbl ∧ goodWord w = true := wIn (big := tables_1) (fun w h => inT h) [173, 175, 177, 179] (by decide +kernel) (by decide +kernel)
theorem wX3 : ∀ w ∈ u_ws RX3 TX3 4, w ∈ lw_tbl ∧ goodWord w = true := wIn (big := tables_1) (fun w h => inT h) [69, 71, 73, 75] (by decide +kernel) (by decide +kernel)
theorem wX4 : ∀ w ∈ u_ws RX4 TX4 4, w ∈ lw_tbl ∧ goodWord w = true := wIn (big := tables_1) (fun w h => inT h) [249, 251, 253, 255] (by decide +kernel) (by decide +kernel)
theorem wX5 : ∀ w ∈ u_ws RX5 TX5 6, w ∈ lw_tbl ∧ goodWord w = true := wIn (big := tables_1) (fun w h => inT h) [150, 152, 154, 156, 158, 160] (by decide +kernel) (by decide +kernel)
theorem wX6 : ∀ w ∈ u_ws RX6 TX6 9, w ∈ lw_tbl ∧ goodWord w = true := wIn (big := tables_1) (fun w h => inT h) [197, 199, 201, 203, 205, 207, 209, 211, 213] (by decide +kernel) (by decide +kernel)
theorem wX7 : ∀ w ∈ u_ws RX7 TX7 6, w ∈ lw_tbl ∧ goodWord w = true := wIn (big := tables_1) (fun w h => inT h) [103, 105, 107, 109, 111, 113] (by decide +kernel) (by decide +kernel)
theorem wX8 : ∀ w ∈ u_ws RX8 TX8 2, w ∈ lw_tbl ∧ goodWord w = true := wIn (big := tables_1) (fun w h => inT h) [86, 88] (by decide +kernel) (by decide +kernel)
theorem wX9 : ∀ w ∈ u_ws RX9 TX9 5, w ∈ lw_tbl ∧ goodWord w = true := wIn (big := tables_1) (fun w h => inT h) [129, 131, 133, 135, 137] (by decide +kernel) (by decide +kernel)
theorem wX10 : ∀ w ∈ u_ws RX10 TX10 7, w ∈ lw_tbl ∧ goodWord w = true := wIn (big := tables_1) (fun w h => inT h) [271, 273, 275, 277, 279, 281, 283] (by decide +kernel) (by decide +kernel)
theorem wX11 : ∀ w ∈ u_ws RX11 TX11 13, w ∈ lw_tbl ∧ goodWord w = true := wIn (big := tables_1) (fun w h => inT h) [299, 301, 303, 305, 307, 309, 311, 313, 315, 317, 319, 321, 323] (by decide +kernel) (by decide +kernel)
theorem wX12 : ∀ w ∈ u_ws RX12 TX12 60, w ∈ lw_tbl ∧ goodWord w = true := wIn (big := tables_1) (fun w h => inT h) [956, 958, 960, 962, 964, 966, 968, 970, 972, 974, 976, 978, 980, 982, 984, 986, 988, 990, 992, 994, 996, 998, 1000, 1002, 1004, 1006, 1008, 1010, 1012, 1014, 1016, 1018, 1020, 1022, 1024, 1026, 1028, 1030, 1032, 1034, 1036, 1038, 1040, 1042, 1044, 1046, 1048, 1050, 1052, 1054, 1056, 1058, 1060, 1062, 1064, 1066, 1068, 1070, 1072, 1074] (by decide +kernel) (by decide +kernel)
abbrev mX0_init : MD := (yX0_init, cX0_init, 1, none)
theorem oX0_init : MOKi mX0_init 0 := ⟨⟨in1 (List.mem_of_getElem? (i := 221) rfl), in1 (List.mem_of_getElem? (i := 10) (by decide +kernel)), by decide +kernel, by decide +kernel, by decide +kernel, by decide⟩, rfl, rfl, in1 (List.mem_of_getElem? (i := 220) (by decide +kernel))⟩
abbrev mX0_count : MD := (yX0_count, cX0_count, 1, (some .int))
theorem oX0_count : MOKv mX0_count 0 := ⟨⟨in4 (List.mem_of_getElem? (i := 79) rfl), in1 (List.mem_of_getElem? (i := 10) (by decide +kernel)), by decide +kernel, by decide +kernel, by decide +kernel, by decide⟩, in4 (List.mem_of_getElem? (i := 77) (by decide +kernel)), in4 (List.mem_of_getElem? (i := 78) (by decide +kernel))⟩
abbrev mX0_spoiltSoFar : MD := (yX0_spoiltSoFar, cX0_spoiltSoFar, 1, (some .int))
theorem oX0_spoiltSoFar : MOKv mX0_spoiltSoFar 0 := ⟨⟨in4 (List.mem_of_getElem? (i := 87) rfl), in1 (List.mem_of_getElem? (i := 10) (by decide +kernel)), by decide +kernel, by decide +kernel, by decide +kernel, by decide⟩, in4 (List.mem_of_getElem? (i := 85) (by decide +kernel)), in4 (List.mem_of_getElem? (i := 86) (by decide +kernel))⟩
abbrev mX0_firstLast : MD := (yX0_firstLast, cX0_firstLast, 1, (some .int))
theorem oX0_firstLast : MOKv mX0_firstLast 0 := ⟨⟨in4 (List.mem_of_getElem? (i := 91) rfl), in1 (List.mem_of_getElem? (i := 10) (by decide +kernel)), by decide +kernel, by decide +kernel, by decide +kernel, by decide⟩, in4 (List.mem_of_getElem? (i := 89) (by decide +kernel)), in4 (List.mem_of_getElem? (i := 90) (by decide +kernel))⟩
abbrev mX0_total : MD := (yX0_total, cX0_total, 3, (some .int))
theorem oX0_total : MOKv mX0_total 0 := ⟨⟨in4 (List.mem_of_getElem? (i := 83) rfl), in1 (List.mem_of_getElem? (i := 10) (by decide +kernel)), by decide +kernel, by decide +kernel, by decide +kernel, by decide⟩, in4 (List.mem_of_getElem? (i := 81) (by decide +kernel)), in4 (List.mem_of_getElem? (i := 82) (by decide +kernel))⟩
abbrev mX0_add : MD := (yX0_add, cX0_add, 4, (some .int))
theorem oX0_add : MOKv mX0_add 2 := ⟨⟨in4 (List.mem_of_getElem? (i := 12) rfl), in1 (List.mem_of_getElem? (i := 10) (by decide +kernel)), by decide +kernel, by decide +kernel, by decide +kernel, by decide⟩, in4 (List.mem_of_getElem? (i := 10) (by decide +kernel)), in4 (List.mem_of_getElem? (i := 11) (by decide +kernel))⟩
abbrev mX0_spoil : MD := (yX0_spoil, cX0_spoil, 3, none)
theorem oX0_spoil : MOKv mX0_spoil 1 := ⟨⟨in4 (List.mem_of_getElem? (i := 47) rfl), in1 (List.mem_of_getElem? (i := 10) (by decide +kernel)), by decide +kernel, by decide +kernel, by decide +kernel, by decide⟩, in4 (List.mem_of_getElem? (i := 45) (by decide +kernel)), in4 (List.mem_of_getElem? (i := 46) (by decide +kernel))⟩
abbrev mX0_take : MD := (yX0_take, cX0_take, 4, (some .int))
theorem oX0_take : MOKv mX0_take 1 := ⟨⟨in4 (List.mem_of_getElem? (i := 63) rfl), in1 (List.mem_of_getElem? (i := 10) (by decide +kernel)), by decide +kernel, by decide +kernel, by decide +kernel, by decide⟩, in4 (List.mem_of_getElem? (i := 61) (by decide +kernel)), in4 (List.mem_of_getElem? (i := 62) (by decide +kernel))⟩
abbrev mX0_nightsFor : MD := (yX0_nightsFor, cX0_nightsFor, 4, (some .int))
theorem oX0_nightsFor : MOKv mX0_nightsFor 2 := ⟨⟨in4 (List.mem_of_getElem? (i := 104) rfl), in1 (List.mem_of_getElem? (i := 10) (by decide +kernel)), by decide +kernel, by decide +kernel, by decide +kernel, by decide⟩, in4 (List.mem_of_getElem? (i := 102) (by decide +kernel)), in4 (List.mem_of_getElem? (i := 103) (by decide +kernel))⟩
abbrev mX0_suffices : MD := (yX0_suffices, cX0_suffices, 6, (some .boolean))
theorem oX0_suffices : MOKv mX0_suffices 2 := ⟨⟨in4 (List.mem_of_getElem? (i := 109) rfl), in1 (List.mem_of_getElem? (i := 10) (by decide +kernel)), by decide +kernel, by decide +kernel, by decide +kernel, by decide⟩, in4 (List.mem_of_getElem? (i := 108) (by decide +kernel)), inS (List.mem_of_getElem? (i := 22) (by decide +kernel))⟩
abbrev mX0_drop : MD := (yX0_drop, cX0_drop, 3, none)
theorem oX0_drop : MOKv mX0_drop 1 := ⟨⟨in4 (List.mem_of_getElem? (i := 51) rfl), in1 (List.mem_of_getElem? (i := 10) (by decide +kernel)), by decide +kernel, by decide +kernel, by decide +kernel, by decide⟩, in4 (List.mem_of_getElem? (i := 50) (by decide +kernel)), inS (List.mem_of_getElem? (i := 20) (by decide +kernel))⟩
abbrev mX1_init : MD := (yX1_init, cX1_init, 1, none)
theorem oX1_init : MOKi mX1_init 0 := ⟨⟨in1 (List.mem_of_getElem? (i := 33) rfl), in1 (List.mem_of_getElem? (i := 2) (by decide +kernel)), by decide +kernel, by decide +kernel, by decide +kernel, by decide⟩, rfl, rfl, in1 (List.mem_of_getElem? (i := 32) (by decide +kernel))⟩
abbrev mX1_count : MD := (yX1_count, cX1_count, 1, (some .int))
theorem oX1_count : MOKv mX1_count 0 := ⟨⟨in2 (List.mem_of_getElem? (i := 96) rfl), in1 (List.mem_of_getElem? (i := 2) (by decide +kernel)), by decide +kernel, by decide +kernel, by decide +kernel, by decide⟩, in2 (List.mem_of_getElem? (i := 94) (by decide +kernel)), in2 (List.mem_of_getElem? (i := 95) (by decide +kernel))⟩
abbrev mX1_has : MD := (yX1_has, cX1_has, 2, (some .boolean))
theorem oX1_has : MOKv mX1_has 1 := ⟨⟨in2 (List.mem_of_getElem? (i := 116) rfl), in1 (List.mem_of_getElem? (i := 2) (by decide +kernel)), by decide +kernel, by decide +kernel, by decide +kernel, by decide⟩, in2 (List.mem_of_getElem? (i := 114) (by decide +kernel)), in2 (List.mem_of_getElem? (i := 115) (by decide +kernel))⟩
abbrev mX1_add : MD := (yX1_add, cX1_add, 4, (some .int))
theorem oX1_add : MOKv mX1_add 3 := ⟨⟨in2 (List.mem_of_getElem? (i := 104) rfl), in1 (List.mem_of_getElem? (i := 2) (by decide +kernel)), by decide +kernel, by decide +kernel, by decide +kernel, by decide⟩, in2 (List.mem_of_getElem? (i := 102) (by decide +kernel)), in2 (List.mem_of_getElem? (i := 103) (by decide +kernel))⟩
abbrev mX1_kindOf : MD := (yX1_kindOf, cX1_kindOf, 2, (some .int))
theorem oX1_kindOf : MOKv mX1_kindOf 1 := ⟨⟨in3 (List.mem_of_getElem? (i := 133) rfl), in1 (List.mem_of_getElem? (i := 2) (by decide +kernel)), by decide +kernel, by decide +kernel, by decide +kernel, by decide⟩, in3 (List.mem_of_getElem? (i := 131) (by decide +kernel)), in3 (List.mem_of_getElem? (i := 132) (by decide +kernel))⟩
abbrev mX1_ageOf : MD := (yX1_ageOf, cX1_ageOf, 2, (some .int))
theorem oX1_ageOf : MOKv mX1_ageOf 1 := ⟨⟨in3 (List.mem_of_getElem? (i := 137) rfl), in1 (List.mem_of_getElem? (i := 2) (by decide +kernel)), by decide +kernel, by decide +kernel, by decide +kernel, by decide⟩, in3 (List.mem_of_getElem? (i := 135) (by decide +kernel)), in3 (List.mem_of_getElem? (i := 136) (by decide +kernel))⟩
abbrev mX1_cameOf : MD := (yX1_cameOf, cX1_cameOf, 2, (some .int))
theorem oX1_cameOf : MOKv mX1_cameOf 1 := ⟨⟨in3 (List.mem_of_getElem? (i := 141) rfl), in1 (List.mem_of_getElem? (i := 2) (by decide +kernel)), by decide +kernel, by decide +kernel, by decide +kernel, by decide⟩, in3 (List.mem_of_getElem? (i := 139) (by decide +kernel)), in3 (List.mem_of_getElem? (i := 140) (by decide +kernel))⟩
abbrev mX1_isLame : MD := (yX1_isLame, cX1_isLame, 2, (some .boolean))
theorem oX1_isLame : MOKv mX1_isLame 1 := ⟨⟨in3 (List.mem_of_getElem? (i := 145) rfl), in1 (List.mem_of_getElem? (i := 2) (by decide +kernel)), by decide +kernel, by decide +kernel, by decide +kernel, by decide⟩, in3 (List.mem_of_getElem? (i := 143) (by decide +kernel)), in3 (List.mem_of_getElem? (i := 144) (by decide +kernel))⟩
abbrev mX1_setLame : MD := (yX1_setLame, cX1_setLame, 3, none)
theorem oX1_setLame : MOKv mX1_setLame 2 := ⟨⟨in2 (List.mem_of_getElem? (i := 120) rfl), in1 (List.mem_of_getElem? (i := 2) (by decide +kernel)), by decide +kernel, by decide +kernel, by decide +kernel, by decide⟩, in2 (List.mem_of_getElem? (i := 118) (by decide +kernel)), in2 (List.mem_of_getElem? (i := 119) (by decide +kernel))⟩
abbrev mX1_wantedOf : MD := (yX1_wantedOf, cX1_wantedOf, 3, (some .int))
theorem oX1_wantedOf : MOKv mX1_wantedOf 2 := ⟨⟨in4 (List.mem_of_getElem? (i := 59) rfl), in1 (List.mem_of_getElem? (i := 2) (by decide +kernel)), by decide +kernel, by decide +kernel, by decide +kernel, by decide⟩, in4 (List.mem_of_getElem? (i := 57) (by decide +kernel)), in4 (List.mem_of_getElem? (i := 58) (by decide +kernel))⟩
abbrev mX1_setWanted : MD := (yX1_setWanted, cX1_setWanted, 4, none)
theorem oX1_setWanted : MOKv mX1_setWanted 3 := ⟨⟨in4 (List.mem_of_getElem? (i := 20) rfl), in1 (List.mem_of_getElem? (i := 2) (by decide +kernel)), by decide +kernel, by decide +kernel, by decide +kernel, by decide⟩, in4 (List.mem_of_getElem? (i := 18) (by decide +kernel)), in4 (List.mem_of_getElem? (i := 19) (by decide +kernel))⟩
abbrev mX1_wantedByAll : MD := (yX1_wantedByAll, cX1_wantedByAll, 4, (some .int))
theorem oX1_wantedByAll : MOKv mX1_wantedByAll 1 := ⟨⟨in4 (List.mem_of_getElem? (i := 99) rfl), in1 (List.mem_of_getElem? (i := 2) (by decide +kernel)), by decide +kernel, by decide +kernel, by decide +kernel, by decide⟩, in4 (List.mem_of_getElem? (i := 97) (by decide +kernel)), in4 (List.mem_of_getElem? (i := 98) (by decide +kernel))⟩
abbrev mX1_lackedOf : MD := (yX1_lackedOf, cX1_lackedOf, 2, (some .int))
theorem oX1_lackedOf : MOKv mX1_lackedOf 1 := ⟨⟨in4 (List.mem_of_getElem? (i := 153) rfl), in1 (List.mem_of_getElem? (i := 2) (by decide +kernel)), by decide +kernel, by decide +kernel, by decide +kernel, by decide⟩, in4 (List.mem_of_getElem? (i := 151) (by decide +kernel)), in4 (List.mem_of_getElem? (i := 152) (by decide +kernel))⟩
abbrev mX1_addLacked : MD := (yX1_addLacked, cX1_addLacked, 3, none)
theorem oX1_addLacked : MOKv mX1_addLacked 2 := ⟨⟨in4 (List.mem_of_getElem? (i := 67) rfl), in1 (List.mem_of_getElem? (i := 2) (by decide +kernel)), by decide +kernel, by decide +kernel, by decide +kernel, by decide⟩, in4 (List.mem_of_getElem? (i := 65) (by decide +kernel)), in4 (List.mem_of_getElem? (i := 66) (by decide +kernel))⟩
abbrev mX2_init : MD := (yX2_init, cX2_init, 4, none)
theorem oX2_init : MOKi mX2_init 3 := ⟨⟨in1 (List.mem_of_getElem? (i := 167) rfl), in1 (List.mem_of_getElem? (i := 8) (by decide +kernel)), by decide +kernel, by decide +kernel, by decide +kernel, by decide⟩, rfl, rfl, in1 (List.mem_of_getElem? (i := 166) (by decide +kernel))⟩
abbrev mX2_mayBe : MD := (yX2_mayBe, cX2_mayBe, 5, (some .boolean))
theorem oX2_mayBe : MOKv mX2_mayBe 4 := ⟨⟨in3 (List.mem_of_getElem? (i := 121) rfl), in1 (List.mem_of_getElem? (i := 8) (by decide +kernel)), by decide +kernel, by decide +kernel, by decide +kernel, by decide⟩, in3 (List.mem_of_getElem? (i := 119) (by decide +kernel)), in3 (List.mem_of_getElem? (i := 120) (by decide +kernel))⟩
abbrev mX2_mayMeet : MD := (yX2_mayMeet, cX2_mayMeet, 7, (some .boolean))
theorem oX2_mayMeet : MOKv mX2_mayMeet 6 := ⟨⟨in3 (List.mem_of_getElem? (i := 165) rfl), in1 (List.mem_of_getElem? (i := 8) (by decide +kernel)), by decide +kernel, by decide +kernel, by decide +kernel, by decide⟩, in3 (List.mem_of_getElem? (i := 163) (by decide +kernel)), in3 (List.mem_of_getElem? (i := 164) (by decide +kernel))⟩
abbrev mX2_tellOfOne : MD := (yX2_tellOfOne, cX2_tellOfOne, 5, none)
theorem oX2_tellOfOne : MOKv mX2_tellOfOne 4 := ⟨⟨in3 (List.mem_of_getElem? (i := 129) rfl), in1 (List.mem_of_getElem? (i := 8) (by decide +kernel)), by decide +kernel, by decide +kernel, by decide +kernel, by decide⟩, in3 (List.mem_of_getElem? (i := 128) (by decide +kernel)), inS (List.mem_of_getElem? (i := 12) (by decide +kernel))⟩
abbrev mX2_tellOfOther : MD := (yX2_tellOfOther, cX2_tellOfOther, 3, none)
theorem oX2_tellOfOther : MOKv mX2_tellOfOther 2 := ⟨⟨in3 (List.mem_of_getElem? (i := 173) rfl), in1 (List.mem_of_getElem? (i := 8) (by decide +kernel)), by decide +kernel, by decide +kernel, by decide +kernel, by decide⟩, in3 (List.mem_of_getElem? (i := 172) (by decide +kernel)), inS (List.mem_of_getElem? (i := 14) (by decide +kernel))⟩
abbrev mX3_init : MD := (yX3_init, cX3_init, 1, none)
theorem oX3_init : MOKi mX3_init 0 := ⟨⟨in1 (List.mem_of_getElem? (i := 63) rfl), in1 (List.mem_of_getElem? (i := 3) (by decide +kernel)), by decide +kernel, by decide +kernel, by decide +kernel, by decide⟩, rfl, rfl, in1 (List.mem_of_getElem? (i := 62) (by decide +kernel))⟩
abbrev mX3_lay : MD := (yX3_lay, cX3_lay, 4, none)
theorem oX3_lay : MOKv mX3_lay 3 := ⟨⟨in2 (List.mem_of_getElem? (i := 131) rfl), in1 (List.mem_of_getElem? (i := 3) (by decide +kernel)), by decide +kernel, by decide +kernel, by decide +kernel, by decide⟩, in2 (List.mem_of_getElem? (i := 129) (by decide +kernel)), in2 (List.mem_of_getElem? (i := 130) (by decide +kernel))⟩
abbrev mX3_close : MD := (yX3_close, cX3_close, 3, none)
theorem oX3_close : MOKv mX3_close 2 := ⟨⟨in2 (List.mem_of_getElem? (i := 140) rfl), in1 (List.mem_of_getElem? (i := 3) (by decide +kernel)), by decide +kernel, by decide +kernel, by decide +kernel, by decide⟩, in2 (List.mem_of_getElem? (i := 138) (by decide +kernel)), in2 (List.mem_of_getElem? (i := 139) (by decide +kernel))⟩
abbrev mX3_setGate : MD := (yX3_setGate, cX3_setGate, 4, none)
theorem oX3_setGate : MOKv mX3_setGate 3 := ⟨⟨in2 (List.mem_of_getElem? (i := 148) rfl), in1 (List.mem_of_getElem? (i := 3) (by decide +kernel)), by decide +kernel, by decide +kernel, by decide +kernel, by decide⟩, in2 (List.mem_of_getElem? (i := 146) (by decide +kernel)), in2 (List.mem_of_getElem? (i := 147) (by decide +kernel))⟩
abbrev mX3_roomOf : MD := (yX3_roomOf, cX3_roomOf, 2, (some .int))
theorem oX3_roomOf : MOKv mX3_roomOf 1 := ⟨⟨in3 (List.mem_of_getElem? (i := 209) rfl), in1 (List.mem_of_getElem? (i := 3) (by decide +kernel)), by decide +kernel, by decide +kernel, by decide +kernel, by decide⟩, in3 (List.mem_of_getElem? (i := 207) (by decide +kernel)), in3 (List.mem_of_getElem? (i := 208) (by decide +kernel))⟩
abbrev mX3_wetOf : MD := (yX3_wetOf, cX3_wetOf, 2, (some .int))
theorem oX3_wetOf : MOKv mX3_wetOf 1 := ⟨⟨in3 (List.mem_of_getElem? (i := 149) rfl), in1 (List.mem_of_getElem? (i := 3) (by decide +kernel)), by decide +kernel, by decide +kernel, by decide +kernel, by decide⟩, in3 (List.mem_of_getElem? (i := 147) (by decide +kernel)), in3 (List.mem_of_getElem? (i := 148) (by decide +kernel))⟩
abbrev mX3_isOpen : MD := (yX3_isOpen, cX3_isOpen, 3, (some .boolean))
theorem oX3_isOpen : MOKv mX3_isOpen 2 := ⟨⟨in3 (List.mem_of_getElem? (i := 125) rfl), in1 (List.mem_of_getElem? (i := 3) (by decide +kernel)), by decide +kernel, by decide +kernel, by decide +kernel, by decide⟩, in3 (List.mem_of_getElem? (i := 123) (by decide +kernel)), in3 (List.mem_of_getElem? (i := 124) (by decide +kernel))⟩
abbrev mX3_touch : MD := (yX3_touch, cX3_touch, 3, (some .boolean))
theorem oX3_touch : MOKv mX3_touch 2 := ⟨⟨in3 (List.mem_of_getElem? (i := 169) rfl), in1 (List.mem_of_getElem? (i := 3) (by decide +kernel)), by decide +kernel, by decide +kernel, by decide +kernel, by decide⟩, in3 (List.mem_of_getElem? (i := 167) (by decide +kernel)), in3 (List.mem_of_getElem? (i := 168) (by decide +kernel))⟩
abbrev mX4_init : MD := (yX4_init, cX4_init, 1, none)
theorem oX4_init : MOKi mX4_init 0 := ⟨⟨in2 (List.mem_of_getElem? (i := 3) rfl), in1 (List.mem_of_getElem? (i := 11) (by decide +kernel)), by decide +kernel, by decide +kernel, by decide +kernel, by decide⟩, rfl, rfl, in2 (List.mem_of_getElem? (i := 2) (by decide +kernel))⟩
abbrev mX4_count : MD := (yX4_count, cX4_count, 1, (some .int))
theorem oX4_count : MOKv mX4_count 0 := ⟨⟨in4 (List.mem_of_getElem? (i := 169) rfl), in1 (List.mem_of_getElem? (i := 11) (by decide +kernel)), by decide +kernel, by decide +kernel, by decide +kernel, by decide⟩, in4 (List.mem_of_getElem? (i := 167) (by decide +kernel)), in4 (List.mem_of_getElem? (i := 168) (by decide +kernel))⟩
abbrev mX4_haveRoomFor : MD := (yX4_haveRoomFor, cX4_haveRoomFor, 2, (some .boolean))
theorem oX4_haveRoomFor : MOKv mX4_haveRoomFor 1 := ⟨⟨in4 (List.mem_of_getElem? (i := 43) rfl), in1 (List.mem_of_getElem? (i := 11) (by decide +kernel)), by decide +kernel, by decide +kernel, by decide +kernel, by decide⟩, in4 (List.mem_of_getElem? (i := 41) (by decide +kernel)), in4 (List.mem_of_getElem? (i := 42) (by decide +kernel))⟩
abbrev mX4_add : MD := (yX4_add, cX4_add, 4, none)
theorem oX4_add : MOKv mX4_add 3 := ⟨⟨in4 (List.mem_of_getElem? (i := 71) rfl), in1 (List.mem_of_getElem? (i := 11) (by decide +kernel)), by decide +kernel, by decide +kernel, by decide +kernel, by decide⟩, in4 (List.mem_of_getElem? (i := 69) (by decide +kernel)), in4 (List.mem_of_getElem? (i := 70) (by decide +kernel))⟩
abbrev mX4_cost : MD := (yX4_cost, cX4_cost, 8, (some .int))
theorem oX4_cost : MOKv mX4_cost 4 := ⟨⟨in4 (List.mem_of_getElem? (i := 140) rfl), in1 (List.mem_of_getElem? (i := 11) (by decide +kernel)), by decide +kernel, by decide +kernel, by decide +kernel, by decide⟩, in4 (List.mem_of_getElem? (i := 138) (by decide +kernel)), in4 (List.mem_of_getElem? (i := 139) (by decide +kernel))⟩
abbrev mX5_init : MD := (yX5_init, cX5_init, 3, none)
theorem oX5_init : MOKi mX5_init 2 := ⟨⟨in1 (List.mem_of_getElem? (i := 142) rfl), in1 (List.mem_of_getElem? (i := 6) (by decide +kernel)), by decide +kernel, by decide +kernel, by decide +kernel, by decide⟩, rfl, rfl, in1 (List.mem_of_getElem? (i := 141) (by decide +kernel))⟩
abbrev mX5_faultFound : MD := (yX5_faultFound, cX5_faultFound, 1, (some .int))
theorem oX5_faultFound : MOKv mX5_faultFound 0 := ⟨⟨in3 (List.mem_of_getElem? (i := 106) rfl), in1 (List.mem_of_getElem? (i := 6) (by decide +kernel)), by decide +kernel, by decide +kernel, by decide +kernel, by decide⟩, in3 (List.mem_of_getElem? (i := 104) (by decide +kernel)), in3 (List.mem_of_getElem? (i := 105) (by decide +kernel))⟩
abbrev mX5_faultPlace : MD := (yX5_faultPlace, cX5_faultPlace, 1, (some .int))
theorem oX5_faultPlace : MOKv mX5_faultPlace 0 := ⟨⟨in3 (List.mem_of_getElem? (i := 110) rfl), in1 (List.mem_of_getElem? (i := 6) (by decide +kernel)), by decide +kernel, by decide +kernel, by decide +kernel, by decide⟩, in3 (List.mem_of_getElem? (i := 108) (by decide +kernel)), in3 (List.mem_of_getElem? (i := 109) (by decide +kernel))⟩
abbrev mX5_readRules : MD := (yX5_readRules, cX5_readRules, 3, (some .boolean))
theorem oX5_readRules : MOKv mX5_readRules 0 := ⟨⟨in2 (List.mem_of_getElem? (i := 176) rfl), in1 (List.mem_of_getElem? (i := 6) (by decide +kernel)), by decide +kernel, by decide +kernel, by decide +kernel, by decide⟩, in2 (List.mem_of_getElem? (i := 174) (by decide +kernel)), in2 (List.mem_of_getElem? (i := 175) (by decide +kernel))⟩
abbrev mX5_readEither : MD := (yX5_readEither, cX5_readEither, 3, (some .boolean))
theorem oX5_readEither : MOKv mX5_readEither 1 := ⟨⟨in3 (List.mem_of_getElem? (i := 50) rfl), in1 (List.mem_of_getElem? (i := 6) (by decide +kernel)), by decide +kernel, by decide +kernel, by decide +kernel, by decide⟩, in3 (List.mem_of_getElem? (i := 49) (by decide +kernel)), inS (List.mem_of_getElem? (i := 5) (by decide +kernel))⟩
abbrev mX5_readBoth : MD := (yX5_readBoth, cX5_readBoth, 3, (some .boolean))
theorem oX5_readBoth : MOKv mX5_readBoth 1 := ⟨⟨in3 (List.mem_of_getElem? (i := 54) rfl), in1 (List.mem_of_getElem? (i := 6) (by decide +kernel)), by decide +kernel, by decide +kernel, by decide +kernel, by decide⟩, in3 (List.mem_of_getElem? (i := 53) (by decide +kernel)), inS (List.mem_of_getElem? (i := 6) (by decide +kernel))⟩
abbrev mX5_readOne : MD := (yX5_readOne, cX5_readOne, 2, (some .boolean))
theorem oX5_readOne : MOKv mX5_readOne 1 := ⟨⟨in3 (List.mem_of_getElem? (i := 58) rfl), in1 (List.mem_of_getElem? (i := 6) (by decide +kernel)), by decide +kernel, by decide +kernel, by decide +kernel, by decide⟩, in3 (List.mem_of_getElem? (i := 57) (by decide +kernel)), inS (List.mem_of_getElem? (i := 7) (by decide +kernel))⟩
abbrev mX5_readComparison : MD := (yX5_readComparison, cX5_readComparison, 3, (some .boolean))
theorem oX5_readComparison : MOKv mX5_readComparison 1 := ⟨⟨in3 (List.mem_of_getElem? (i := 62) rfl), in1 (List.mem_of_getElem? (i := 6) (by decide +kernel)), by decide +kernel, by decide +kernel, by decide +kernel, by decide⟩, in3 (List.mem_of_getElem? (i := 61) (by decide +kernel)), inS (List.mem_of_getElem? (i := 8) (by decide +kernel))⟩
abbrev mX5_readSum : MD := (yX5_readSum, cX5_readSum, 4, (some .boolean))
theorem oX5_readSum : MOKv mX5_readSum 1 := ⟨⟨in3 (List.mem_of_getElem? (i := 66) rfl), in1 (List.mem_of_getElem? (i := 6) (by decide +kernel)), by decide +kernel, by decide +kernel, by decide +kernel, by decide⟩, in3 (List.mem_of_getElem? (i := 65) (by decide +kernel)), inS (List.mem_of_getElem? (i := 9) (by decide +kernel))⟩
abbrev mX5_readTerm : MD := (yX5_readTerm, cX5_readTerm, 3, (some .boolean))
theorem oX5_readTerm : MOKv mX5_readTerm 1 := ⟨⟨in3 (List.mem_of_getElem? (i := 70) rfl), in1 (List.mem_of_getElem? (i := 6) (by decide +kernel)), by decide +kernel, by decide +kernel, by decide +kernel, by decide⟩, in3 (List.mem_of_getElem? (i := 69) (by decide +kernel)), inS (List.mem_of_getElem? (i := 10) (by decide +kernel))⟩
abbrev mX5_takeOperand : MD := (yX5_takeOperand, cX5_takeOperand, 2, (some .boolean))
theorem oX5_takeOperand : MOKv mX5_takeOperand 0 := ⟨⟨in3 (List.mem_of_getElem? (i := 74) rfl), in1 (List.mem_of_getElem? (i := 6) (by decide +kernel)), by decide +kernel, by decide +kernel, by decide +kernel, by decide⟩, in3 (List.mem_of_getElem? (i := 73) (by decide +kernel)), inS (List.mem_of_getElem? (i := 11) (by decide +kernel))⟩
abbrev mX5_refuse : MD := (yX5_refuse, cX5_refuse, 2, (some .boolean))
theorem oX5_refuse : MOKv mX5_refuse 1 := ⟨⟨in3 (List.mem_of_getElem? (i := 41) rfl), in1 (List.mem_of_getElem? (i := 6) (by decide +kernel)), by decide +kernel, by decide +kernel, by decide +kernel, by decide⟩, in3 (List.mem_of_getElem? (i := 40) (by decide +kernel)), inS (List.mem_of_getElem? (i := 4) (by decide +kernel))⟩
abbrev mX6_init : MD := (yX6_init, cX6_init, 4, none)
theorem oX6_init : MOKi mX6_init 3 := ⟨⟨in1 (List.mem_of_getElem? (i := 186) rfl), in1 (List.mem_of_getElem? (i := 9) (by decide +kernel)), by decide +kernel, by decide +kernel, by decide +kernel, by decide⟩, rfl, rfl, in1 (List.mem_of_getElem? (i := 185) (by decide +kernel))⟩
abbrev mX6_triesMade : MD := (yX6_triesMade, cX6_triesMade, 1, (some .int))
theorem oX6_triesMade : MOKv mX6_triesMade 0 := ⟨⟨in3 (List.mem_of_getElem? (i := 222) rfl), in1 (List.mem_of_getElem? (i := 9) (by decide +kernel)), by decide +kernel, by decide +kernel, by decide +kernel, by decide⟩, in3 (List.mem_of_getElem? (i := 220) (by decide +kernel)), in3 (List.mem_of_getElem? (i := 221) (by decide +kernel))⟩
abbrev mX6_hasPlan : MD := (yX6_hasPlan, cX6_hasPlan, 1, (some .boolean))
theorem oX6_hasPlan : MOKv mX6_hasPlan 0 := ⟨⟨in4 (List.mem_of_getElem? (i := 165) rfl), in1 (List.mem_of_getElem? (i := 9) (by decide +kernel)), by decide +kernel, by decide +kernel, by decide +kernel, by decide⟩, in4 (List.mem_of_getElem? (i := 163) (by decide +kernel)), in4 (List.mem_of_getElem? (i := 164) (by decide +kernel))⟩
abbrev mX6_spotOf : MD := (yX6_spotOf, cX6_spotOf, 2, (some .int))
theorem oX6_spotOf : MOKv mX6_spotOf 1 := ⟨⟨in3 (List.mem_of_getElem? (i := 230) rfl), in1 (List.mem_of_getElem? (i := 9) (by decide +kernel)), by decide +kernel, by decide +kernel, by decide +kernel, by decide⟩, in3 (List.mem_of_getElem? (i := 228) (by decide +kernel)), in3 (List.mem_of_getElem? (i := 229) (by decide +kernel))⟩
abbrev mX6_forget : MD := (yX6_forget, cX6_forget, 1, none)
theorem oX6_forget : MOKv mX6_forget 0 := ⟨⟨in2 (List.mem_of_getElem? (i := 100) rfl), in1 (List.mem_of_getElem? (i := 9) (by decide +kernel)), by decide +kernel, by decide +kernel, by decide +kernel, by decide⟩, in2 (List.mem_of_getElem? (i := 98) (by decide +kernel)), in2 (List.mem_of_getElem? (i := 99) (by decide +kernel))⟩
abbrev mX6_look : MD := (yX6_look, cX6_look, 3, (some .int))
theorem oX6_look : MOKv mX6_look 1 := ⟨⟨in3 (List.mem_of_getElem? (i := 181) rfl), in1 (List.mem_of_getElem? (i := 9) (by decide +kernel)), by decide +kernel, by decide +kernel, by decide +kernel, by decide⟩, in3 (List.mem_of_getElem? (i := 179) (by decide +kernel)), in3 (List.mem_of_getElem? (i := 180) (by decide +kernel))⟩
abbrev mX6_place : MD := (yX6_place, cX6_place, 4, (some .int))
theorem oX6_place : MOKv mX6_place 1 := ⟨⟨in3 (List.mem_of_getElem? (i := 188) rfl), in1 (List.mem_of_getElem? (i := 9) (by decide +kernel)), by decide +kernel, by decide +kernel, by decide +kernel, by decide⟩, in3 (List.mem_of_getElem? (i := 187) (by decide +kernel)), inS (List.mem_of_getElem? (i := 15) (by decide +kernel))⟩
abbrev mX6_fits : MD := (yX6_fits, cX6_fits, 6, (some .boolean))
theorem oX6_fits : MOKv mX6_fits 2 := ⟨⟨in3 (List.mem_of_getElem? (i := 194) rfl), in1 (List.mem_of_getElem? (i := 9) (by decide +kernel)), by decide +kernel, by decide +kernel, by decide +kernel, by decide⟩, in3 (List.mem_of_getElem? (i := 193) (by decide +kernel)), inS (List.mem_of_getElem? (i := 16) (by decide +kernel))⟩
abbrev mX6_mayStand : MD := (yX6_mayStand, cX6_mayStand, 4, (some .boolean))
theorem oX6_mayStand : MOKv mX6_mayStand 2 := ⟨⟨in3 (List.mem_of_getElem? (i := 198) rfl), in1 (List.mem_of_getElem? (i := 9) (by decide +kernel)), by decide +kernel, by decide +kernel, by decide +kernel, by decide⟩, in3 (List.mem_of_getElem? (i := 197) (by decide +kernel)), inS (List.mem_of_getElem? (i := 17) (by decide +kernel))⟩
abbrev mX6_mayStandBy : MD := (yX6_mayStandBy, cX6_mayStandBy, 8, (some .boolean))
theorem oX6_mayStandBy : MOKv mX6_mayStandBy 4 := ⟨⟨in3 (List.mem_of_getElem? (i := 213) rfl), in1 (List.mem_of_getElem? (i := 9) (by decide +kernel)), by decide +kernel, by decide +kernel, by decide +kernel, by decide⟩, in3 (List.mem_of_getElem? (i := 212) (by decide +kernel)), inS (List.mem_of_getElem? (i := 18) (by decide +kernel))⟩
abbrev mX7_init : MD := (yX7_init, cX7_init, 1, none)
theorem oX7_init : MOKi mX7_init 0 := ⟨⟨in1 (List.mem_of_getElem? (i := 95) rfl), in1 (List.mem_of_getElem? (i := 5) (by decide +kernel)), by decide +kernel, by decide +kernel, by decide +kernel, by decide⟩, rfl, rfl, in1 (List.mem_of_getElem? (i := 94) (by decide +kernel))⟩
abbrev mX7_count : MD := (yX7_count, cX7_count, 1, (some .int))
theorem oX7_count : MOKv mX7_count 0 := ⟨⟨in3 (List.mem_of_getElem? (i := 97) rfl), in1 (List.mem_of_getElem? (i := 5) (by decide +kernel)), by decide +kernel, by decide +kernel, by decide +kernel, by decide⟩, in3 (List.mem_of_getElem? (i := 95) (by decide +kernel)), in3 (List.mem_of_getElem? (i := 96) (by decide +kernel))⟩
abbrev mX7_clear : MD := (yX7_clear, cX7_clear, 1, none)
theorem oX7_clear : MOKv mX7_clear 0 := ⟨⟨in2 (List.mem_of_getElem? (i := 180) rfl), in1 (List.mem_of_getElem? (i := 5) (by decide +kernel)), by decide +kernel, by decide +kernel, by decide +kernel, by decide⟩, in2 (List.mem_of_getElem? (i := 178) (by decide +kernel)), in2 (List.mem_of_getElem? (i := 179) (by decide +kernel))⟩
abbrev mX7_emit : MD := (yX7_emit, cX7_emit, 2, none)
theorem oX7_emit : MOKv mX7_emit 1 := ⟨⟨in3 (List.mem_of_getElem? (i := 82) rfl), in1 (List.mem_of_getElem? (i := 5) (by decide +kernel)), by decide +kernel, by decide +kernel, by decide +kernel, by decide⟩, in3 (List.mem_of_getElem? (i := 80) (by decide +kernel)), in3 (List.mem_of_getElem? (i := 81) (by decide +kernel))⟩
abbrev mX7_endRule : MD := (yX7_endRule, cX7_endRule, 2, none)
theorem oX7_endRule : MOKv mX7_endRule 1 := ⟨⟨in3 (List.mem_of_getElem? (i := 86) rfl), in1 (List.mem_of_getElem? (i := 5) (by decide +kernel)), by decide +kernel, by decide +kernel, by decide +kernel, by decide⟩, in3 (List.mem_of_getElem? (i := 84) (by decide +kernel)), in3 (List.mem_of_getElem? (i := 85) (by decide +kernel))⟩
abbrev mX7_copy : MD := (yX7_copy, cX7_copy, 3, none)
theorem oX7_copy : MOKv mX7_copy 1 := ⟨⟨in3 (List.mem_of_getElem? (i := 90) rfl), in1 (List.mem_of_getElem? (i := 5) (by decide +kernel)), by decide +kernel, by decide +kernel, by decide +kernel, by decide⟩, in3 (List.mem_of_getElem? (i := 88) (by decide +kernel)), in3 (List.mem_of_getElem? (i := 89) (by decide +kernel))⟩
abbrev mX7_allHold : MD := (yX7_allHold, cX7_allHold, 4, (some .boolean))
theorem oX7_allHold : MOKv mX7_allHold 2 := ⟨⟨in3 (List.mem_of_getElem? (i := 153) rfl), in1 (List.mem_of_getElem? (i := 5) (by decide +kernel)), by decide +kernel, by decide +kernel, by decide +kernel, by decide⟩, in3 (List.mem_of_getElem? (i := 151) (by decide +kernel)), in3 (List.mem_of_getElem? (i := 152) (by decide +kernel))⟩
abbrev mX7_workOut : MD := (yX7_workOut, cX7_workOut, 9, (some .int))
theorem oX7_workOut : MOKv mX7_workOut 2 := ⟨⟨in3 (List.mem_of_getElem? (i := 157) rfl), in1 (List.mem_of_getElem? (i := 5) (by decide +kernel)), by decide +kernel, by decide +kernel, by decide +kernel, by decide⟩, in3 (List.mem_of_getElem? (i := 156) (by decide +kernel)), inS (List.mem_of_getElem? (i := 13) (by decide +kernel))⟩
abbrev mX8_init : MD := (yX8_init, cX8_init, 1, none)
theorem oX8_init : MOKi mX8_init 0 := ⟨⟨in1 (List.mem_of_getElem? (i := 82) rfl), in1 (List.mem_of_getElem? (i := 4) (by decide +kernel)), by decide +kernel, by decide +kernel, by decide +kernel, by decide⟩, rfl, rfl, in1 (List.mem_of_getElem? (i := 81) (by decide +kernel))⟩
abbrev mX8_length : MD := (yX8_length, cX8_length, 1, (some .int))
theorem oX8_length : MOKv mX8_length 0 := ⟨⟨in2 (List.mem_of_getElem? (i := 156) rfl), in1 (List.mem_of_getElem? (i := 4) (by decide +kernel)), by decide +kernel, by decide +kernel, by decide +kernel, by decide⟩, in2 (List.mem_of_getElem? (i := 154) (by decide +kernel)), in2 (List.mem_of_getElem? (i := 155) (by decide +kernel))⟩
abbrev mX8_append : MD := (yX8_append, cX8_append, 3, none)
theorem oX8_append : MOKv mX8_append 1 := ⟨⟨in2 (List.mem_of_getElem? (i := 160) rfl), in1 (List.mem_of_getElem? (i := 4) (by decide +kernel)), by decide +kernel, by decide +kernel, by decide +kernel, by decide⟩, in2 (List.mem_of_getElem? (i := 158) (by decide +kernel)), in2 (List.mem_of_getElem? (i := 159) (by decide +kernel))⟩
abbrev mX8_cut : MD := (yX8_cut, cX8_cut, 2, none)
theorem oX8_cut : MOKv mX8_cut 1 := ⟨⟨in2 (List.mem_of_getElem? (i := 168) rfl), in1 (List.mem_of_getElem? (i := 4) (by decide +kernel)), by decide +kernel, by decide +kernel, by decide +kernel, by decide⟩, in2 (List.mem_of_getElem? (i := 166) (by decide +kernel)), in2 (List.mem_of_getElem? (i := 167) (by decide +kernel))⟩
abbrev mX8_at : MD := (yX8_at, cX8_at, 2, (some .int))
theorem oX8_at : MOKv mX8_at 1 := ⟨⟨in2 (List.mem_of_getElem? (i := 193) rfl), in1 (List.mem_of_getElem? (i := 4) (by decide +kernel)), by decide +kernel, by decide +kernel, by decide +kernel, by decide⟩, in2 (List.mem_of_getElem? (i := 191) (by decide +kernel)), in2 (List.mem_of_getElem? (i := 192) (by decide +kernel))⟩
abbrev mX9_init : MD := (yX9_init, cX9_init, 2, none)
theorem oX9_init : MOKi mX9_init 1 := ⟨⟨in1 (List.mem_of_getElem? (i := 122) rfl), in1 (List.mem_of_getElem? (i := 7) (by decide +kernel)), by decide +kernel, by decide +kernel, by decide +kernel, by decide⟩, rfl, rfl, in1 (List.mem_of_getElem? (i := 121) (by decide +kernel))⟩
abbrev mX9_start : MD := (yX9_start, cX9_start, 1, (some .int))
theorem oX9_start : MOKv mX9_start 0 := ⟨⟨in3 (List.mem_of_getElem? (i := 45) rfl), in1 (List.mem_of_getElem? (i := 7) (by decide +kernel)), by decide +kernel, by decide +kernel, by decide +kernel, by decide⟩, in3 (List.mem_of_getElem? (i := 43) (by decide +kernel)), in3 (List.mem_of_getElem? (i := 44) (by decide +kernel))⟩
abbrev mX9_kind : MD := (yX9_kind, cX9_kind, 1, (some .int))
theorem oX9_kind : MOKv mX9_kind 0 := ⟨⟨in3 (List.mem_of_getElem? (i := 37) rfl), in1 (List.mem_of_getElem? (i := 7) (by decide +kernel)), by decide +kernel, by decide +kernel, by decide +kernel, by decide⟩, in3 (List.mem_of_getElem? (i := 35) (by decide +kernel)), in3 (List.mem_of_getElem? (i := 36) (by decide +kernel))⟩
abbrev mX9_value : MD := (yX9_value, cX9_value, 1, (some .int))
theorem oX9_value : MOKv mX9_value 0 := ⟨⟨in3 (List.mem_of_getElem? (i := 78) rfl), in1 (List.mem_of_getElem? (i := 7) (by decide +kernel)), by decide +kernel, by decide +kernel, by decide +kernel, by decide⟩, in3 (List.mem_of_getElem? (i := 76) (by decide +kernel)), in3 (List.mem_of_getElem? (i := 77) (by decide +kernel))⟩
abbrev mX9_begin : MD := (yX9_begin, cX9_begin, 1, none)
theorem oX9_begin : MOKv mX9_begin 0 := ⟨⟨in2 (List.mem_of_getElem? (i := 184) rfl), in1 (List.mem_of_getElem? (i := 7) (by decide +kernel)), by decide +kernel, by decide +kernel, by decide +kernel, by decide⟩, in2 (List.mem_of_getElem? (i := 182) (by decide +kernel)), in2 (List.mem_of_getElem? (i := 183) (by decide +kernel))⟩
abbrev mX9_advance : MD := (yX9_advance, cX9_advance, 2, none)
theorem oX9_advance : MOKv mX9_advance 0 := ⟨⟨in2 (List.mem_of_getElem? (i := 188) rfl), in1 (List.mem_of_getElem? (i := 7) (by decide +kernel)), by decide +kernel, by decide +kernel, by decide +kernel, by decide⟩, in2 (List.mem_of_getElem? (i := 186) (by decide +kernel)), in2 (List.mem_of_getElem? (i := 187) (by decide +kernel))⟩
abbrev mX9_readWord : MD := (yX9_readWord, cX9_readWord, 2, none)
theorem oX9_readWord : MOKv mX9_readWord 0 := ⟨⟨in2 (List.mem_of_getElem? (i := 203) rfl), in1 (List.mem_of_getElem? (i := 7) (by decide +kernel)), by decide +kernel, by decide +kernel, by decide +kernel, by decide⟩, in2 (List.mem_of_getElem? (i := 202) (by decide +kernel)), inS (List.mem_of_getElem? (i := 0) (by decide +kernel))⟩
abbrev mX9_readNumber : MD := (yX9_readNumber, cX9_readNumber, 2, none)
theorem oX9_readNumber : MOKv mX9_readNumber 0 := ⟨⟨in3 (List.mem_of_getElem? (i := 30) rfl), in1 (List.mem_of_getElem? (i := 7) (by decide +kernel)), by decide +kernel, by decide +kernel, by decide +kernel, by decide⟩, in3 (List.mem_of_getElem? (i := 29) (by decide +kernel)), inS (List.mem_of_getElem? (i := 3) (by decide +kernel))⟩
abbrev mX9_wordNumber : MD := (yX9_wordNumber, cX9_wordNumber, 3, (some .int))
theorem oX9_wordNumber : MOKv mX9_wordNumber 0 := ⟨⟨in2 (List.mem_of_getElem? (i := 210) rfl), in1 (List.mem_of_getElem? (i := 7) (by decide +kernel)), by decide +kernel, by decide +kernel, by decide +kernel, by decide⟩, in2 (List.mem_of_getElem? (i := 209) (by decide +kernel)), inS (List.mem_of_getElem? (i := 1) (by decide +kernel))⟩
abbrev mX9_letterOf : MD := (yX9_letterOf, cX9_letterOf, 3, (some .int))
theorem oX9_letterOf : MOKs mX9_letterOf 2 := ⟨⟨in2 (List.mem_of_getElem? (i := 213) rfl), in1 (List.mem_of_getElem? (i := 7) (by decide +kernel)), by decide +kernel, by decide +kernel, by decide +kernel, by decide⟩, in2 (List.mem_of_getElem? (i := 212) (by decide +kernel))⟩
abbrev mX9_letterHere : MD := (yX9_letterHere, cX9_letterHere, 2, (some .int))
theorem oX9_letterHere : MOKv mX9_letterHere 1 := ⟨⟨in3 (List.mem_of_getElem? (i := 26) rfl), in1 (List.mem_of_getElem? (i := 7) (by decide +kernel)), by decide +kernel, by decide +kernel, by decide +kernel, by decide⟩, in3 (List.mem_of_getElem? (i := 25) (by decide +kernel)), inS (List.mem_of_getElem? (i := 2) (by decide +kernel))⟩
abbrev mX9_isBlank : MD := (yX9_isBlank, cX9_isBlank, 1, (some .boolean))
theorem oX9_isBlank : MOKs mX9_isBlank 1 := ⟨⟨in2 (List.mem_of_getElem? (i := 196) rfl), in1 (List.mem_of_getElem? (i := 7) (by decide +kernel)), by decide +kernel, by decide +kernel, by decide +kernel, by decide⟩, in2 (List.mem_of_getElem? (i := 195) (by decide +kernel))⟩
abbrev mX9_isLetter : MD := (yX9_isLetter, cX9_isLetter, 1, (some .boolean))
theorem oX9_isLetter : MOKs mX9_isLetter 1 := ⟨⟨in2 (List.mem_of_getElem? (i := 199) rfl), in1 (List.mem_of_getElem? (i := 7) (by decide +kernel)), by decide +kernel, by decide +kernel, by decide +kernel, by decide⟩, in2 (List.mem_of_getElem? (i := 198) (by decide +kernel))⟩
abbrev mX9_isDigit : MD := (yX9_isDigit, cX9_isDigit, 1, (some .boolean))
theorem oX9_isDigit : MOKs mX9_isDigit 1 := ⟨⟨in2 (List.mem_of_getElem? (i := 206) rfl), in1 (List.mem_of_getElem? (i := 7) (by decide +kernel)), by decide +kernel, by decide +kernel, by decide +kernel, by decide⟩, in2 (List.mem_of_getElem? (i := 205) (by decide +kernel))⟩
abbrev mX9_isSign : MD := (yX9_isSign, cX9_isSign, 1, (some .boolean))
theorem oX9_isSign : MOKs mX9_isSign 1 := ⟨⟨in3 (List.mem_of_getElem? (i := 33) rfl), in1 (List.mem_of_getElem? (i := 7) (by decide +kernel)), by decide +kernel, by decide +kernel, by decide +kernel, by decide⟩, in3 (List.mem_of_getElem? (i := 32) (by decide +kernel))⟩
abbrev mX10_init : MD := (yX10_init, cX10_init, 1, none)
theorem oX10_init : MOKi mX10_init 0 := ⟨⟨in2 (List.mem_of_getElem? (i := 22) rfl), in1 (List.mem_of_getElem? (i := 12) (by decide +kernel)), by decide +kernel, by decide +kernel, by decide +kernel, by decide⟩, rfl, rfl, in2 (List.mem_of_getElem? (i := 21) (by decide +kernel))⟩
abbrev mX10_count : MD := (yX10_count, cX10_count, 1, (some .int))
theorem oX10_count : MOKv mX10_count 0 := ⟨⟨in4 (List.mem_of_getElem? (i := 161) rfl), in1 (List.mem_of_getElem? (i := 12) (by decide +kernel)), by decide +kernel, by decide +kernel, by decide +kernel, by decide⟩, in4 (List.mem_of_getElem? (i := 159) (by decide +kernel)), in4 (List.mem_of_getElem? (i := 160) (by decide +kernel))⟩
abbrev mX10_begin : MD := (yX10_begin, cX10_begin, 4, none)
theorem oX10_begin : MOKv mX10_begin 2 := ⟨⟨in2 (List.mem_of_getElem? (i := 108) rfl), in1 (List.mem_of_getElem? (i := 12) (by decide +kernel)), by decide +kernel, by decide +kernel, by decide +kernel, by decide⟩, in2 (List.mem_of_getElem? (i := 106) (by decide +kernel)), in2 (List.mem_of_getElem? (i := 107) (by decide +kernel))⟩
abbrev mX10_setFall : MD := (yX10_setFall, cX10_setFall, 3, none)
theorem oX10_setFall : MOKv mX10_setFall 2 := ⟨⟨in4 (List.mem_of_getElem? (i := 35) rfl), in1 (List.mem_of_getElem? (i := 12) (by decide +kernel)), by decide +kernel, by decide +kernel, by decide +kernel, by decide⟩, in4 (List.mem_of_getElem? (i := 33) (by decide +kernel)), in4 (List.mem_of_getElem? (i := 34) (by decide +kernel))⟩
abbrev mX10_add : MD := (yX10_add, cX10_add, 7, (some .int))
theorem oX10_add : MOKv mX10_add 5 := ⟨⟨in4 (List.mem_of_getElem? (i := 121) rfl), in1 (List.mem_of_getElem? (i := 12) (by decide +kernel)), by decide +kernel, by decide +kernel, by decide +kernel, by decide⟩, in4 (List.mem_of_getElem? (i := 119) (by decide +kernel)), in4 (List.mem_of_getElem? (i := 120) (by decide +kernel))⟩
abbrev mX10_dueDay : MD := (yX10_dueDay, cX10_dueDay, 4, (some .int))
theorem oX10_dueDay : MOKv mX10_dueDay 2 := ⟨⟨in4 (List.mem_of_getElem? (i := 132) rfl), in1 (List.mem_of_getElem? (i := 12) (by decide +kernel)), by decide +kernel, by decide +kernel, by decide +kernel, by decide⟩, in4 (List.mem_of_getElem? (i := 130) (by decide +kernel)), in4 (List.mem_of_getElem? (i := 131) (by decide +kernel))⟩
abbrev mX10_cost : MD := (yX10_cost, cX10_cost, 8, (some .int))
theorem oX10_cost : MOKv mX10_cost 4 := ⟨⟨in4 (List.mem_of_getElem? (i := 145) rfl), in1 (List.mem_of_getElem? (i := 12) (by decide +kernel)), by decide +kernel, by decide +kernel, by decide +kernel, by decide⟩, in4 (List.mem_of_getElem? (i := 143) (by decide +kernel)), in4 (List.mem_of_getElem? (i := 144) (by decide +kernel))⟩
abbrev mX11_init : MD := (yX11_init, cX11_init, 2, none)
theorem oX11_init : MOKi mX11_init 0 := ⟨⟨in1 (List.mem_of_getElem? (i := 25) rfl), in1 (List.mem_of_getElem? (i := 1) (by decide +kernel)), by decide +kernel, by decide +kernel, by decide +kernel, by decide⟩, rfl, rfl, in1 (List.mem_of_getElem? (i := 24) (by decide +kernel))⟩
abbrev mX11_horse : MD := (yX11_horse, cX11_horse, 4, (some .int))
theorem oX11_horse : MOKv mX11_horse 2 := ⟨⟨in2 (List.mem_of_getElem? (i := 89) rfl), in1 (List.mem_of_getElem? (i := 1) (by decide +kernel)), by decide +kernel, by decide +kernel, by decide +kernel, by decide⟩, in2 (List.mem_of_getElem? (i := 87) (by decide +kernel)), in2 (List.mem_of_getElem? (i := 88) (by decide +kernel))⟩
abbrev mX11_lame : MD := (yX11_lame, cX11_lame, 3, (some .boolean))
theorem oX11_lame : MOKv mX11_lame 2 := ⟨⟨in2 (List.mem_of_getElem? (i := 112) rfl), in1 (List.mem_of_getElem? (i := 1) (by decide +kernel)), by decide +kernel, by decide +kernel, by decide +kernel, by decide⟩, in2 (List.mem_of_getElem? (i := 110) (by decide +kernel)), in2 (List.mem_of_getElem? (i := 111) (by decide +kernel))⟩
abbrev mX11_field : MD := (yX11_field, cX11_field, 4, (some .boolean))
theorem oX11_field : MOKv mX11_field 3 := ⟨⟨in2 (List.mem_of_getElem? (i := 124) rfl), in1 (List.mem_of_getElem? (i := 1) (by decide +kernel)), by decide +kernel, by decide +kernel, by decide +kernel, by decide⟩, in2 (List.mem_of_getElem? (i := 122) (by decide +kernel)), in2 (List.mem_of_getElem? (i := 123) (by decide +kernel))⟩
abbrev mX11_shut : MD := (yX11_shut, cX11_shut, 3, (some .boolean))
theorem oX11_shut : MOKv mX11_shut 2 := ⟨⟨in2 (List.mem_of_getElem? (i := 135) rfl), in1 (List.mem_of_getElem? (i := 1) (by decide +kernel)), by decide +kernel, by decide +kernel, by decide +kernel, by decide⟩, in2 (List.mem_of_getElem? (i := 133) (by decide +kernel)), in2 (List.mem_of_getElem? (i := 134) (by decide +kernel))⟩
abbrev mX11_gate : MD := (yX11_gate, cX11_gate, 4, (some .boolean))
theorem oX11_gate : MOKv mX11_gate 3 := ⟨⟨in2 (List.mem_of_getElem? (i := 144) rfl), in1 (List.mem_of_getElem? (i := 1) (by decide +kernel)), by decide +kernel, by decide +kernel, by decide +kernel, by decide⟩, in2 (List.mem_of_getElem? (i := 142) (by decide +kernel)), in2 (List.mem_of_getElem? (i := 143) (by decide +kernel))⟩
abbrev mX11_feed : MD := (yX11_feed, cX11_feed, 6, (some .int))
theorem oX11_feed : MOKv mX11_feed 5 := ⟨⟨in2 (List.mem_of_getElem? (i := 152) rfl), in1 (List.mem_of_getElem? (i := 1) (by decide +kernel)), by decide +kernel, by decide +kernel, by decide +kernel, by decide⟩, in2 (List.mem_of_getElem? (i := 150) (by decide +kernel)), in2 (List.mem_of_getElem? (i := 151) (by decide +kernel))⟩
abbrev mX11_end : MD := (yX11_end, cX11_end, 2, (some .int))
theorem oX11_end : MOKv mX11_end 1 := ⟨⟨in2 (List.mem_of_getElem? (i := 164) rfl), in1 (List.mem_of_getElem? (i := 1) (by decide +kernel)), by decide +kernel, by decide +kernel, by decide +kernel, by decide⟩, in2 (List.mem_of_getElem? (i := 162) (by decide +kernel)), in2 (List.mem_of_getElem? (i := 163) (by decide +kernel))⟩
abbrev mX11_rules : MD := (yX11_rules, cX11_rules, 2, (some .int))
theorem oX11_rules : MOKv mX11_rules 0 := ⟨⟨in2 (List.mem_of_getElem? (i := 172) rfl), in1 (List.mem_of_getElem? (i := 1) (by decide +kernel)), by decide +kernel, by decide +kernel, by decide +kernel, by decide⟩, in2 (List.mem_of_getElem? (i := 170) (by decide +kernel)), in2 (List.mem_of_getElem? (i := 171) (by decide +kernel))⟩
abbrev mX11_fault : MD := (yX11_fault, cX11_fault, 2, (some .int))
theorem oX11_fault : MOKv mX11_fault 1 := ⟨⟨in3 (List.mem_of_getElem? (i := 102) rfl), in1 (List.mem_of_getElem? (i := 1) (by decide +kernel)), by decide +kernel, by decide +kernel, by decide +kernel, by decide⟩, in3 (List.mem_of_getElem? (i := 100) (by decide +kernel)), in3 (List.mem_of_getElem? (i := 101) (by decide +kernel))⟩
abbrev mX11_may : MD := (yX11_may, cX11_may, 4, (some .boolean))
theorem oX11_may : MOKv mX11_may 3 := ⟨⟨in3 (List.mem_of_getElem? (i := 114) rfl), in1 (List.mem_of_getElem? (i := 1) (by decide +kernel)), by decide +kernel, by decide +kernel, by decide +kernel, by decide⟩, in3 (List.mem_of_getElem? (i := 112) (by decide +kernel)), in3 (List.mem_of_getElem? (i := 113) (by decide +kernel))⟩
abbrev mX11_meet : MD := (yX11_meet, cX11_meet, 6, (some .boolean))
theorem oX11_meet : MOKv mX11_meet 5 := ⟨⟨in3 (List.mem_of_getElem? (i := 161) rfl), in1 (List.mem_of_getElem? (i := 1) (by decide +kernel)), by decide +kernel, by decide +kernel, by decide +kernel, by decide⟩, in3 (List.mem_of_getElem? (i := 159) (by decide +kernel)), in3 (List.mem_of_getElem? (i := 160) (by decide +kernel))⟩
abbrev mX11_plan : MD := (yX11_plan, cX11_plan, 1, (some .int))
theorem oX11_plan : MOKv mX11_plan 0 := ⟨⟨in3 (List.mem_of_getElem? (i := 177) rfl), in1 (List.mem_of_getElem? (i := 1) (by decide +kernel)), by decide +kernel, by decide +kernel, by decide +kernel, by decide⟩, in3 (List.mem_of_getElem? (i := 175) (by decide +kernel)), in3 (List.mem_of_getElem? (i := 176) (by decide +kernel))⟩
abbrev mX11_tries : MD := (yX11_tries, cX11_tries, 1, (some .int))
theorem oX11_tries : MOKv mX11_tries 0 := ⟨⟨in3 (List.mem_of_getElem? (i := 218) rfl), in1 (List.mem_of_getElem? (i := 1) (by decide +kernel)), by decide +kernel, by decide +kernel, by decide +kernel, by decide⟩, in3 (List.mem_of_getElem? (i := 216) (by decide +kernel)), in3 (List.mem_of_getElem? (i := 217) (by decide +kernel))⟩
abbrev mX11_out : MD := (yX11_out, cX11_out, 3, (some .int))
theorem oX11_out : MOKv mX11_out 1 := ⟨⟨in3 (List.mem_of_getElem? (i := 226) rfl), in1 (List.mem_of_getElem? (i := 1) (by decide +kernel)), by decide +kernel, by decide +kernel, by decide +kernel, by decide⟩, in3 (List.mem_of_getElem? (i := 224) (by decide +kernel)), in3 (List.mem_of_getElem? (i := 225) (by decide +kernel))⟩
abbrev mX11_stuck : MD := (yX11_stuck, cX11_stuck, 2, (some .int))
theorem oX11_stuck : MOKv mX11_stuck 0 := ⟨⟨in3 (List.mem_of_getElem? (i := 236) rfl), in1 (List.mem_of_getElem? (i := 1) (by decide +kernel)), by decide +kernel, by decide +kernel, by decide +kernel, by decide⟩, in3 (List.mem_of_getElem? (i := 234) (by decide +kernel)), in3 (List.mem_of_getElem? (i := 235) (by decide +kernel))⟩
abbrev mX11_lot : MD := (yX11_lot, cX11_lot, 4, (some .int))
theorem oX11_lot : MOKv mX11_lot 3 := ⟨⟨in4 (List.mem_of_getElem? (i := 5) rfl), in1 (List.mem_of_getElem? (i := 1) (by decide +kernel)), by decide +kernel, by decide +kernel, by decide +kernel, by decide⟩, in4 (List.mem_of_getElem? (i := 3) (by decide +kernel)), in4 (List.mem_of_getElem? (i := 4) (by decide +kernel))⟩
abbrev mX11_takes : MD := (yX11_takes, cX11_takes, 4, (some .boolean))
theorem oX11_takes : MOKv mX11_takes 3 := ⟨⟨in4 (List.mem_of_getElem? (i := 16) rfl), in1 (List.mem_of_getElem? (i := 1) (by decide +kernel)), by decide +kernel, by decide +kernel, by decide +kernel, by decide⟩, in4 (List.mem_of_getElem? (i := 14) (by decide +kernel)), in4 (List.mem_of_getElem? (i := 15) (by decide +kernel))⟩
abbrev mX11_price : MD := (yX11_price, cX11_price, 3, (some .boolean))
theorem oX11_price : MOKv mX11_price 2 := ⟨⟨in4 (List.mem_of_getElem? (i := 24) rfl), in1 (List.mem_of_getElem? (i := 1) (by decide +kernel)), by decide +kernel, by decide +kernel, by decide +kernel, by decide⟩, in4 (List.mem_of_getElem? (i := 22) (by decide +kernel)), in4 (List.mem_of_getElem? (i := 23) (by decide +kernel))⟩
abbrev mX11_falls : MD := (yX11_falls, cX11_falls, 3, (some .boolean))
theorem oX11_falls : MOKv mX11_falls 2 := ⟨⟨in4 (List.mem_of_getElem? (i := 28) rfl), in1 (List.mem_of_getElem? (i := 1) (by decide +kernel)), by decide +kernel, by decide +kernel, by decide +kernel, by decide⟩, in4 (List.mem_of_getElem? (i := 26) (by decide +kernel)), in4 (List.mem_of_getElem? (i := 27) (by decide +kernel))⟩
abbrev mX11_night : MD := (yX11_night, cX11_night, 3, (some .int))
theorem oX11_night : MOKv mX11_night 0 := ⟨⟨in4 (List.mem_of_getElem? (i := 39) rfl), in1 (List.mem_of_getElem? (i := 1) (by decide +kernel)), by decide +kernel, by decide +kernel, by decide +kernel, by decide⟩, in4 (List.mem_of_getElem? (i := 37) (by decide +kernel)), in4 (List.mem_of_getElem? (i := 38) (by decide +kernel))⟩
abbrev mX11_bin : MD := (yX11_bin, cX11_bin, 3, (some .int))
theorem oX11_bin : MOKv mX11_bin 2 := ⟨⟨in4 (List.mem_of_getElem? (i := 75) rfl), in1 (List.mem_of_getElem? (i := 1) (by decide +kernel)), by decide +kernel, by decide +kernel, by decide +kernel, by decide⟩, in4 (List.mem_of_getElem? (i := 73) (by decide +kernel)), in4 (List.mem_of_getElem? (i := 74) (by decide +kernel))⟩
abbrev mX11_foretold : MD := (yX11_foretold, cX11_foretold, 2, (some .int))
theorem oX11_foretold : MOKv mX11_foretold 1 := ⟨⟨in4 (List.mem_of_getElem? (i := 95) rfl), in1 (List.mem_of_getElem? (i := 1) (by decide +kernel)), by decide +kernel, by decide +kernel, by decide +kernel, by decide⟩, in4 (List.mem_of_getElem? (i := 93) (by decide +kernel)), in4 (List.mem_of_getElem? (i := 94) (by decide +kernel))⟩
abbrev mX11_work : MD := (yX11_work, cX11_work, 4, (some .int))
theorem oX11_work : MOKv mX11_work 3 := ⟨⟨in4 (List.mem_of_getElem? (i := 116) rfl), in1 (List.mem_of_getElem? (i := 1) (by decide +kernel)), by decide +kernel, by decide +kernel, by decide +kernel, by decide⟩, in4 (List.mem_of_getElem? (i := 114) (by decide +kernel)), in4 (List.mem_of_getElem? (i := 115) (by decide +kernel))⟩
abbrev mX11_due : MD := (yX11_due, cX11_due, 3, (some .int))
theorem oX11_due : MOKv mX11_due 2 := ⟨⟨in4 (List.mem_of_getElem? (i := 128) rfl), in1 (List.mem_of_getElem? (i := 1) (by decide +kernel)), by decide +kernel, by decide +kernel, by decide +kernel, by decide⟩, in4 (List.mem_of_getElem? (i := 126) (by decide +kernel)), in4 (List.mem_of_getElem? (i := 127) (by decide +kernel))⟩
abbrev mX11_bill : MD := (yX11_bill, cX11_bill, 5, (some .int))
theorem oX11_bill : MOKv mX11_bill 4 := ⟨⟨in4 (List.mem_of_getElem? (i := 136) rfl), in1 (List.mem_of_getElem? (i := 1) (by decide +kernel)), by decide +kernel, by decide +kernel, by decide +kernel, by decide⟩, in4 (List.mem_of_getElem? (i := 134) (by decide +kernel)), in4 (List.mem_of_getElem? (i := 135) (by decide +kernel))⟩
abbrev mX11_lacked : MD := (yX11_lacked, cX11_lacked, 2, (some .int))
theorem oX11_lacked : MOKv mX11_lacked 1 := ⟨⟨in4 (List.mem_of_getElem? (i := 149) rfl), in1 (List.mem_of_getElem? (i := 1) (by decide +kernel)), by decide +kernel, by decide +kernel, by decide +kernel, by decide⟩, in4 (List.mem_of_getElem? (i := 147) (by decide +kernel)), in4 (List.mem_of_getElem? (i := 148) (by decide +kernel))⟩
abbrev mX11_about : MD := (yX11_about, cX11_about, 2, (some .int))
theorem oX11_about : MOKv mX11_about 1 := ⟨⟨in4 (List.mem_of_getElem? (i := 157) rfl), in1 (List.mem_of_getElem? (i := 1) (by decide +kernel)), by decide +kernel, by decide +kernel, by decide +kernel, by decide⟩, in4 (List.mem_of_getElem? (i := 155) (by decide +kernel)), in4 (List.mem_of_getElem? (i := 156) (by decide +kernel))⟩
abbrev mX11_mayBeAnywhere : MD := (yX11_mayBeAnywhere, cX11_mayBeAnywhere, 3, (some .boolean))
theorem oX11_mayBeAnywhere : MOKv mX11_mayBeAnywhere 1 := ⟨⟨in4 (List.mem_of_getElem? (i := 1) rfl), in1 (List.mem_of_getElem? (i := 1) (by decide +kernel)), by decide +kernel, by decide +kernel, by decide +kernel, by decide⟩, in4 (List.mem_of_getElem? (i := 0) (by decide +kernel)), inS (List.mem_of_getElem? (i := 19) (by decide +kernel))⟩
abbrev mX11_passNightOf : MD := (yX11_passNightOf, cX11_passNightOf, 7, (some .int))
theorem oX11_passNightOf : MOKv mX11_passNightOf 1 := ⟨⟨in4 (List.mem_of_getElem? (i := 55) rfl), in1 (List.mem_of_getElem? (i := 1) (by decide +kernel)), by decide +kernel, by decide +kernel, by decide +kernel, by decide⟩, in4 (List.mem_of_getElem? (i := 54) (by decide +kernel)), inS (List.mem_of_getElem? (i := 21) (by decide +kernel))⟩
abbrev mX11_isUpTo : MD := (yX11_isUpTo, cX11_isUpTo, 2, (some .boolean))
theorem oX11_isUpTo : MOKs mX11_isUpTo 2 := ⟨⟨in2 (List.mem_of_getElem? (i := 92) rfl), in1 (List.mem_of_getElem? (i := 1) (by decide +kernel)), by decide +kernel, by decide +kernel, by decide +kernel, by decide⟩, in2 (List.mem_of_getElem? (i := 91) (by decide +kernel))⟩
abbrev mX11_isField : MD := (yX11_isField, cX11_isField, 1, (some .boolean))
theorem oX11_isField : MOKs mX11_isField 1 := ⟨⟨in2 (List.mem_of_getElem? (i := 127) rfl), in1 (List.mem_of_getElem? (i := 1) (by decide +kernel)), by decide +kernel, by decide +kernel, by decide +kernel, by decide⟩, in2 (List.mem_of_getElem? (i := 126) (by decide +kernel))⟩
abbrev mX11_isHour : MD := (yX11_isHour, cX11_isHour, 1, (some .boolean))
theorem oX11_isHour : MOKs mX11_isHour 1 := ⟨⟨in3 (List.mem_of_getElem? (i := 117) rfl), in1 (List.mem_of_getElem? (i := 1) (by decide +kernel)), by decide +kernel, by decide +kernel, by decide +kernel, by decide⟩, in3 (List.mem_of_getElem? (i := 116) (by decide +kernel))⟩
abbrev mX11_isBin : MD := (yX11_isBin, cX11_isBin, 1, (some .boolean))
theorem oX11_isBin : MOKs mX11_isBin 1 := ⟨⟨in4 (List.mem_of_getElem? (i := 8) rfl), in1 (List.mem_of_getElem? (i := 1) (by decide +kernel)), by decide +kernel, by decide +kernel, by decide +kernel, by decide⟩, in4 (List.mem_of_getElem? (i := 7) (by decide +kernel))⟩
abbrev mX11_isSort : MD := (yX11_isSort, cX11_isSort, 1, (some .boolean))
theorem oX11_isSort : MOKs mX11_isSort 1 := ⟨⟨in4 (List.mem_of_getElem? (i := 31) rfl), in1 (List.mem_of_getElem? (i := 1) (by decide +kernel)), by decide +kernel, by decide +kernel, by decide +kernel, by decide⟩, in4 (List.mem_of_getElem? (i := 30) (by decide +kernel))⟩
abbrev mX11_hourOf : MD := (yX11_hourOf, cX11_hourOf, 1, (some .int))
theorem oX11_hourOf : MOKs mX11_hourOf 1 := ⟨⟨in3 (List.mem_of_getElem? (i := 204) rfl), in1 (List.mem_of_getElem? (i := 1) (by decide +kernel)), by decide +kernel, by decide +kernel, by decide +kernel, by decide⟩, in3 (List.mem_of_getElem? (i := 203) (by decide +kernel))⟩
abbrev mX11_fieldOf : MD := (yX11_fieldOf, cX11_fieldOf, 1, (some .int))
theorem oX11_fieldOf : MOKs mX11_fieldOf 1 := ⟨⟨in3 (List.mem_of_getElem? (i := 201) rfl), in1 (List.mem_of_getElem? (i := 1) (by decide +kernel)), by decide +kernel, by decide +kernel, by decide +kernel, by decide⟩, in3 (List.mem_of_getElem? (i := 200) (by decide +kernel))⟩
abbrev mX12_init : MD := (yX12_init, cX12_init, 1, none)
theorem oX12_init : MOKi mX12_init 0 := ⟨⟨in4 (List.mem_of_getElem? (i := 174) rfl), in1 (List.mem_of_getElem? (i := 13) (by decide +kernel)), by decide +kernel, by decide +kernel, by decide +kernel, by decide⟩, rfl, rfl, in4 (List.mem_of_getElem? (i := 173) (by decide +kernel))⟩
abbrev mX12_isHorse : MD := (yX12_isHorse, cX12_isHorse, 2, (some .boolean))
theorem oX12_isHorse : MOKv mX12_isHorse 1 := ⟨⟨in5 (List.mem_of_getElem? (i := 128) rfl), in1 (List.mem_of_getElem? (i := 13) (by decide +kernel)), by decide +kernel, by decide +kernel, by decide +kernel, by decide⟩, in5 (List.mem_of_getElem? (i := 127) (by decide +kernel)), inS (List.mem_of_getElem? (i := 23) (by decide +kernel))⟩
abbrev mX12_isField : MD := (yX12_isField, cX12_isField, 1, (some .boolean))
theorem oX12_isField : MOKs mX12_isField 1 := ⟨⟨in5 (List.mem_of_getElem? (i := 135) rfl), in1 (List.mem_of_getElem? (i := 13) (by decide +kernel)), by decide +kernel, by decide +kernel, by decide +kernel, by decide⟩, in5 (List.mem_of_getElem? (i := 134) (by decide +kernel))⟩
abbrev mX12_isBin : MD := (yX12_isBin, cX12_isBin, 1, (some .boolean))
theorem oX12_isBin : MOKs mX12_isBin 1 := ⟨⟨in6 (List.mem_of_getElem? (i := 65) rfl), in1 (List.mem_of_getElem? (i := 13) (by decide +kernel)), by decide +kernel, by decide +kernel, by decide +kernel, by decide⟩, in6 (List.mem_of_getElem? (i := 64) (by decide +kernel))⟩
abbrev mX12_horse : MD := (yX12_horse, cX12_horse, 3, (some .int))
theorem oX12_horse : MOKv mX12_horse 2 := ⟨⟨in5 (List.mem_of_getElem? (i := 120) rfl), in1 (List.mem_of_getElem? (i := 13) (by decide +kernel)), by decide +kernel, by decide +kernel, by decide +kernel, by decide⟩, in5 (List.mem_of_getElem? (i := 118) (by decide +kernel)), in5 (List.mem_of_getElem? (i := 119) (by decide +kernel))⟩
abbrev mX12_lame : MD := (yX12_lame, cX12_lame, 3, (some .boolean))
theorem oX12_lame : MOKv mX12_lame 2 := ⟨⟨in5 (List.mem_of_getElem? (i := 124) rfl), in1 (List.mem_of_getElem? (i := 13) (by decide +kernel)), by decide +kernel, by decide +kernel, by decide +kernel, by decide⟩, in5 (List.mem_of_getElem? (i := 122) (by decide +kernel)), in5 (List.mem_of_getElem? (i := 123) (by decide +kernel))⟩
abbrev mX12_field : MD := (yX12_field, cX12_field, 4, (some .boolean))
theorem oX12_field : MOKv mX12_field 3 := ⟨⟨in5 (List.mem_of_getElem? (i := 132) rfl), in1 (List.mem_of_getElem? (i := 13) (by decide +kernel)), by decide +kernel, by decide +kernel, by decide +kernel, by decide⟩, in5 (List.mem_of_getElem? (i := 130) (by decide +kernel)), in5 (List.mem_of_getElem? (i := 131) (by decide +kernel))⟩
abbrev mX12_shut : MD := (yX12_shut, cX12_shut, 3, (some .boolean))
theorem oX12_shut : MOKv mX12_shut 2 := ⟨⟨in5 (List.mem_of_getElem? (i := 139) rfl), in1 (List.mem_of_getElem? (i := 13) (by decide +kernel)), by decide +kernel, by decide +kernel, by decide +kernel, by decide⟩, in5 (List.mem_of_getElem? (i := 137) (by decide +kernel)), in5 (List.mem_of_getElem? (i := 138) (by decide +kernel))⟩
abbrev mX12_gate : MD := (yX12_gate, cX12_gate, 4, (some .boolean))
theorem oX12_gate : MOKv mX12_gate 3 := ⟨⟨in5 (List.mem_of_getElem? (i := 144) rfl), in1 (List.mem_of_getElem? (i := 13) (by decide +kernel)), by decide +kernel, by decide +kernel, by decide +kernel, by decide⟩, in5 (List.mem_of_getElem? (i := 142) (by decide +kernel)), in5 (List.mem_of_getElem? (i := 143) (by decide +kernel))⟩
abbrev mX12_feed : MD := (yX12_feed, cX12_feed, 6, (some .int))
theorem oX12_feed : MOKv mX12_feed 5 := ⟨⟨in5 (List.mem_of_getElem? (i := 148) rfl), in1 (List.mem_of_getElem? (i := 13) (by decide +kernel)), by decide +kernel, by decide +kernel, by decide +kernel, by decide⟩, in5 (List.mem_of_getElem? (i := 146) (by decide +kernel)), in5 (List.mem_of_getElem? (i := 147) (by decide +kernel))⟩
abbrev mX12_four : MD := (yX12_four, cX12_four, 3, none)
theorem oX12_four : MOKv mX12_four 1 := ⟨⟨in5 (List.mem_of_getElem? (i := 152) rfl), in1 (List.mem_of_getElem? (i := 13) (by decide +kernel)), by decide +kernel, by decide +kernel, by decide +kernel, by decide⟩, in5 (List.mem_of_getElem? (i := 151) (by decide +kernel)), inS (List.mem_of_getElem? (i := 24) (by decide +kernel))⟩
abbrev mX12_end : MD := (yX12_end, cX12_end, 2, (some .int))
theorem oX12_end : MOKv mX12_end 1 := ⟨⟨in5 (List.mem_of_getElem? (i := 156) rfl), in1 (List.mem_of_getElem? (i := 13) (by decide +kernel)), by decide +kernel, by decide +kernel, by decide +kernel, by decide⟩, in5 (List.mem_of_getElem? (i := 154) (by decide +kernel)), in5 (List.mem_of_getElem? (i := 155) (by decide +kernel))⟩
abbrev mX12_here : MD := (yX12_here, cX12_here, 2, (some .int))
theorem oX12_here : MOKv mX12_here 1 := ⟨⟨in5 (List.mem_of_getElem? (i := 168) rfl), in1 (List.mem_of_getElem? (i := 13) (by decide +kernel)), by decide +kernel, by decide +kernel, by decide +kernel, by decide⟩, in5 (List.mem_of_getElem? (i := 167) (by decide +kernel)), inS (List.mem_of_getElem? (i := 26) (by decide +kernel))⟩
abbrev mX12_isLetter : MD := (yX12_isLetter, cX12_isLetter, 1, (some .boolean))
theorem oX12_isLetter : MOKs mX12_isLetter 1 := ⟨⟨in5 (List.mem_of_getElem? (i := 171) rfl), in1 (List.mem_of_getElem? (i := 13) (by decide +kernel)), by decide +kernel, by decide +kernel, by decide +kernel, by decide⟩, in5 (List.mem_of_getElem? (i := 170) (by decide +kernel))⟩
abbrev mX12_isDigit : MD := (yX12_isDigit, cX12_isDigit, 1, (some .boolean))
theorem oX12_isDigit : MOKs mX12_isDigit 1 := ⟨⟨in5 (List.mem_of_getElem? (i := 174) rfl), in1 (List.mem_of_getElem? (i := 13) (by decide +kernel)), by decide +kernel, by decide +kernel, by decide +kernel, by decide⟩, in5 (List.mem_of_getElem? (i := 173) (by decide +kernel))⟩
abbrev mX12_isSign : MD := (yX12_isSign, cX12_isSign, 1, (some .boolean))
theorem oX12_isSign : MOKs mX12_isSign 1 := ⟨⟨in5 (List.mem_of_getElem? (i := 177) rfl), in1 (List.mem_of_getElem? (i := 13) (by decide +kernel)), by decide +kernel, by decide +kernel, by decide +kernel, by decide⟩, in5 (List.mem_of_getElem? (i := 176) (by decide +kernel))⟩
abbrev mX12_next : MD := (yX12_next, cX12_next, 3, none)
theorem oX12_next : MOKv mX12_next 0 := ⟨⟨in5 (List.mem_of_getElem? (i := 164) rfl), in1 (List.mem_of_getElem? (i := 13) (by decide +kernel)), by decide +kernel, by decide +kernel, by decide +kernel, by decide⟩, in5 (List.mem_of_getElem? (i := 163) (by decide +kernel)), inS (List.mem_of_getElem? (i := 25) (by decide +kernel))⟩
abbrev mX12_wrong : MD := (yX12_wrong, cX12_wrong, 2, none)
theorem oX12_wrong : MOKv mX12_wrong 1 := ⟨⟨in5 (List.mem_of_getElem? (i := 187) rfl), in1 (List.mem_of_getElem? (i := 13) (by decide +kernel)), by decide +kernel, by decide +kernel, by decide +kernel, by decide⟩, in5 (List.mem_of_getElem? (i := 186) (by decide +kernel)), inS (List.mem_of_getElem? (i := 28) (by decide +kernel))⟩
abbrev mX12_isWord : MD := (yX12_isWord, cX12_isWord, 3, (some .boolean))
theorem oX12_isWord : MOKv mX12_isWord 1 := ⟨⟨in5 (List.mem_of_getElem? (i := 182) rfl), in1 (List.mem_of_getElem? (i := 13) (by decide +kernel)), by decide +kernel, by decide +kernel, by decide +kernel, by decide⟩, in5 (List.mem_of_getElem? (i := 181) (by decide +kernel)), inS (List.mem_of_getElem? (i := 27) (by decide +kernel))⟩
abbrev mX12_named : MD := (yX12_named, cX12_named, 1, (some .int))
theorem oX12_named : MOKv mX12_named 0 := ⟨⟨in5 (List.mem_of_getElem? (i := 226) rfl), in1 (List.mem_of_getElem? (i := 13) (by decide +kernel)), by decide +kernel, by decide +kernel, by decide +kernel, by decide⟩, in5 (List.mem_of_getElem? (i := 225) (by decide +kernel)), inS (List.mem_of_getElem? (i := 37) (by decide +kernel))⟩
abbrev mX12_step : MD := (yX12_step, cX12_step, 3, none)
theorem oX12_step : MOKv mX12_step 2 := ⟨⟨in5 (List.mem_of_getElem? (i := 207) rfl), in1 (List.mem_of_getElem? (i := 13) (by decide +kernel)), by decide +kernel, by decide +kernel, by decide +kernel, by decide⟩, in5 (List.mem_of_getElem? (i := 206) (by decide +kernel)), inS (List.mem_of_getElem? (i := 33) (by decide +kernel))⟩
abbrev mX12_hold : MD := (yX12_hold, cX12_hold, 2, none)
theorem oX12_hold : MOKv mX12_hold 1 := ⟨⟨in5 (List.mem_of_getElem? (i := 211) rfl), in1 (List.mem_of_getElem? (i := 13) (by decide +kernel)), by decide +kernel, by decide +kernel, by decide +kernel, by decide⟩, in5 (List.mem_of_getElem? (i := 210) (by decide +kernel)), inS (List.mem_of_getElem? (i := 34) (by decide +kernel))⟩
abbrev mX12_settle : MD := (yX12_settle, cX12_settle, 2, none)
theorem oX12_settle : MOKv mX12_settle 1 := ⟨⟨in5 (List.mem_of_getElem? (i := 203) rfl), in1 (List.mem_of_getElem? (i := 13) (by decide +kernel)), by decide +kernel, by decide +kernel, by decide +kernel, by decide⟩, in5 (List.mem_of_getElem? (i := 202) (by decide +kernel)), inS (List.mem_of_getElem? (i := 32) (by decide +kernel))⟩
abbrev mX12_isOpen : MD := (yX12_isOpen, cX12_isOpen, 3, (some .boolean))
theorem oX12_isOpen : MOKv mX12_isOpen 0 := ⟨⟨in5 (List.mem_of_getElem? (i := 195) rfl), in1 (List.mem_of_getElem? (i := 13) (by decide +kernel)), by decide +kernel, by decide +kernel, by decide +kernel, by decide⟩, in5 (List.mem_of_getElem? (i := 194) (by decide +kernel)), inS (List.mem_of_getElem? (i := 30) (by decide +kernel))⟩
abbrev mX12_readE : MD := (yX12_readE, cX12_readE, 3, none)
theorem oX12_readE : MOKv mX12_readE 1 := ⟨⟨in5 (List.mem_of_getElem? (i := 191) rfl), in1 (List.mem_of_getElem? (i := 13) (by decide +kernel)), by decide +kernel, by decide +kernel, by decide +kernel, by decide⟩, in5 (List.mem_of_getElem? (i := 190) (by decide +kernel)), inS (List.mem_of_getElem? (i := 29) (by decide +kernel))⟩
abbrev mX12_operand : MD := (yX12_operand, cX12_operand, 5, (some .int))
theorem oX12_operand : MOKv mX12_operand 2 := ⟨⟨in5 (List.mem_of_getElem? (i := 221) rfl), in1 (List.mem_of_getElem? (i := 13) (by decide +kernel)), by decide +kernel, by decide +kernel, by decide +kernel, by decide⟩, in5 (List.mem_of_getElem? (i := 220) (by decide +kernel)), inS (List.mem_of_getElem? (i := 36) (by decide +kernel))⟩
abbrev mX12_sign : MD := (yX12_sign, cX12_sign, 2, (some .int))
theorem oX12_sign : MOKv mX12_sign 0 := ⟨⟨in5 (List.mem_of_getElem? (i := 199) rfl), in1 (List.mem_of_getElem? (i := 13) (by decide +kernel)), by decide +kernel, by decide +kernel, by decide +kernel, by decide⟩, in5 (List.mem_of_getElem? (i := 198) (by decide +kernel)), inS (List.mem_of_getElem? (i := 31) (by decide +kernel))⟩
abbrev mX12_settleOnes : MD := (yX12_settleOnes, cX12_settleOnes, 4, none)
theorem oX12_settleOnes : MOKv mX12_settleOnes 1 := ⟨⟨in5 (List.mem_of_getElem? (i := 217) rfl), in1 (List.mem_of_getElem? (i := 13) (by decide +kernel)), by decide +kernel, by decide +kernel, by decide +kernel, by decide⟩, in5 (List.mem_of_getElem? (i := 216) (by decide +kernel)), inS (List.mem_of_getElem? (i := 35) (by decide +kernel))⟩
abbrev mX12_rules : MD := (yX12_rules, cX12_rules, 2, (some .int))
theorem oX12_rules : MOKv mX12_rules 0 := ⟨⟨in5 (List.mem_of_getElem? (i := 160) rfl), in1 (List.mem_of_getElem? (i := 13) (by decide +kernel)), by decide +kernel, by decide +kernel, by decide +kernel, by decide⟩, in5 (List.mem_of_getElem? (i := 158) (by decide +kernel)), in5 (List.mem_of_getElem? (i := 159) (by decide +kernel))⟩
abbrev mX12_fault : MD := (yX12_fault, cX12_fault, 2, (some .int))
theorem oX12_fault : MOKv mX12_fault 1 := ⟨⟨in6 (List.mem_of_getElem? (i := 4) rfl), in1 (List.mem_of_getElem? (i := 13) (by decide +kernel)), by decide +kernel, by decide +kernel, by decide +kernel, by decide⟩, in6 (List.mem_of_getElem? (i := 2) (by decide +kernel)), in6 (List.mem_of_getElem? (i := 3) (by decide +kernel))⟩
abbrev mX12_tell : MD := (yX12_tell, cX12_tell, 3, none)
theorem oX12_tell : MOKv mX12_tell 2 := ⟨⟨in6 (List.mem_of_getElem? (i := 12) rfl), in1 (List.mem_of_getElem? (i := 13) (by decide +kernel)), by decide +kernel, by decide +kernel, by decide +kernel, by decide⟩, in6 (List.mem_of_getElem? (i := 11) (by decide +kernel)), inS (List.mem_of_getElem? (i := 38) (by decide +kernel))⟩
abbrev mX12_holds : MD := (yX12_holds, cX12_holds, 7, (some .boolean))
theorem oX12_holds : MOKv mX12_holds 1 := ⟨⟨in6 (List.mem_of_getElem? (i := 20) rfl), in1 (List.mem_of_getElem? (i := 13) (by decide +kernel)), by decide +kernel, by decide +kernel, by decide +kernel, by decide⟩, in6 (List.mem_of_getElem? (i := 19) (by decide +kernel)), inS (List.mem_of_getElem? (i := 40) (by decide +kernel))⟩
abbrev mX12_hold_ : MD := (yX12_hold_, cX12_hold_, 4, (some .boolean))
theorem oX12_hold_ : MOKv mX12_hold_ 1 := ⟨⟨in6 (List.mem_of_getElem? (i := 16) rfl), in1 (List.mem_of_getElem? (i := 13) (by decide +kernel)), by decide +kernel, by decide +kernel, by decide +kernel, by decide⟩, in6 (List.mem_of_getElem? (i := 15) (by decide +kernel)), inS (List.mem_of_getElem? (i := 39) (by decide +kernel))⟩
abbrev mX12_may : MD := (yX12_may, cX12_may, 4, (some .boolean))
theorem oX12_may : MOKv mX12_may 3 := ⟨⟨in6 (List.mem_of_getElem? (i := 8) rfl), in1 (List.mem_of_getElem? (i := 13) (by decide +kernel)), by decide +kernel, by decide +kernel, by decide +kernel, by decide⟩, in6 (List.mem_of_getElem? (i := 6) (by decide +kernel)), in6 (List.mem_of_getElem? (i := 7) (by decide +kernel))⟩
abbrev mX12_meetsFrom : MD := (yX12_meetsFrom, cX12_meetsFrom, 6, (some .boolean))
theorem oX12_meetsFrom : MOKv mX12_meetsFrom 5 := ⟨⟨in6 (List.mem_of_getElem? (i := 28) rfl), in1 (List.mem_of_getElem? (i := 13) (by decide +kernel)), by decide +kernel, by decide +kernel, by decide +kernel, by decide⟩, in6 (List.mem_of_getElem? (i := 27) (by decide +kernel)), inS (List.mem_of_getElem? (i := 41) (by decide +kernel))⟩
abbrev mX12_meet : MD := (yX12_meet, cX12_meet, 7, (some .boolean))
theorem oX12_meet : MOKv mX12_meet 5 := ⟨⟨in6 (List.mem_of_getElem? (i := 24) rfl), in1 (List.mem_of_getElem? (i := 13) (by decide +kernel)), by decide +kernel, by decide +kernel, by decide +kernel, by decide⟩, in6 (List.mem_of_getElem? (i := 22) (by decide +kernel)), in6 (List.mem_of_getElem? (i := 23) (by decide +kernel))⟩
abbrev mX12_plan : MD := (yX12_plan, cX12_plan, 4, (some .int))
theorem oX12_plan : MOKv mX12_plan 0 := ⟨⟨in6 (List.mem_of_getElem? (i := 32) rfl), in1 (List.mem_of_getElem? (i := 13) (by decide +kernel)), by decide +kernel, by decide +kernel, by decide +kernel, by decide⟩, in6 (List.mem_of_getElem? (i := 30) (by decide +kernel)), in6 (List.mem_of_getElem? (i := 31) (by decide +kernel))⟩
abbrev mX12_nextOf : MD := (yX12_nextOf, cX12_nextOf, 3, (some .int))
theorem oX12_nextOf : MOKv mX12_nextOf 1 := ⟨⟨in6 (List.mem_of_getElem? (i := 36) rfl), in1 (List.mem_of_getElem? (i := 13) (by decide +kernel)), by decide +kernel, by decide +kernel, by decide +kernel, by decide⟩, in6 (List.mem_of_getElem? (i := 35) (by decide +kernel)), inS (List.mem_of_getElem? (i := 42) (by decide +kernel))⟩
abbrev mX12_lastOf : MD := (yX12_lastOf, cX12_lastOf, 3, (some .int))
theorem oX12_lastOf : MOKv mX12_lastOf 1 := ⟨⟨in6 (List.mem_of_getElem? (i := 40) rfl), in1 (List.mem_of_getElem? (i := 13) (by decide +kernel)), by decide +kernel, by decide +kernel, by decide +kernel, by decide⟩, in6 (List.mem_of_getElem? (i := 39) (by decide +kernel)), inS (List.mem_of_getElem? (i := 43) (by decide +kernel))⟩
abbrev mX12_fits : MD := (yX12_fits, cX12_fits, 8, (some .boolean))
theorem oX12_fits : MOKv mX12_fits 2 := ⟨⟨in6 (List.mem_of_getElem? (i := 44) rfl), in1 (List.mem_of_getElem? (i := 13) (by decide +kernel)), by decide +kernel, by decide +kernel, by decide +kernel, by decide⟩, in6 (List.mem_of_getElem? (i := 43) (by decide +kernel)), inS (List.mem_of_getElem? (i := 44) (by decide +kernel))⟩
abbrev mX12_tries : MD := (yX12_tries, cX12_tries, 1, (some .int))
theorem oX12_tries : MOKv mX12_tries 0 := ⟨⟨in6 (List.mem_of_getElem? (i := 50) rfl), in1 (List.mem_of_getElem? (i := 13) (by decide +kernel)), by decide +kernel, by decide +kernel, by decide +kernel, by decide⟩, in6 (List.mem_of_getElem? (i := 48) (by decide +kernel)), in6 (List.mem_of_getElem? (i := 49) (by decide +kernel))⟩
abbrev mX12_out : MD := (yX12_out, cX12_out, 2, (some .int))
theorem oX12_out : MOKv mX12_out 1 := ⟨⟨in6 (List.mem_of_getElem? (i := 54) rfl), in1 (List.mem_of_getElem? (i := 13) (by decide +kernel)), by decide +kernel, by decide +kernel, by decide +kernel, by decide⟩, in6 (List.mem_of_getElem? (i := 52) (by decide +kernel)), in6 (List.mem_of_getElem? (i := 53) (by decide +kernel))⟩
abbrev mX12_stuck : MD := (yX12_stuck, cX12_stuck, 4, (some .int))
theorem oX12_stuck : MOKv mX12_stuck 0 := ⟨⟨in6 (List.mem_of_getElem? (i := 58) rfl), in1 (List.mem_of_getElem? (i := 13) (by decide +kernel)), by decide +kernel, by decide +kernel, by decide +kernel, by decide⟩, in6 (List.mem_of_getElem? (i := 56) (by decide +kernel)), in6 (List.mem_of_getElem? (i := 57) (by decide +kernel))⟩
abbrev mX12_lot : MD := (yX12_lot, cX12_lot, 5, (some .int))
theorem oX12_lot : MOKv mX12_lot 3 := ⟨⟨in6 (List.mem_of_getElem? (i := 62) rfl), in1 (List.mem_of_getElem? (i := 13) (by decide +kernel)), by decide +kernel, by decide +kernel, by decide +kernel, by decide⟩, in6 (List.mem_of_getElem? (i := 60) (by decide +kernel)), in6 (List.mem_of_getElem? (i := 61) (by decide +kernel))⟩
abbrev mX12_firstGoes : MD := (yX12_firstGoes, cX12_firstGoes, 3, none)
theorem oX12_firstGoes : MOKv mX12_firstGoes 1 := ⟨⟨in6 (List.mem_of_getElem? (i := 85) rfl), in1 (List.mem_of_getElem? (i := 13) (by decide +kernel)), by decide +kernel, by decide +kernel, by decide +kernel, by decide⟩, in6 (List.mem_of_getElem? (i := 84) (by decide +kernel)), inS (List.mem_of_getElem? (i := 45) (by decide +kernel))⟩
abbrev mX12_takes : MD := (yX12_takes, cX12_takes, 4, (some .boolean))
theorem oX12_takes : MOKv mX12_takes 3 := ⟨⟨in6 (List.mem_of_getElem? (i := 69) rfl), in1 (List.mem_of_getElem? (i := 13) (by decide +kernel)), by decide +kernel, by decide +kernel, by decide +kernel, by decide⟩, in6 (List.mem_of_getElem? (i := 67) (by decide +kernel)), in6 (List.mem_of_getElem? (i := 68) (by decide +kernel))⟩
abbrev mX12_price : MD := (yX12_price, cX12_price, 3, (some .boolean))
theorem oX12_price : MOKv mX12_price 2 := ⟨⟨in6 (List.mem_of_getElem? (i := 73) rfl), in1 (List.mem_of_getElem? (i := 13) (by decide +kernel)), by decide +kernel, by decide +kernel, by decide +kernel, by decide⟩, in6 (List.mem_of_getElem? (i := 71) (by decide +kernel)), in6 (List.mem_of_getElem? (i := 72) (by decide +kernel))⟩
abbrev mX12_falls : MD := (yX12_falls, cX12_falls, 3, (some .boolean))
theorem oX12_falls : MOKv mX12_falls 2 := ⟨⟨in6 (List.mem_of_getElem? (i := 77) rfl), in1 (List.mem_of_getElem? (i := 13) (by decide +kernel)), by decide +kernel, by decide +kernel, by decide +kernel, by decide⟩, in6 (List.mem_of_getElem? (i := 75) (by decide +kernel)), in6 (List.mem_of_getElem? (i := 76) (by decide +kernel))⟩
abbrev mX12_serve : MD := (yX12_serve, cX12_serve, 6, (some .int))
theorem oX12_serve : MOKv mX12_serve 2 := ⟨⟨in6 (List.mem_of_getElem? (i := 89) rfl), in1 (List.mem_of_getElem? (i := 13) (by decide +kernel)), by decide +kernel, by decide +kernel, by decide +kernel, by decide⟩, in6 (List.mem_of_getElem? (i := 88) (by decide +kernel)), inS (List.mem_of_getElem? (i := 46) (by decide +kernel))⟩
abbrev mX12_night : MD := (yX12_night, cX12_night, 7, (some .int))
theorem oX12_night : MOKv mX12_night 0 := ⟨⟨in6 (List.mem_of_getElem? (i := 81) rfl), in1 (List.mem_of_getElem? (i := 13) (by decide +kernel)), by decide +kernel, by decide +kernel, by decide +kernel, by decide⟩, in6 (List.mem_of_getElem? (i := 79) (by decide +kernel)), in6 (List.mem_of_getElem? (i := 80) (by decide +kernel))⟩
abbrev mX12_bin : MD := (yX12_bin, cX12_bin, 5, (some .int))
theorem oX12_bin : MOKv mX12_bin 2 := ⟨⟨in6 (List.mem_of_getElem? (i := 93) rfl), in1 (List.mem_of_getElem? (i := 13) (by decide +kernel)), by decide +kernel, by decide +kernel, by decide +kernel, by decide⟩, in6 (List.mem_of_getElem? (i := 91) (by decide +kernel)), in6 (List.mem_of_getElem? (i := 92) (by decide +kernel))⟩
abbrev mX12_foretold : MD := (yX12_foretold, cX12_foretold, 7, (some .int))
theorem oX12_foretold : MOKv mX12_foretold 1 := ⟨⟨in6 (List.mem_of_getElem? (i := 97) rfl), in1 (List.mem_of_getElem? (i := 13) (by decide +kernel)), by decide +kernel, by decide +kernel, by decide +kernel, by decide⟩, in6 (List.mem_of_getElem? (i := 95) (by decide +kernel)), in6 (List.mem_of_getElem? (i := 96) (by decide +kernel))⟩
abbrev mX12_work : MD := (yX12_work, cX12_work, 4, (some .int))
theorem oX12_work : MOKv mX12_work 3 := ⟨⟨in6 (List.mem_of_getElem? (i := 101) rfl), in1 (List.mem_of_getElem? (i := 13) (by decide +kernel)), by decide +kernel, by decide +kernel, by decide +kernel, by decide⟩, in6 (List.mem_of_getElem? (i := 99) (by decide +kernel)), in6 (List.mem_of_getElem? (i := 100) (by decide +kernel))⟩
abbrev mX12_due : MD := (yX12_due, cX12_due, 5, (some .int))
theorem oX12_due : MOKv mX12_due 2 := ⟨⟨in6 (List.mem_of_getElem? (i := 105) rfl), in1 (List.mem_of_getElem? (i := 13) (by decide +kernel)), by decide +kernel, by decide +kernel, by decide +kernel, by decide⟩, in6 (List.mem_of_getElem? (i := 103) (by decide +kernel)), in6 (List.mem_of_getElem? (i := 104) (by decide +kernel))⟩
abbrev mX12_bill : MD := (yX12_bill, cX12_bill, 7, (some .int))
theorem oX12_bill : MOKv mX12_bill 4 := ⟨⟨in6 (List.mem_of_getElem? (i := 109) rfl), in1 (List.mem_of_getElem? (i := 13) (by decide +kernel)), by decide +kernel, by decide +kernel, by decide +kernel, by decide⟩, in6 (List.mem_of_getElem? (i := 107) (by decide +kernel)), in6 (List.mem_of_getElem? (i := 108) (by decide +kernel))⟩
abbrev mX12_lacked : MD := (yX12_lacked, cX12_lacked, 2, (some .int))
theorem oX12_lacked : MOKv mX12_lacked 1 := ⟨⟨in6 (List.mem_of_getElem? (i := 113) rfl), in1 (List.mem_of_getElem? (i := 13) (by decide +kernel)), by decide +kernel, by decide +kernel, by decide +kernel, by decide⟩, in6 (List.mem_of_getElem? (i := 111) (by decide +kernel)), in6 (List.mem_of_getElem? (i := 112) (by decide +kernel))⟩
abbrev mX12_about : MD := (yX12_about, cX12_about, 2, (some .int))
theorem oX12_about : MOKv mX12_about 1 := ⟨⟨in6 (List.mem_of_getElem? (i := 117) rfl), in1 (List.mem_of_getElem? (i := 13) (by decide +kernel)), by decide +kernel, by decide +kernel, by decide +kernel, by decide⟩, in6 (List.mem_of_getElem? (i := 115) (by decide +kernel)), in6 (List.mem_of_getElem? (i := 116) (by decide +kernel))⟩
abbrev mJ0_length_8abf5 : MD := (yJ0_length_8abf5, cJ0_length_8abf5, 1, (some .int))
theorem oJ0_length_8abf5 : MOKv mJ0_length_8abf5 0 := ⟨⟨in2 (List.mem_of_getElem? (i := 218) rfl), in1 (List.mem_of_getElem? (i := 14) (by decide +kernel)), by decide +kernel, by decide +kernel, by decide +kernel, by decide⟩, in2 (List.mem_of_getElem? (i := 216) (by decide +kernel)), in2 (List.mem_of_getElem? (i := 217) (by decide +kernel))⟩
abbrev mJ0_charAt_5068e : MD := (yJ0_charAt_5068e, cJ0_charAt_5068e, 2, (some .char))
theorem oJ0_charAt_5068e : MOKv mJ0_charAt_5068e 1 := ⟨⟨in2 (List.mem_of_getElem? (i := 228) rfl), in1 (List.mem_of_getElem? (i := 14) (by decide +kernel)), by decide +kernel, by decide +kernel, by decide +kernel, by decide⟩, in2 (List.mem_of_getElem? (i := 226) (by decide +kernel)), in2 (List.mem_of_getElem? (i := 227) (by decide +kernel))⟩
abbrev mJ0_coder_7d493 : MD := (yJ0_coder_7d493, cJ0_coder_7d493, 1, (some .byte))
theorem oJ0_coder_7d493 : MOKv mJ0_coder_7d493 0 := ⟨⟨in2 (List.mem_of_getElem? (i := 222) rfl), in1 (List.mem_of_getElem? (i := 14) (by decide +kernel)), by decide +kernel, by decide +kernel, by decide +kernel, by decide⟩, in2 (List.mem_of_getElem? (i := 220) (by decide +kernel)), in2 (List.mem_of_getElem? (i := 221) (by decide +kernel))⟩
abbrev mJ0_isLatin1_aae02 : MD := (yJ0_isLatin1_aae02, cJ0_isLatin1_aae02, 1, (some .boolean))
theorem oJ0_isLatin1_aae02 : MOKv mJ0_isLatin1_aae02 0 := ⟨⟨in2 (List.mem_of_getElem? (i := 232) rfl), in1 (List.mem_of_getElem? (i := 14) (by decide +kernel)), by decide +kernel, by decide +kernel, by decide +kernel, by decide⟩, in2 (List.mem_of_getElem? (i := 230) (by decide +kernel)), in2 (List.mem_of_getElem? (i := 231) (by decide +kernel))⟩
abbrev mJ0_checkIndex_df160 : MD := (yJ0_checkIndex_df160, cJ0_checkIndex_df160, 2, none)
theorem oJ0_checkIndex_df160 : MOKs mJ0_checkIndex_df160 2 := ⟨⟨in2 (List.mem_of_getElem? (i := 238) rfl), in1 (List.mem_of_getElem? (i := 14) (by decide +kernel)), by decide +kernel, by decide +kernel, by decide +kernel, by decide⟩, in2 (List.mem_of_getElem? (i := 237) (by decide +kernel))⟩
abbrev mJ1_charAt_3b067 : MD := (yJ1_charAt_3b067, cJ1_charAt_3b067, 2, (some .char))
theorem oJ1_charAt_3b067 : MOKs mJ1_charAt_3b067 2 := ⟨⟨in2 (List.mem_of_getElem? (i := 235) rfl), in1 (List.mem_of_getElem? (i := 15) (by decide +kernel)), by decide +kernel, by decide +kernel, by decide +kernel, by decide⟩, in2 (List.mem_of_getElem? (i := 234) (by decide +kernel))⟩
abbrev mJ2_getChar_3b067 : MD := (yJ2_getChar_3b067, cJ2_getChar_3b067, 2, (some .char))
theorem oJ2_getChar_3b067 : MOKs mJ2_getChar_3b067 2 := ⟨⟨in3 (List.mem_of_getElem? (i := 16) rfl), in1 (List.mem_of_getElem? (i := 17) (by decide +kernel)), by decide +kernel, by decide +kernel, by decide +kernel, by decide⟩, in3 (List.mem_of_getElem? (i := 15) (by decide +kernel))⟩
abbrev mJ2_length_9d52b : MD := (yJ2_length_9d52b, cJ2_length_9d52b, 1, (some .int))
theorem oJ2_length_9d52b : MOKs mJ2_length_9d52b 1 := ⟨⟨in3 (List.mem_of_getElem? (i := 12) rfl), in1 (List.mem_of_getElem? (i := 17) (by decide +kernel)), by decide +kernel, by decide +kernel, by decide +kernel, by decide⟩, in3 (List.mem_of_getElem? (i := 11) (by decide +kernel))⟩
abbrev mJ2_charAt_3b067 : MD := (yJ2_charAt_3b067, cJ2_charAt_3b067, 2, (some .char))
theorem oJ2_charAt_3b067 : MOKs mJ2_charAt_3b067 2 := ⟨⟨in3 (List.mem_of_getElem? (i := 6) rfl), in1 (List.mem_of_getElem? (i := 17) (by decide +kernel)), by decide +kernel, by decide +kernel, by decide +kernel, by decide⟩, in3 (List.mem_of_getElem? (i := 5) (by decide +kernel))⟩
abbrev mJ2_checkIndex_2214a : MD := (yJ2_checkIndex_2214a, cJ2_checkIndex_2214a, 2, none)
theorem oJ2_checkIndex_2214a : MOKs mJ2_checkIndex_2214a 2 := ⟨⟨in3 (List.mem_of_getElem? (i := 9) rfl), in1 (List.mem_of_getElem? (i := 17) (by decide +kernel)), by decide +kernel, by decide +kernel, by decide +kernel, by decide⟩, in3 (List.mem_of_getElem? (i := 8) (by decide +kernel))⟩
abbrev mJ7_fill_53178 : MD := (yJ7_fill_53178, cJ7_fill_53178, 4, none)
theorem oJ7_fill_53178 : MOKs mJ7_fill_53178 2 := ⟨⟨in3 (List.mem_of_getElem? (i := 184) rfl), in1 (List.mem_of_getElem? (i := 19) (by decide +kernel)), by decide +kernel, by decide +kernel, by decide +kernel, by decide⟩, in3 (List.mem_of_getElem? (i := 183) (by decide +kernel))⟩
abbrev mJ3_checkIndex_8e157 : MD := (yJ3_checkIndex_8e157, cJ3_checkIndex_8e157, 3, (some .int))
theorem oJ3_checkIndex_8e157 : MOKs mJ3_checkIndex_8e157 3 := ⟨⟨in3 (List.mem_of_getElem? (i := 3) rfl), in1 (List.mem_of_getElem? (i := 16) (by decide +kernel)), by decide +kernel, by decide +kernel, by decide +kernel, by decide⟩, in3 (List.mem_of_getElem? (i := 2) (by decide +kernel))⟩
theorem lL_7 : Cond.classLink RL 7 RX11 ∈ lw_tbl := in1 (List.mem_of_getElem? (i := 21) (by decide +kernel))
theorem nL_7 : NOK RL 7 11 13 [.null, .null, .null, .null, .null, .null, .null, .null, .null, .null, .null, .null, .int 0] := ⟨RX11, TX11, tyX11, rfl, lL_7, in1 (List.mem_of_getElem? (i := 22) (by decide +kernel)), in1 (List.mem_of_getElem? (i := 1) (by decide +kernel)), wX11, tyX11_ok, by decide +kernel, fun _ => rfl⟩
theorem kL_9 : Cond.methodLink RL 9 yX11_init ∈ lw_tbl := in1 (List.mem_of_getElem? (i := 23) (by decide +kernel))
theorem kX11_3 : Cond.methodLink RX11 3 Lib.objectInit ∈ lw_tbl := in1 (List.mem_of_getElem? (i := 26) (by decide +kernel))
theorem lX11_9 : Cond.classLink RX11 9 RX1 ∈ lw_tbl := in1 (List.mem_of_getElem? (i := 29) (by decide +kernel))
theorem nX11_9 : NOK RX11 9 1 7 [.null, .null, .null, .null, .null, .null, .int 0] := ⟨RX1, TX1, tyX1, rfl, lX11_9, in1 (List.mem_of_getElem? (i := 30) (by decide +kernel)), in1 (List.mem_of_getElem? (i := 2) (by decide +kernel)), wX1, tyX1_ok, by decide +kernel, fun _ => rfl⟩
theorem kX11_11 : Cond.methodLinkNest RX11 11 yX1_init "LiveryYard" ∈ lw_tbl := in1 (List.mem_of_getElem? (i := 31) (by decide +kernel))
theorem kX1_3 : Cond.methodLink RX1 3 Lib.objectInit ∈ lw_tbl := in1 (List.mem_of_getElem? (i := 34) (by decide +kernel))
theorem lfX1_9 : Cond.fieldLink RX1 9 (TX1 0).1 (TX1 0).2.1 (TX1 0).2.2.1 ∈ lw_tbl := in1 (List.mem_of_getElem? (i := 35) (by decide +kernel))
theorem fX1_9 : FOK RX1 9 1 0 := ⟨RX1, TX1, 7, rfl, by decide, lfX1_9, wX1⟩
theorem qX1_9 : PFOK RX1 9 1 0 (.array .int) := ⟨RX1, TX1, 7, tyX1, rfl, by decide, lfX1_9, wX1, tyX1_ok, nmX1, rfl, rfl, by decide +kernel⟩
theorem lfX1_15 : Cond.fieldLink RX1 15 (TX1 1).1 (TX1 1).2.1 (TX1 1).2.2.1 ∈ lw_tbl := in1 (List.mem_of_getElem? (i := 36) (by decide +kernel))
theorem fX1_15 : FOK RX1 15 1 1 := ⟨RX1, TX1, 7, rfl, by decide, lfX1_15, wX1⟩
theorem qX1_15 : PFOK RX1 15 1 1 (.array .int) := ⟨RX1, TX1, 7, tyX1, rfl, by decide, lfX1_15, wX1, tyX1_ok, nmX1, rfl, rfl, by decide +kernel⟩
theorem lfX1_18 : Cond.fieldLink RX1 18 (TX1 2).1 (TX1 2).2.1 (TX1 2).2.2.1 ∈ lw_tbl := in1 (List.mem_of_getElem? (i := 37) (by decide +kernel))
theorem fX1_18 : FOK RX1 18 1 2 := ⟨RX1, TX1, 7, rfl, by decide, lfX1_18, wX1⟩
theorem qX1_18 : PFOK RX1 18 1 2 (.array .int) := ⟨RX1, TX1, 7, tyX1, rfl, by decide, lfX1_18, wX1, tyX1_ok, nmX1, rfl, rfl, by decide +kernel⟩
theorem lfX1_21 : Cond.fieldLink RX1 21 (TX1 3).1 (TX1 3).2.1 (TX1 3).2.2.1 ∈ lw_tbl := in1 (List.mem_of_getElem? (i := 38) (by decide +kernel))
theorem fX1_21 : FOK RX1 21 1 3 := ⟨RX1, TX1, 7, rfl, by decide, lfX1_21, wX1⟩
theorem qX1_21 : PFOK RX1 21 1 3 (.array .boolean) := ⟨RX1, TX1, 7, tyX1, rfl, by decide, lfX1_21, wX1, tyX1_ok, nmX1, rfl, rfl, by decide +kernel⟩
theorem lfX1_25 : Cond.fieldLink RX1 25 (TX1 4).1 (TX1 4).2.1 (TX1 4).2.2.1 ∈ lw_tbl := in1 (List.mem_of_getElem? (i := 39) (by decide +kernel))
theorem fX1_25 : FOK RX1 25 1 4 := ⟨RX1, TX1, 7, rfl, by decide, lfX1_25, wX1⟩
theorem qX1_25 : PFOK RX1 25 1 4 (.array .int) := ⟨RX1, TX1, 7, tyX1, rfl, by decide, lfX1_25, wX1, tyX1_ok, nmX1, rfl, rfl, by decide +kernel⟩
theorem lfX1_28 : Cond.fieldLink RX1 28 (TX1 5).1 (TX1 5).2.1 (TX1 5).2.2.1 ∈ lw_tbl := in1 (List.mem_of_getElem? (i := 40) (by decide +kernel))
theorem fX1_28 : FOK RX1 28 1 5 := ⟨RX1, TX1, 7, rfl, by decide, lfX1_28, wX1⟩
theorem qX1_28 : PFOK RX1 28 1 5 (.array .int) := ⟨RX1, TX1, 7, tyX1, rfl, by decide, lfX1_28, wX1, tyX1_ok, nmX1, rfl, rfl, by decide +kernel⟩
theorem lfX1_31 : Cond.fieldLink RX1 31 (TX1 6).1 (TX1 6).2.1 (TX1 6).2.2.1 ∈ lw_tbl := in1 (List.mem_of_getElem? (i := 41) (by decide +kernel))
theorem fX1_31 : FOK RX1 31 1 6 := ⟨RX1, TX1, 7, rfl, by decide, lfX1_31, wX1⟩
theorem pX1_31 : POK RX1 31 1 6 .int := ⟨RX1, TX1, 7, tyX1, rfl, by decide, lfX1_31, wX1, tyX1_ok, nmX1, rfl, by decide +kernel⟩
theorem lX11_16 : Cond.classLink RX11 16 RX3 ∈ lw_tbl := in1 (List.mem_of_getElem? (i := 59) (by decide +kernel))
theorem nX11_16 : NOK RX11 16 3 4 [.null, .null, .null, .null] := ⟨RX3, TX3, tyX3, rfl, lX11_16, in1 (List.mem_of_getElem? (i := 60) (by decide +kernel)), in1 (List.mem_of_getElem? (i := 3) (by decide +kernel)), wX3, tyX3_ok, by decide +kernel, fun _ => rfl⟩
theorem kX11_18 : Cond.methodLinkNest RX11 18 yX3_init "LiveryYard" ∈ lw_tbl := in1 (List.mem_of_getElem? (i := 61) (by decide +kernel))
theorem kX3_3 : Cond.methodLink RX3 3 Lib.objectInit ∈ lw_tbl := in1 (List.mem_of_getElem? (i := 64) (by decide +kernel))
theorem lfX3_9 : Cond.fieldLink RX3 9 (TX3 0).1 (TX3 0).2.1 (TX3 0).2.2.1 ∈ lw_tbl := in1 (List.mem_of_getElem? (i := 65) (by decide +kernel))
theorem fX3_9 : FOK RX3 9 3 0 := ⟨RX3, TX3, 4, rfl, by decide, lfX3_9, wX3⟩
theorem qX3_9 : PFOK RX3 9 3 0 (.array .int) := ⟨RX3, TX3, 4, tyX3, rfl, by decide, lfX3_9, wX3, tyX3_ok, nmX3, rfl, rfl, by decide +kernel⟩
theorem lfX3_15 : Cond.fieldLink RX3 15 (TX3 1).1 (TX3 1).2.1 (TX3 1).2.2.1 ∈ lw_tbl := in1 (List.mem_of_getElem? (i := 66) (by decide +kernel))
theorem fX3_15 : FOK RX3 15 3 1 := ⟨RX3, TX3, 4, rfl, by decide, lfX3_15, wX3⟩
theorem qX3_15 : PFOK RX3 15 3 1 (.array .int) := ⟨RX3, TX3, 4, tyX3, rfl, by decide, lfX3_15, wX3, tyX3_ok, nmX3, rfl, rfl, by decide +kernel⟩
theorem lfX3_18 : Cond.fieldLink RX3 18 (TX3 2).1 (TX3 2).2.1 (TX3 2).2.2.1 ∈ lw_tbl := in1 (List.mem_of_getElem? (i := 67) (by decide +kernel))
theorem fX3_18 : FOK RX3 18 3 2 := ⟨RX3, TX3, 4, rfl, by decide, lfX3_18, wX3⟩
theorem qX3_18 : PFOK RX3 18 3 2 (.array .int) := ⟨RX3, TX3, 4, tyX3, rfl, by decide, lfX3_18, wX3, tyX3_ok, nmX3, rfl, rfl, by decide +kernel⟩
theorem lfX3_21 : Cond.fieldLink RX3 21 (TX3 3).1 (TX3 3).2.1 (TX3 3).2.2.1 ∈ lw_tbl := in1 (List.mem_of_getElem? (i := 68) (by decide +kernel))
theorem fX3_21 : FOK RX3 21 3 3 := ⟨RX3, TX3, 4, rfl, by decide, lfX3_21, wX3⟩
theorem qX3_21 : PFOK RX3 21 3 3 (.array .boolean) := ⟨RX3, TX3, 4, tyX3, rfl, by decide, lfX3_21, wX3, tyX3_ok, nmX3, rfl, rfl, by decide +kernel⟩
theorem lX11_23 : Cond.classLink RX11 23 RX8 ∈ lw_tbl := in1 (List.mem_of_getElem? (i := 78) (by decide +kernel))
theorem nX11_23 : NOK RX11 23 8 2 [.null, .int 0] := ⟨RX8, TX8, tyX8, rfl, lX11_23, in1 (List.mem_of_getElem? (i := 79) (by decide +kernel)), in1 (List.mem_of_getElem? (i := 4) (by decide +kernel)), wX8, tyX8_ok, by decide +kernel, fun _ => rfl⟩
theorem kX11_25 : Cond.methodLinkNest RX11 25 yX8_init "LiveryYard" ∈ lw_tbl := in1 (List.mem_of_getElem? (i := 80) (by decide +kernel))
theorem kX8_3 : Cond.methodLink RX8 3 Lib.objectInit ∈ lw_tbl := in1 (List.mem_of_getElem? (i := 83) (by decide +kernel))
theorem lfX8_9 : Cond.fieldLink RX8 9 (TX8 0).1 (TX8 0).2.1 (TX8 0).2.2.1 ∈ lw_tbl := in1 (List.mem_of_getElem? (i := 84) (by decide +kernel))
theorem fX8_9 : FOK RX8 9 8 0 := ⟨RX8, TX8, 2, rfl, by decide, lfX8_9, wX8⟩
theorem qX8_9 : PFOK RX8 9 8 0 (.array .int) := ⟨RX8, TX8, 2, tyX8, rfl, by decide, lfX8_9, wX8, tyX8_ok, nmX8, rfl, rfl, by decide +kernel⟩
theorem lfX8_15 : Cond.fieldLink RX8 15 (TX8 1).1 (TX8 1).2.1 (TX8 1).2.2.1 ∈ lw_tbl := in1 (List.mem_of_getElem? (i := 85) (by decide +kernel))
theorem fX8_15 : FOK RX8 15 8 1 := ⟨RX8, TX8, 2, rfl, by decide, lfX8_15, wX8⟩
theorem pX8_15 : POK RX8 15 8 1 .int := ⟨RX8, TX8, 2, tyX8, rfl, by decide, lfX8_15, wX8, tyX8_ok, nmX8, rfl, by decide +kernel⟩
theorem lX11_30 : Cond.classLink RX11 30 RX7 ∈ lw_tbl := in1 (List.mem_of_getElem? (i := 91) (by decide +kernel))
theorem nX11_30 : NOK RX11 30 7 6 [.null, .null, .null, .null, .int 0, .int 0] := ⟨RX7, TX7, tyX7, rfl, lX11_30, in1 (List.mem_of_getElem? (i := 92) (by decide +kernel)), in1 (List.mem_of_getElem? (i := 5) (by decide +kernel)), wX7, tyX7_ok, by decide +kernel, fun _ => rfl⟩
theorem kX11_32 : Cond.methodLinkNest RX11 32 yX7_init "LiveryYard" ∈ lw_tbl := in1 (List.mem_of_getElem? (i := 93) (by decide +kernel))
theorem kX7_3 : Cond.methodLink RX7 3 Lib.objectInit ∈ lw_tbl := in1 (List.mem_of_getElem? (i := 96) (by decide +kernel))
theorem lfX7_9 : Cond.fieldLink RX7 9 (TX7 0).1 (TX7 0).2.1 (TX7 0).2.2.1 ∈ lw_tbl := in1 (List.mem_of_getElem? (i := 97) (by decide +kernel))
theorem fX7_9 : FOK RX7 9 7 0 := ⟨RX7, TX7, 6, rfl, by decide, lfX7_9, wX7⟩
theorem qX7_9 : PFOK RX7 9 7 0 (.array .int) := ⟨RX7, TX7, 6, tyX7, rfl, by decide, lfX7_9, wX7, tyX7_ok, nmX7, rfl, rfl, by decide +kernel⟩
theorem lfX7_15 : Cond.fieldLink RX7 15 (TX7 1).1 (TX7 1).2.1 (TX7 1).2.2.1 ∈ lw_tbl := in1 (List.mem_of_getElem? (i := 98) (by decide +kernel))
theorem fX7_15 : FOK RX7 15 7 1 := ⟨RX7, TX7, 6, rfl, by decide, lfX7_15, wX7⟩
theorem qX7_15 : PFOK RX7 15 7 1 (.array .int) := ⟨RX7, TX7, 6, tyX7, rfl, by decide, lfX7_15, wX7, tyX7_ok, nmX7, rfl, rfl, by decide +kernel⟩
theorem lfX7_18 : Cond.fieldLink RX7 18 (TX7 2).1 (TX7 2).2.1 (TX7 2).2.2.1 ∈ lw_tbl := in1 (List.mem_of_getElem? (i := 99) (by decide +kernel))
theorem fX7_18 : FOK RX7 18 7 2 := ⟨RX7, TX7, 6, rfl, by decide, lfX7_18, wX7⟩
theorem qX7_18 : PFOK RX7 18 7 2 (.array .boolean) := ⟨RX7, TX7, 6, tyX7, rfl, by decide, lfX7_18, wX7, tyX7_ok, nmX7, rfl, rfl, by decide +kernel⟩
theorem lfX7_22 : Cond.fieldLink RX7 22 (TX7 3).1 (TX7 3).2.1 (TX7 3).2.2.1 ∈ lw_tbl := in1 (List.mem_of_getElem? (i := 100) (by decide +kernel))
theorem fX7_22 : FOK RX7 22 7 3 := ⟨RX7, TX7, 6, rfl, by decide, lfX7_22, wX7⟩
theorem qX7_22 : PFOK RX7 22 7 3 (.array .int) := ⟨RX7, TX7, 6, tyX7, rfl, by decide, lfX7_22, wX7, tyX7_ok, nmX7, rfl, rfl, by decide +kernel⟩
theorem lfX7_29 : Cond.fieldLink RX7 29 (TX7 4).1 (TX7 4).2.1 (TX7 4).2.2.1 ∈ lw_tbl := in1 (List.mem_of_getElem? (i := 101) (by decide +kernel))
theorem fX7_29 : FOK RX7 29 7 4 := ⟨RX7, TX7, 6, rfl, by decide, lfX7_29, wX7⟩
theorem pX7_29 : POK RX7 29 7 4 .int := ⟨RX7, TX7, 6, tyX7, rfl, by decide, lfX7_29, wX7, tyX7_ok, nmX7, rfl, by decide +kernel⟩
theorem lfX7_25 : Cond.fieldLink RX7 25 (TX7 5).1 (TX7 5).2.1 (TX7 5).2.2.1 ∈ lw_tbl := in1 (List.mem_of_getElem? (i := 102) (by decide +kernel))
theorem fX7_25 : FOK RX7 25 7 5 := ⟨RX7, TX7, 6, rfl, by decide, lfX7_25, wX7⟩
theorem pX7_25 : POK RX7 25 7 5 .int := ⟨RX7, TX7, 6, tyX7, rfl, by decide, lfX7_25, wX7, tyX7_ok, nmX7, rfl, by decide +kernel⟩
theorem lX11_40 : Cond.classLink RX11 40 RX5 ∈ lw_tbl := in1 (List.mem_of_getElem? (i := 116) (by decide +kernel))
theorem nX11_40 : NOK RX11 40 5 6 [.null, .null, .int 0, .int 0, .int 0, .int 0] := ⟨RX5, TX5, tyX5, rfl, lX11_40, in1 (List.mem_of_getElem? (i := 117) (by decide +kernel)), in1 (List.mem_of_getElem? (i := 6) (by decide +kernel)), wX5, tyX5_ok, by decide +kernel, fun _ => rfl⟩
theorem lX11_42 : Cond.classLink RX11 42 RX9 ∈ lw_tbl := in1 (List.mem_of_getElem? (i := 118) (by decide +kernel))
theorem nX11_42 : NOK RX11 42 9 5 [.null, .int 0, .int 0, .int 0, .int 0] := ⟨RX9, TX9, tyX9, rfl, lX11_42, in1 (List.mem_of_getElem? (i := 119) (by decide +kernel)), in1 (List.mem_of_getElem? (i := 7) (by decide +kernel)), wX9, tyX9_ok, by decide +kernel, fun _ => rfl⟩
theorem kX11_44 : Cond.methodLink RX11 44 yX9_init ∈ lw_tbl := in1 (List.mem_of_getElem? (i := 120) (by decide +kernel))
theorem kX9_3 : Cond.methodLink RX9 3 Lib.objectInit ∈ lw_tbl := in1 (List.mem_of_getElem? (i := 123) (by decide +kernel))
theorem lfX9_9 : Cond.fieldLink RX9 9 (TX9 0).1 (TX9 0).2.1 (TX9 0).2.2.1 ∈ lw_tbl := in1 (List.mem_of_getElem? (i := 124) (by decide +kernel))
theorem fX9_9 : FOK RX9 9 9 0 := ⟨RX9, TX9, 5, rfl, by decide, lfX9_9, wX9⟩
theorem qX9_9 : PFOK RX9 9 9 0 (.object "LiveryYard$Tape") := ⟨RX9, TX9, 5, tyX9, rfl, by decide, lfX9_9, wX9, tyX9_ok, nmX9, rfl, rfl, by decide +kernel⟩
theorem lfX9_25 : Cond.fieldLink RX9 25 (TX9 1).1 (TX9 1).2.1 (TX9 1).2.2.1 ∈ lw_tbl := in1 (List.mem_of_getElem? (i := 125) (by decide +kernel))
theorem fX9_25 : FOK RX9 25 9 1 := ⟨RX9, TX9, 5, rfl, by decide, lfX9_25, wX9⟩
theorem pX9_25 : POK RX9 25 9 1 .int := ⟨RX9, TX9, 5, tyX9, rfl, by decide, lfX9_25, wX9, tyX9_ok, nmX9, rfl, by decide +kernel⟩
theorem lfX9_15 : Cond.fieldLink RX9 15 (TX9 2).1 (TX9 2).2.1 (TX9 2).2.2.1 ∈ lw_tbl := in1 (List.mem_of_getElem? (i := 126) (by decide +kernel))
theorem fX9_15 : FOK RX9 15 9 2 := ⟨RX9, TX9, 5, rfl, by decide, lfX9_15, wX9⟩
theorem pX9_15 : POK RX9 15 9 2 .int := ⟨RX9, TX9, 5, tyX9, rfl, by decide, lfX9_15, wX9, tyX9_ok, nmX9, rfl, by decide +kernel⟩
theorem lfX9_19 : Cond.fieldLink RX9 19 (TX9 3).1 (TX9 3).2.1 (TX9 3).2.2.1 ∈ lw_tbl := in1 (List.mem_of_getElem? (i := 127) (by decide +kernel))
theorem fX9_19 : FOK RX9 19 9 3 := ⟨RX9, TX9, 5, rfl, by decide, lfX9_19, wX9⟩
theorem pX9_19 : POK RX9 19 9 3 .int := ⟨RX9, TX9, 5, tyX9, rfl, by decide, lfX9_19, wX9, tyX9_ok, nmX9, rfl, by decide +kernel⟩
theorem lfX9_22 : Cond.fieldLink RX9 22 (TX9 4).1 (TX9 4).2.1 (TX9 4).2.2.1 ∈ lw_tbl := in1 (List.mem_of_getElem? (i := 128) (by decide +kernel))
theorem fX9_22 : FOK RX9 22 9 4 := ⟨RX9, TX9, 5, rfl, by decide, lfX9_22, wX9⟩
theorem pX9_22 : POK RX9 22 9 4 .int := ⟨RX9, TX9, 5, tyX9, rfl, by decide, lfX9_22, wX9, tyX9_ok, nmX9, rfl, by decide +kernel⟩
theorem kX11_47 : Cond.methodLink RX11 47 yX5_init ∈ lw_tbl := in1 (List.mem_of_getElem? (i := 140) (by decide +kernel))
theorem kX5_3 : Cond.methodLink RX5 3 Lib.objectInit ∈ lw_tbl := in1 (List.mem_of_getElem? (i := 143) (by decide +kernel))
theorem lfX5_9 : Cond.fieldLink RX5 9 (TX5 0).1 (TX5 0).2.1 (TX5 0).2.2.1 ∈ lw_tbl := in1 (List.mem_of_getElem? (i := 144) (by decide +kernel))
theorem fX5_9 : FOK RX5 9 5 0 := ⟨RX5, TX5, 6, rfl, by decide, lfX5_9, wX5⟩
theorem qX5_9 : PFOK RX5 9 5 0 (.object "LiveryYard$Tokens") := ⟨RX5, TX5, 6, tyX5, rfl, by decide, lfX5_9, wX5, tyX5_ok, nmX5, rfl, rfl, by decide +kernel⟩
theorem lfX5_15 : Cond.fieldLink RX5 15 (TX5 1).1 (TX5 1).2.1 (TX5 1).2.2.1 ∈ lw_tbl := in1 (List.mem_of_getElem? (i := 145) (by decide +kernel))
theorem fX5_15 : FOK RX5 15 5 1 := ⟨RX5, TX5, 6, rfl, by decide, lfX5_15, wX5⟩
theorem qX5_15 : PFOK RX5 15 5 1 (.object "LiveryYard$Rules") := ⟨RX5, TX5, 6, tyX5, rfl, by decide, lfX5_15, wX5, tyX5_ok, nmX5, rfl, rfl, by decide +kernel⟩
theorem lfX5_26 : Cond.fieldLink RX5 26 (TX5 2).1 (TX5 2).2.1 (TX5 2).2.2.1 ∈ lw_tbl := in1 (List.mem_of_getElem? (i := 146) (by decide +kernel))
theorem fX5_26 : FOK RX5 26 5 2 := ⟨RX5, TX5, 6, rfl, by decide, lfX5_26, wX5⟩
theorem pX5_26 : POK RX5 26 5 2 .int := ⟨RX5, TX5, 6, tyX5, rfl, by decide, lfX5_26, wX5, tyX5_ok, nmX5, rfl, by decide +kernel⟩
theorem lfX5_47 : Cond.fieldLink RX5 47 (TX5 3).1 (TX5 3).2.1 (TX5 3).2.2.1 ∈ lw_tbl := in1 (List.mem_of_getElem? (i := 147) (by decide +kernel))
theorem fX5_47 : FOK RX5 47 5 3 := ⟨RX5, TX5, 6, rfl, by decide, lfX5_47, wX5⟩
theorem pX5_47 : POK RX5 47 5 3 .boolean := ⟨RX5, TX5, 6, tyX5, rfl, by decide, lfX5_47, wX5, tyX5_ok, nmX5, rfl, by decide +kernel⟩
theorem lfX5_23 : Cond.fieldLink RX5 23 (TX5 4).1 (TX5 4).2.1 (TX5 4).2.2.1 ∈ lw_tbl := in1 (List.mem_of_getElem? (i := 148) (by decide +kernel))
theorem fX5_23 : FOK RX5 23 5 4 := ⟨RX5, TX5, 6, rfl, by decide, lfX5_23, wX5⟩
theorem pX5_23 : POK RX5 23 5 4 .int := ⟨RX5, TX5, 6, tyX5, rfl, by decide, lfX5_23, wX5, tyX5_ok, nmX5, rfl, by decide +kernel⟩
theorem lfX5_19 : Cond.fieldLink RX5 19 (TX5 5).1 (TX5 5).2.1 (TX5 5).2.2.1 ∈ lw_tbl := in1 (List.mem_of_getElem? (i := 149) (by decide +kernel))
theorem fX5_19 : FOK RX5 19 5 5 := ⟨RX5, TX5, 6, rfl, by decide, lfX5_19, wX5⟩
theorem pX5_19 : POK RX5 19 5 5 .int := ⟨RX5, TX5, 6, tyX5, rfl, by decide, lfX5_19, wX5, tyX5_ok, nmX5, rfl, by decide +kernel⟩
theorem lX11_54 : Cond.classLink RX11 54 RX2 ∈ lw_tbl := in1 (List.mem_of_getElem? (i := 163) (by decide +kernel))
theorem nX11_54 : NOK RX11 54 2 4 [.null, .null, .null, .null] := ⟨RX2, TX2, tyX2, rfl, lX11_54, in1 (List.mem_of_getElem? (i := 164) (by decide +kernel)), in1 (List.mem_of_getElem? (i := 8) (by decide +kernel)), wX2, tyX2_ok, by decide +kernel, fun _ => rfl⟩
theorem kX11_56 : Cond.methodLink RX11 56 yX2_init ∈ lw_tbl := in1 (List.mem_of_getElem? (i := 165) (by decide +kernel))
theorem kX2_3 : Cond.methodLink RX2 3 Lib.objectInit ∈ lw_tbl := in1 (List.mem_of_getElem? (i := 168) (by decide +kernel))
theorem lfX2_15 : Cond.fieldLink RX2 15 (TX2 0).1 (TX2 0).2.1 (TX2 0).2.2.1 ∈ lw_tbl := in1 (List.mem_of_getElem? (i := 169) (by decide +kernel))
theorem fX2_15 : FOK RX2 15 2 0 := ⟨RX2, TX2, 4, rfl, by decide, lfX2_15, wX2⟩
theorem qX2_15 : PFOK RX2 15 2 0 (.object "LiveryYard$Herd") := ⟨RX2, TX2, 4, tyX2, rfl, by decide, lfX2_15, wX2, tyX2_ok, nmX2, rfl, rfl, by decide +kernel⟩
theorem lfX2_19 : Cond.fieldLink RX2 19 (TX2 1).1 (TX2 1).2.1 (TX2 1).2.2.1 ∈ lw_tbl := in1 (List.mem_of_getElem? (i := 170) (by decide +kernel))
theorem fX2_19 : FOK RX2 19 2 1 := ⟨RX2, TX2, 4, rfl, by decide, lfX2_19, wX2⟩
theorem qX2_19 : PFOK RX2 19 2 1 (.object "LiveryYard$Land") := ⟨RX2, TX2, 4, tyX2, rfl, by decide, lfX2_19, wX2, tyX2_ok, nmX2, rfl, rfl, by decide +kernel⟩
theorem lfX2_23 : Cond.fieldLink RX2 23 (TX2 2).1 (TX2 2).2.1 (TX2 2).2.2.1 ∈ lw_tbl := in1 (List.mem_of_getElem? (i := 171) (by decide +kernel))
theorem fX2_23 : FOK RX2 23 2 2 := ⟨RX2, TX2, 4, rfl, by decide, lfX2_23, wX2⟩
theorem qX2_23 : PFOK RX2 23 2 2 (.object "LiveryYard$Rules") := ⟨RX2, TX2, 4, tyX2, rfl, by decide, lfX2_23, wX2, tyX2_ok, nmX2, rfl, rfl, by decide +kernel⟩
theorem lfX2_9 : Cond.fieldLink RX2 9 (TX2 3).1 (TX2 3).2.1 (TX2 3).2.2.1 ∈ lw_tbl := in1 (List.mem_of_getElem? (i := 172) (by decide +kernel))
theorem fX2_9 : FOK RX2 9 2 3 := ⟨RX2, TX2, 4, rfl, by decide, lfX2_9, wX2⟩
theorem qX2_9 : PFOK RX2 9 2 3 (.array .int) := ⟨RX2, TX2, 4, tyX2, rfl, by decide, lfX2_9, wX2, tyX2_ok, nmX2, rfl, rfl, by decide +kernel⟩
theorem lX11_63 : Cond.classLink RX11 63 RX6 ∈ lw_tbl := in1 (List.mem_of_getElem? (i := 182) (by decide +kernel))
theorem nX11_63 : NOK RX11 63 6 9 [.null, .null, .null, .null, .null, .null, .int 0, .int 0, .int 0] := ⟨RX6, TX6, tyX6, rfl, lX11_63, in1 (List.mem_of_getElem? (i := 183) (by decide +kernel)), in1 (List.mem_of_getElem? (i := 9) (by decide +kernel)), wX6, tyX6_ok, by decide +kernel, fun _ => rfl⟩
theorem kX11_65 : Cond.methodLink RX11 65 yX6_init ∈ lw_tbl := in1 (List.mem_of_getElem? (i := 184) (by decide +kernel))
theorem kX6_3 : Cond.methodLink RX6 3 Lib.objectInit ∈ lw_tbl := in1 (List.mem_of_getElem? (i := 187) (by decide +kernel))
theorem lfX6_21 : Cond.fieldLink RX6 21 (TX6 0).1 (TX6 0).2.1 (TX6 0).2.2.1 ∈ lw_tbl := in1 (List.mem_of_getElem? (i := 188) (by decide +kernel))
theorem fX6_21 : FOK RX6 21 6 0 := ⟨RX6, TX6, 9, rfl, by decide, lfX6_21, wX6⟩
theorem qX6_21 : PFOK RX6 21 6 0 (.object "LiveryYard$Herd") := ⟨RX6, TX6, 9, tyX6, rfl, by decide, lfX6_21, wX6, tyX6_ok, nmX6, rfl, rfl, by decide +kernel⟩
theorem lfX6_25 : Cond.fieldLink RX6 25 (TX6 1).1 (TX6 1).2.1 (TX6 1).2.2.1 ∈ lw_tbl := in1 (List.mem_of_getElem? (i := 189) (by decide +kernel))
theorem fX6_25 : FOK RX6 25 6 1 := ⟨RX6, TX6, 9, rfl, by decide, lfX6_25, wX6⟩
theorem qX6_25 : PFOK RX6 25 6 1 (.object "LiveryYard$Land") := ⟨RX6, TX6, 9, tyX6, rfl, by decide, lfX6_25, wX6, tyX6_ok, nmX6, rfl, rfl, by decide +kernel⟩
theorem lfX6_29 : Cond.fieldLink RX6 29 (TX6 2).1 (TX6 2).2.1 (TX6 2).2.2.1 ∈ lw_tbl := in1 (List.mem_of_getElem? (i := 190) (by decide +kernel))
theorem fX6_29 : FOK RX6 29 6 2 := ⟨RX6, TX6, 9, rfl, by decide, lfX6_29, wX6⟩
theorem qX6_29 : PFOK RX6 29 6 2 (.object "LiveryYard$Judge") := ⟨RX6, TX6, 9, tyX6, rfl, by decide, lfX6_29, wX6, tyX6_ok, nmX6, rfl, rfl, by decide +kernel⟩
theorem lfX6_9 : Cond.fieldLink RX6 9 (TX6 3).1 (TX6 3).2.1 (TX6 3).2.2.1 ∈ lw_tbl := in1 (List.mem_of_getElem? (i := 191) (by decide +kernel))
theorem fX6_9 : FOK RX6 9 6 3 := ⟨RX6, TX6, 9, rfl, by decide, lfX6_9, wX6⟩
theorem qX6_9 : PFOK RX6 9 6 3 (.array .int) := ⟨RX6, TX6, 9, tyX6, rfl, by decide, lfX6_9, wX6, tyX6_ok, nmX6, rfl, rfl, by decide +kernel⟩
theorem lfX6_15 : Cond.fieldLink RX6 15 (TX6 4).1 (TX6 4).2.1 (TX6 4).2.2.1 ∈ lw_tbl := in1 (List.mem_of_getElem? (i := 192) (by decide +kernel))
theorem fX6_15 : FOK RX6 15 6 4 := ⟨RX6, TX6, 9, rfl, by decide, lfX6_15, wX6⟩
theorem qX6_15 : PFOK RX6 15 6 4 (.array .int) := ⟨RX6, TX6, 9, tyX6, rfl, by decide, lfX6_15, wX6, tyX6_ok, nmX6, rfl, rfl, by decide +kernel⟩
theorem lfX6_18 : Cond.fieldLink RX6 18 (TX6 5).1 (TX6 5).2.1 (TX6 5).2.2.1 ∈ lw_tbl := in1 (List.mem_of_getElem? (i := 193) (by decide +kernel))
theorem fX6_18 : FOK RX6 18 6 5 := ⟨RX6, TX6, 9, rfl, by decide, lfX6_18, wX6⟩
theorem qX6_18 : PFOK RX6 18 6 5 (.array .int) := ⟨RX6, TX6, 9, tyX6, rfl, by decide, lfX6_18, wX6, tyX6_ok, nmX6, rfl, rfl, by decide +kernel⟩
theorem lfX6_41 : Cond.fieldLink RX6 41 (TX6 6).1 (TX6 6).2.1 (TX6 6).2.2.1 ∈ lw_tbl := in1 (List.mem_of_getElem? (i := 194) (by decide +kernel))
theorem fX6_41 : FOK RX6 41 6 6 := ⟨RX6, TX6, 9, rfl, by decide, lfX6_41, wX6⟩
theorem pX6_41 : POK RX6 41 6 6 .int := ⟨RX6, TX6, 9, tyX6, rfl, by decide, lfX6_41, wX6, tyX6_ok, nmX6, rfl, by decide +kernel⟩
theorem lfX6_33 : Cond.fieldLink RX6 33 (TX6 7).1 (TX6 7).2.1 (TX6 7).2.2.1 ∈ lw_tbl := in1 (List.mem_of_getElem? (i := 195) (by decide +kernel))
theorem fX6_33 : FOK RX6 33 6 7 := ⟨RX6, TX6, 9, rfl, by decide, lfX6_33, wX6⟩
theorem pX6_33 : POK RX6 33 6 7 .int := ⟨RX6, TX6, 9, tyX6, rfl, by decide, lfX6_33, wX6, tyX6_ok, nmX6, rfl, by decide +kernel⟩
theorem lfX6_37 : Cond.fieldLink RX6 37 (TX6 8).1 (TX6 8).2.1 (TX6 8).2.2.1 ∈ lw_tbl := in1 (List.mem_of_getElem? (i := 196) (by decide +kernel))
theorem fX6_37 : FOK RX6 37 6 8 := ⟨RX6, TX6, 9, rfl, by decide, lfX6_37, wX6⟩
theorem pX6_37 : POK RX6 37 6 8 .boolean := ⟨RX6, TX6, 9, tyX6, rfl, by decide, lfX6_37, wX6, tyX6_ok, nmX6, rfl, by decide +kernel⟩
theorem lX11_72 : Cond.classLink RX11 72 RX0 ∈ lw_tbl := in1 (List.mem_of_getElem? (i := 216) (by decide +kernel))
theorem nX11_72 : NOK RX11 72 0 5 [.null, .null, .null, .int 0, .int 0] := ⟨RX0, TX0, tyX0, rfl, lX11_72, in1 (List.mem_of_getElem? (i := 218) (by decide +kernel)), in1 (List.mem_of_getElem? (i := 10) (by decide +kernel)), wX0, tyX0_ok, by decide +kernel, fun _ => rfl⟩
theorem kX11_78 : Cond.methodLinkNest RX11 78 yX0_init "LiveryYard" ∈ lw_tbl := in1 (List.mem_of_getElem? (i := 219) (by decide +kernel))
theorem kX0_3 : Cond.methodLink RX0 3 Lib.objectInit ∈ lw_tbl := in1 (List.mem_of_getElem? (i := 222) (by decide +kernel))
theorem lfX0_9 : Cond.fieldLink RX0 9 (TX0 0).1 (TX0 0).2.1 (TX0 0).2.2.1 ∈ lw_tbl := in1 (List.mem_of_getElem? (i := 223) (by decide +kernel))
theorem fX0_9 : FOK RX0 9 0 0 := ⟨RX0, TX0, 5, rfl, by decide, lfX0_9, wX0⟩
theorem qX0_9 : PFOK RX0 9 0 0 (.array .int) := ⟨RX0, TX0, 5, tyX0, rfl, by decide, lfX0_9, wX0, tyX0_ok, nmX0, rfl, rfl, by decide +kernel⟩
theorem lfX0_15 : Cond.fieldLink RX0 15 (TX0 1).1 (TX0 1).2.1 (TX0 1).2.2.1 ∈ lw_tbl := in1 (List.mem_of_getElem? (i := 224) (by decide +kernel))
theorem fX0_15 : FOK RX0 15 0 1 := ⟨RX0, TX0, 5, rfl, by decide, lfX0_15, wX0⟩
theorem qX0_15 : PFOK RX0 15 0 1 (.array .int) := ⟨RX0, TX0, 5, tyX0, rfl, by decide, lfX0_15, wX0, tyX0_ok, nmX0, rfl, rfl, by decide +kernel⟩
theorem lfX0_18 : Cond.fieldLink RX0 18 (TX0 2).1 (TX0 2).2.1 (TX0 2).2.2.1 ∈ lw_tbl := in1 (List.mem_of_getElem? (i := 225) (by decide +kernel))
theorem fX0_18 : FOK RX0 18 0 2 := ⟨RX0, TX0, 5, rfl, by decide, lfX0_18, wX0⟩
theorem qX0_18 : PFOK RX0 18 0 2 (.array .int) := ⟨RX0, TX0, 5, tyX0, rfl, by decide, lfX0_18, wX0, tyX0_ok, nmX0, rfl, rfl, by decide +kernel⟩
theorem lfX0_21 : Cond.fieldLink RX0 21 (TX0 3).1 (TX0 3).2.1 (TX0 3).2.2.1 ∈ lw_tbl := in1 (List.mem_of_getElem? (i := 226) (by decide +kernel))
theorem fX0_21 : FOK RX0 21 0 3 := ⟨RX0, TX0, 5, rfl, by decide, lfX0_21, wX0⟩
theorem pX0_21 : POK RX0 21 0 3 .int := ⟨RX0, TX0, 5, tyX0, rfl, by decide, lfX0_21, wX0, tyX0_ok, nmX0, rfl, by decide +kernel⟩
theorem lfX0_25 : Cond.fieldLink RX0 25 (TX0 4).1 (TX0 4).2.1 (TX0 4).2.2.1 ∈ lw_tbl := in1 (List.mem_of_getElem? (i := 227) (by decide +kernel))
theorem fX0_25 : FOK RX0 25 0 4 := ⟨RX0, TX0, 5, rfl, by decide, lfX0_25, wX0⟩
theorem pX0_25 : POK RX0 25 0 4 .int := ⟨RX0, TX0, 5, tyX0, rfl, by decide, lfX0_25, wX0, tyX0_ok, nmX0, rfl, by decide +kernel⟩
theorem lX11_83 : Cond.classLink RX11 83 RX4 ∈ lw_tbl := in1 (List.mem_of_getElem? (i := 239) (by decide +kernel))
theorem nX11_83 : NOK RX11 83 4 4 [.null, .null, .null, .int 0] := ⟨RX4, TX4, tyX4, rfl, lX11_83, in2 (List.mem_of_getElem? (i := 0) (by decide +kernel)), in1 (List.mem_of_getElem? (i := 11) (by decide +kernel)), wX4, tyX4_ok, by decide +kernel, fun _ => rfl⟩
theorem kX11_85 : Cond.methodLinkNest RX11 85 yX4_init "LiveryYard" ∈ lw_tbl := in2 (List.mem_of_getElem? (i := 1) (by decide +kernel))
theorem kX4_3 : Cond.methodLink RX4 3 Lib.objectInit ∈ lw_tbl := in2 (List.mem_of_getElem? (i := 4) (by decide +kernel))
theorem lfX4_9 : Cond.fieldLink RX4 9 (TX4 0).1 (TX4 0).2.1 (TX4 0).2.2.1 ∈ lw_tbl := in2 (List.mem_of_getElem? (i := 5) (by decide +kernel))
theorem fX4_9 : FOK RX4 9 4 0 := ⟨RX4, TX4, 4, rfl, by decide, lfX4_9, wX4⟩
theorem qX4_9 : PFOK RX4 9 4 0 (.array .int) := ⟨RX4, TX4, 4, tyX4, rfl, by decide, lfX4_9, wX4, tyX4_ok, nmX4, rfl, rfl, by decide +kernel⟩
theorem lfX4_15 : Cond.fieldLink RX4 15 (TX4 1).1 (TX4 1).2.1 (TX4 1).2.2.1 ∈ lw_tbl := in2 (List.mem_of_getElem? (i := 6) (by decide +kernel))
theorem fX4_15 : FOK RX4 15 4 1 := ⟨RX4, TX4, 4, rfl, by decide, lfX4_15, wX4⟩
theorem qX4_15 : PFOK RX4 15 4 1 (.array .int) := ⟨RX4, TX4, 4, tyX4, rfl, by decide, lfX4_15, wX4, tyX4_ok, nmX4, rfl, rfl, by decide +kernel⟩
theorem lfX4_18 : Cond.fieldLink RX4 18 (TX4 2).1 (TX4 2).2.1 (TX4 2).2.2.1 ∈ lw_tbl := in2 (List.mem_of_getElem? (i := 7) (by decide +kernel))
theorem fX4_18 : FOK RX4 18 4 2 := ⟨RX4, TX4, 4, rfl, by decide, lfX4_18, wX4⟩
theorem qX4_18 : PFOK RX4 18 4 2 (.array .int) := ⟨RX4, TX4, 4, tyX4, rfl, by decide, lfX4_18, wX4, tyX4_ok, nmX4, rfl, rfl, by decide +kernel⟩
theorem lfX4_21 : Cond.fieldLink RX4 21 (TX4 3).1 (TX4 3).2.1 (TX4 3).2.2.1 ∈ lw_tbl := in2 (List.mem_of_getElem? (i := 8) (by decide +kernel))
theorem fX4_21 : FOK RX4 21 4 3 := ⟨RX4, TX4, 4, rfl, by decide, lfX4_21, wX4⟩
theorem pX4_21 : POK RX4 21 4 3 .int := ⟨RX4, TX4, 4, tyX4, rfl, by decide, lfX4_21, wX4, tyX4_ok, nmX4, rfl, by decide +kernel⟩
theorem lX11_90 : Cond.classLink RX11 90 RX10 ∈ lw_tbl := in2 (List.mem_of_getElem? (i := 18) (by decide +kernel))
theorem nX11_90 : NOK RX11 90 10 7 [.null, .null, .null, .null, .null, .null, .int 0] := ⟨RX10, TX10, tyX10, rfl, lX11_90, in2 (List.mem_of_getElem? (i := 19) (by decide +kernel)), in1 (List.mem_of_getElem? (i := 12) (by decide +kernel)), wX10, tyX10_ok, by decide +kernel, fun _ => rfl⟩
theorem kX11_92 : Cond.methodLinkNest RX11 92 yX10_init "LiveryYard" ∈ lw_tbl := in2 (List.mem_of_getElem? (i := 20) (by decide +kernel))
theorem kX10_3 : Cond.methodLink RX10 3 Lib.objectInit ∈ lw_tbl := in2 (List.mem_of_getElem? (i := 23) (by decide +kernel))
theorem lfX10_9 : Cond.fieldLink RX10 9 (TX10 0).1 (TX10 0).2.1 (TX10 0).2.2.1 ∈ lw_tbl := in2 (List.mem_of_getElem? (i := 24) (by decide +kernel))
theorem fX10_9 : FOK RX10 9 10 0 := ⟨RX10, TX10, 7, rfl, by decide, lfX10_9, wX10⟩
theorem qX10_9 : PFOK RX10 9 10 0 (.array .int) := ⟨RX10, TX10, 7, tyX10, rfl, by decide, lfX10_9, wX10, tyX10_ok, nmX10, rfl, rfl, by decide +kernel⟩
theorem lfX10_15 : Cond.fieldLink RX10 15 (TX10 1).1 (TX10 1).2.1 (TX10 1).2.2.1 ∈ lw_tbl := in2 (List.mem_of_getElem? (i := 25) (by decide +kernel))
theorem fX10_15 : FOK RX10 15 10 1 := ⟨RX10, TX10, 7, rfl, by decide, lfX10_15, wX10⟩
theorem qX10_15 : PFOK RX10 15 10 1 (.array .int) := ⟨RX10, TX10, 7, tyX10, rfl, by decide, lfX10_15, wX10, tyX10_ok, nmX10, rfl, rfl, by decide +kernel⟩
theorem lfX10_18 : Cond.fieldLink RX10 18 (TX10 2).1 (TX10 2).2.1 (TX10 2).2.2.1 ∈ lw_tbl := in2 (List.mem_of_getElem? (i := 26) (by decide +kernel))
theorem fX10_18 : FOK RX10 18 10 2 := ⟨RX10, TX10, 7, rfl, by decide, lfX10_18, wX10⟩
theorem qX10_18 : PFOK RX10 18 10 2 (.array .int) := ⟨RX10, TX10, 7, tyX10, rfl, by decide, lfX10_18, wX10, tyX10_ok, nmX10, rfl, rfl, by decide +kernel⟩
theorem lfX10_21 : Cond.fieldLink RX10 21 (TX10 3).1 (TX10 3).2.1 (TX10 3).2.2.1 ∈ lw_tbl := in2 (List.mem_of_getElem? (i := 27) (by decide +kernel))
theorem fX10_21 : FOK RX10 21 10 3 := ⟨RX10, TX10, 7, rfl, by decide, lfX10_21, wX10⟩
theorem qX10_21 : PFOK RX10 21 10 3 (.array .int) := ⟨RX10, TX10, 7, tyX10, rfl, by decide, lfX10_21, wX10, tyX10_ok, nmX10, rfl, rfl, by decide +kernel⟩
theorem lfX10_24 : Cond.fieldLink RX10 24 (TX10 4).1 (TX10 4).2.1 (TX10 4).2.2.1 ∈ lw_tbl := in2 (List.mem_of_getElem? (i := 28) (by decide +kernel))
theorem fX10_24 : FOK RX10 24 10 4 := ⟨RX10, TX10, 7, rfl, by decide, lfX10_24, wX10⟩
theorem qX10_24 : PFOK RX10 24 10 4 (.array .int) := ⟨RX10, TX10, 7, tyX10, rfl, by decide, lfX10_24, wX10, tyX10_ok, nmX10, rfl, rfl, by decide +kernel⟩
theorem lfX10_27 : Cond.fieldLink RX10 27 (TX10 5).1 (TX10 5).2.1 (TX10 5).2.2.1 ∈ lw_tbl := in2 (List.mem_of_getElem? (i := 29) (by decide +kernel))
theorem fX10_27 : FOK RX10 27 10 5 := ⟨RX10, TX10, 7, rfl, by decide, lfX10_27, wX10⟩
theorem qX10_27 : PFOK RX10 27 10 5 (.array .int) := ⟨RX10, TX10, 7, tyX10, rfl, by decide, lfX10_27, wX10, tyX10_ok, nmX10, rfl, rfl, by decide +kernel⟩
theorem lfX10_30 : Cond.fieldLink RX10 30 (TX10 6).1 (TX10 6).2.1 (TX10 6).2.2.1 ∈ lw_tbl := in2 (List.mem_of_getElem? (i := 30) (by decide +kernel))
theorem fX10_30 : FOK RX10 30 10 6 := ⟨RX10, TX10, 7, rfl, by decide, lfX10_30, wX10⟩
theorem pX10_30 : POK RX10 30 10 6 .int := ⟨RX10, TX10, 7, tyX10, rfl, by decide, lfX10_30, wX10, tyX10_ok, nmX10, rfl, by decide +kernel⟩
theorem lfX11_12 : Cond.fieldLink RX11 12 (TX11 0).1 (TX11 0).2.1 (TX11 0).2.2.1 ∈ lw_tbl := in2 (List.mem_of_getElem? (i := 46) (by decide +kernel))
theorem fX11_12 : FOK RX11 12 11 0 := ⟨RX11, TX11, 13, rfl, by decide, lfX11_12, wX11⟩
theorem qX11_12 : PFOK RX11 12 11 0 (.object "LiveryYard$Herd") := ⟨RX11, TX11, 13, tyX11, rfl, by decide, lfX11_12, wX11, tyX11_ok, nmX11, rfl, rfl, by decide +kernel⟩
theorem lfX11_19 : Cond.fieldLink RX11 19 (TX11 1).1 (TX11 1).2.1 (TX11 1).2.2.1 ∈ lw_tbl := in2 (List.mem_of_getElem? (i := 47) (by decide +kernel))
theorem fX11_19 : FOK RX11 19 11 1 := ⟨RX11, TX11, 13, rfl, by decide, lfX11_19, wX11⟩
theorem qX11_19 : PFOK RX11 19 11 1 (.object "LiveryYard$Land") := ⟨RX11, TX11, 13, tyX11, rfl, by decide, lfX11_19, wX11, tyX11_ok, nmX11, rfl, rfl, by decide +kernel⟩
theorem lfX11_26 : Cond.fieldLink RX11 26 (TX11 2).1 (TX11 2).2.1 (TX11 2).2.2.1 ∈ lw_tbl := in2 (List.mem_of_getElem? (i := 48) (by decide +kernel))
theorem fX11_26 : FOK RX11 26 11 2 := ⟨RX11, TX11, 13, rfl, by decide, lfX11_26, wX11⟩
theorem qX11_26 : PFOK RX11 26 11 2 (.object "LiveryYard$Tape") := ⟨RX11, TX11, 13, tyX11, rfl, by decide, lfX11_26, wX11, tyX11_ok, nmX11, rfl, rfl, by decide +kernel⟩
theorem lfX11_33 : Cond.fieldLink RX11 33 (TX11 3).1 (TX11 3).2.1 (TX11 3).2.2.1 ∈ lw_tbl := in2 (List.mem_of_getElem? (i := 49) (by decide +kernel))
theorem fX11_33 : FOK RX11 33 11 3 := ⟨RX11, TX11, 13, rfl, by decide, lfX11_33, wX11⟩
theorem qX11_33 : PFOK RX11 33 11 3 (.object "LiveryYard$Rules") := ⟨RX11, TX11, 13, tyX11, rfl, by decide, lfX11_33, wX11, tyX11_ok, nmX11, rfl, rfl, by decide +kernel⟩
theorem lfX11_37 : Cond.fieldLink RX11 37 (TX11 4).1 (TX11 4).2.1 (TX11 4).2.2.1 ∈ lw_tbl := in2 (List.mem_of_getElem? (i := 50) (by decide +kernel))
theorem fX11_37 : FOK RX11 37 11 4 := ⟨RX11, TX11, 13, rfl, by decide, lfX11_37, wX11⟩
theorem qX11_37 : PFOK RX11 37 11 4 (.object "LiveryYard$Rules") := ⟨RX11, TX11, 13, tyX11, rfl, by decide, lfX11_37, wX11, tyX11_ok, nmX11, rfl, rfl, by decide +kernel⟩
theorem lfX11_50 : Cond.fieldLink RX11 50 (TX11 5).1 (TX11 5).2.1 (TX11 5).2.2.1 ∈ lw_tbl := in2 (List.mem_of_getElem? (i := 51) (by decide +kernel))
theorem fX11_50 : FOK RX11 50 11 5 := ⟨RX11, TX11, 13, rfl, by decide, lfX11_50, wX11⟩
theorem qX11_50 : PFOK RX11 50 11 5 (.object "LiveryYard$Parser") := ⟨RX11, TX11, 13, tyX11, rfl, by decide, lfX11_50, wX11, tyX11_ok, nmX11, rfl, rfl, by decide +kernel⟩
theorem lfX11_59 : Cond.fieldLink RX11 59 (TX11 6).1 (TX11 6).2.1 (TX11 6).2.2.1 ∈ lw_tbl := in2 (List.mem_of_getElem? (i := 52) (by decide +kernel))
theorem fX11_59 : FOK RX11 59 11 6 := ⟨RX11, TX11, 13, rfl, by decide, lfX11_59, wX11⟩
theorem qX11_59 : PFOK RX11 59 11 6 (.object "LiveryYard$Judge") := ⟨RX11, TX11, 13, tyX11, rfl, by decide, lfX11_59, wX11, tyX11_ok, nmX11, rfl, rfl, by decide +kernel⟩
theorem lfX11_68 : Cond.fieldLink RX11 68 (TX11 7).1 (TX11 7).2.1 (TX11 7).2.2.1 ∈ lw_tbl := in2 (List.mem_of_getElem? (i := 53) (by decide +kernel))
theorem fX11_68 : FOK RX11 68 11 7 := ⟨RX11, TX11, 13, rfl, by decide, lfX11_68, wX11⟩
theorem qX11_68 : PFOK RX11 68 11 7 (.object "LiveryYard$Planner") := ⟨RX11, TX11, 13, tyX11, rfl, by decide, lfX11_68, wX11, tyX11_ok, nmX11, rfl, rfl, by decide +kernel⟩
theorem lfX11_74 : Cond.fieldLink RX11 74 (TX11 8).1 (TX11 8).2.1 (TX11 8).2.2.1 ∈ lw_tbl := in2 (List.mem_of_getElem? (i := 54) (by decide +kernel))
theorem fX11_74 : FOK RX11 74 11 8 := ⟨RX11, TX11, 13, rfl, by decide, lfX11_74, wX11⟩
theorem qX11_74 : PFOK RX11 74 11 8 (.array (.object "LiveryYard$Bin")) := ⟨RX11, TX11, 13, tyX11, rfl, by decide, lfX11_74, wX11, tyX11_ok, nmX11, rfl, rfl, by decide +kernel⟩
theorem lfX11_79 : Cond.fieldLink RX11 79 (TX11 9).1 (TX11 9).2.1 (TX11 9).2.2.1 ∈ lw_tbl := in2 (List.mem_of_getElem? (i := 55) (by decide +kernel))
theorem fX11_79 : FOK RX11 79 11 9 := ⟨RX11, TX11, 13, rfl, by decide, lfX11_79, wX11⟩
theorem qX11_79 : PFOK RX11 79 11 9 (.array .int) := ⟨RX11, TX11, 13, tyX11, rfl, by decide, lfX11_79, wX11, tyX11_ok, nmX11, rfl, rfl, by decide +kernel⟩
theorem lfX11_86 : Cond.fieldLink RX11 86 (TX11 10).1 (TX11 10).2.1 (TX11 10).2.2.1 ∈ lw_tbl := in2 (List.mem_of_getElem? (i := 56) (by decide +kernel))
theorem fX11_86 : FOK RX11 86 11 10 := ⟨RX11, TX11, 13, rfl, by decide, lfX11_86, wX11⟩
theorem qX11_86 : PFOK RX11 86 11 10 (.object "LiveryYard$Nights") := ⟨RX11, TX11, 13, tyX11, rfl, by decide, lfX11_86, wX11, tyX11_ok, nmX11, rfl, rfl, by decide +kernel⟩
theorem lfX11_93 : Cond.fieldLink RX11 93 (TX11 11).1 (TX11 11).2.1 (TX11 11).2.2.1 ∈ lw_tbl := in2 (List.mem_of_getElem? (i := 57) (by decide +kernel))
theorem fX11_93 : FOK RX11 93 11 11 := ⟨RX11, TX11, 13, rfl, by decide, lfX11_93, wX11⟩
theorem qX11_93 : PFOK RX11 93 11 11 (.object "LiveryYard$Works") := ⟨RX11, TX11, 13, tyX11, rfl, by decide, lfX11_93, wX11, tyX11_ok, nmX11, rfl, rfl, by decide +kernel⟩
theorem lfX11_97 : Cond.fieldLink RX11 97 (TX11 12).1 (TX11 12).2.1 (TX11 12).2.2.1 ∈ lw_tbl := in2 (List.mem_of_getElem? (i := 58) (by decide +kernel))
theorem fX11_97 : FOK RX11 97 11 12 := ⟨RX11, TX11, 13, rfl, by decide, lfX11_97, wX11⟩
theorem pX11_97 : POK RX11 97 11 12 .int := ⟨RX11, TX11, 13, tyX11, rfl, by decide, lfX11_97, wX11, tyX11_ok, nmX11, rfl, by decide +kernel⟩
theorem kL_13 : Cond.methodLink RL 13 yX11_horse ∈ lw_tbl := in2 (List.mem_of_getElem? (i := 86) (by decide +kernel))
theorem kX11_101 : Cond.methodLink RX11 101 yX11_isUpTo ∈ lw_tbl := in2 (List.mem_of_getElem? (i := 90) (by decide +kernel))
theorem kX11_105 : Cond.methodLink RX11 105 yX1_count ∈ lw_tbl := in2 (List.mem_of_getElem? (i := 93) (by decide +kernel))
theorem kX11_109 : Cond.methodLink RX11 109 yX6_forget ∈ lw_tbl := in2 (List.mem_of_getElem? (i := 97) (by decide +kernel))
theorem kX11_112 : Cond.methodLink RX11 112 yX1_add ∈ lw_tbl := in2 (List.mem_of_getElem? (i := 101) (by decide +kernel))
theorem kX11_116 : Cond.methodLink RX11 116 yX10_begin ∈ lw_tbl := in2 (List.mem_of_getElem? (i := 105) (by decide +kernel))
theorem kL_18 : Cond.methodLink RL 18 yX11_lame ∈ lw_tbl := in2 (List.mem_of_getElem? (i := 109) (by decide +kernel))
theorem kX11_120 : Cond.methodLink RX11 120 yX1_has ∈ lw_tbl := in2 (List.mem_of_getElem? (i := 113) (by decide +kernel))
theorem kX11_124 : Cond.methodLink RX11 124 yX1_setLame ∈ lw_tbl := in2 (List.mem_of_getElem? (i := 117) (by decide +kernel))
theorem kL_23 : Cond.methodLink RL 23 yX11_field ∈ lw_tbl := in2 (List.mem_of_getElem? (i := 121) (by decide +kernel))
theorem kX11_128 : Cond.methodLink RX11 128 yX11_isField ∈ lw_tbl := in2 (List.mem_of_getElem? (i := 125) (by decide +kernel))
theorem kX11_131 : Cond.methodLink RX11 131 yX3_lay ∈ lw_tbl := in2 (List.mem_of_getElem? (i := 128) (by decide +kernel))
theorem kL_28 : Cond.methodLink RL 28 yX11_shut ∈ lw_tbl := in2 (List.mem_of_getElem? (i := 132) (by decide +kernel))
theorem ccX11_135 : Cond.constant RX11 135 (100000) ∈ lw_tbl := in2 (List.mem_of_getElem? (i := 136) (by decide +kernel))
theorem kX11_136 : Cond.methodLink RX11 136 yX3_close ∈ lw_tbl := in2 (List.mem_of_getElem? (i := 137) (by decide +kernel))
theorem kL_33 : Cond.methodLink RL 33 yX11_gate ∈ lw_tbl := in2 (List.mem_of_getElem? (i := 141) (by decide +kernel))
theorem kX11_139 : Cond.methodLink RX11 139 yX3_setGate ∈ lw_tbl := in2 (List.mem_of_getElem? (i := 145) (by decide +kernel))
theorem kL_38 : Cond.methodLink RL 38 yX11_feed ∈ lw_tbl := in2 (List.mem_of_getElem? (i := 149) (by decide +kernel))
theorem kX11_143 : Cond.methodLink RX11 143 yX8_length ∈ lw_tbl := in2 (List.mem_of_getElem? (i := 153) (by decide +kernel))
theorem kX11_146 : Cond.methodLink RX11 146 yX8_append ∈ lw_tbl := in2 (List.mem_of_getElem? (i := 157) (by decide +kernel))
theorem kL_43 : Cond.methodLink RL 43 yX11_end ∈ lw_tbl := in2 (List.mem_of_getElem? (i := 161) (by decide +kernel))
theorem kX11_150 : Cond.methodLink RX11 150 yX8_cut ∈ lw_tbl := in2 (List.mem_of_getElem? (i := 165) (by decide +kernel))
theorem kL_48 : Cond.methodLink RL 48 yX11_rules ∈ lw_tbl := in2 (List.mem_of_getElem? (i := 169) (by decide +kernel))
theorem kX11_153 : Cond.methodLink RX11 153 yX5_readRules ∈ lw_tbl := in2 (List.mem_of_getElem? (i := 173) (by decide +kernel))
theorem kX5_29 : Cond.methodLink RX5 29 yX7_clear ∈ lw_tbl := in2 (List.mem_of_getElem? (i := 177) (by decide +kernel))
theorem kX5_34 : Cond.methodLink RX5 34 yX9_begin ∈ lw_tbl := in2 (List.mem_of_getElem? (i := 181) (by decide +kernel))
theorem kX9_28 : Cond.methodLink RX9 28 yX9_advance ∈ lw_tbl := in2 (List.mem_of_getElem? (i := 185) (by decide +kernel))
theorem kX9_31 : Cond.methodLink RX9 31 yX8_length ∈ lw_tbl := in2 (List.mem_of_getElem? (i := 189) (by decide +kernel))
theorem kX9_37 : Cond.methodLink RX9 37 yX8_at ∈ lw_tbl := in2 (List.mem_of_getElem? (i := 190) (by decide +kernel))
theorem kX9_41 : Cond.methodLink RX9 41 yX9_isBlank ∈ lw_tbl := in2 (List.mem_of_getElem? (i := 194) (by decide +kernel))
theorem kX9_45 : Cond.methodLink RX9 45 yX9_isLetter ∈ lw_tbl := in2 (List.mem_of_getElem? (i := 197) (by decide +kernel))
theorem kX9_48 : Cond.methodLink RX9 48 yX9_readWord ∈ lw_tbl := in2 (List.mem_of_getElem? (i := 200) (by decide +kernel))
theorem kX9_51 : Cond.methodLink RX9 51 yX9_isDigit ∈ lw_tbl := in2 (List.mem_of_getElem? (i := 204) (by decide +kernel))
theorem kX9_60 : Cond.methodLink RX9 60 yX9_wordNumber ∈ lw_tbl := in2 (List.mem_of_getElem? (i := 207) (by decide +kernel))
theorem kX9_63 : Cond.methodLink RX9 63 yX9_letterOf ∈ lw_tbl := in2 (List.mem_of_getElem? (i := 211) (by decide +kernel))
theorem kX9_72 : Cond.methodLink RX9 72 yJ0_length_8abf5 ∈ lw_tbl := in2 (List.mem_of_getElem? (i := 215) (by decide +kernel))
theorem kJ0_335 : Cond.methodLink RJ0 335 yJ0_coder_7d493 ∈ lw_tbl := in2 (List.mem_of_getElem? (i := 219) (by decide +kernel))
theorem kX9_75 : Cond.methodLink RX9 75 yJ0_charAt_5068e ∈ lw_tbl := in2 (List.mem_of_getElem? (i := 225) (by decide +kernel))
theorem kJ0_492 : Cond.methodLink RJ0 492 yJ0_isLatin1_aae02 ∈ lw_tbl := in2 (List.mem_of_getElem? (i := 229) (by decide +kernel))
theorem kJ0_495 : Cond.methodLink RJ0 495 yJ1_charAt_3b067 ∈ lw_tbl := in2 (List.mem_of_getElem? (i := 233) (by decide +kernel))
theorem kJ1_9 : Cond.methodLink RJ1 9 yJ0_checkIndex_df160 ∈ lw_tbl := in2 (List.mem_of_getElem? (i := 236) (by decide +kernel))
theorem kJ0_1059 : Cond.methodLink RJ0 1059 yJ3_checkIndex_8e157 ∈ lw_tbl := in3 (List.mem_of_getElem? (i := 1) (by decide +kernel))
theorem kJ0_498 : Cond.methodLink RJ0 498 yJ2_charAt_3b067 ∈ lw_tbl := in3 (List.mem_of_getElem? (i := 4) (by decide +kernel))
theorem kJ2_67 : Cond.methodLink RJ2 67 yJ2_checkIndex_2214a ∈ lw_tbl := in3 (List.mem_of_getElem? (i := 7) (by decide +kernel))
theorem kJ2_48 : Cond.methodLink RJ2 48 yJ2_length_9d52b ∈ lw_tbl := in3 (List.mem_of_getElem? (i := 10) (by decide +kernel))
theorem kJ2_414 : Cond.methodLink RJ2 414 yJ0_checkIndex_df160 ∈ lw_tbl := in3 (List.mem_of_getElem? (i := 13) (by decide +kernel))
theorem kJ2_71 : Cond.methodLink RJ2 71 yJ2_getChar_3b067 ∈ lw_tbl := in3 (List.mem_of_getElem? (i := 14) (by decide +kernel))
theorem kX9_67 : Cond.methodLink RX9 67 yX9_letterHere ∈ lw_tbl := in3 (List.mem_of_getElem? (i := 23) (by decide +kernel))
theorem kX9_54 : Cond.methodLink RX9 54 yX9_readNumber ∈ lw_tbl := in3 (List.mem_of_getElem? (i := 27) (by decide +kernel))
theorem kX9_57 : Cond.methodLink RX9 57 yX9_isSign ∈ lw_tbl := in3 (List.mem_of_getElem? (i := 31) (by decide +kernel))
theorem kX5_39 : Cond.methodLink RX5 39 yX9_kind ∈ lw_tbl := in3 (List.mem_of_getElem? (i := 34) (by decide +kernel))
theorem kX5_43 : Cond.methodLink RX5 43 yX5_refuse ∈ lw_tbl := in3 (List.mem_of_getElem? (i := 38) (by decide +kernel))
theorem kX5_87 : Cond.methodLink RX5 87 yX9_start ∈ lw_tbl := in3 (List.mem_of_getElem? (i := 42) (by decide +kernel))
theorem kX5_51 : Cond.methodLink RX5 51 yX9_advance ∈ lw_tbl := in3 (List.mem_of_getElem? (i := 46) (by decide +kernel))
theorem kX5_54 : Cond.methodLink RX5 54 yX5_readEither ∈ lw_tbl := in3 (List.mem_of_getElem? (i := 47) (by decide +kernel))
theorem kX5_61 : Cond.methodLink RX5 61 yX5_readBoth ∈ lw_tbl := in3 (List.mem_of_getElem? (i := 51) (by decide +kernel))
theorem kX5_68 : Cond.methodLink RX5 68 yX5_readOne ∈ lw_tbl := in3 (List.mem_of_getElem? (i := 55) (by decide +kernel))
theorem kX5_71 : Cond.methodLink RX5 71 yX5_readComparison ∈ lw_tbl := in3 (List.mem_of_getElem? (i := 59) (by decide +kernel))
theorem kX5_74 : Cond.methodLink RX5 74 yX5_readSum ∈ lw_tbl := in3 (List.mem_of_getElem? (i := 63) (by decide +kernel))
theorem kX5_77 : Cond.methodLink RX5 77 yX5_readTerm ∈ lw_tbl := in3 (List.mem_of_getElem? (i := 67) (by decide +kernel))
theorem kX5_80 : Cond.methodLink RX5 80 yX5_takeOperand ∈ lw_tbl := in3 (List.mem_of_getElem? (i := 71) (by decide +kernel))
theorem kX5_84 : Cond.methodLink RX5 84 yX9_value ∈ lw_tbl := in3 (List.mem_of_getElem? (i := 75) (by decide +kernel))
theorem kX5_64 : Cond.methodLink RX5 64 yX7_emit ∈ lw_tbl := in3 (List.mem_of_getElem? (i := 79) (by decide +kernel))
theorem kX5_57 : Cond.methodLink RX5 57 yX7_endRule ∈ lw_tbl := in3 (List.mem_of_getElem? (i := 83) (by decide +kernel))
theorem kX11_157 : Cond.methodLink RX11 157 yX7_copy ∈ lw_tbl := in3 (List.mem_of_getElem? (i := 87) (by decide +kernel))
theorem kX7_32 : Cond.methodLink RX7 32 arraycopyName ∈ lw_tbl := in3 (List.mem_of_getElem? (i := 91) (by decide +kernel))
theorem kX11_161 : Cond.methodLink RX11 161 yX7_count ∈ lw_tbl := in3 (List.mem_of_getElem? (i := 94) (by decide +kernel))
theorem kL_53 : Cond.methodLink RL 53 yX11_fault ∈ lw_tbl := in3 (List.mem_of_getElem? (i := 99) (by decide +kernel))
theorem kX11_162 : Cond.methodLink RX11 162 yX5_faultFound ∈ lw_tbl := in3 (List.mem_of_getElem? (i := 103) (by decide +kernel))
theorem kX11_165 : Cond.methodLink RX11 165 yX5_faultPlace ∈ lw_tbl := in3 (List.mem_of_getElem? (i := 107) (by decide +kernel))
theorem kL_57 : Cond.methodLink RL 57 yX11_may ∈ lw_tbl := in3 (List.mem_of_getElem? (i := 111) (by decide +kernel))
theorem kX11_168 : Cond.methodLink RX11 168 yX11_isHour ∈ lw_tbl := in3 (List.mem_of_getElem? (i := 115) (by decide +kernel))
theorem kX11_171 : Cond.methodLink RX11 171 yX2_mayBe ∈ lw_tbl := in3 (List.mem_of_getElem? (i := 118) (by decide +kernel))
theorem kX2_27 : Cond.methodLink RX2 27 yX3_isOpen ∈ lw_tbl := in3 (List.mem_of_getElem? (i := 122) (by decide +kernel))
theorem kX2_33 : Cond.methodLink RX2 33 yX2_tellOfOne ∈ lw_tbl := in3 (List.mem_of_getElem? (i := 126) (by decide +kernel))
theorem kX2_50 : Cond.methodLink RX2 50 yX1_kindOf ∈ lw_tbl := in3 (List.mem_of_getElem? (i := 130) (by decide +kernel))
theorem kX2_56 : Cond.methodLink RX2 56 yX1_ageOf ∈ lw_tbl := in3 (List.mem_of_getElem? (i := 134) (by decide +kernel))
theorem kX2_59 : Cond.methodLink RX2 59 yX1_cameOf ∈ lw_tbl := in3 (List.mem_of_getElem? (i := 138) (by decide +kernel))
theorem kX2_62 : Cond.methodLink RX2 62 yX1_isLame ∈ lw_tbl := in3 (List.mem_of_getElem? (i := 142) (by decide +kernel))
theorem kX2_66 : Cond.methodLink RX2 66 yX3_wetOf ∈ lw_tbl := in3 (List.mem_of_getElem? (i := 146) (by decide +kernel))
theorem kX2_37 : Cond.methodLink RX2 37 yX7_allHold ∈ lw_tbl := in3 (List.mem_of_getElem? (i := 150) (by decide +kernel))
theorem kX7_38 : Cond.methodLink RX7 38 yX7_workOut ∈ lw_tbl := in3 (List.mem_of_getElem? (i := 154) (by decide +kernel))
theorem kL_61 : Cond.methodLink RL 61 yX11_meet ∈ lw_tbl := in3 (List.mem_of_getElem? (i := 158) (by decide +kernel))
theorem kX11_175 : Cond.methodLink RX11 175 yX2_mayMeet ∈ lw_tbl := in3 (List.mem_of_getElem? (i := 162) (by decide +kernel))
theorem kX2_43 : Cond.methodLink RX2 43 yX3_touch ∈ lw_tbl := in3 (List.mem_of_getElem? (i := 166) (by decide +kernel))
theorem kX2_46 : Cond.methodLink RX2 46 yX2_tellOfOther ∈ lw_tbl := in3 (List.mem_of_getElem? (i := 170) (by decide +kernel))
theorem kL_66 : Cond.methodLink RL 66 yX11_plan ∈ lw_tbl := in3 (List.mem_of_getElem? (i := 174) (by decide +kernel))
theorem kX11_179 : Cond.methodLink RX11 179 yX6_look ∈ lw_tbl := in3 (List.mem_of_getElem? (i := 178) (by decide +kernel))
theorem kX6_44 : Cond.methodLink RX6 44 yJ7_fill_53178 ∈ lw_tbl := in3 (List.mem_of_getElem? (i := 182) (by decide +kernel))
theorem kX6_50 : Cond.methodLink RX6 50 yX6_place ∈ lw_tbl := in3 (List.mem_of_getElem? (i := 185) (by decide +kernel))
theorem kX6_54 : Cond.methodLink RX6 54 yX1_count ∈ lw_tbl := in3 (List.mem_of_getElem? (i := 189) (by decide +kernel))
theorem kX6_60 : Cond.methodLink RX6 60 yX1_isLame ∈ lw_tbl := in3 (List.mem_of_getElem? (i := 190) (by decide +kernel))
theorem kX6_64 : Cond.methodLink RX6 64 yX6_fits ∈ lw_tbl := in3 (List.mem_of_getElem? (i := 191) (by decide +kernel))
theorem kX6_68 : Cond.methodLink RX6 68 yX6_mayStand ∈ lw_tbl := in3 (List.mem_of_getElem? (i := 195) (by decide +kernel))
theorem kX6_71 : Cond.methodLinkNest RX6 71 yX11_fieldOf "LiveryYard" ∈ lw_tbl := in3 (List.mem_of_getElem? (i := 199) (by decide +kernel))
theorem kX6_79 : Cond.methodLinkNest RX6 79 yX11_hourOf "LiveryYard" ∈ lw_tbl := in3 (List.mem_of_getElem? (i := 202) (by decide +kernel))
theorem kX6_86 : Cond.methodLink RX6 86 yX2_mayBe ∈ lw_tbl := in3 (List.mem_of_getElem? (i := 205) (by decide +kernel))
theorem kX6_74 : Cond.methodLink RX6 74 yX3_roomOf ∈ lw_tbl := in3 (List.mem_of_getElem? (i := 206) (by decide +kernel))
theorem kX6_82 : Cond.methodLink RX6 82 yX6_mayStandBy ∈ lw_tbl := in3 (List.mem_of_getElem? (i := 210) (by decide +kernel))
theorem kX6_91 : Cond.methodLink RX6 91 yX2_mayMeet ∈ lw_tbl := in3 (List.mem_of_getElem? (i := 214) (by decide +kernel))
theorem kL_70 : Cond.methodLink RL 70 yX11_tries ∈ lw_tbl := in3 (List.mem_of_getElem? (i := 215) (by decide +kernel))
theorem kX11_183 : Cond.methodLink RX11 183 yX6_triesMade ∈ lw_tbl := in3 (List.mem_of_getElem? (i := 219) (by decide +kernel))
theorem kL_74 : Cond.methodLink RL 74 yX11_out ∈ lw_tbl := in3 (List.mem_of_getElem? (i := 223) (by decide +kernel))
theorem kX11_186 : Cond.methodLink RX11 186 yX6_spotOf ∈ lw_tbl := in3 (List.mem_of_getElem? (i := 227) (by decide +kernel))
theorem kX11_189 : Cond.methodLink RX11 189 yX11_hourOf ∈ lw_tbl := in3 (List.mem_of_getElem? (i := 231) (by decide +kernel))
theorem kX11_192 : Cond.methodLink RX11 192 yX11_fieldOf ∈ lw_tbl := in3 (List.mem_of_getElem? (i := 232) (by decide +kernel))
theorem kL_78 : Cond.methodLink RL 78 yX11_stuck ∈ lw_tbl := in3 (List.mem_of_getElem? (i := 233) (by decide +kernel))
theorem kX11_195 : Cond.methodLink RX11 195 yX1_isLame ∈ lw_tbl := in3 (List.mem_of_getElem? (i := 237) (by decide +kernel))
theorem kX11_198 : Cond.methodLink RX11 198 yX11_mayBeAnywhere ∈ lw_tbl := in3 (List.mem_of_getElem? (i := 238) (by decide +kernel))
theorem kL_82 : Cond.methodLink RL 82 yX11_lot ∈ lw_tbl := in4 (List.mem_of_getElem? (i := 2) (by decide +kernel))
theorem kX11_201 : Cond.methodLink RX11 201 yX11_isBin ∈ lw_tbl := in4 (List.mem_of_getElem? (i := 6) (by decide +kernel))
theorem kX11_204 : Cond.methodLink RX11 204 yX0_add ∈ lw_tbl := in4 (List.mem_of_getElem? (i := 9) (by decide +kernel))
theorem kL_87 : Cond.methodLink RL 87 yX11_takes ∈ lw_tbl := in4 (List.mem_of_getElem? (i := 13) (by decide +kernel))
theorem kX11_207 : Cond.methodLink RX11 207 yX1_setWanted ∈ lw_tbl := in4 (List.mem_of_getElem? (i := 17) (by decide +kernel))
theorem kL_91 : Cond.methodLink RL 91 yX11_price ∈ lw_tbl := in4 (List.mem_of_getElem? (i := 21) (by decide +kernel))
theorem kL_95 : Cond.methodLink RL 95 yX11_falls ∈ lw_tbl := in4 (List.mem_of_getElem? (i := 25) (by decide +kernel))
theorem kX11_210 : Cond.methodLink RX11 210 yX11_isSort ∈ lw_tbl := in4 (List.mem_of_getElem? (i := 29) (by decide +kernel))
theorem kX11_213 : Cond.methodLink RX11 213 yX10_setFall ∈ lw_tbl := in4 (List.mem_of_getElem? (i := 32) (by decide +kernel))
theorem kL_99 : Cond.methodLink RL 99 yX11_night ∈ lw_tbl := in4 (List.mem_of_getElem? (i := 36) (by decide +kernel))
theorem kX11_216 : Cond.methodLink RX11 216 yX4_haveRoomFor ∈ lw_tbl := in4 (List.mem_of_getElem? (i := 40) (by decide +kernel))
theorem kX11_219 : Cond.methodLink RX11 219 yX0_spoil ∈ lw_tbl := in4 (List.mem_of_getElem? (i := 44) (by decide +kernel))
theorem kX0_28 : Cond.methodLink RX0 28 yX0_drop ∈ lw_tbl := in4 (List.mem_of_getElem? (i := 48) (by decide +kernel))
theorem kX11_222 : Cond.methodLink RX11 222 yX11_passNightOf ∈ lw_tbl := in4 (List.mem_of_getElem? (i := 52) (by decide +kernel))
theorem kX11_263 : Cond.methodLink RX11 263 yX1_wantedOf ∈ lw_tbl := in4 (List.mem_of_getElem? (i := 56) (by decide +kernel))
theorem kX11_266 : Cond.methodLink RX11 266 yX0_take ∈ lw_tbl := in4 (List.mem_of_getElem? (i := 60) (by decide +kernel))
theorem kX11_269 : Cond.methodLink RX11 269 yX1_addLacked ∈ lw_tbl := in4 (List.mem_of_getElem? (i := 64) (by decide +kernel))
theorem kX11_272 : Cond.methodLink RX11 272 yX4_add ∈ lw_tbl := in4 (List.mem_of_getElem? (i := 68) (by decide +kernel))
theorem kL_103 : Cond.methodLink RL 103 yX11_bin ∈ lw_tbl := in4 (List.mem_of_getElem? (i := 72) (by decide +kernel))
theorem kX11_225 : Cond.methodLink RX11 225 yX0_count ∈ lw_tbl := in4 (List.mem_of_getElem? (i := 76) (by decide +kernel))
theorem kX11_226 : Cond.methodLink RX11 226 yX0_total ∈ lw_tbl := in4 (List.mem_of_getElem? (i := 80) (by decide +kernel))
theorem kX11_229 : Cond.methodLink RX11 229 yX0_spoiltSoFar ∈ lw_tbl := in4 (List.mem_of_getElem? (i := 84) (by decide +kernel))
theorem kX11_232 : Cond.methodLink RX11 232 yX0_firstLast ∈ lw_tbl := in4 (List.mem_of_getElem? (i := 88) (by decide +kernel))
theorem kL_107 : Cond.methodLink RL 107 yX11_foretold ∈ lw_tbl := in4 (List.mem_of_getElem? (i := 92) (by decide +kernel))
theorem kX11_235 : Cond.methodLink RX11 235 yX1_wantedByAll ∈ lw_tbl := in4 (List.mem_of_getElem? (i := 96) (by decide +kernel))
theorem kX1_35 : Cond.methodLink RX1 35 yX1_wantedOf ∈ lw_tbl := in4 (List.mem_of_getElem? (i := 100) (by decide +kernel))
theorem kX11_238 : Cond.methodLink RX11 238 yX0_nightsFor ∈ lw_tbl := in4 (List.mem_of_getElem? (i := 101) (by decide +kernel))
theorem kX0_32 : Cond.methodLink RX0 32 arraycopyName ∈ lw_tbl := in4 (List.mem_of_getElem? (i := 105) (by decide +kernel))
theorem kX0_38 : Cond.methodLink RX0 38 yX0_suffices ∈ lw_tbl := in4 (List.mem_of_getElem? (i := 106) (by decide +kernel))
theorem kX0_42 : Cond.methodLink RX0 42 yJ9_min_7cf53 ∈ lw_tbl := in4 (List.mem_of_getElem? (i := 110) (by decide +kernel))
theorem kL_111 : Cond.methodLink RL 111 yX11_work ∈ lw_tbl := in4 (List.mem_of_getElem? (i := 113) (by decide +kernel))
theorem kX11_241 : Cond.methodLink RX11 241 yX1_cameOf ∈ lw_tbl := in4 (List.mem_of_getElem? (i := 117) (by decide +kernel))
theorem kX11_244 : Cond.methodLink RX11 244 yX10_add ∈ lw_tbl := in4 (List.mem_of_getElem? (i := 118) (by decide +kernel))
theorem kX10_34 : Cond.methodLink RX10 34 yJ9_max_7cf53 ∈ lw_tbl := in4 (List.mem_of_getElem? (i := 122) (by decide +kernel))
theorem kL_115 : Cond.methodLink RL 115 yX11_due ∈ lw_tbl := in4 (List.mem_of_getElem? (i := 125) (by decide +kernel))
theorem kX11_247 : Cond.methodLink RX11 247 yX10_dueDay ∈ lw_tbl := in4 (List.mem_of_getElem? (i := 129) (by decide +kernel))
theorem kL_119 : Cond.methodLink RL 119 yX11_bill ∈ lw_tbl := in4 (List.mem_of_getElem? (i := 133) (by decide +kernel))
theorem kX11_250 : Cond.methodLink RX11 250 yX4_cost ∈ lw_tbl := in4 (List.mem_of_getElem? (i := 137) (by decide +kernel))
theorem kX4_25 : Cond.methodLink RX4 25 yJ9_min_7cf53 ∈ lw_tbl := in4 (List.mem_of_getElem? (i := 141) (by decide +kernel))
theorem kX11_254 : Cond.methodLink RX11 254 yX10_cost ∈ lw_tbl := in4 (List.mem_of_getElem? (i := 142) (by decide +kernel))
theorem kL_124 : Cond.methodLink RL 124 yX11_lacked ∈ lw_tbl := in4 (List.mem_of_getElem? (i := 146) (by decide +kernel))
theorem kX11_255 : Cond.methodLink RX11 255 yX1_lackedOf ∈ lw_tbl := in4 (List.mem_of_getElem? (i := 150) (by decide +kernel))
theorem kL_128 : Cond.methodLink RL 128 yX11_about ∈ lw_tbl := in4 (List.mem_of_getElem? (i := 154) (by decide +kernel))
theorem kX11_258 : Cond.methodLink RX11 258 yX10_count ∈ lw_tbl := in4 (List.mem_of_getElem? (i := 158) (by decide +kernel))
theorem kX11_259 : Cond.methodLink RX11 259 yX6_hasPlan ∈ lw_tbl := in4 (List.mem_of_getElem? (i := 162) (by decide +kernel))
theorem kX11_262 : Cond.methodLink RX11 262 yX4_count ∈ lw_tbl := in4 (List.mem_of_getElem? (i := 166) (by decide +kernel))
theorem lL_10 : Cond.classLink RL 10 RX12 ∈ lw_tbl := in4 (List.mem_of_getElem? (i := 170) (by decide +kernel))
theorem nL_10 : NOK RL 10 12 60 [.int 0, .int 0, .null, .null, .null, .null, .null, .null, .null, .null, .null, .null, .int 0, .null, .null, .null, .null, .int 0, .null, .null, .null, .null, .int 0, .int 0, .int 0, .null, .int 0, .int 0, .int 0, .int 0, .int 0, .int 0, .int 0, .int 0, .long 0, .null, .int 0, .int 0, .null, .null, .null, .null, .int 0, .null, .null, .null, .null, .null, .null, .int 0, .int 0, .null, .null, .null, .null, .null, .null, .null, .null, .null] := ⟨RX12, TX12, tyX12, rfl, lL_10, in4 (List.mem_of_getElem? (i := 171) (by decide +kernel)), in1 (List.mem_of_getElem? (i := 13) (by decide +kernel)), wX12, tyX12_ok, by decide +kernel, fun _ => rfl⟩
theorem kL_12 : Cond.methodLink RL 12 yX12_init ∈ lw_tbl := in4 (List.mem_of_getElem? (i := 172) (by decide +kernel))
theorem kX12_1 : Cond.methodLink RX12 1 Lib.objectInit ∈ lw_tbl := in4 (List.mem_of_getElem? (i := 175) (by decide +kernel))
theorem lfX12_135 : Cond.fieldLink RX12 135 (TX12 0).1 (TX12 0).2.1 (TX12 0).2.2.1 ∈ lw_tbl := in4 (List.mem_of_getElem? (i := 176) (by decide +kernel))
theorem fX12_135 : FOK RX12 135 12 0 := ⟨RX12, TX12, 60, rfl, by decide, lfX12_135, wX12⟩
theorem pX12_135 : POK RX12 135 12 0 .int := ⟨RX12, TX12, 60, tyX12, rfl, by decide, lfX12_135, wX12, tyX12_ok, nmX12, rfl, by decide +kernel⟩
theorem lfX12_132 : Cond.fieldLink RX12 132 (TX12 1).1 (TX12 1).2.1 (TX12 1).2.2.1 ∈ lw_tbl := in4 (List.mem_of_getElem? (i := 177) (by decide +kernel))
theorem fX12_132 : FOK RX12 132 12 1 := ⟨RX12, TX12, 60, rfl, by decide, lfX12_132, wX12⟩
theorem pX12_132 : POK RX12 132 12 1 .int := ⟨RX12, TX12, 60, tyX12, rfl, by decide, lfX12_132, wX12, tyX12_ok, nmX12, rfl, by decide +kernel⟩
theorem lfX12_7 : Cond.fieldLink RX12 7 (TX12 2).1 (TX12 2).2.1 (TX12 2).2.2.1 ∈ lw_tbl := in4 (List.mem_of_getElem? (i := 178) (by decide +kernel))
theorem fX12_7 : FOK RX12 7 12 2 := ⟨RX12, TX12, 60, rfl, by decide, lfX12_7, wX12⟩
theorem qX12_7 : PFOK RX12 7 12 2 (.array .int) := ⟨RX12, TX12, 60, tyX12, rfl, by decide, lfX12_7, wX12, tyX12_ok, nmX12, rfl, rfl, by decide +kernel⟩
theorem lfX12_13 : Cond.fieldLink RX12 13 (TX12 3).1 (TX12 3).2.1 (TX12 3).2.2.1 ∈ lw_tbl := in4 (List.mem_of_getElem? (i := 179) (by decide +kernel))
theorem fX12_13 : FOK RX12 13 12 3 := ⟨RX12, TX12, 60, rfl, by decide, lfX12_13, wX12⟩
theorem qX12_13 : PFOK RX12 13 12 3 (.array .int) := ⟨RX12, TX12, 60, tyX12, rfl, by decide, lfX12_13, wX12, tyX12_ok, nmX12, rfl, rfl, by decide +kernel⟩
theorem lfX12_16 : Cond.fieldLink RX12 16 (TX12 4).1 (TX12 4).2.1 (TX12 4).2.2.1 ∈ lw_tbl := in4 (List.mem_of_getElem? (i := 180) (by decide +kernel))
theorem fX12_16 : FOK RX12 16 12 4 := ⟨RX12, TX12, 60, rfl, by decide, lfX12_16, wX12⟩
theorem qX12_16 : PFOK RX12 16 12 4 (.array .int) := ⟨RX12, TX12, 60, tyX12, rfl, by decide, lfX12_16, wX12, tyX12_ok, nmX12, rfl, rfl, by decide +kernel⟩
theorem lfX12_19 : Cond.fieldLink RX12 19 (TX12 5).1 (TX12 5).2.1 (TX12 5).2.2.1 ∈ lw_tbl := in4 (List.mem_of_getElem? (i := 181) (by decide +kernel))
theorem fX12_19 : FOK RX12 19 12 5 := ⟨RX12, TX12, 60, rfl, by decide, lfX12_19, wX12⟩
theorem qX12_19 : PFOK RX12 19 12 5 (.array .int) := ⟨RX12, TX12, 60, tyX12, rfl, by decide, lfX12_19, wX12, tyX12_ok, nmX12, rfl, rfl, by decide +kernel⟩
theorem lfX12_22 : Cond.fieldLink RX12 22 (TX12 6).1 (TX12 6).2.1 (TX12 6).2.2.1 ∈ lw_tbl := in4 (List.mem_of_getElem? (i := 182) (by decide +kernel))
theorem fX12_22 : FOK RX12 22 12 6 := ⟨RX12, TX12, 60, rfl, by decide, lfX12_22, wX12⟩
theorem qX12_22 : PFOK RX12 22 12 6 (.array .int) := ⟨RX12, TX12, 60, tyX12, rfl, by decide, lfX12_22, wX12, tyX12_ok, nmX12, rfl, rfl, by decide +kernel⟩
theorem lfX12_25 : Cond.fieldLink RX12 25 (TX12 7).1 (TX12 7).2.1 (TX12 7).2.2.1 ∈ lw_tbl := in4 (List.mem_of_getElem? (i := 183) (by decide +kernel))
theorem fX12_25 : FOK RX12 25 12 7 := ⟨RX12, TX12, 60, rfl, by decide, lfX12_25, wX12⟩
theorem qX12_25 : PFOK RX12 25 12 7 (.array .int) := ⟨RX12, TX12, 60, tyX12, rfl, by decide, lfX12_25, wX12, tyX12_ok, nmX12, rfl, rfl, by decide +kernel⟩
theorem lfX12_28 : Cond.fieldLink RX12 28 (TX12 8).1 (TX12 8).2.1 (TX12 8).2.2.1 ∈ lw_tbl := in4 (List.mem_of_getElem? (i := 184) (by decide +kernel))
theorem fX12_28 : FOK RX12 28 12 8 := ⟨RX12, TX12, 60, rfl, by decide, lfX12_28, wX12⟩
theorem qX12_28 : PFOK RX12 28 12 8 (.array .int) := ⟨RX12, TX12, 60, tyX12, rfl, by decide, lfX12_28, wX12, tyX12_ok, nmX12, rfl, rfl, by decide +kernel⟩
theorem lfX12_31 : Cond.fieldLink RX12 31 (TX12 9).1 (TX12 9).2.1 (TX12 9).2.2.1 ∈ lw_tbl := in4 (List.mem_of_getElem? (i := 185) (by decide +kernel))
theorem fX12_31 : FOK RX12 31 12 9 := ⟨RX12, TX12, 60, rfl, by decide, lfX12_31, wX12⟩
theorem qX12_31 : PFOK RX12 31 12 9 (.array .int) := ⟨RX12, TX12, 60, tyX12, rfl, by decide, lfX12_31, wX12, tyX12_ok, nmX12, rfl, rfl, by decide +kernel⟩
theorem lfX12_34 : Cond.fieldLink RX12 34 (TX12 10).1 (TX12 10).2.1 (TX12 10).2.2.1 ∈ lw_tbl := in4 (List.mem_of_getElem? (i := 186) (by decide +kernel))
theorem fX12_34 : FOK RX12 34 12 10 := ⟨RX12, TX12, 60, rfl, by decide, lfX12_34, wX12⟩
theorem qX12_34 : PFOK RX12 34 12 10 (.array .int) := ⟨RX12, TX12, 60, tyX12, rfl, by decide, lfX12_34, wX12, tyX12_ok, nmX12, rfl, rfl, by decide +kernel⟩
theorem lfX12_37 : Cond.fieldLink RX12 37 (TX12 11).1 (TX12 11).2.1 (TX12 11).2.2.1 ∈ lw_tbl := in4 (List.mem_of_getElem? (i := 187) (by decide +kernel))
theorem fX12_37 : FOK RX12 37 12 11 := ⟨RX12, TX12, 60, rfl, by decide, lfX12_37, wX12⟩
theorem qX12_37 : PFOK RX12 37 12 11 (.array .boolean) := ⟨RX12, TX12, 60, tyX12, rfl, by decide, lfX12_37, wX12, tyX12_ok, nmX12, rfl, rfl, by decide +kernel⟩
theorem lfX12_138 : Cond.fieldLink RX12 138 (TX12 12).1 (TX12 12).2.1 (TX12 12).2.2.1 ∈ lw_tbl := in4 (List.mem_of_getElem? (i := 188) (by decide +kernel))
theorem fX12_138 : FOK RX12 138 12 12 := ⟨RX12, TX12, 60, rfl, by decide, lfX12_138, wX12⟩
theorem pX12_138 : POK RX12 138 12 12 .boolean := ⟨RX12, TX12, 60, tyX12, rfl, by decide, lfX12_138, wX12, tyX12_ok, nmX12, rfl, by decide +kernel⟩
theorem lfX12_41 : Cond.fieldLink RX12 41 (TX12 13).1 (TX12 13).2.1 (TX12 13).2.2.1 ∈ lw_tbl := in4 (List.mem_of_getElem? (i := 189) (by decide +kernel))
theorem fX12_41 : FOK RX12 41 12 13 := ⟨RX12, TX12, 60, rfl, by decide, lfX12_41, wX12⟩
theorem qX12_41 : PFOK RX12 41 12 13 (.array .int) := ⟨RX12, TX12, 60, tyX12, rfl, by decide, lfX12_41, wX12, tyX12_ok, nmX12, rfl, rfl, by decide +kernel⟩
theorem lfX12_44 : Cond.fieldLink RX12 44 (TX12 14).1 (TX12 14).2.1 (TX12 14).2.2.1 ∈ lw_tbl := in4 (List.mem_of_getElem? (i := 190) (by decide +kernel))
theorem fX12_44 : FOK RX12 44 12 14 := ⟨RX12, TX12, 60, rfl, by decide, lfX12_44, wX12⟩
theorem qX12_44 : PFOK RX12 44 12 14 (.array .int) := ⟨RX12, TX12, 60, tyX12, rfl, by decide, lfX12_44, wX12, tyX12_ok, nmX12, rfl, rfl, by decide +kernel⟩
theorem lfX12_47 : Cond.fieldLink RX12 47 (TX12 15).1 (TX12 15).2.1 (TX12 15).2.2.1 ∈ lw_tbl := in4 (List.mem_of_getElem? (i := 191) (by decide +kernel))
theorem fX12_47 : FOK RX12 47 12 15 := ⟨RX12, TX12, 60, rfl, by decide, lfX12_47, wX12⟩
theorem qX12_47 : PFOK RX12 47 12 15 (.array .int) := ⟨RX12, TX12, 60, tyX12, rfl, by decide, lfX12_47, wX12, tyX12_ok, nmX12, rfl, rfl, by decide +kernel⟩
theorem lfX12_50 : Cond.fieldLink RX12 50 (TX12 16).1 (TX12 16).2.1 (TX12 16).2.2.1 ∈ lw_tbl := in4 (List.mem_of_getElem? (i := 192) (by decide +kernel))
theorem fX12_50 : FOK RX12 50 12 16 := ⟨RX12, TX12, 60, rfl, by decide, lfX12_50, wX12⟩
theorem qX12_50 : PFOK RX12 50 12 16 (.array .boolean) := ⟨RX12, TX12, 60, tyX12, rfl, by decide, lfX12_50, wX12, tyX12_ok, nmX12, rfl, rfl, by decide +kernel⟩
theorem lfX12_287 : Cond.fieldLink RX12 287 (TX12 17).1 (TX12 17).2.1 (TX12 17).2.2.1 ∈ lw_tbl := in4 (List.mem_of_getElem? (i := 193) (by decide +kernel))
theorem fX12_287 : FOK RX12 287 12 17 := ⟨RX12, TX12, 60, rfl, by decide, lfX12_287, wX12⟩
theorem pX12_287 : POK RX12 287 12 17 .int := ⟨RX12, TX12, 60, tyX12, rfl, by decide, lfX12_287, wX12, tyX12_ok, nmX12, rfl, by decide +kernel⟩
theorem lfX12_53 : Cond.fieldLink RX12 53 (TX12 18).1 (TX12 18).2.1 (TX12 18).2.2.1 ∈ lw_tbl := in4 (List.mem_of_getElem? (i := 194) (by decide +kernel))
theorem fX12_53 : FOK RX12 53 12 18 := ⟨RX12, TX12, 60, rfl, by decide, lfX12_53, wX12⟩
theorem qX12_53 : PFOK RX12 53 12 18 (.array .int) := ⟨RX12, TX12, 60, tyX12, rfl, by decide, lfX12_53, wX12, tyX12_ok, nmX12, rfl, rfl, by decide +kernel⟩
theorem lfX12_56 : Cond.fieldLink RX12 56 (TX12 19).1 (TX12 19).2.1 (TX12 19).2.2.1 ∈ lw_tbl := in4 (List.mem_of_getElem? (i := 195) (by decide +kernel))
theorem fX12_56 : FOK RX12 56 12 19 := ⟨RX12, TX12, 60, rfl, by decide, lfX12_56, wX12⟩
theorem qX12_56 : PFOK RX12 56 12 19 (.array .int) := ⟨RX12, TX12, 60, tyX12, rfl, by decide, lfX12_56, wX12, tyX12_ok, nmX12, rfl, rfl, by decide +kernel⟩
theorem lfX12_59 : Cond.fieldLink RX12 59 (TX12 20).1 (TX12 20).2.1 (TX12 20).2.2.1 ∈ lw_tbl := in4 (List.mem_of_getElem? (i := 196) (by decide +kernel))
theorem fX12_59 : FOK RX12 59 12 20 := ⟨RX12, TX12, 60, rfl, by decide, lfX12_59, wX12⟩
theorem qX12_59 : PFOK RX12 59 12 20 (.array .int) := ⟨RX12, TX12, 60, tyX12, rfl, by decide, lfX12_59, wX12, tyX12_ok, nmX12, rfl, rfl, by decide +kernel⟩
theorem lfX12_62 : Cond.fieldLink RX12 62 (TX12 21).1 (TX12 21).2.1 (TX12 21).2.2.1 ∈ lw_tbl := in4 (List.mem_of_getElem? (i := 197) (by decide +kernel))
theorem fX12_62 : FOK RX12 62 12 21 := ⟨RX12, TX12, 60, rfl, by decide, lfX12_62, wX12⟩
theorem qX12_62 : PFOK RX12 62 12 21 (.array .boolean) := ⟨RX12, TX12, 60, tyX12, rfl, by decide, lfX12_62, wX12, tyX12_ok, nmX12, rfl, rfl, by decide +kernel⟩
theorem lfX12_281 : Cond.fieldLink RX12 281 (TX12 22).1 (TX12 22).2.1 (TX12 22).2.2.1 ∈ lw_tbl := in4 (List.mem_of_getElem? (i := 198) (by decide +kernel))
theorem fX12_281 : FOK RX12 281 12 22 := ⟨RX12, TX12, 60, rfl, by decide, lfX12_281, wX12⟩
theorem pX12_281 : POK RX12 281 12 22 .int := ⟨RX12, TX12, 60, tyX12, rfl, by decide, lfX12_281, wX12, tyX12_ok, nmX12, rfl, by decide +kernel⟩
theorem lfX12_220 : Cond.fieldLink RX12 220 (TX12 23).1 (TX12 23).2.1 (TX12 23).2.2.1 ∈ lw_tbl := in4 (List.mem_of_getElem? (i := 199) (by decide +kernel))
theorem fX12_220 : FOK RX12 220 12 23 := ⟨RX12, TX12, 60, rfl, by decide, lfX12_220, wX12⟩
theorem pX12_220 : POK RX12 220 12 23 .int := ⟨RX12, TX12, 60, tyX12, rfl, by decide, lfX12_220, wX12, tyX12_ok, nmX12, rfl, by decide +kernel⟩
theorem lfX12_264 : Cond.fieldLink RX12 264 (TX12 24).1 (TX12 24).2.1 (TX12 24).2.2.1 ∈ lw_tbl := in4 (List.mem_of_getElem? (i := 200) (by decide +kernel))
theorem fX12_264 : FOK RX12 264 12 24 := ⟨RX12, TX12, 60, rfl, by decide, lfX12_264, wX12⟩
theorem pX12_264 : POK RX12 264 12 24 .int := ⟨RX12, TX12, 60, tyX12, rfl, by decide, lfX12_264, wX12, tyX12_ok, nmX12, rfl, by decide +kernel⟩
theorem lfX12_65 : Cond.fieldLink RX12 65 (TX12 25).1 (TX12 25).2.1 (TX12 25).2.2.1 ∈ lw_tbl := in4 (List.mem_of_getElem? (i := 201) (by decide +kernel))
theorem fX12_65 : FOK RX12 65 12 25 := ⟨RX12, TX12, 60, rfl, by decide, lfX12_65, wX12⟩
theorem qX12_65 : PFOK RX12 65 12 25 (.array .int) := ⟨RX12, TX12, 60, tyX12, rfl, by decide, lfX12_65, wX12, tyX12_ok, nmX12, rfl, rfl, by decide +kernel⟩
theorem lfX12_150 : Cond.fieldLink RX12 150 (TX12 26).1 (TX12 26).2.1 (TX12 26).2.2.1 ∈ lw_tbl := in4 (List.mem_of_getElem? (i := 202) (by decide +kernel))
theorem fX12_150 : FOK RX12 150 12 26 := ⟨RX12, TX12, 60, rfl, by decide, lfX12_150, wX12⟩
theorem pX12_150 : POK RX12 150 12 26 .int := ⟨RX12, TX12, 60, tyX12, rfl, by decide, lfX12_150, wX12, tyX12_ok, nmX12, rfl, by decide +kernel⟩
theorem lfX12_189 : Cond.fieldLink RX12 189 (TX12 27).1 (TX12 27).2.1 (TX12 27).2.2.1 ∈ lw_tbl := in4 (List.mem_of_getElem? (i := 203) (by decide +kernel))
theorem fX12_189 : FOK RX12 189 12 27 := ⟨RX12, TX12, 60, rfl, by decide, lfX12_189, wX12⟩
theorem pX12_189 : POK RX12 189 12 27 .int := ⟨RX12, TX12, 60, tyX12, rfl, by decide, lfX12_189, wX12, tyX12_ok, nmX12, rfl, by decide +kernel⟩
theorem lfX12_68 : Cond.fieldLink RX12 68 (TX12 28).1 (TX12 28).2.1 (TX12 28).2.2.1 ∈ lw_tbl := in4 (List.mem_of_getElem? (i := 204) (by decide +kernel))
theorem fX12_68 : FOK RX12 68 12 28 := ⟨RX12, TX12, 60, rfl, by decide, lfX12_68, wX12⟩
theorem pX12_68 : POK RX12 68 12 28 .int := ⟨RX12, TX12, 60, tyX12, rfl, by decide, lfX12_68, wX12, tyX12_ok, nmX12, rfl, by decide +kernel⟩
theorem lfX12_157 : Cond.fieldLink RX12 157 (TX12 29).1 (TX12 29).2.1 (TX12 29).2.2.1 ∈ lw_tbl := in4 (List.mem_of_getElem? (i := 205) (by decide +kernel))
theorem fX12_157 : FOK RX12 157 12 29 := ⟨RX12, TX12, 60, rfl, by decide, lfX12_157, wX12⟩
theorem pX12_157 : POK RX12 157 12 29 .int := ⟨RX12, TX12, 60, tyX12, rfl, by decide, lfX12_157, wX12, tyX12_ok, nmX12, rfl, by decide +kernel⟩
theorem lfX12_160 : Cond.fieldLink RX12 160 (TX12 30).1 (TX12 30).2.1 (TX12 30).2.2.1 ∈ lw_tbl := in4 (List.mem_of_getElem? (i := 206) (by decide +kernel))
theorem fX12_160 : FOK RX12 160 12 30 := ⟨RX12, TX12, 60, rfl, by decide, lfX12_160, wX12⟩
theorem pX12_160 : POK RX12 160 12 30 .int := ⟨RX12, TX12, 60, tyX12, rfl, by decide, lfX12_160, wX12, tyX12_ok, nmX12, rfl, by decide +kernel⟩
theorem lfX12_177 : Cond.fieldLink RX12 177 (TX12 31).1 (TX12 31).2.1 (TX12 31).2.2.1 ∈ lw_tbl := in4 (List.mem_of_getElem? (i := 207) (by decide +kernel))
theorem fX12_177 : FOK RX12 177 12 31 := ⟨RX12, TX12, 60, rfl, by decide, lfX12_177, wX12⟩
theorem pX12_177 : POK RX12 177 12 31 .int := ⟨RX12, TX12, 60, tyX12, rfl, by decide, lfX12_177, wX12, tyX12_ok, nmX12, rfl, by decide +kernel⟩
theorem lfX12_167 : Cond.fieldLink RX12 167 (TX12 32).1 (TX12 32).2.1 (TX12 32).2.2.1 ∈ lw_tbl := in4 (List.mem_of_getElem? (i := 208) (by decide +kernel))
theorem fX12_167 : FOK RX12 167 12 32 := ⟨RX12, TX12, 60, rfl, by decide, lfX12_167, wX12⟩
theorem pX12_167 : POK RX12 167 12 32 .int := ⟨RX12, TX12, 60, tyX12, rfl, by decide, lfX12_167, wX12, tyX12_ok, nmX12, rfl, by decide +kernel⟩
theorem lfX12_174 : Cond.fieldLink RX12 174 (TX12 33).1 (TX12 33).2.1 (TX12 33).2.2.1 ∈ lw_tbl := in4 (List.mem_of_getElem? (i := 209) (by decide +kernel))
theorem fX12_174 : FOK RX12 174 12 33 := ⟨RX12, TX12, 60, rfl, by decide, lfX12_174, wX12⟩
theorem pX12_174 : POK RX12 174 12 33 .int := ⟨RX12, TX12, 60, tyX12, rfl, by decide, lfX12_174, wX12, tyX12_ok, nmX12, rfl, by decide +kernel⟩
theorem lfX12_170 : Cond.fieldLink RX12 170 (TX12 34).1 (TX12 34).2.1 (TX12 34).2.2.1 ∈ lw_tbl := in4 (List.mem_of_getElem? (i := 210) (by decide +kernel))
theorem fX12_170 : FOK RX12 170 12 34 := ⟨RX12, TX12, 60, rfl, by decide, lfX12_170, wX12⟩
theorem pX12_170 : POK RX12 170 12 34 .long := ⟨RX12, TX12, 60, tyX12, rfl, by decide, lfX12_170, wX12, tyX12_ok, nmX12, rfl, by decide +kernel⟩
theorem lfX12_72 : Cond.fieldLink RX12 72 (TX12 35).1 (TX12 35).2.1 (TX12 35).2.2.1 ∈ lw_tbl := in4 (List.mem_of_getElem? (i := 211) (by decide +kernel))
theorem fX12_72 : FOK RX12 72 12 35 := ⟨RX12, TX12, 60, rfl, by decide, lfX12_72, wX12⟩
theorem qX12_72 : PFOK RX12 72 12 35 (.array .int) := ⟨RX12, TX12, 60, tyX12, rfl, by decide, lfX12_72, wX12, tyX12_ok, nmX12, rfl, rfl, by decide +kernel⟩
theorem lfX12_223 : Cond.fieldLink RX12 223 (TX12 36).1 (TX12 36).2.1 (TX12 36).2.2.1 ∈ lw_tbl := in4 (List.mem_of_getElem? (i := 212) (by decide +kernel))
theorem fX12_223 : FOK RX12 223 12 36 := ⟨RX12, TX12, 60, rfl, by decide, lfX12_223, wX12⟩
theorem pX12_223 : POK RX12 223 12 36 .int := ⟨RX12, TX12, 60, tyX12, rfl, by decide, lfX12_223, wX12, tyX12_ok, nmX12, rfl, by decide +kernel⟩
theorem lfX12_226 : Cond.fieldLink RX12 226 (TX12 37).1 (TX12 37).2.1 (TX12 37).2.2.1 ∈ lw_tbl := in4 (List.mem_of_getElem? (i := 213) (by decide +kernel))
theorem fX12_226 : FOK RX12 226 12 37 := ⟨RX12, TX12, 60, rfl, by decide, lfX12_226, wX12⟩
theorem pX12_226 : POK RX12 226 12 37 .int := ⟨RX12, TX12, 60, tyX12, rfl, by decide, lfX12_226, wX12, tyX12_ok, nmX12, rfl, by decide +kernel⟩
theorem lfX12_75 : Cond.fieldLink RX12 75 (TX12 38).1 (TX12 38).2.1 (TX12 38).2.2.1 ∈ lw_tbl := in4 (List.mem_of_getElem? (i := 214) (by decide +kernel))
theorem fX12_75 : FOK RX12 75 12 38 := ⟨RX12, TX12, 60, rfl, by decide, lfX12_75, wX12⟩
theorem qX12_75 : PFOK RX12 75 12 38 (.array .int) := ⟨RX12, TX12, 60, tyX12, rfl, by decide, lfX12_75, wX12, tyX12_ok, nmX12, rfl, rfl, by decide +kernel⟩
theorem lfX12_78 : Cond.fieldLink RX12 78 (TX12 39).1 (TX12 39).2.1 (TX12 39).2.2.1 ∈ lw_tbl := in4 (List.mem_of_getElem? (i := 215) (by decide +kernel))
theorem fX12_78 : FOK RX12 78 12 39 := ⟨RX12, TX12, 60, rfl, by decide, lfX12_78, wX12⟩
theorem qX12_78 : PFOK RX12 78 12 39 (.array .int) := ⟨RX12, TX12, 60, tyX12, rfl, by decide, lfX12_78, wX12, tyX12_ok, nmX12, rfl, rfl, by decide +kernel⟩
theorem lfX12_81 : Cond.fieldLink RX12 81 (TX12 40).1 (TX12 40).2.1 (TX12 40).2.2.1 ∈ lw_tbl := in4 (List.mem_of_getElem? (i := 216) (by decide +kernel))
theorem fX12_81 : FOK RX12 81 12 40 := ⟨RX12, TX12, 60, rfl, by decide, lfX12_81, wX12⟩
theorem qX12_81 : PFOK RX12 81 12 40 (.array .int) := ⟨RX12, TX12, 60, tyX12, rfl, by decide, lfX12_81, wX12, tyX12_ok, nmX12, rfl, rfl, by decide +kernel⟩
theorem lfX12_84 : Cond.fieldLink RX12 84 (TX12 41).1 (TX12 41).2.1 (TX12 41).2.2.1 ∈ lw_tbl := in4 (List.mem_of_getElem? (i := 217) (by decide +kernel))
theorem fX12_84 : FOK RX12 84 12 41 := ⟨RX12, TX12, 60, rfl, by decide, lfX12_84, wX12⟩
theorem qX12_84 : PFOK RX12 84 12 41 (.array .int) := ⟨RX12, TX12, 60, tyX12, rfl, by decide, lfX12_84, wX12, tyX12_ok, nmX12, rfl, rfl, by decide +kernel⟩
theorem lfX12_306 : Cond.fieldLink RX12 306 (TX12 42).1 (TX12 42).2.1 (TX12 42).2.2.1 ∈ lw_tbl := in4 (List.mem_of_getElem? (i := 218) (by decide +kernel))
theorem fX12_306 : FOK RX12 306 12 42 := ⟨RX12, TX12, 60, rfl, by decide, lfX12_306, wX12⟩
theorem pX12_306 : POK RX12 306 12 42 .int := ⟨RX12, TX12, 60, tyX12, rfl, by decide, lfX12_306, wX12, tyX12_ok, nmX12, rfl, by decide +kernel⟩
theorem lfX12_87 : Cond.fieldLink RX12 87 (TX12 43).1 (TX12 43).2.1 (TX12 43).2.2.1 ∈ lw_tbl := in4 (List.mem_of_getElem? (i := 219) (by decide +kernel))
theorem fX12_87 : FOK RX12 87 12 43 := ⟨RX12, TX12, 60, rfl, by decide, lfX12_87, wX12⟩
theorem qX12_87 : PFOK RX12 87 12 43 (.array .int) := ⟨RX12, TX12, 60, tyX12, rfl, by decide, lfX12_87, wX12, tyX12_ok, nmX12, rfl, rfl, by decide +kernel⟩
theorem lfX12_90 : Cond.fieldLink RX12 90 (TX12 44).1 (TX12 44).2.1 (TX12 44).2.2.1 ∈ lw_tbl := in4 (List.mem_of_getElem? (i := 220) (by decide +kernel))
theorem fX12_90 : FOK RX12 90 12 44 := ⟨RX12, TX12, 60, rfl, by decide, lfX12_90, wX12⟩
theorem qX12_90 : PFOK RX12 90 12 44 (.array .int) := ⟨RX12, TX12, 60, tyX12, rfl, by decide, lfX12_90, wX12, tyX12_ok, nmX12, rfl, rfl, by decide +kernel⟩
theorem lfX12_93 : Cond.fieldLink RX12 93 (TX12 45).1 (TX12 45).2.1 (TX12 45).2.2.1 ∈ lw_tbl := in4 (List.mem_of_getElem? (i := 221) (by decide +kernel))
theorem fX12_93 : FOK RX12 93 12 45 := ⟨RX12, TX12, 60, rfl, by decide, lfX12_93, wX12⟩
theorem qX12_93 : PFOK RX12 93 12 45 (.array .int) := ⟨RX12, TX12, 60, tyX12, rfl, by decide, lfX12_93, wX12, tyX12_ok, nmX12, rfl, rfl, by decide +kernel⟩
theorem lfX12_96 : Cond.fieldLink RX12 96 (TX12 46).1 (TX12 46).2.1 (TX12 46).2.2.1 ∈ lw_tbl := in4 (List.mem_of_getElem? (i := 222) (by decide +kernel))
theorem fX12_96 : FOK RX12 96 12 46 := ⟨RX12, TX12, 60, rfl, by decide, lfX12_96, wX12⟩
theorem qX12_96 : PFOK RX12 96 12 46 (.array .int) := ⟨RX12, TX12, 60, tyX12, rfl, by decide, lfX12_96, wX12, tyX12_ok, nmX12, rfl, rfl, by decide +kernel⟩
theorem lfX12_99 : Cond.fieldLink RX12 99 (TX12 47).1 (TX12 47).2.1 (TX12 47).2.2.1 ∈ lw_tbl := in4 (List.mem_of_getElem? (i := 223) (by decide +kernel))
theorem fX12_99 : FOK RX12 99 12 47 := ⟨RX12, TX12, 60, rfl, by decide, lfX12_99, wX12⟩
theorem qX12_99 : PFOK RX12 99 12 47 (.array .int) := ⟨RX12, TX12, 60, tyX12, rfl, by decide, lfX12_99, wX12, tyX12_ok, nmX12, rfl, rfl, by decide +kernel⟩
theorem lfX12_102 : Cond.fieldLink RX12 102 (TX12 48).1 (TX12 48).2.1 (TX12 48).2.2.1 ∈ lw_tbl := in4 (List.mem_of_getElem? (i := 224) (by decide +kernel))
theorem fX12_102 : FOK RX12 102 12 48 := ⟨RX12, TX12, 60, rfl, by decide, lfX12_102, wX12⟩
theorem qX12_102 : PFOK RX12 102 12 48 (.array .int) := ⟨RX12, TX12, 60, tyX12, rfl, by decide, lfX12_102, wX12, tyX12_ok, nmX12, rfl, rfl, by decide +kernel⟩
theorem lfX12_330 : Cond.fieldLink RX12 330 (TX12 49).1 (TX12 49).2.1 (TX12 49).2.2.1 ∈ lw_tbl := in4 (List.mem_of_getElem? (i := 225) (by decide +kernel))
theorem fX12_330 : FOK RX12 330 12 49 := ⟨RX12, TX12, 60, rfl, by decide, lfX12_330, wX12⟩
theorem pX12_330 : POK RX12 330 12 49 .int := ⟨RX12, TX12, 60, tyX12, rfl, by decide, lfX12_330, wX12, tyX12_ok, nmX12, rfl, by decide +kernel⟩
theorem lfX12_337 : Cond.fieldLink RX12 337 (TX12 50).1 (TX12 50).2.1 (TX12 50).2.2.1 ∈ lw_tbl := in4 (List.mem_of_getElem? (i := 226) (by decide +kernel))
theorem fX12_337 : FOK RX12 337 12 50 := ⟨RX12, TX12, 60, rfl, by decide, lfX12_337, wX12⟩
theorem pX12_337 : POK RX12 337 12 50 .int := ⟨RX12, TX12, 60, tyX12, rfl, by decide, lfX12_337, wX12, tyX12_ok, nmX12, rfl, by decide +kernel⟩
theorem lfX12_105 : Cond.fieldLink RX12 105 (TX12 51).1 (TX12 51).2.1 (TX12 51).2.2.1 ∈ lw_tbl := in4 (List.mem_of_getElem? (i := 227) (by decide +kernel))
theorem fX12_105 : FOK RX12 105 12 51 := ⟨RX12, TX12, 60, rfl, by decide, lfX12_105, wX12⟩
theorem qX12_105 : PFOK RX12 105 12 51 (.array .int) := ⟨RX12, TX12, 60, tyX12, rfl, by decide, lfX12_105, wX12, tyX12_ok, nmX12, rfl, rfl, by decide +kernel⟩
theorem lfX12_108 : Cond.fieldLink RX12 108 (TX12 52).1 (TX12 52).2.1 (TX12 52).2.2.1 ∈ lw_tbl := in4 (List.mem_of_getElem? (i := 228) (by decide +kernel))
theorem fX12_108 : FOK RX12 108 12 52 := ⟨RX12, TX12, 60, rfl, by decide, lfX12_108, wX12⟩
theorem qX12_108 : PFOK RX12 108 12 52 (.array .int) := ⟨RX12, TX12, 60, tyX12, rfl, by decide, lfX12_108, wX12, tyX12_ok, nmX12, rfl, rfl, by decide +kernel⟩
theorem lfX12_111 : Cond.fieldLink RX12 111 (TX12 53).1 (TX12 53).2.1 (TX12 53).2.2.1 ∈ lw_tbl := in4 (List.mem_of_getElem? (i := 229) (by decide +kernel))
theorem fX12_111 : FOK RX12 111 12 53 := ⟨RX12, TX12, 60, rfl, by decide, lfX12_111, wX12⟩
theorem qX12_111 : PFOK RX12 111 12 53 (.array .int) := ⟨RX12, TX12, 60, tyX12, rfl, by decide, lfX12_111, wX12, tyX12_ok, nmX12, rfl, rfl, by decide +kernel⟩
theorem lfX12_114 : Cond.fieldLink RX12 114 (TX12 54).1 (TX12 54).2.1 (TX12 54).2.2.1 ∈ lw_tbl := in4 (List.mem_of_getElem? (i := 230) (by decide +kernel))
theorem fX12_114 : FOK RX12 114 12 54 := ⟨RX12, TX12, 60, rfl, by decide, lfX12_114, wX12⟩
theorem qX12_114 : PFOK RX12 114 12 54 (.array .int) := ⟨RX12, TX12, 60, tyX12, rfl, by decide, lfX12_114, wX12, tyX12_ok, nmX12, rfl, rfl, by decide +kernel⟩
theorem lfX12_117 : Cond.fieldLink RX12 117 (TX12 55).1 (TX12 55).2.1 (TX12 55).2.2.1 ∈ lw_tbl := in4 (List.mem_of_getElem? (i := 231) (by decide +kernel))
theorem fX12_117 : FOK RX12 117 12 55 := ⟨RX12, TX12, 60, rfl, by decide, lfX12_117, wX12⟩
theorem qX12_117 : PFOK RX12 117 12 55 (.array .int) := ⟨RX12, TX12, 60, tyX12, rfl, by decide, lfX12_117, wX12, tyX12_ok, nmX12, rfl, rfl, by decide +kernel⟩
theorem lfX12_120 : Cond.fieldLink RX12 120 (TX12 56).1 (TX12 56).2.1 (TX12 56).2.2.1 ∈ lw_tbl := in4 (List.mem_of_getElem? (i := 232) (by decide +kernel))
theorem fX12_120 : FOK RX12 120 12 56 := ⟨RX12, TX12, 60, rfl, by decide, lfX12_120, wX12⟩
theorem qX12_120 : PFOK RX12 120 12 56 (.array .int) := ⟨RX12, TX12, 60, tyX12, rfl, by decide, lfX12_120, wX12, tyX12_ok, nmX12, rfl, rfl, by decide +kernel⟩
theorem lfX12_123 : Cond.fieldLink RX12 123 (TX12 57).1 (TX12 57).2.1 (TX12 57).2.2.1 ∈ lw_tbl := in4 (List.mem_of_getElem? (i := 233) (by decide +kernel))
theorem fX12_123 : FOK RX12 123 12 57 := ⟨RX12, TX12, 60, rfl, by decide, lfX12_123, wX12⟩
theorem qX12_123 : PFOK RX12 123 12 57 (.array .int) := ⟨RX12, TX12, 60, tyX12, rfl, by decide, lfX12_123, wX12, tyX12_ok, nmX12, rfl, rfl, by decide +kernel⟩
theorem lfX12_126 : Cond.fieldLink RX12 126 (TX12 58).1 (TX12 58).2.1 (TX12 58).2.2.1 ∈ lw_tbl := in4 (List.mem_of_getElem? (i := 234) (by decide +kernel))
theorem fX12_126 : FOK RX12 126 12 58 := ⟨RX12, TX12, 60, rfl, by decide, lfX12_126, wX12⟩
theorem qX12_126 : PFOK RX12 126 12 58 (.array .int) := ⟨RX12, TX12, 60, tyX12, rfl, by decide, lfX12_126, wX12, tyX12_ok, nmX12, rfl, rfl, by decide +kernel⟩
theorem lfX12_129 : Cond.fieldLink RX12 129 (TX12 59).1 (TX12 59).2.1 (TX12 59).2.2.1 ∈ lw_tbl := in4 (List.mem_of_getElem? (i := 235) (by decide +kernel))
theorem fX12_129 : FOK RX12 129 12 59 := ⟨RX12, TX12, 60, rfl, by decide, lfX12_129, wX12⟩
theorem qX12_129 : PFOK RX12 129 12 59 (.array .int) := ⟨RX12, TX12, 60, tyX12, rfl, by decide, lfX12_129, wX12, tyX12_ok, nmX12, rfl, rfl, by decide +kernel⟩
theorem kL_17 : Cond.methodLink RL 17 yX12_horse ∈ lw_tbl := in5 (List.mem_of_getElem? (i := 117) (by decide +kernel))
theorem kL_22 : Cond.methodLink RL 22 yX12_lame ∈ lw_tbl := in5 (List.mem_of_getElem? (i := 121) (by decide +kernel))
theorem kX12_142 : Cond.methodLink RX12 142 yX12_isHorse ∈ lw_tbl := in5 (List.mem_of_getElem? (i := 125) (by decide +kernel))
theorem kL_27 : Cond.methodLink RL 27 yX12_field ∈ lw_tbl := in5 (List.mem_of_getElem? (i := 129) (by decide +kernel))
theorem kX12_146 : Cond.methodLink RX12 146 yX12_isField ∈ lw_tbl := in5 (List.mem_of_getElem? (i := 133) (by decide +kernel))
theorem kL_32 : Cond.methodLink RL 32 yX12_shut ∈ lw_tbl := in5 (List.mem_of_getElem? (i := 136) (by decide +kernel))
theorem ccX12_149 : Cond.constant RX12 149 (100000) ∈ lw_tbl := in5 (List.mem_of_getElem? (i := 140) (by decide +kernel))
theorem kL_37 : Cond.methodLink RL 37 yX12_gate ∈ lw_tbl := in5 (List.mem_of_getElem? (i := 141) (by decide +kernel))
theorem kL_42 : Cond.methodLink RL 42 yX12_feed ∈ lw_tbl := in5 (List.mem_of_getElem? (i := 145) (by decide +kernel))
theorem kX12_153 : Cond.methodLink RX12 153 yX12_four ∈ lw_tbl := in5 (List.mem_of_getElem? (i := 149) (by decide +kernel))
theorem kL_47 : Cond.methodLink RL 47 yX12_end ∈ lw_tbl := in5 (List.mem_of_getElem? (i := 153) (by decide +kernel))
theorem kL_52 : Cond.methodLink RL 52 yX12_rules ∈ lw_tbl := in5 (List.mem_of_getElem? (i := 157) (by decide +kernel))
theorem kX12_267 : Cond.methodLink RX12 267 yX12_next ∈ lw_tbl := in5 (List.mem_of_getElem? (i := 161) (by decide +kernel))
theorem kX12_163 : Cond.methodLink RX12 163 yX12_here ∈ lw_tbl := in5 (List.mem_of_getElem? (i := 165) (by decide +kernel))
theorem kX12_180 : Cond.methodLink RX12 180 yX12_isLetter ∈ lw_tbl := in5 (List.mem_of_getElem? (i := 169) (by decide +kernel))
theorem kX12_183 : Cond.methodLink RX12 183 yX12_isDigit ∈ lw_tbl := in5 (List.mem_of_getElem? (i := 172) (by decide +kernel))
theorem kX12_186 : Cond.methodLink RX12 186 yX12_isSign ∈ lw_tbl := in5 (List.mem_of_getElem? (i := 175) (by decide +kernel))
theorem ccX12_250 : Cond.constantLong RX12 250 (1885432178) ∈ lw_tbl := in5 (List.mem_of_getElem? (i := 178) (by decide +kernel))
theorem kX12_273 : Cond.methodLink RX12 273 yX12_isWord ∈ lw_tbl := in5 (List.mem_of_getElem? (i := 179) (by decide +kernel))
theorem ccX12_248 : Cond.constantLong RX12 248 (482854658917) ∈ lw_tbl := in5 (List.mem_of_getElem? (i := 183) (by decide +kernel))
theorem kX12_258 : Cond.methodLink RX12 258 yX12_wrong ∈ lw_tbl := in5 (List.mem_of_getElem? (i := 184) (by decide +kernel))
theorem kX12_284 : Cond.methodLink RX12 284 yX12_readE ∈ lw_tbl := in5 (List.mem_of_getElem? (i := 188) (by decide +kernel))
theorem kX12_233 : Cond.methodLink RX12 233 yX12_isOpen ∈ lw_tbl := in5 (List.mem_of_getElem? (i := 192) (by decide +kernel))
theorem kX12_237 : Cond.methodLink RX12 237 yX12_sign ∈ lw_tbl := in5 (List.mem_of_getElem? (i := 196) (by decide +kernel))
theorem kX12_245 : Cond.methodLink RX12 245 yX12_settle ∈ lw_tbl := in5 (List.mem_of_getElem? (i := 200) (by decide +kernel))
theorem kX12_229 : Cond.methodLink RX12 229 yX12_step ∈ lw_tbl := in5 (List.mem_of_getElem? (i := 204) (by decide +kernel))
theorem kX12_270 : Cond.methodLink RX12 270 yX12_hold ∈ lw_tbl := in5 (List.mem_of_getElem? (i := 208) (by decide +kernel))
theorem ccX12_254 : Cond.constantLong RX12 254 (6385252) ∈ lw_tbl := in5 (List.mem_of_getElem? (i := 212) (by decide +kernel))
theorem ccX12_252 : Cond.constantLong RX12 252 (28530) ∈ lw_tbl := in5 (List.mem_of_getElem? (i := 213) (by decide +kernel))
theorem kX12_277 : Cond.methodLink RX12 277 yX12_settleOnes ∈ lw_tbl := in5 (List.mem_of_getElem? (i := 214) (by decide +kernel))
theorem kX12_241 : Cond.methodLink RX12 241 yX12_operand ∈ lw_tbl := in5 (List.mem_of_getElem? (i := 218) (by decide +kernel))
theorem ccX12_256 : Cond.constantLong RX12 256 (7237492) ∈ lw_tbl := in5 (List.mem_of_getElem? (i := 222) (by decide +kernel))
theorem kX12_261 : Cond.methodLink RX12 261 yX12_named ∈ lw_tbl := in5 (List.mem_of_getElem? (i := 223) (by decide +kernel))
theorem ccX12_192 : Cond.constantLong RX12 192 (448546370405) ∈ lw_tbl := in5 (List.mem_of_getElem? (i := 227) (by decide +kernel))
theorem ccX12_194 : Cond.constantLong RX12 194 (1802071652) ∈ lw_tbl := in5 (List.mem_of_getElem? (i := 228) (by decide +kernel))
theorem ccX12_196 : Cond.constantLong RX12 196 (6383461) ∈ lw_tbl := in5 (List.mem_of_getElem? (i := 229) (by decide +kernel))
theorem ccX12_198 : Cond.constantLong RX12 198 (1684109683) ∈ lw_tbl := in5 (List.mem_of_getElem? (i := 230) (by decide +kernel))
theorem ccX12_200 : Cond.constantLong RX12 200 (1818324325) ∈ lw_tbl := in5 (List.mem_of_getElem? (i := 231) (by decide +kernel))
theorem ccX12_202 : Cond.constantLong RX12 202 (439854918756) ∈ lw_tbl := in5 (List.mem_of_getElem? (i := 232) (by decide +kernel))
theorem ccX12_204 : Cond.constantLong RX12 204 (7824756) ∈ lw_tbl := in5 (List.mem_of_getElem? (i := 233) (by decide +kernel))
theorem ccX12_206 : Cond.constantLong RX12 206 (1752135026) ∈ lw_tbl := in5 (List.mem_of_getElem? (i := 234) (by decide +kernel))
theorem ccX12_208 : Cond.constantLong RX12 208 (114827870823730) ∈ lw_tbl := in5 (List.mem_of_getElem? (i := 235) (by decide +kernel))
theorem ccX12_210 : Cond.constantLong RX12 210 (461330342962) ∈ lw_tbl := in5 (List.mem_of_getElem? (i := 236) (by decide +kernel))
theorem ccX12_212 : Cond.constantLong RX12 212 (1634166066) ∈ lw_tbl := in5 (List.mem_of_getElem? (i := 237) (by decide +kernel))
theorem ccX12_214 : Cond.constantLong RX12 214 (431132078898) ∈ lw_tbl := in5 (List.mem_of_getElem? (i := 238) (by decide +kernel))
theorem ccX12_216 : Cond.constantLong RX12 216 (465491027250) ∈ lw_tbl := in5 (List.mem_of_getElem? (i := 239) (by decide +kernel))
theorem ccX12_218 : Cond.constantLong RX12 218 (1734440037) ∈ lw_tbl := in6 (List.mem_of_getElem? (i := 0) (by decide +kernel))
theorem kL_56 : Cond.methodLink RL 56 yX12_fault ∈ lw_tbl := in6 (List.mem_of_getElem? (i := 1) (by decide +kernel))
theorem kL_60 : Cond.methodLink RL 60 yX12_may ∈ lw_tbl := in6 (List.mem_of_getElem? (i := 5) (by decide +kernel))
theorem kX12_293 : Cond.methodLink RX12 293 yX12_tell ∈ lw_tbl := in6 (List.mem_of_getElem? (i := 9) (by decide +kernel))
theorem kX12_296 : Cond.methodLink RX12 296 yX12_hold_ ∈ lw_tbl := in6 (List.mem_of_getElem? (i := 13) (by decide +kernel))
theorem kX12_290 : Cond.methodLink RX12 290 yX12_holds ∈ lw_tbl := in6 (List.mem_of_getElem? (i := 17) (by decide +kernel))
theorem kL_65 : Cond.methodLink RL 65 yX12_meet ∈ lw_tbl := in6 (List.mem_of_getElem? (i := 21) (by decide +kernel))
theorem kX12_299 : Cond.methodLink RX12 299 yX12_meetsFrom ∈ lw_tbl := in6 (List.mem_of_getElem? (i := 25) (by decide +kernel))
theorem kL_69 : Cond.methodLink RL 69 yX12_plan ∈ lw_tbl := in6 (List.mem_of_getElem? (i := 29) (by decide +kernel))
theorem kX12_303 : Cond.methodLink RX12 303 yX12_nextOf ∈ lw_tbl := in6 (List.mem_of_getElem? (i := 33) (by decide +kernel))
theorem kX12_309 : Cond.methodLink RX12 309 yX12_lastOf ∈ lw_tbl := in6 (List.mem_of_getElem? (i := 37) (by decide +kernel))
theorem kX12_312 : Cond.methodLink RX12 312 yX12_fits ∈ lw_tbl := in6 (List.mem_of_getElem? (i := 41) (by decide +kernel))
theorem kX12_316 : Cond.methodLink RX12 316 yX12_may ∈ lw_tbl := in6 (List.mem_of_getElem? (i := 45) (by decide +kernel))
theorem kX12_320 : Cond.methodLink RX12 320 yX12_meet ∈ lw_tbl := in6 (List.mem_of_getElem? (i := 46) (by decide +kernel))
theorem kL_73 : Cond.methodLink RL 73 yX12_tries ∈ lw_tbl := in6 (List.mem_of_getElem? (i := 47) (by decide +kernel))
theorem kL_77 : Cond.methodLink RL 77 yX12_out ∈ lw_tbl := in6 (List.mem_of_getElem? (i := 51) (by decide +kernel))
theorem kL_81 : Cond.methodLink RL 81 yX12_stuck ∈ lw_tbl := in6 (List.mem_of_getElem? (i := 55) (by decide +kernel))
theorem kL_86 : Cond.methodLink RL 86 yX12_lot ∈ lw_tbl := in6 (List.mem_of_getElem? (i := 59) (by decide +kernel))
theorem kX12_324 : Cond.methodLink RX12 324 yX12_isBin ∈ lw_tbl := in6 (List.mem_of_getElem? (i := 63) (by decide +kernel))
theorem kL_90 : Cond.methodLink RL 90 yX12_takes ∈ lw_tbl := in6 (List.mem_of_getElem? (i := 66) (by decide +kernel))
theorem kL_94 : Cond.methodLink RL 94 yX12_price ∈ lw_tbl := in6 (List.mem_of_getElem? (i := 70) (by decide +kernel))
theorem kL_98 : Cond.methodLink RL 98 yX12_falls ∈ lw_tbl := in6 (List.mem_of_getElem? (i := 74) (by decide +kernel))
theorem kL_102 : Cond.methodLink RL 102 yX12_night ∈ lw_tbl := in6 (List.mem_of_getElem? (i := 78) (by decide +kernel))
theorem kX12_327 : Cond.methodLink RX12 327 yX12_firstGoes ∈ lw_tbl := in6 (List.mem_of_getElem? (i := 82) (by decide +kernel))
theorem kX12_333 : Cond.methodLink RX12 333 yX12_serve ∈ lw_tbl := in6 (List.mem_of_getElem? (i := 86) (by decide +kernel))
theorem kL_106 : Cond.methodLink RL 106 yX12_bin ∈ lw_tbl := in6 (List.mem_of_getElem? (i := 90) (by decide +kernel))
theorem kL_110 : Cond.methodLink RL 110 yX12_foretold ∈ lw_tbl := in6 (List.mem_of_getElem? (i := 94) (by decide +kernel))
theorem kL_114 : Cond.methodLink RL 114 yX12_work ∈ lw_tbl := in6 (List.mem_of_getElem? (i := 98) (by decide +kernel))
theorem kL_118 : Cond.methodLink RL 118 yX12_due ∈ lw_tbl := in6 (List.mem_of_getElem? (i := 102) (by decide +kernel))
theorem kL_123 : Cond.methodLink RL 123 yX12_bill ∈ lw_tbl := in6 (List.mem_of_getElem? (i := 106) (by decide +kernel))
theorem kL_127 : Cond.methodLink RL 127 yX12_lacked ∈ lw_tbl := in6 (List.mem_of_getElem? (i := 110) (by decide +kernel))
theorem kL_131 : Cond.methodLink RL 131 yX12_about ∈ lw_tbl := in6 (List.mem_of_getElem? (i := 114) (by decide +kernel))
theorem obj1 : Cond.instanceMethod Lib.objectInit ∈ lw_tbl := in1 (List.mem_of_getElem? (i := 27) (by decide +kernel))
theorem obj2 : Cond.code Lib.objectInit ⟨#[0xb1]⟩ 1 none ∈ lw_tbl := in1 (List.mem_of_getElem? (i := 28) (by decide +kernel))
theorem arr_int : Cond.arrayClass .int ∈ lw_tbl := in1 (List.mem_of_getElem? (i := 57) (by decide +kernel))
theorem arr_boolean : Cond.arrayClass .boolean ∈ lw_tbl := in1 (List.mem_of_getElem? (i := 58) (by decide +kernel))
end
section
section JX
variable {Ro : ROs} {d bc bs : Nat} {md : MD} {pc k : Nat} {ls : List (Option Value)} {st : List Value} {h : PH} {Φ : Option Int32 → PH → Prop}
theorem J_mmax {x y : Int32} {idx : Nat} (hd : decode md.2.1 pc = .ok (.invokestatic idx, 3)) (hl : Cond.methodLink md.1.cls idx yJ9_max_7cf53 ∈ lw_tbl) (hs : Cond.static yJ9_max_7cf53 ∈ lw_tbl) (hi : Cond.initialized "java/lang/Math" ∈ lw_tbl) (hc : Cond.code Lib.Math.max.name Lib.Math.max.code 2 (some .int) ∈ lw_tbl) (hr : (st.map fun v => v.category).sum ≤ 8) (kk : J Ro (d + 1) bc bs md (pc + 3) ls (.int (if x < y then y else x) :: st) h Φ) : J Ro (d + 1) bc bs md pc ls (.int y :: .int x :: st) h Φ := by
  intro p l e R s m args below meth c H locs cells slots mc ms Q z b dC dI dA las hC hB hK hW hL hR
  have hT := hC.2.2.2.2.2.2.2.1
  have h3 := hC.2.2.2.2.2.2.2.2.2
  exact va_mmax hC.1 hC.2.1 (hC.2.2.2.1.trans hL.1.symm) hC.2.2.2.2.1 (hT.use hl rfl args) (hT.use hs rfl args) (hT.use hi rfl args) (hT.use hc rfl args) (Nat.le_trans (by omega) hC.2.2.2.2.2.2.2.2.1) (by rw [cv_cats]; omega) (by omega) (by omega) hd (kk p l e R s m args below meth c H locs cells slots mc ms Q z b dC dI dA las hC hB hK hW hL hR)
theorem J_mmin {x y : Int32} {idx : Nat} (hd : decode md.2.1 pc = .ok (.invokestatic idx, 3)) (hl : Cond.methodLink md.1.cls idx yJ9_min_7cf53 ∈ lw_tbl) (hs : Cond.static yJ9_min_7cf53 ∈ lw_tbl) (hi : Cond.initialized "java/lang/Math" ∈ lw_tbl) (hc : Cond.code Lib.Math.min.name Lib.Math.min.code 2 (some .int) ∈ lw_tbl) (hr : (st.map fun v => v.category).sum ≤ 8) (kk : J Ro (d + 1) bc bs md (pc + 3) ls (.int (if y < x then y else x) :: st) h Φ) : J Ro (d + 1) bc bs md pc ls (.int y :: .int x :: st) h Φ := by
  intro p l e R s m args below meth c H locs cells slots mc ms Q z b dC dI dA las hC hB hK hW hL hR
  have hT := hC.2.2.2.2.2.2.2.1
  have h3 := hC.2.2.2.2.2.2.2.2.2
  exact va_mmin hC.1 hC.2.1 (hC.2.2.2.1.trans hL.1.symm) hC.2.2.2.2.1 (hT.use hl rfl args) (hT.use hs rfl args) (hT.use hi rfl args) (hT.use hc rfl args) (Nat.le_trans (by omega) hC.2.2.2.2.2.2.2.2.1) (by rw [cv_cats]; omega) (by omega) (by omega) hd (kk p l e R s m args below meth c H locs cells slots mc ms Q z b dC dI dA las hC hB hK hW hL hR)
theorem jw_nn (z : Int32) (hz : ¬ z < 0) : z.toInt = (z.toNatClampNeg : Int) := by
  have hz0 : (0 : Int) ≤ z.toInt := by simpa using Int32.le_iff_toInt_le.mp (Int32.not_lt.mp hz)
  show z.toInt = ((z.toInt.toNat : Nat) : Int)
  omega
set_option maxHeartbeats 2000000 in
theorem J_copy {idx k0 k1 n0 n1 : Nat} {f g : Nat → Int32} {sp dp n : Int32} (hd : decode md.2.1 pc = .ok (.invokestatic idx, 3)) (hl : Cond.methodLink md.1.cls idx arraycopyName ∈ lw_tbl) (hnat : Cond.native arraycopyName ∈ lw_tbl) (hstat : Cond.static arraycopyName ∈ lw_tbl) (hini : Cond.initialized "java/lang/System" ∈ lw_tbl) (hr : (st.map fun v => v.category).sum ≤ 8)
    (hk0 : k0 < h.1) (he0 : h.2 k0 = .inl (0, n0, .inl f)) (hk1 : k1 < h.1) (he1 : h.2 k1 = .inl (0, n1, .inl g)) (h1 : ¬ sp < 0) (h2 : ¬ dp < 0) (h3 : ¬ n < 0) (h4 : sp.toNatClampNeg + n.toNatClampNeg ≤ n0) (h5 : dp.toNatClampNeg + n.toNatClampNeg ≤ n1)
    (kk : J Ro (d + 1) bc bs md (pc + 3) ls st (h.1, va_up h.2 k1 (.inl (0, n1, .inl (va_cpy f g sp.toNatClampNeg dp.toNatClampNeg n.toNatClampNeg)))) Φ) : J Ro (d + 1) bc bs md pc ls (.int n :: .int dp :: .ref k1 :: .int sp :: .ref k0 :: st) h Φ := by
  intro p l e R s m args below meth c H locs cells slots mc ms Q z b dC dI dA las hC hB hK hW hL hR
  have hT := hC.2.2.2.2.2.2.2.1
  have hlo := hC.2.2.2.2.2.2.2.2.2
  have ha0 : (wsOf (adF z b) dA h)[k0]? = some (adF z b k0, .inl (dA 0, n0, .inl f)) := by rw [wsOf_at hk0, he0]; rfl
  have ha1 : (wsOf (adF z b) dA h)[k1]? = some (adF z b k1, .inl (dA 0, n1, .inl g)) := by rw [wsOf_at hk1, he1]; rfl
  have hc0 : H[adF z b k0]? = some (vp_cell (dA 0) (n0, .inl f)) := hW.2.2.1 k0 _ ha0
  have hc1 : H[adF z b k1]? = some (vp_cell (dA 0) (n1, .inl g)) := hW.2.2.1 k1 _ ha1
  have hcat : ((st.map (cv (adF z b))).map fun v => v.category).sum ≤ 8 := by rw [cv_cats]; exact hr
  intro T hTT X
  obtain ⟨-, q0, hq0, cm0, hqk0⟩ := (hK.1.2 0 (dA 0, .int) rfl).1 n0 (fun j => .int (f j))
  obtain ⟨-, q1, hq1, cm1, hqk1⟩ := (hK.1.2 0 (dA 0, .int) rfl).1 n1 (fun j => .int (g j))
  obtain ⟨vm', X', step⟩ := X.arraycopy hC.1 hC.2.2.2.2.1 (hT.use hl rfl args) (hT.use hnat rfl args) (hT.use hstat rfl args) (hT.use hini rfl args) (src := adF z b k0) (dst := adF z b k1) (cs := vp_cell (dA 0) (n0, .inl f)) (cd := vp_cell (dA 0) (n1, .inl g)) (srcPos := sp) (destPos := dp) (n := n) (by rw [hTT]; exact hc0) (by rw [hTT]; exact hc1)
    (fun _ h => by cases h) (fun _ h => by cases h) (fun h => by cases h) (fun h => by cases h) hq0 hq1 hqk0 hqk1 (by rfl) h1 h2 h3
    (by rw [jw_nn sp h1, jw_nn n h3]; show ¬ _ > ((arrV (dA 0) n0 (fun j => .int (f j))).slots.size : Int); rw [arrV_size]; omega)
    (by rw [jw_nn dp h2, jw_nn n h3]; show ¬ _ > ((arrV (dA 0) n1 (fun j => .int (g j))).slots.size : Int); rw [arrV_size]; omega)
    (fun vm₁ _ i hi => by
      have e : (vp_cell (dA 0) (n0, .inl f)).slots.getD (sp.toNatClampNeg + i) .null = .int (f (sp.toNatClampNeg + i)) := by
        show (arrV (dA 0) n0 (fun j => .int (f j))).slots.getD _ _ = _
        rw [Array.getD_eq_getD_getElem?, arrV_read _ _ (by omega)]
        rfl
      rw [e]
      exact ⟨rfl, trivial⟩)
    (g := F0 m pc las (.int n :: .int dp :: .ref (adF z b k1) :: .int sp :: .ref (adF z b k0) :: st.map (cv (adF z b)))) rfl (by rw [hC.2.2.2.1]; exact hL.1) (rest := st.map (cv (adF z b))) rfl (by rw [hC.2.1]; exact hd) (Nat.le_trans (by omega) hC.2.2.2.2.2.2.2.2.1) (by
      have hw : nativeFrameWords "java/lang/System" "arraycopy" 5 + 11 ≤ 50 := by decide
      show 2 * 0 + _ + _ ≤ _
      omega)
  rw [show copied (vp_cell (dA 0) (n0, .inl f)) (vp_cell (dA 0) (n1, .inl g)) sp dp n = vp_cell (dA 0) (n1, .inl (va_cpy f g sp.toNatClampNeg dp.toNatClampNeg n.toNatClampNeg)) from va_copied (fun z => .int z) (dA 0) (dA 0) f g h4] at X' step
  have hlt : adF z b k1 < H.size := (Array.getElem?_eq_some_iff.mp hc1).1
  have hheap : ((T.setVm vm').setCell (adF z b k1) (vp_cell (dA 0) (n1, .inl (va_cpy f g sp.toNatClampNeg dp.toNatClampNeg n.toNatClampNeg)))).heap = H.setIfInBounds (adF z b k1) (vp_cell (dA 0) (n1, .inl (va_cpy f g sp.toNatClampNeg dp.toNatClampNeg n.toNatClampNeg))) := by rw [← hTT]; rfl
  have oq : ∀ q : Nat, q ≠ adF z b k1 → (H.setIfInBounds (adF z b k1) (vp_cell (dA 0) (n1, .inl (va_cpy f g sp.toNatClampNeg dp.toNatClampNeg n.toNatClampNeg))))[q]? = H[q]? := fun q hq => by simp [Array.getElem?_setIfInBounds, Ne.symm hq]
  have hD := wsOf_D (z := z) (b := b) (dA := dA) hW.2.1
  have hA := hD.2 k1 _ ha1
  have hP := hW.2.2.1.set hD ha1 (show va_at (dC, dI) vwCl (adF z b k1, .inl (dA 0, n1, .inl (va_cpy f g sp.toNatClampNeg dp.toNatClampNeg n.toNatClampNeg))) (H.setIfInBounds (adF z b k1) (vp_cell (dA 0) (n1, .inl (va_cpy f g sp.toNatClampNeg dp.toNatClampNeg n.toNatClampNeg)))) from (show (H.setIfInBounds (adF z b k1) _)[adF z b k1]? = some _ by simp [Array.getElem?_setIfInBounds, hlt])) oq
  rw [show (adF z b k1, (Sum.inl (dA 0, n1, .inl (va_cpy f g sp.toNatClampNeg dp.toNatClampNeg n.toNatClampNeg)) : va_E)) = (adF z b k1, cE (adF z b) dA (.inl (0, n1, .inl (va_cpy f g sp.toNatClampNeg dp.toNatClampNeg n.toNatClampNeg)))) from rfl, wsOf_set hk1] at hP
  obtain ⟨t, a1, b1⟩ := kk p l e R s m args below meth c _ _ cells slots mc ms Q z b dC dI dA las hC hB hK ⟨by simp; exact hW.1, hW.2.1, hP, by simp; exact hW.2.2.2.1, fun q g1 g2 => by
      rw [oq q (fun e => g2 (by rw [e]; exact hA))]
      exact hW.2.2.2.2.1 q g1 g2, fun q hq => by
      rcases List.mem_append.mp hq with h | h
      · exact hW.2.2.2.2.2 q h
      · obtain ⟨z, -, hz⟩ := List.mem_map.mp h
        rw [← hz]
        exact hA⟩ hL hR _ hheap X'
  exact ⟨t, step t a1, b1⟩
end JX
end
section
section JS
variable {Ro : ROs} {d bc bs bc2 bs2 : Nat} {md mc : MD} {pc n idx : Nat} {ls : List (Option Value)} {st rest As : List Value} {h : PH} {Φ : Option Int32 → PH → Prop}
theorem adF_x {z : Nat} {b : Nat → Nat} (i : Nat) : adF z b (jBig + i) = b (jBig + i) := if_neg (Nat.not_lt.mpr (Nat.le_add_right _ _))
theorem J_pop {v : Value} (hd : decode md.2.1 pc = .ok (.pop, 1)) (hv : v.category = 1) (k : J Ro d bc bs md (pc + 1) ls st h Φ) : J Ro d bc bs md pc ls (v :: st) h Φ := by
  intro p l e R s m args below meth c H locs cells slots mc ms Q z b dC dI dA las hC hB hK hW hL hR
  exact lv_pop hC.1 hC.2.1 hd (by rw [cv_cat]; exact hv) (k p l e R s m args below meth c H locs cells slots mc ms Q z b dC dI dA las hC hB hK hW hL hR)
theorem J_i2c {x v : Int32} (hd : decode md.2.1 pc = .ok (.i2c, 1)) (hv : (x.toUInt32 % 65536).toInt32 = v) (k : J Ro d bc bs md (pc + 1) ls (.int v :: st) h Φ) : J Ro d bc bs md pc ls (.int x :: st) h Φ := by
  intro p l e R s m args below meth c H locs cells slots mc ms Q z b dC dI dA las hC hB hK hW hL hR
  exact lv_i2c hC.1 hC.2.1 hd hv (k p l e R s m args below meth c H locs cells slots mc ms Q z b dC dI dA las hC hB hK hW hL hR)
theorem J_ldcS (hd : decode md.2.1 pc = .ok (.ldc 70, 2)) (ho : md.1.cls = "LiveryYard$Tokens") (k : J Ro d bc bs md (pc + 2) ls (.ref (jBig + 1) :: st) h Φ) : J Ro d bc bs md pc ls st h Φ := by
  intro p l e R s m args below meth c H locs cells slots mc ms Q z b dC dI dA las hC hB hK hW hL hR
  have k2 := k p l e R s m args below meth c H locs cells slots mc ms Q z b dC dI dA las hC hB hK hW hL hR
  refine va_ldcS hC.1 hC.2.1 (own := "LiveryYard$Tokens") (by rw [← ho]; exact hC.2.2.2.2.1) hK.2.1.2.1 hd ?_
  rw [← adF_x (z := z) (b := b) 1]
  exact k2
theorem J_getV (hd : decode md.2.1 pc = .ok (.getfield idx, 3)) (hl : Cond.fieldLink md.1.cls idx "java/lang/String" "value" "[B" ∈ lw_tbl) (k : J Ro d bc bs md (pc + 3) ls (.ref (jBig + 2) :: st) h Φ) : J Ro d bc bs md pc ls (.ref (jBig + 1) :: st) h Φ := by
  intro p l e R s m args below meth c H locs cells slots mc ms Q z b dC dI dA las hC hB hK hW hL hR
  have k2 := k p l e R s m args below meth c H locs cells slots mc ms Q z b dC dI dA las hC hB hK hW hL hR
  show W p l e R s m args below meth c H locs cells slots Q (F0 m pc las (.ref (adF z b (jBig + 1)) :: st.map (cv (adF z b))))
  rw [adF_x]
  refine vk_getf hC.1 hC.2.1 hK.2.1.2.2.2.2.1 hW.2.2.2 hC.2.2.2.2.1 (hC.2.2.2.2.2.2.2.1.use hl rfl args) (fun _ q => q) hd ?_
  rw [← adF_x (z := z) (b := b) 2]
  exact k2
theorem J_getC (hd : decode md.2.1 pc = .ok (.getfield idx, 3)) (hl : Cond.fieldLink md.1.cls idx "java/lang/String" "coder" "B" ∈ lw_tbl) (k : J Ro d bc bs md (pc + 3) ls (.int 0 :: st) h Φ) : J Ro d bc bs md pc ls (.ref (jBig + 1) :: st) h Φ := by
  intro p l e R s m args below meth c H locs cells slots mc ms Q z b dC dI dA las hC hB hK hW hL hR
  have k2 := k p l e R s m args below meth c H locs cells slots mc ms Q z b dC dI dA las hC hB hK hW hL hR
  show W p l e R s m args below meth c H locs cells slots Q (F0 m pc las (.ref (adF z b (jBig + 1)) :: st.map (cv (adF z b))))
  rw [adF_x]
  exact vk_getf hC.1 hC.2.1 hK.2.1.2.2.2.1 hW.2.2.2 hC.2.2.2.2.1 (hC.2.2.2.2.2.2.2.1.use hl rfl args) (fun _ q => q) hd k2
theorem J_cmp1 (hd : decode md.2.1 pc = .ok (.getstatic idx, 3)) (hl : Cond.fieldLink md.1.cls idx "java/lang/String" "COMPACT_STRINGS" "Z" ∈ lw_tbl) (k : J Ro d bc bs md (pc + 3) ls (.int 1 :: st) h Φ) : J Ro d bc bs md pc ls st h Φ := by
  intro p l e R s m args below meth c H locs cells slots mc ms Q z b dC dI dA las hC hB hK hW hL hR
  have k2 := k p l e R s m args below meth c H locs cells slots mc ms Q z b dC dI dA las hC hB hK hW hL hR
  exact va_gets hC.1 hC.2.1 hK.2.1.2.2.2.2.2.2.1 hW.2.2.2 hC.2.2.2.2.1 (hC.2.2.2.2.2.2.2.1.use hl rfl args) (fun _ q => q) hd k2
theorem J_frm (hd : decode md.2.1 pc = .ok (.getstatic idx, 3)) (hl : Cond.fieldLink md.1.cls idx "jdk/internal/util/Preconditions" "SIOOBE_FORMATTER" "Ljava/util/function/BiFunction;" ∈ lw_tbl) (k1 : J Ro d bc bs md (pc + 3) ls (.null :: st) h Φ) (k2 : J Ro d bc bs md (pc + 3) ls (.ref (jBig + 3) :: st) h Φ) : J Ro d bc bs md pc ls st h Φ := by
  intro p l e R s m args below meth c H locs cells slots mc ms Q z b dC dI dA las hC hB hK hW hL hR
  rcases hK.2.1.2.2.2.2.2.2.2 with hz | hz
  · have k3 := k1 p l e R s m args below meth c H locs cells slots mc ms Q z b dC dI dA las hC hB hK hW hL hR
    exact va_gets hC.1 hC.2.1 hz hW.2.2.2 hC.2.2.2.2.1 (hC.2.2.2.2.2.2.2.1.use hl rfl args) (fun _ q => q) hd k3
  · have k3 := k2 p l e R s m args below meth c H locs cells slots mc ms Q z b dC dI dA las hC hB hK hW hL hR
    refine va_gets hC.1 hC.2.1 hz hW.2.2.2 hC.2.2.2.2.1 (hC.2.2.2.2.2.2.2.1.use hl rfl args) (fun _ q => q) hd ?_
    rw [← adF_x (z := z) (b := b) 3]
    exact k3
theorem J_blen (hd : decode md.2.1 pc = .ok (.arraylength, 1)) (k : J Ro d bc bs md (pc + 1) ls (.int 152 :: st) h Φ) : J Ro d bc bs md pc ls (.ref (jBig + 2) :: st) h Φ := by
  intro p l e R s m args below meth c H locs cells slots mc ms Q z b dC dI dA las hC hB hK hW hL hR
  have k2 := k p l e R s m args below meth c H locs cells slots mc ms Q z b dC dI dA las hC hB hK hW hL hR
  show W p l e R s m args below meth c H locs cells slots Q (F0 m pc las (.ref (adF z b (jBig + 2)) :: st.map (cv (adF z b))))
  rw [adF_x]
  exact va_tlen hC.1 hC.2.1 hK.2.1.2.2.2.2.2.1 hW.2.2.2 (v := 152) (by decide) hd k2
theorem J_bald {i : Int32} (hd : decode md.2.1 pc = .ok (.baload, 1)) (hin : vp_in i 152) (k : J Ro d bc bs md (pc + 1) ls (.int (wBy.getD i.toNatClampNeg 0) :: st) h Φ) : J Ro d bc bs md pc ls (.int i :: .ref (jBig + 2) :: st) h Φ := by
  intro p l e R s m args below meth c H locs cells slots mc ms Q z b dC dI dA las hC hB hK hW hL hR
  have k2 := k p l e R s m args below meth c H locs cells slots mc ms Q z b dC dI dA las hC hB hK hW hL hR
  show W p l e R s m args below meth c H locs cells slots Q (F0 m pc las (.int i :: .ref (adF z b (jBig + 2)) :: st.map (cv (adF z b))))
  rw [adF_x]
  exact va_tb hC.1 hC.2.1 hK.2.1.2.2.2.2.2.1 hW.2.2.2 hin rfl hd k2
theorem J_callVS (hd : decode md.2.1 pc = .ok (.invokevirtual idx, 3)) (hl : Cond.methodLink md.1.cls idx mc.1 ∈ lw_tbl) (ho : MOKv mc n) (hs : mc.1.cls = "java/lang/String") (hn : As.length = n) (hlen : (entL (.ref (jBig + 1) :: As)).length ≤ mc.2.2.1) (hr : (rest.map fun v => v.category).sum ≤ 8)
    (hJ : J noRo d bc bs mc 0 (entL (.ref (jBig + 1) :: As)) [] h (fun r g => J Ro (d + 1) bc2 bs2 md (pc + 3) ls (pushR r rest) g Φ)) : J Ro (d + 1) (bc + bc2) (bs + bs2) md pc ls (As.reverse ++ .ref (jBig + 1) :: rest) h Φ := by
  intro p l e R s m args below meth c H locs cells slots mx ms Q z b dC dI dA las hC hB hK hW hL hR
  have hT := hC.2.2.2.2.2.2.2.1
  rw [jst]
  have hp := jpre (as := .ref (jBig + 1) :: As) hT hK hW
  have hrv : ∃ cell : Cell, H[adF z b (jBig + 1)]? = some cell ∧ cell.vm.isStatics = false ∧ s.vm.findClass mc.1.cls = some cell.cls := by
    rw [adF_x, hs]
    exact va_Orecv hK.2.1.2.2.1 hW.2.2.2
  refine jfin (va_runV (C := mc.1.cls) (b := adF z b (jBig + 1)) (As := As.map (cv (adF z b))) (Ts := []) (nL := md.2.2.1) (n := n) ⟨hC.1, hC.2.1, hC.2.2.2.1, hC.2.2.2.2.1, fun w q => by cases q⟩ (met_of_J ho.1.2.2.1 hlen hJ l z b dC dI dA) ⟨jcb ho.1 hl hT hC.2.2.2.2.2.2.2.2, hT.use ho.2.1 rfl args, hT.use ho.2.2 rfl args⟩ ⟨hp.1, hrv, hp.2⟩ rfl (by rw [List.length_map]; exact hn) hL.1 rfl (jrest hr) hd ⟨by omega, by omega⟩) hC hB hK hW.2.2.2 hL hR
end JS
abbrev mJ_length : MD := (yJ0_length_8abf5, cJ0_length_8abf5, 1, some .int)
abbrev mJ_coder : MD := (yJ0_coder_7d493, cJ0_coder_7d493, 1, some .byte)
abbrev mJ_charAt : MD := (yJ0_charAt_5068e, cJ0_charAt_5068e, 2, some .char)
abbrev mJ_isLatin1 : MD := (yJ0_isLatin1_aae02, cJ0_isLatin1_aae02, 1, some .boolean)
abbrev mJ_charAtL : MD := (yJ1_charAt_3b067, cJ1_charAt_3b067, 2, some .char)
abbrev mJ_checkIndex : MD := (yJ0_checkIndex_df160, cJ0_checkIndex_df160, 2, none)
abbrev mJ_checkP : MD := (yJ3_checkIndex_8e157, cJ3_checkIndex_8e157, 3, some .int)
theorem iJ0 : Cond.initialized "java/lang/String" ∈ lw_tbl := in1 (List.mem_of_getElem? (i := 14) (by decide +kernel))
theorem iJ1 : Cond.initialized "java/lang/StringLatin1" ∈ lw_tbl := in1 (List.mem_of_getElem? (i := 15) (by decide +kernel))
theorem iJ3 : Cond.initialized "jdk/internal/util/Preconditions" ∈ lw_tbl := in1 (List.mem_of_getElem? (i := 16) (by decide +kernel))
theorem oJ_length : MOKv mJ_length 0 := ⟨⟨in2 (List.mem_of_getElem? (i := 218) rfl), iJ0, by decide +kernel, by decide +kernel, by decide +kernel, by decide⟩, in2 (List.mem_of_getElem? (i := 216) (by decide +kernel)), in2 (List.mem_of_getElem? (i := 217) (by decide +kernel))⟩
theorem oJ_coder : MOKv mJ_coder 0 := ⟨⟨in2 (List.mem_of_getElem? (i := 222) rfl), iJ0, by decide +kernel, by decide +kernel, by decide +kernel, by decide⟩, in2 (List.mem_of_getElem? (i := 220) (by decide +kernel)), in2 (List.mem_of_getElem? (i := 221) (by decide +kernel))⟩
theorem oJ_charAt : MOKv mJ_charAt 1 := ⟨⟨in2 (List.mem_of_getElem? (i := 228) rfl), iJ0, by decide +kernel, by decide +kernel, by decide +kernel, by decide⟩, in2 (List.mem_of_getElem? (i := 226) (by decide +kernel)), in2 (List.mem_of_getElem? (i := 227) (by decide +kernel))⟩
theorem oJ_isLatin1 : MOKv mJ_isLatin1 0 := ⟨⟨in2 (List.mem_of_getElem? (i := 232) rfl), iJ0, by decide +kernel, by decide +kernel, by decide +kernel, by decide⟩, in2 (List.mem_of_getElem? (i := 230) (by decide +kernel)), in2 (List.mem_of_getElem? (i := 231) (by decide +kernel))⟩
theorem oJ_charAtL : MOKs mJ_charAtL 2 := ⟨⟨in2 (List.mem_of_getElem? (i := 235) rfl), iJ1, by decide +kernel, by decide +kernel, by decide +kernel, by decide⟩, in2 (List.mem_of_getElem? (i := 234) (by decide +kernel))⟩
theorem oJ_checkIndex : MOKs mJ_checkIndex 2 := ⟨⟨in2 (List.mem_of_getElem? (i := 238) rfl), iJ0, by decide +kernel, by decide +kernel, by decide +kernel, by decide⟩, in2 (List.mem_of_getElem? (i := 237) (by decide +kernel))⟩
theorem oJ_checkP : MOKs mJ_checkP 3 := ⟨⟨in3 (List.mem_of_getElem? (i := 3) rfl), iJ3, by decide +kernel, by decide +kernel, by decide +kernel, by decide⟩, in3 (List.mem_of_getElem? (i := 2) (by decide +kernel))⟩
theorem kJ_length : Cond.methodLink RX9 72 yJ0_length_8abf5 ∈ lw_tbl := in2 (List.mem_of_getElem? (i := 215) (by decide +kernel))
theorem kJ_coder : Cond.methodLink RJ0 335 yJ0_coder_7d493 ∈ lw_tbl := in2 (List.mem_of_getElem? (i := 219) (by decide +kernel))
theorem kJ_charAt : Cond.methodLink RX9 75 yJ0_charAt_5068e ∈ lw_tbl := in2 (List.mem_of_getElem? (i := 225) (by decide +kernel))
theorem kJ_isLatin1 : Cond.methodLink RJ0 492 yJ0_isLatin1_aae02 ∈ lw_tbl := in2 (List.mem_of_getElem? (i := 229) (by decide +kernel))
theorem kJ_charAtL : Cond.methodLink RJ0 495 yJ1_charAt_3b067 ∈ lw_tbl := in2 (List.mem_of_getElem? (i := 233) (by decide +kernel))
theorem kJ_checkIndex : Cond.methodLink RJ1 9 yJ0_checkIndex_df160 ∈ lw_tbl := in2 (List.mem_of_getElem? (i := 236) (by decide +kernel))
theorem kJ_checkP : Cond.methodLink RJ0 1059 yJ3_checkIndex_8e157 ∈ lw_tbl := in3 (List.mem_of_getElem? (i := 1) (by decide +kernel))
theorem fJ_cmp : Cond.fieldLink RJ0 38 "java/lang/String" "COMPACT_STRINGS" "Z" ∈ lw_tbl := in2 (List.mem_of_getElem? (i := 223) (by decide +kernel))
theorem fJ_frm : Cond.fieldLink RJ0 1053 "jdk/internal/util/Preconditions" "SIOOBE_FORMATTER" "Ljava/util/function/BiFunction;" ∈ lw_tbl := in2 (List.mem_of_getElem? (i := 239) (by decide +kernel))
theorem fJ_val : Cond.fieldLink RJ0 9 "java/lang/String" "value" "[B" ∈ lw_tbl := in6 (List.mem_of_getElem? (i := 118) (by decide +kernel))
theorem fJ_cod : Cond.fieldLink RJ0 15 "java/lang/String" "coder" "B" ∈ lw_tbl := in6 (List.mem_of_getElem? (i := 119) (by decide +kernel))
section JT
variable {d : Nat} {h : PH} {Φ : Option Int32 → PH → Prop}
theorem tJ_coder (k : Φ (some 0) h) : J noRo (d + 1) 0 0 mJ_coder 0 [some (.ref (jBig + 1))] [] h Φ := by
  refine J_cmp1 dJ0_coder_7d493_0 fJ_cmp ?_
  refine J_if_eq (tgt := 13) dJ0_coder_7d493_3 (by decide) (fun c => absurd c (by decide)) (fun _ => ?_)
  refine J_aload_n dJ0_coder_7d493_6 rfl ?_
  refine J_getC dJ0_coder_7d493_7 fJ_cod ?_
  refine J_goto (tgt := 14) dJ0_coder_7d493_10 (by decide) ?_
  exact J_iret dJ0_coder_7d493_14 rfl rfl k
theorem tJ_isLatin1 (k : Φ (some 1) h) : J noRo (d + 1) 0 0 mJ_isLatin1 0 [some (.ref (jBig + 1))] [] h Φ := by
  refine J_cmp1 dJ0_isLatin1_aae02_0 fJ_cmp ?_
  refine J_if_eq (tgt := 17) dJ0_isLatin1_aae02_3 (by decide) (fun c => absurd c (by decide)) (fun _ => ?_)
  refine J_aload_n dJ0_isLatin1_aae02_6 rfl ?_
  refine J_getC dJ0_isLatin1_aae02_7 fJ_cod ?_
  refine J_if_ne (tgt := 17) dJ0_isLatin1_aae02_10 (by decide) (fun c => absurd rfl c) (fun _ => ?_)
  refine J_iconst (v := 1) dJ0_isLatin1_aae02_13 (by decide) ?_
  refine J_goto (tgt := 18) dJ0_isLatin1_aae02_14 (by decide) ?_
  exact J_iret dJ0_isLatin1_aae02_18 rfl rfl k
theorem tJ_length (k : Φ (some 152) h) : J noRo (d + 2) 0 0 mJ_length 0 [some (.ref (jBig + 1))] [] h Φ := by
  refine J_aload_n dJ0_length_8abf5_0 rfl ?_
  refine J_getV dJ0_length_8abf5_1 fJ_val ?_
  refine J_blen dJ0_length_8abf5_4 ?_
  refine J_aload_n dJ0_length_8abf5_5 rfl ?_
  refine J_callVS (As := []) (rest := [.int 152]) (n := 0) (bc := 0) (bs := 0) (bc2 := 0) (bs2 := 0) (d := d + 1) (mc := mJ_coder) dJ0_length_8abf5_6 kJ_coder oJ_coder rfl rfl (Nat.le_of_ble_eq_true rfl) (Nat.le_of_ble_eq_true rfl) ?_
  refine tJ_coder ?_
  refine J_ishr dJ0_length_8abf5_9 ?_
  exact J_iret dJ0_length_8abf5_10 rfl rfl k
theorem tJ_checkP {v : Value} {i : Nat} (hi : i < 152) (k : Φ (some (nI i)) h) : J noRo (d + 1) 0 0 mJ_checkP 0 [some (.int (nI i)), some (.int 152), some v] [] h Φ := by
  refine J_iload_n dJ3_checkIndex_8e157_0 rfl ?_
  refine J_if_lt (tgt := 9) dJ3_checkIndex_8e157_1 (by decide) (fun c => absurd c (nI_pos (by omega))) (fun _ => ?_)
  refine J_iload_n dJ3_checkIndex_8e157_4 rfl ?_
  refine J_iload_n dJ3_checkIndex_8e157_5 rfl ?_
  refine J_icmp_lt (tgt := 16) dJ3_checkIndex_8e157_6 (by decide) (fun _ => ?_) (fun c => absurd (nI_lt (a := i) (b := 152) hi (by omega)) c)
  refine J_iload_n dJ3_checkIndex_8e157_16 rfl ?_
  exact J_iret dJ3_checkIndex_8e157_17 rfl rfl k
theorem tJ_checkIndex {i : Nat} (hi : i < 152) (k : Φ none h) : J noRo (d + 2) 0 0 mJ_checkIndex 0 [some (.int (nI i)), some (.int 152)] [] h Φ := by
  refine J_iload_n dJ0_checkIndex_df160_0 rfl ?_
  refine J_iload_n dJ0_checkIndex_df160_1 rfl ?_
  refine J_frm dJ0_checkIndex_df160_2 fJ_frm ?_ ?_
  · refine J_callS (As := [.int (nI i), .int 152, .null]) (rest := []) (n := 3) (bc := 0) (bs := 0) (bc2 := 0) (bs2 := 0) (d := d + 1) (mc := mJ_checkP) dJ0_checkIndex_df160_5 kJ_checkP oJ_checkP rfl (Nat.le_of_ble_eq_true rfl) (Nat.le_of_ble_eq_true rfl) ?_
    refine tJ_checkP hi ?_
    refine J_pop dJ0_checkIndex_df160_8 rfl ?_
    exact J_vret dJ0_checkIndex_df160_9 rfl k
  · refine J_callS (As := [.int (nI i), .int 152, .ref (jBig + 3)]) (rest := []) (n := 3) (bc := 0) (bs := 0) (bc2 := 0) (bs2 := 0) (d := d + 1) (mc := mJ_checkP) dJ0_checkIndex_df160_5 kJ_checkP oJ_checkP rfl (Nat.le_of_ble_eq_true rfl) (Nat.le_of_ble_eq_true rfl) ?_
    refine tJ_checkP hi ?_
    refine J_pop dJ0_checkIndex_df160_8 rfl ?_
    exact J_vret dJ0_checkIndex_df160_9 rfl k
theorem tJ_charAtL {i : Nat} (hi : i < 152) (k : Φ (some (wBy.getD i 0 &&& 255)) h) : J noRo (d + 3) 0 0 mJ_charAtL 0 [some (.ref (jBig + 2)), some (.int (nI i))] [] h Φ := by
  refine J_iload_n dJ1_charAt_3b067_0 rfl ?_
  refine J_aload_n dJ1_charAt_3b067_1 rfl ?_
  refine J_blen dJ1_charAt_3b067_2 ?_
  refine J_callS (As := [.int (nI i), .int 152]) (rest := []) (n := 2) (bc := 0) (bs := 0) (bc2 := 0) (bs2 := 0) (d := d + 2) (mc := mJ_checkIndex) dJ1_charAt_3b067_3 kJ_checkIndex oJ_checkIndex rfl (Nat.le_of_ble_eq_true rfl) (Nat.le_of_ble_eq_true rfl) ?_
  refine tJ_checkIndex hi ?_
  refine J_aload_n dJ1_charAt_3b067_6 rfl ?_
  refine J_iload_n dJ1_charAt_3b067_7 rfl ?_
  refine J_bald dJ1_charAt_3b067_8 (vp_in_nI hi (by omega)) ?_
  rw [nI_clamp (by omega)]
  refine J_sipush (v := 255) dJ1_charAt_3b067_9 (by decide) ?_
  refine J_iand dJ1_charAt_3b067_12 ?_
  refine J_i2c dJ1_charAt_3b067_13 (sc_c2 _) ?_
  exact J_iret dJ1_charAt_3b067_14 rfl (sc_nar _) k
theorem tJ_charAt {i : Nat} (hi : i < 152) (k : Φ (some (wBy.getD i 0 &&& 255)) h) : J noRo (d + 4) 0 0 mJ_charAt 0 [some (.ref (jBig + 1)), some (.int (nI i))] [] h Φ := by
  refine J_aload_n dJ0_charAt_5068e_0 rfl ?_
  refine J_callVS (As := []) (rest := []) (n := 0) (bc := 0) (bs := 0) (bc2 := 0) (bs2 := 0) (d := d + 3) (mc := mJ_isLatin1) dJ0_charAt_5068e_1 kJ_isLatin1 oJ_isLatin1 rfl rfl (Nat.le_of_ble_eq_true rfl) (Nat.le_of_ble_eq_true rfl) ?_
  refine tJ_isLatin1 ?_
  refine J_if_eq (tgt := 16) dJ0_charAt_5068e_4 (by decide) (fun c => absurd c (by decide)) (fun _ => ?_)
  refine J_aload_n dJ0_charAt_5068e_7 rfl ?_
  refine J_getV dJ0_charAt_5068e_8 fJ_val ?_
  refine J_iload_n dJ0_charAt_5068e_11 rfl ?_
  refine J_callS (As := [.ref (jBig + 2), .int (nI i)]) (rest := []) (n := 2) (bc := 0) (bs := 0) (bc2 := 0) (bs2 := 0) (d := d + 3) (mc := mJ_charAtL) dJ0_charAt_5068e_12 kJ_charAtL oJ_charAtL rfl (Nat.le_of_ble_eq_true rfl) (Nat.le_of_ble_eq_true rfl) ?_
  refine tJ_charAtL hi ?_
  exact J_iret dJ0_charAt_5068e_15 rfl (sc_nar _) k
/-- the letters of the words, out of the text of the constant -/
theorem tJ_letterOf {w i : Nat} (hw : w < 19) (hi : i < 8) (k : Φ (some (wBy.getD (w * 8 + i) 0 &&& 255)) h) : J noRo (d + 6) 0 0 mX9_letterOf 0 [some (.int (nI w)), some (.int (nI i))] [] h Φ := by
  have hx : w * 8 + i < 152 := by omega
  refine J_iload_n dX9_letterOf_0 rfl ?_
  refine J_bipush (v := 8) dX9_letterOf_1 (by decide) ?_
  refine J_imul dX9_letterOf_3 ?_
  refine J_iload_n dX9_letterOf_4 rfl ?_
  refine J_iadd dX9_letterOf_5 ?_
  rw [show nI w * 8 + nI i = nI (w * 8 + i) by rw [← nI_add, show nI (w * 8) = nI w * 8 from Int32.ofNat_mul w 8]]
  refine J_istore_n dX9_letterOf_6 (Nat.le_of_ble_eq_true rfl) rfl ?_
  refine J_iload_n dX9_letterOf_7 rfl ?_
  refine J_ldcS dX9_letterOf_8 rfl ?_
  refine J_callVS (As := []) (rest := [.int (nI (w * 8 + i))]) (n := 0) (bc := 0) (bs := 0) (bc2 := 0) (bs2 := 0) (d := d + 5) (mc := mJ_length) dX9_letterOf_10 kJ_length oJ_length rfl rfl (Nat.le_of_ble_eq_true rfl) (Nat.le_of_ble_eq_true rfl) ?_
  refine tJ_length (d := d + 3) ?_
  refine J_icmp_ge (tgt := 25) dX9_letterOf_13 (by decide) (fun c => absurd c (nI_ge (a := w * 8 + i) (b := 152) hx (by omega))) (fun _ => ?_)
  refine J_ldcS dX9_letterOf_16 rfl ?_
  refine J_iload_n dX9_letterOf_18 rfl ?_
  refine J_callVS (As := [.int (nI (w * 8 + i))]) (rest := []) (n := 1) (bc := 0) (bs := 0) (bc2 := 0) (bs2 := 0) (d := d + 5) (mc := mJ_charAt) dX9_letterOf_19 kJ_charAt oJ_charAt rfl rfl (Nat.le_of_ble_eq_true rfl) (Nat.le_of_ble_eq_true rfl) ?_
  refine tJ_charAt (d := d + 1) hx ?_
  refine J_goto (tgt := 26) dX9_letterOf_22 (by decide) ?_
  exact J_iret dX9_letterOf_26 rfl rfl k
end JT
end
