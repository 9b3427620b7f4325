section
-- ===== PART A: goes FIRST, ahead of the names: the tables' words, and 'selects' of the private methods out of them =====
/-- a private method of a class that the tables say can be made, by its rows of tables_1 -/
def lw_okq (q : MethodName × Nat) : Prop := (q.1.cls ≠ "java/lang/invoke/MethodHandle" ∧ q.1.cls ≠ "java/lang/invoke/VarHandle") ∧ Cond.instantiable q.1.cls q.2 ∈ tables_1 ∧ Cond.privateMethod q.1 ∈ tables_1 ∧ Cond.instanceMethod q.1 ∈ tables_1
theorem lw_p0 : lw_okq (⟨"BreakTime", "error", "(I)I"⟩, 9) := ⟨⟨by decide +kernel, by decide +kernel⟩, List.mem_of_getElem? (i := 22) (by decide +kernel), List.mem_of_getElem? (i := 341) (by decide +kernel), List.mem_of_getElem? (i := 342) (by decide +kernel)⟩
theorem lw_p1 : lw_okq (⟨"BreakTime", "noChild", "(I)Z"⟩, 9) := ⟨⟨by decide +kernel, by decide +kernel⟩, List.mem_of_getElem? (i := 22) (by decide +kernel), List.mem_of_getElem? (i := 350) (by decide +kernel), List.mem_of_getElem? (i := 351) (by decide +kernel)⟩
theorem lw_p2 : lw_okq (⟨"BreakTime", "ofChild", "(LBreakTime$Yard;II)I"⟩, 9) := ⟨⟨by decide +kernel, by decide +kernel⟩, List.mem_of_getElem? (i := 22) (by decide +kernel), List.mem_of_getElem? (i := 354) (by decide +kernel), List.mem_of_getElem? (i := 355) (by decide +kernel)⟩
theorem lw_p3 : lw_okq (⟨"BreakTime", "noHeap", "(I)Z"⟩, 9) := ⟨⟨by decide +kernel, by decide +kernel⟩, List.mem_of_getElem? (i := 22) (by decide +kernel), List.mem_of_getElem? (i := 405) (by decide +kernel), List.mem_of_getElem? (i := 406) (by decide +kernel)⟩
theorem lw_p4 : lw_okq (⟨"BreakTimeModel", "finding", "(I)I"⟩, 24) := ⟨⟨by decide +kernel, by decide +kernel⟩, List.mem_of_getElem? (i := 893) (by decide +kernel), List.mem_of_getElem? (i := 984) (by decide +kernel), List.mem_of_getElem? (i := 985) (by decide +kernel)⟩
theorem lw_p5 : lw_okq (⟨"BreakTimeModel", "is", "(II)Z"⟩, 24) := ⟨⟨by decide +kernel, by decide +kernel⟩, List.mem_of_getElem? (i := 893) (by decide +kernel), List.mem_of_getElem? (i := 994) (by decide +kernel), List.mem_of_getElem? (i := 995) (by decide +kernel)⟩
theorem lw_p6 : lw_okq (⟨"BreakTimeModel", "childTold", "(II)I"⟩, 24) := ⟨⟨by decide +kernel, by decide +kernel⟩, List.mem_of_getElem? (i := 893) (by decide +kernel), List.mem_of_getElem? (i := 998) (by decide +kernel), List.mem_of_getElem? (i := 999) (by decide +kernel)⟩
theorem lw_p7 : lw_okq (⟨"BreakTimeModel", "of", "(II)I"⟩, 24) := ⟨⟨by decide +kernel, by decide +kernel⟩, List.mem_of_getElem? (i := 893) (by decide +kernel), List.mem_of_getElem? (i := 1002) (by decide +kernel), List.mem_of_getElem? (i := 1003) (by decide +kernel)⟩
theorem lw_p8 : lw_okq (⟨"BreakTimeModel", "slipOf", "(I)I"⟩, 24) := ⟨⟨by decide +kernel, by decide +kernel⟩, List.mem_of_getElem? (i := 893) (by decide +kernel), List.mem_of_getElem? (i := 1006) (by decide +kernel), List.mem_of_getElem? (i := 1007) (by decide +kernel)⟩
theorem lw_p9 : lw_okq (⟨"BreakTimeModel", "likesOf", "(II)I"⟩, 24) := ⟨⟨by decide +kernel, by decide +kernel⟩, List.mem_of_getElem? (i := 893) (by decide +kernel), List.mem_of_getElem? (i := 1013) (by decide +kernel), List.mem_of_getElem? (i := 1014) (by decide +kernel)⟩
theorem lw_p10 : lw_okq (⟨"BreakTimeModel", "namedOf", "(I)I"⟩, 24) := ⟨⟨by decide +kernel, by decide +kernel⟩, List.mem_of_getElem? (i := 893) (by decide +kernel), List.mem_of_getElem? (i := 1017) (by decide +kernel), List.mem_of_getElem? (i := 1018) (by decide +kernel)⟩
theorem lw_p11 : lw_okq (⟨"BreakTimeModel", "become", "(II)I"⟩, 24) := ⟨⟨by decide +kernel, by decide +kernel⟩, List.mem_of_getElem? (i := 893) (by decide +kernel), List.mem_of_getElem? (i := 1033) (by decide +kernel), List.mem_of_getElem? (i := 1034) (by decide +kernel)⟩
theorem lw_p12 : lw_okq (⟨"BreakTimeModel", "heapOf", "(II)I"⟩, 24) := ⟨⟨by decide +kernel, by decide +kernel⟩, List.mem_of_getElem? (i := 893) (by decide +kernel), List.mem_of_getElem? (i := 1049) (by decide +kernel), List.mem_of_getElem? (i := 1050) (by decide +kernel)⟩
theorem lw_p13 : lw_okq (⟨"BreakTimeModel", "inHeap", "(I)I"⟩, 24) := ⟨⟨by decide +kernel, by decide +kernel⟩, List.mem_of_getElem? (i := 893) (by decide +kernel), List.mem_of_getElem? (i := 1053) (by decide +kernel), List.mem_of_getElem? (i := 1054) (by decide +kernel)⟩
theorem lw_p14 : lw_okq (⟨"BreakTimeModel", "goesTo", "(II)V"⟩, 24) := ⟨⟨by decide +kernel, by decide +kernel⟩, List.mem_of_getElem? (i := 893) (by decide +kernel), List.mem_of_getElem? (i := 1066) (by decide +kernel), List.mem_of_getElem? (i := 1067) (by decide +kernel)⟩
theorem lw_p15 : lw_okq (⟨"BreakTimeModel", "isFew", "(I)Z"⟩, 24) := ⟨⟨by decide +kernel, by decide +kernel⟩, List.mem_of_getElem? (i := 893) (by decide +kernel), List.mem_of_getElem? (i := 1070) (by decide +kernel), List.mem_of_getElem? (i := 1071) (by decide +kernel)⟩
def lw_privs_1 : List (MethodName × Nat) := [(⟨"BreakTime", "error", "(I)I"⟩, 9), (⟨"BreakTime", "noChild", "(I)Z"⟩, 9), (⟨"BreakTime", "ofChild", "(LBreakTime$Yard;II)I"⟩, 9), (⟨"BreakTime", "noHeap", "(I)Z"⟩, 9), (⟨"BreakTimeModel", "finding", "(I)I"⟩, 24), (⟨"BreakTimeModel", "is", "(II)Z"⟩, 24), (⟨"BreakTimeModel", "childTold", "(II)I"⟩, 24), (⟨"BreakTimeModel", "of", "(II)I"⟩, 24), (⟨"BreakTimeModel", "slipOf", "(I)I"⟩, 24), (⟨"BreakTimeModel", "likesOf", "(II)I"⟩, 24), (⟨"BreakTimeModel", "namedOf", "(I)I"⟩, 24), (⟨"BreakTimeModel", "become", "(II)I"⟩, 24), (⟨"BreakTimeModel", "heapOf", "(II)I"⟩, 24), (⟨"BreakTimeModel", "inHeap", "(I)I"⟩, 24), (⟨"BreakTimeModel", "goesTo", "(II)V"⟩, 24), (⟨"BreakTimeModel", "isFew", "(I)Z"⟩, 24)]
theorem lw_r1 : ∀ q ∈ lw_privs_1, lw_okq q := List.forall_mem_cons.mpr ⟨lw_p0, List.forall_mem_cons.mpr ⟨lw_p1, List.forall_mem_cons.mpr ⟨lw_p2, List.forall_mem_cons.mpr ⟨lw_p3, List.forall_mem_cons.mpr ⟨lw_p4, List.forall_mem_cons.mpr ⟨lw_p5, List.forall_mem_cons.mpr ⟨lw_p6, List.forall_mem_cons.mpr ⟨lw_p7, List.forall_mem_cons.mpr ⟨lw_p8, List.forall_mem_cons.mpr ⟨lw_p9, List.forall_mem_cons.mpr ⟨lw_p10, List.forall_mem_cons.mpr ⟨lw_p11, List.forall_mem_cons.mpr ⟨lw_p12, List.forall_mem_cons.mpr ⟨lw_p13, List.forall_mem_cons.mpr ⟨lw_p14, List.forall_mem_cons.mpr ⟨lw_p15, fun _ h => absurd h List.not_mem_nil⟩⟩⟩⟩⟩⟩⟩⟩⟩⟩⟩⟩⟩⟩⟩⟩
theorem lw_p16 : lw_okq (⟨"BreakTimeModel", "warmth", "(II)I"⟩, 24) := ⟨⟨by decide +kernel, by decide +kernel⟩, List.mem_of_getElem? (i := 893) (by decide +kernel), List.mem_of_getElem? (i := 1085) (by decide +kernel), List.mem_of_getElem? (i := 1086) (by decide +kernel)⟩
theorem lw_p17 : lw_okq (⟨"BreakTimeModel", "chance", "(II)I"⟩, 24) := ⟨⟨by decide +kernel, by decide +kernel⟩, List.mem_of_getElem? (i := 893) (by decide +kernel), List.mem_of_getElem? (i := 1089) (by decide +kernel), List.mem_of_getElem? (i := 1090) (by decide +kernel)⟩
theorem lw_p18 : lw_okq (⟨"BreakTimeModel", "hasText", "(I)Z"⟩, 24) := ⟨⟨by decide +kernel, by decide +kernel⟩, List.mem_of_getElem? (i := 893) (by decide +kernel), List.mem_of_getElem? (i := 1093) (by decide +kernel), List.mem_of_getElem? (i := 1094) (by decide +kernel)⟩
theorem lw_p19 : lw_okq (⟨"BreakTimeModel", "watching", "(II)I"⟩, 24) := ⟨⟨by decide +kernel, by decide +kernel⟩, List.mem_of_getElem? (i := 893) (by decide +kernel), List.mem_of_getElem? (i := 1097) (by decide +kernel), List.mem_of_getElem? (i := 1098) (by decide +kernel)⟩
theorem lw_p20 : lw_okq (⟨"BreakTimeModel", "agesApart", "(II)I"⟩, 24) := ⟨⟨by decide +kernel, by decide +kernel⟩, List.mem_of_getElem? (i := 893) (by decide +kernel), List.mem_of_getElem? (i := 1101) (by decide +kernel), List.mem_of_getElem? (i := 1102) (by decide +kernel)⟩
theorem lw_p21 : lw_okq (⟨"BreakTimeModel", "given", "(IIIIII)I"⟩, 24) := ⟨⟨by decide +kernel, by decide +kernel⟩, List.mem_of_getElem? (i := 893) (by decide +kernel), List.mem_of_getElem? (i := 1106) (by decide +kernel), List.mem_of_getElem? (i := 1107) (by decide +kernel)⟩
theorem lw_p22 : lw_okq (⟨"BreakTimeModel", "worked", "(I)I"⟩, 24) := ⟨⟨by decide +kernel, by decide +kernel⟩, List.mem_of_getElem? (i := 893) (by decide +kernel), List.mem_of_getElem? (i := 1110) (by decide +kernel), List.mem_of_getElem? (i := 1111) (by decide +kernel)⟩
theorem lw_p23 : lw_okq (⟨"BreakTimeModel", "plainChance", "(II)I"⟩, 24) := ⟨⟨by decide +kernel, by decide +kernel⟩, List.mem_of_getElem? (i := 893) (by decide +kernel), List.mem_of_getElem? (i := 1122) (by decide +kernel), List.mem_of_getElem? (i := 1123) (by decide +kernel)⟩
theorem lw_p24 : lw_okq (⟨"BreakTimeModel", "fondest", "(II)I"⟩, 24) := ⟨⟨by decide +kernel, by decide +kernel⟩, List.mem_of_getElem? (i := 893) (by decide +kernel), List.mem_of_getElem? (i := 1126) (by decide +kernel), List.mem_of_getElem? (i := 1127) (by decide +kernel)⟩
theorem lw_p25 : lw_okq (⟨"BreakTimeModel", "likesNobody", "(II)Z"⟩, 24) := ⟨⟨by decide +kernel, by decide +kernel⟩, List.mem_of_getElem? (i := 893) (by decide +kernel), List.mem_of_getElem? (i := 1130) (by decide +kernel), List.mem_of_getElem? (i := 1131) (by decide +kernel)⟩
theorem lw_p26 : lw_okq (⟨"BreakTimeModel", "either", "()V"⟩, 24) := ⟨⟨by decide +kernel, by decide +kernel⟩, List.mem_of_getElem? (i := 893) (by decide +kernel), List.mem_of_getElem? (i := 1143) (by decide +kernel), List.mem_of_getElem? (i := 1144) (by decide +kernel)⟩
theorem lw_p27 : lw_okq (⟨"BreakTimeModel", "both", "()V"⟩, 24) := ⟨⟨by decide +kernel, by decide +kernel⟩, List.mem_of_getElem? (i := 893) (by decide +kernel), List.mem_of_getElem? (i := 1147) (by decide +kernel), List.mem_of_getElem? (i := 1148) (by decide +kernel)⟩
theorem lw_p28 : lw_okq (⟨"BreakTimeModel", "compared", "()V"⟩, 24) := ⟨⟨by decide +kernel, by decide +kernel⟩, List.mem_of_getElem? (i := 893) (by decide +kernel), List.mem_of_getElem? (i := 1151) (by decide +kernel), List.mem_of_getElem? (i := 1152) (by decide +kernel)⟩
theorem lw_p29 : lw_okq (⟨"BreakTimeModel", "sum", "()V"⟩, 24) := ⟨⟨by decide +kernel, by decide +kernel⟩, List.mem_of_getElem? (i := 893) (by decide +kernel), List.mem_of_getElem? (i := 1155) (by decide +kernel), List.mem_of_getElem? (i := 1156) (by decide +kernel)⟩
theorem lw_p30 : lw_okq (⟨"BreakTimeModel", "product", "()V"⟩, 24) := ⟨⟨by decide +kernel, by decide +kernel⟩, List.mem_of_getElem? (i := 893) (by decide +kernel), List.mem_of_getElem? (i := 1159) (by decide +kernel), List.mem_of_getElem? (i := 1160) (by decide +kernel)⟩
theorem lw_p31 : lw_okq (⟨"BreakTimeModel", "one", "()V"⟩, 24) := ⟨⟨by decide +kernel, by decide +kernel⟩, List.mem_of_getElem? (i := 893) (by decide +kernel), List.mem_of_getElem? (i := 1163) (by decide +kernel), List.mem_of_getElem? (i := 1164) (by decide +kernel)⟩
def lw_privs_2 : List (MethodName × Nat) := [(⟨"BreakTimeModel", "warmth", "(II)I"⟩, 24), (⟨"BreakTimeModel", "chance", "(II)I"⟩, 24), (⟨"BreakTimeModel", "hasText", "(I)Z"⟩, 24), (⟨"BreakTimeModel", "watching", "(II)I"⟩, 24), (⟨"BreakTimeModel", "agesApart", "(II)I"⟩, 24), (⟨"BreakTimeModel", "given", "(IIIIII)I"⟩, 24), (⟨"BreakTimeModel", "worked", "(I)I"⟩, 24), (⟨"BreakTimeModel", "plainChance", "(II)I"⟩, 24), (⟨"BreakTimeModel", "fondest", "(II)I"⟩, 24), (⟨"BreakTimeModel", "likesNobody", "(II)Z"⟩, 24), (⟨"BreakTimeModel", "either", "()V"⟩, 24), (⟨"BreakTimeModel", "both", "()V"⟩, 24), (⟨"BreakTimeModel", "compared", "()V"⟩, 24), (⟨"BreakTimeModel", "sum", "()V"⟩, 24), (⟨"BreakTimeModel", "product", "()V"⟩, 24), (⟨"BreakTimeModel", "one", "()V"⟩, 24)]
theorem lw_r2 : ∀ q ∈ lw_privs_2, lw_okq q := List.forall_mem_cons.mpr ⟨lw_p16, List.forall_mem_cons.mpr ⟨lw_p17, List.forall_mem_cons.mpr ⟨lw_p18, List.forall_mem_cons.mpr ⟨lw_p19, List.forall_mem_cons.mpr ⟨lw_p20, List.forall_mem_cons.mpr ⟨lw_p21, List.forall_mem_cons.mpr ⟨lw_p22, List.forall_mem_cons.mpr ⟨lw_p23, List.forall_mem_cons.mpr ⟨lw_p24, List.forall_mem_cons.mpr ⟨lw_p25, List.forall_mem_cons.mpr ⟨lw_p26, List.forall_mem_cons.mpr ⟨lw_p27, List.forall_mem_cons.mpr ⟨lw_p28, List.forall_mem_cons.mpr ⟨lw_p29, List.forall_mem_cons.mpr ⟨lw_p30, List.forall_mem_cons.mpr ⟨lw_p31, fun _ h => absurd h List.not_mem_nil⟩⟩⟩⟩⟩⟩⟩⟩⟩⟩⟩⟩⟩⟩⟩⟩
theorem lw_p32 : lw_okq (⟨"BreakTimeModel", "here", "()I"⟩, 24) := ⟨⟨by decide +kernel, by decide +kernel⟩, List.mem_of_getElem? (i := 893) (by decide +kernel), List.mem_of_getElem? (i := 1167) (by decide +kernel), List.mem_of_getElem? (i := 1168) (by decide +kernel)⟩
theorem lw_p33 : lw_okq (⟨"BreakTimeModel", "codes", "(I)V"⟩, 24) := ⟨⟨by decide +kernel, by decide +kernel⟩, List.mem_of_getElem? (i := 893) (by decide +kernel), List.mem_of_getElem? (i := 1171) (by decide +kernel), List.mem_of_getElem? (i := 1172) (by decide +kernel)⟩
theorem lw_p34 : lw_okq (⟨"BreakTimeModel", "takes", "(I)Z"⟩, 24) := ⟨⟨by decide +kernel, by decide +kernel⟩, List.mem_of_getElem? (i := 893) (by decide +kernel), List.mem_of_getElem? (i := 1175) (by decide +kernel), List.mem_of_getElem? (i := 1176) (by decide +kernel)⟩
theorem lw_p35 : lw_okq (⟨"BreakTimeModel", "nameOf", "(I)I"⟩, 24) := ⟨⟨by decide +kernel, by decide +kernel⟩, List.mem_of_getElem? (i := 893) (by decide +kernel), List.mem_of_getElem? (i := 1179) (by decide +kernel), List.mem_of_getElem? (i := 1180) (by decide +kernel)⟩
theorem lw_p36 : lw_okq (⟨"BreakTimeModel", "minutesGo", "(I)V"⟩, 24) := ⟨⟨by decide +kernel, by decide +kernel⟩, List.mem_of_getElem? (i := 893) (by decide +kernel), List.mem_of_getElem? (i := 1213) (by decide +kernel), List.mem_of_getElem? (i := 1214) (by decide +kernel)⟩
theorem lw_p37 : lw_okq (⟨"BreakTimeModel", "minute", "()V"⟩, 24) := ⟨⟨by decide +kernel, by decide +kernel⟩, List.mem_of_getElem? (i := 893) (by decide +kernel), List.mem_of_getElem? (i := 1217) (by decide +kernel), List.mem_of_getElem? (i := 1218) (by decide +kernel)⟩
theorem lw_p38 : lw_okq (⟨"BreakTimeModel", "isLetIn", "(I)Z"⟩, 24) := ⟨⟨by decide +kernel, by decide +kernel⟩, List.mem_of_getElem? (i := 893) (by decide +kernel), List.mem_of_getElem? (i := 1221) (by decide +kernel), List.mem_of_getElem? (i := 1222) (by decide +kernel)⟩
theorem lw_p39 : lw_okq (⟨"BreakTimeModel", "bestHeap", "(I)I"⟩, 24) := ⟨⟨by decide +kernel, by decide +kernel⟩, List.mem_of_getElem? (i := 893) (by decide +kernel), List.mem_of_getElem? (i := 1225) (by decide +kernel), List.mem_of_getElem? (i := 1226) (by decide +kernel)⟩
theorem lw_p40 : lw_okq (⟨"BreakTimeModel", "drawn", "(I)I"⟩, 24) := ⟨⟨by decide +kernel, by decide +kernel⟩, List.mem_of_getElem? (i := 893) (by decide +kernel), List.mem_of_getElem? (i := 1229) (by decide +kernel), List.mem_of_getElem? (i := 1230) (by decide +kernel)⟩
theorem lw_p41 : lw_okq (⟨"BreakTimeModel", "fallsApart", "(I)V"⟩, 24) := ⟨⟨by decide +kernel, by decide +kernel⟩, List.mem_of_getElem? (i := 893) (by decide +kernel), List.mem_of_getElem? (i := 1234) (by decide +kernel), List.mem_of_getElem? (i := 1235) (by decide +kernel)⟩
theorem lw_p42 : lw_okq (⟨"BreakTimeModel", "sorrowNow", "()I"⟩, 24) := ⟨⟨by decide +kernel, by decide +kernel⟩, List.mem_of_getElem? (i := 893) (by decide +kernel), List.mem_of_getElem? (i := 1238) (by decide +kernel), List.mem_of_getElem? (i := 1239) (by decide +kernel)⟩
theorem lw_p43 : lw_okq (⟨"BreakTimeModel", "term", "()V"⟩, 24) := ⟨⟨by decide +kernel, by decide +kernel⟩, List.mem_of_getElem? (i := 893) (by decide +kernel), List.mem_of_getElem? (i := 1246) (by decide +kernel), List.mem_of_getElem? (i := 1247) (by decide +kernel)⟩
theorem lw_p44 : lw_okq (⟨"BreakTimeModel", "movesTo", "(II)I"⟩, 24) := ⟨⟨by decide +kernel, by decide +kernel⟩, List.mem_of_getElem? (i := 893) (by decide +kernel), List.mem_of_getElem? (i := 1250) (by decide +kernel), List.mem_of_getElem? (i := 1251) (by decide +kernel)⟩
theorem lw_p45 : lw_okq (⟨"BreakTimeModel", "findSlips", "()V"⟩, 24) := ⟨⟨by decide +kernel, by decide +kernel⟩, List.mem_of_getElem? (i := 893) (by decide +kernel), List.mem_of_getElem? (i := 1262) (by decide +kernel), List.mem_of_getElem? (i := 1263) (by decide +kernel)⟩
theorem lw_p46 : lw_okq (⟨"BreakTimeModel", "bothOf", "(I)I"⟩, 24) := ⟨⟨by decide +kernel, by decide +kernel⟩, List.mem_of_getElem? (i := 893) (by decide +kernel), List.mem_of_getElem? (i := 1266) (by decide +kernel), List.mem_of_getElem? (i := 1267) (by decide +kernel)⟩
theorem lw_p47 : lw_okq (⟨"BreakTimeModel", "ringOf", "(I)I"⟩, 24) := ⟨⟨by decide +kernel, by decide +kernel⟩, List.mem_of_getElem? (i := 893) (by decide +kernel), List.mem_of_getElem? (i := 1274) (by decide +kernel), List.mem_of_getElem? (i := 1275) (by decide +kernel)⟩
def lw_privs_3 : List (MethodName × Nat) := [(⟨"BreakTimeModel", "here", "()I"⟩, 24), (⟨"BreakTimeModel", "codes", "(I)V"⟩, 24), (⟨"BreakTimeModel", "takes", "(I)Z"⟩, 24), (⟨"BreakTimeModel", "nameOf", "(I)I"⟩, 24), (⟨"BreakTimeModel", "minutesGo", "(I)V"⟩, 24), (⟨"BreakTimeModel", "minute", "()V"⟩, 24), (⟨"BreakTimeModel", "isLetIn", "(I)Z"⟩, 24), (⟨"BreakTimeModel", "bestHeap", "(I)I"⟩, 24), (⟨"BreakTimeModel", "drawn", "(I)I"⟩, 24), (⟨"BreakTimeModel", "fallsApart", "(I)V"⟩, 24), (⟨"BreakTimeModel", "sorrowNow", "()I"⟩, 24), (⟨"BreakTimeModel", "term", "()V"⟩, 24), (⟨"BreakTimeModel", "movesTo", "(II)I"⟩, 24), (⟨"BreakTimeModel", "findSlips", "()V"⟩, 24), (⟨"BreakTimeModel", "bothOf", "(I)I"⟩, 24), (⟨"BreakTimeModel", "ringOf", "(I)I"⟩, 24)]
theorem lw_r3 : ∀ q ∈ lw_privs_3, lw_okq q := List.forall_mem_cons.mpr ⟨lw_p32, List.forall_mem_cons.mpr ⟨lw_p33, List.forall_mem_cons.mpr ⟨lw_p34, List.forall_mem_cons.mpr ⟨lw_p35, List.forall_mem_cons.mpr ⟨lw_p36, List.forall_mem_cons.mpr ⟨lw_p37, List.forall_mem_cons.mpr ⟨lw_p38, List.forall_mem_cons.mpr ⟨lw_p39, List.forall_mem_cons.mpr ⟨lw_p40, List.forall_mem_cons.mpr ⟨lw_p41, List.forall_mem_cons.mpr ⟨lw_p42, List.forall_mem_cons.mpr ⟨lw_p43, List.forall_mem_cons.mpr ⟨lw_p44, List.forall_mem_cons.mpr ⟨lw_p45, List.forall_mem_cons.mpr ⟨lw_p46, List.forall_mem_cons.mpr ⟨lw_p47, fun _ h => absurd h List.not_mem_nil⟩⟩⟩⟩⟩⟩⟩⟩⟩⟩⟩⟩⟩⟩⟩⟩
theorem lw_p48 : lw_okq (⟨"BreakTimeModel", "putBack", "(I)I"⟩, 24) := ⟨⟨by decide +kernel, by decide +kernel⟩, List.mem_of_getElem? (i := 893) (by decide +kernel), List.mem_of_getElem? (i := 1292) (by decide +kernel), List.mem_of_getElem? (i := 1293) (by decide +kernel)⟩
theorem lw_p49 : lw_okq (⟨"BreakTimeModel", "nobodyIn", "(I)I"⟩, 24) := ⟨⟨by decide +kernel, by decide +kernel⟩, List.mem_of_getElem? (i := 893) (by decide +kernel), List.mem_of_getElem? (i := 1313) (by decide +kernel), List.mem_of_getElem? (i := 1314) (by decide +kernel)⟩
theorem lw_p50 : lw_okq (⟨"BreakTimeModel", "voiced", "(II)I"⟩, 24) := ⟨⟨by decide +kernel, by decide +kernel⟩, List.mem_of_getElem? (i := 893) (by decide +kernel), List.mem_of_getElem? (i := 1325) (by decide +kernel), List.mem_of_getElem? (i := 1326) (by decide +kernel)⟩
theorem lw_p51 : lw_okq (⟨"BreakTimeModel", "bodyFrom", "(III)I"⟩, 24) := ⟨⟨by decide +kernel, by decide +kernel⟩, List.mem_of_getElem? (i := 893) (by decide +kernel), List.mem_of_getElem? (i := 1329) (by decide +kernel), List.mem_of_getElem? (i := 1330) (by decide +kernel)⟩
theorem lw_p52 : lw_okq (⟨"BreakTimeModel", "body", "(III)I"⟩, 24) := ⟨⟨by decide +kernel, by decide +kernel⟩, List.mem_of_getElem? (i := 893) (by decide +kernel), List.mem_of_getElem? (i := 1336) (by decide +kernel), List.mem_of_getElem? (i := 1337) (by decide +kernel)⟩
theorem lw_p53 : lw_okq (⟨"BreakTimeModel", "began", "(I)V"⟩, 24) := ⟨⟨by decide +kernel, by decide +kernel⟩, List.mem_of_getElem? (i := 893) (by decide +kernel), List.mem_of_getElem? (i := 1340) (by decide +kernel), List.mem_of_getElem? (i := 1341) (by decide +kernel)⟩
def lw_privs_4 : List (MethodName × Nat) := [(⟨"BreakTimeModel", "putBack", "(I)I"⟩, 24), (⟨"BreakTimeModel", "nobodyIn", "(I)I"⟩, 24), (⟨"BreakTimeModel", "voiced", "(II)I"⟩, 24), (⟨"BreakTimeModel", "bodyFrom", "(III)I"⟩, 24), (⟨"BreakTimeModel", "body", "(III)I"⟩, 24), (⟨"BreakTimeModel", "began", "(I)V"⟩, 24)]
theorem lw_r4 : ∀ q ∈ lw_privs_4, lw_okq q := List.forall_mem_cons.mpr ⟨lw_p48, List.forall_mem_cons.mpr ⟨lw_p49, List.forall_mem_cons.mpr ⟨lw_p50, List.forall_mem_cons.mpr ⟨lw_p51, List.forall_mem_cons.mpr ⟨lw_p52, List.forall_mem_cons.mpr ⟨lw_p53, fun _ h => absurd h List.not_mem_nil⟩⟩⟩⟩⟩⟩
def lw_privs : List (MethodName × Nat) := lw_privs_1 ++ (lw_privs_2 ++ (lw_privs_3 ++ (lw_privs_4)))
def lw_tbl : List Cond := k2_sels lw_privs ++ tables_1
theorem lw_privs_ok : ∀ q ∈ lw_privs, lw_okq q := by
  show ∀ q ∈ lw_privs_1 ++ (lw_privs_2 ++ (lw_privs_3 ++ (lw_privs_4))), lw_okq q
  exact List.forall_mem_append.mpr ⟨lw_r1, List.forall_mem_append.mpr ⟨lw_r2, List.forall_mem_append.mpr ⟨lw_r3, lw_r4⟩⟩⟩

def RX0 : String := "BreakTime$Child"
def TX0 : u_T := fun k => match k with
  | 0 => ("BreakTime$Child", "kind", "I", false)
  | 1 => ("BreakTime$Child", "m", "I", false)
  | 2 => ("BreakTime$Child", "age", "I", false)
  | 3 => ("BreakTime$Child", "mind", "I", false)
  | 4 => ("BreakTime$Child", "at", "I", false)
  | 5 => ("BreakTime$Child", "alone", "I", false)
  | 6 => ("BreakTime$Child", "likes", "[I", true)
  | _ => ("BreakTime$Child", "watching", "[I", true)
def tyX0 : Nat → FieldType := fun k => match k with
  | 0 => .int
  | 1 => .int
  | 2 => .int
  | 3 => .int
  | 4 => .int
  | 5 => .int
  | 6 => .array .int
  | _ => .array .int
abbrev wsX00 : List Cond := u_ws RX0 TX0 8
theorem nmX0 : ∀ a, a < 8 → ∀ b, b < 8 → a ≠ b → (TX0 a).2.1 ≠ (TX0 b).2.1 := by decide +kernel
theorem tyX0_ok : ∀ k, k < 8 → parseFieldDescriptor (TX0 k).2.2.1 = some (tyX0 k) := by decide +kernel
abbrev cX0_init : ByteArray := prog_2_method_1_code
def yX0_init : MethodName := ⟨RX0, "<init>", "()V"⟩
abbrev cX0_takeFrom : ByteArray := prog_2_method_2_code
def yX0_takeFrom : MethodName := ⟨RX0, "takeFrom", "(LBreakTime$Child;)V"⟩
def RX1 : String := "BreakTime$Friends"
def TX1 : u_T := fun k => match k with
  | 0 => ("BreakTime$Friends", "n", "I", false)
  | 1 => ("BreakTime$Friends", "minding", "I", false)
  | 2 => ("BreakTime$Friends", "slip", "[I", true)
  | _ => ("BreakTime$Friends", "both", "[I", true)
def tyX1 : Nat → FieldType := fun k => match k with
  | 0 => .int
  | 1 => .int
  | 2 => .array .int
  | _ => .array .int
abbrev wsX10 : List Cond := u_ws RX1 TX1 4
theorem nmX1 : ∀ a, a < 4 → ∀ b, b < 4 → a ≠ b → (TX1 a).2.1 ≠ (TX1 b).2.1 := by decide +kernel
theorem tyX1_ok : ∀ k, k < 4 → parseFieldDescriptor (TX1 k).2.2.1 = some (tyX1 k) := by decide +kernel
abbrev cX1_init : ByteArray := prog_3_method_1_code
def yX1_init : MethodName := ⟨RX1, "<init>", "()V"⟩
abbrev cX1_look : ByteArray := prog_3_method_2_code
def yX1_look : MethodName := ⟨RX1, "look", "(LBreakTime$Yard;)V"⟩
abbrev cX1_slipOf : ByteArray := prog_3_method_3_code
def yX1_slipOf : MethodName := ⟨RX1, "slipOf", "([I)I"⟩
abbrev cX1_naming : ByteArray := prog_3_method_4_code
def yX1_naming : MethodName := ⟨RX1, "naming", "(I)I"⟩
abbrev cX1_countNaming : ByteArray := prog_3_method_5_code
def yX1_countNaming : MethodName := ⟨RX1, "countNaming", "(I)I"⟩
abbrev cX1_ringOf : ByteArray := prog_3_method_6_code
def yX1_ringOf : MethodName := ⟨RX1, "ringOf", "(I)I"⟩
abbrev cX1_countRings : ByteArray := prog_3_method_7_code
def yX1_countRings : MethodName := ⟨RX1, "countRings", "()I"⟩
abbrev cX1_countPairs : ByteArray := prog_3_method_8_code
def yX1_countPairs : MethodName := ⟨RX1, "countPairs", "()I"⟩
abbrev cX1_mostNamed : ByteArray := prog_3_method_9_code
def yX1_mostNamed : MethodName := ⟨RX1, "mostNamed", "()I"⟩
abbrev cX1_leftOut : ByteArray := prog_3_method_10_code
def yX1_leftOut : MethodName := ⟨RX1, "leftOut", "()I"⟩
abbrev cX1_secondClass : ByteArray := prog_3_method_11_code
def yX1_secondClass : MethodName := ⟨RX1, "secondClass", "()I"⟩
abbrev cX1_countLonely : ByteArray := prog_3_method_12_code
def yX1_countLonely : MethodName := ⟨RX1, "countLonely", "(I)I"⟩
def RX2 : String := "BreakTime$Heap"
def TX2 : u_T := fun k => match k with
  | 0 => ("BreakTime$Heap", "least", "I", false)
  | 1 => ("BreakTime$Heap", "most", "I", false)
  | 2 => ("BreakTime$Heap", "rule", "I", false)
  | 3 => ("BreakTime$Heap", "inside", "I", false)
  | _ => ("BreakTime$Heap", "few", "I", false)
def tyX2 : Nat → FieldType := fun k => match k with
  | 0 => .int
  | 1 => .int
  | 2 => .int
  | 3 => .int
  | _ => .int
abbrev wsX20 : List Cond := u_ws RX2 TX2 5
theorem nmX2 : ∀ a, a < 5 → ∀ b, b < 5 → a ≠ b → (TX2 a).2.1 ≠ (TX2 b).2.1 := by decide +kernel
theorem tyX2_ok : ∀ k, k < 5 → parseFieldDescriptor (TX2 k).2.2.1 = some (tyX2 k) := by decide +kernel
abbrev cX2_init : ByteArray := prog_4_method_1_code
def yX2_init : MethodName := ⟨RX2, "<init>", "()V"⟩
abbrev cX2_size : ByteArray := prog_4_method_2_code
def yX2_size : MethodName := ⟨RX2, "size", "()I"⟩
abbrev cX2_lacksOne : ByteArray := prog_4_method_3_code
def yX2_lacksOne : MethodName := ⟨RX2, "lacksOne", "()Z"⟩
abbrev cX2_hasTooFew : ByteArray := prog_4_method_4_code
def yX2_hasTooFew : MethodName := ⟨RX2, "hasTooFew", "()Z"⟩
abbrev cX2_change : ByteArray := prog_4_method_5_code
def yX2_change : MethodName := ⟨RX2, "change", "(I)V"⟩
abbrev cX2_takeFrom : ByteArray := prog_4_method_6_code
def yX2_takeFrom : MethodName := ⟨RX2, "takeFrom", "(LBreakTime$Heap;)V"⟩
def RX3 : String := "BreakTime$Reader"
def TX3 : u_T := fun k => match k with
  | 0 => ("BreakTime$Reader", "text", "LBreakTime$Text;", true)
  | 1 => ("BreakTime$Reader", "bytes", "[I", false)
  | 2 => ("BreakTime$Reader", "end", "I", false)
  | 3 => ("BreakTime$Reader", "at", "I", false)
  | _ => ("BreakTime$Reader", "names", "Ljava/lang/String;", false)
def tyX3 : Nat → FieldType := fun k => match k with
  | 0 => .object "BreakTime$Text"
  | 1 => .array .int
  | 2 => .int
  | 3 => .int
  | _ => .object "java/lang/String"
abbrev wsX30 : List Cond := u_ws RX3 TX3 5
theorem nmX3 : ∀ a, a < 5 → ∀ b, b < 5 → a ≠ b → (TX3 a).2.1 ≠ (TX3 b).2.1 := by decide +kernel
theorem tyX3_ok : ∀ k, k < 5 → parseFieldDescriptor (TX3 k).2.2.1 = some (tyX3 k) := by decide +kernel
abbrev cX3_init : ByteArray := prog_5_method_1_code
def yX3_init : MethodName := ⟨RX3, "<init>", "()V"⟩
abbrev cX3_read : ByteArray := prog_5_method_2_code
def yX3_read : MethodName := ⟨RX3, "read", "(LBreakTime$Row;Ljava/lang/String;)I"⟩
abbrev cX3_next : ByteArray := prog_5_method_3_code
def yX3_next : MethodName := ⟨RX3, "next", "()I"⟩
abbrev cX3_stands : ByteArray := prog_5_method_4_code
def yX3_stands : MethodName := ⟨RX3, "stands", "(Ljava/lang/String;)Z"⟩
abbrev cX3_readJoined : ByteArray := prog_5_method_5_code
def yX3_readJoined : MethodName := ⟨RX3, "readJoined", "(II)Z"⟩
abbrev cX3_signsOf : ByteArray := prog_5_method_6_code
def yX3_signsOf : MethodName := ⟨RX3, "signsOf", "(I)Ljava/lang/String;"⟩
abbrev cX3_readQ : ByteArray := prog_5_method_7_code
def yX3_readQ : MethodName := ⟨RX3, "readQ", "(I)Z"⟩
abbrev cX3_readNumber : ByteArray := prog_5_method_8_code
def yX3_readNumber : MethodName := ⟨RX3, "readNumber", "()V"⟩
abbrev cX3_isDigit : ByteArray := prog_5_method_9_code
def yX3_isDigit : MethodName := ⟨RX3, "isDigit", "(I)Z"⟩
def RX4 : String := "BreakTime$Row"
def TX4 : u_T := fun k => match k with
  | 0 => ("BreakTime$Row", "numbers", "[I", true)
  | _ => ("BreakTime$Row", "size", "I", false)
def tyX4 : Nat → FieldType := fun k => match k with
  | 0 => .array .int
  | _ => .int
abbrev wsX40 : List Cond := u_ws RX4 TX4 2
theorem nmX4 : ∀ a, a < 2 → ∀ b, b < 2 → a ≠ b → (TX4 a).2.1 ≠ (TX4 b).2.1 := by decide +kernel
theorem tyX4_ok : ∀ k, k < 2 → parseFieldDescriptor (TX4 k).2.2.1 = some (tyX4 k) := by decide +kernel
abbrev cX4_init : ByteArray := prog_6_method_1_code
def yX4_init : MethodName := ⟨RX4, "<init>", "(I)V"⟩
abbrev cX4_add : ByteArray := prog_6_method_2_code
def yX4_add : MethodName := ⟨RX4, "add", "(I)V"⟩
abbrev cX4_takeFrom : ByteArray := prog_6_method_3_code
def yX4_takeFrom : MethodName := ⟨RX4, "takeFrom", "(LBreakTime$Row;)V"⟩
def RX5 : String := "BreakTime$Sheet"
def TX5 : u_T := fun k => match k with
  | 0 => ("BreakTime$Sheet", "bits", "I", false)
  | 1 => ("BreakTime$Sheet", "size", "I", false)
  | _ => ("BreakTime$Sheet", "numbers", "[I", true)
def tyX5 : Nat → FieldType := fun k => match k with
  | 0 => .int
  | 1 => .int
  | _ => .array .int
abbrev wsX50 : List Cond := u_ws RX5 TX5 3
theorem nmX5 : ∀ a, a < 3 → ∀ b, b < 3 → a ≠ b → (TX5 a).2.1 ≠ (TX5 b).2.1 := by decide +kernel
theorem tyX5_ok : ∀ k, k < 3 → parseFieldDescriptor (TX5 k).2.2.1 = some (tyX5 k) := by decide +kernel
abbrev cX5_init : ByteArray := prog_7_method_1_code
def yX5_init : MethodName := ⟨RX5, "<init>", "()V"⟩
abbrev cX5_isMissing : ByteArray := prog_7_method_2_code
def yX5_isMissing : MethodName := ⟨RX5, "isMissing", "()Z"⟩
abbrev cX5_lay : ByteArray := prog_7_method_3_code
def yX5_lay : MethodName := ⟨RX5, "lay", "(II)V"⟩
abbrev cX5_write : ByteArray := prog_7_method_4_code
def yX5_write : MethodName := ⟨RX5, "write", "(II)V"⟩
abbrev cX5_holds : ByteArray := prog_7_method_5_code
def yX5_holds : MethodName := ⟨RX5, "holds", "(II)Z"⟩
def RX6 : String := "BreakTime$Speaker"
def TX6 : u_T := fun k => match k with
  | 0 => ("BreakTime$Speaker", "trace", "LBreakTime$Row;", true)
  | 1 => ("BreakTime$Speaker", "child", "I", false)
  | 2 => ("BreakTime$Speaker", "kind", "I", false)
  | 3 => ("BreakTime$Speaker", "m", "I", false)
  | _ => ("BreakTime$Speaker", "parted", "Z", false)
def tyX6 : Nat → FieldType := fun k => match k with
  | 0 => .object "BreakTime$Row"
  | 1 => .int
  | 2 => .int
  | 3 => .int
  | _ => .boolean
abbrev wsX60 : List Cond := u_ws RX6 TX6 5
theorem nmX6 : ∀ a, a < 5 → ∀ b, b < 5 → a ≠ b → (TX6 a).2.1 ≠ (TX6 b).2.1 := by decide +kernel
theorem tyX6_ok : ∀ k, k < 5 → parseFieldDescriptor (TX6 k).2.2.1 = some (tyX6 k) := by decide +kernel
abbrev cX6_init : ByteArray := prog_8_method_1_code
def yX6_init : MethodName := ⟨RX6, "<init>", "()V"⟩
abbrev cX6_speak : ByteArray := prog_8_method_2_code
def yX6_speak : MethodName := ⟨RX6, "speak", "(ILBreakTime$Child;II)I"⟩
abbrev cX6_say : ByteArray := prog_8_method_3_code
def yX6_say : MethodName := ⟨RX6, "say", "(IIII)I"⟩
abbrev cX6_part : ByteArray := prog_8_method_4_code
def yX6_part : MethodName := ⟨RX6, "part", "(II)I"⟩
def RX7 : String := "BreakTime$Text"
def TX7 : u_T := fun k => match k with
  | 0 => ("BreakTime$Text", "steps", "[I", true)
  | 1 => ("BreakTime$Text", "laid", "[I", true)
  | _ => ("BreakTime$Text", "size", "I", false)
def tyX7 : Nat → FieldType := fun k => match k with
  | 0 => .array .int
  | 1 => .array .int
  | _ => .int
abbrev wsX70 : List Cond := u_ws RX7 TX7 3
theorem nmX7 : ∀ a, a < 3 → ∀ b, b < 3 → a ≠ b → (TX7 a).2.1 ≠ (TX7 b).2.1 := by decide +kernel
theorem tyX7_ok : ∀ k, k < 3 → parseFieldDescriptor (TX7 k).2.2.1 = some (tyX7 k) := by decide +kernel
abbrev cX7_init : ByteArray := prog_9_method_1_code
def yX7_init : MethodName := ⟨RX7, "<init>", "()V"⟩
abbrev cX7_isThere : ByteArray := prog_9_method_2_code
def yX7_isThere : MethodName := ⟨RX7, "isThere", "()Z"⟩
abbrev cX7_add : ByteArray := prog_9_method_3_code
def yX7_add : MethodName := ⟨RX7, "add", "(I)V"⟩
abbrev cX7_takeFrom : ByteArray := prog_9_method_4_code
def yX7_takeFrom : MethodName := ⟨RX7, "takeFrom", "(LBreakTime$Text;)V"⟩
abbrev cX7_worth : ByteArray := prog_9_method_5_code
def yX7_worth : MethodName := ⟨RX7, "worth", "([I)I"⟩
abbrev cX7_apply : ByteArray := prog_9_method_6_code
def yX7_apply : MethodName := ⟨RX7, "apply", "(III)I"⟩
def RX8 : String := "BreakTime$Yard"
def TX8 : u_T := fun k => match k with
  | 0 => ("BreakTime$Yard", "children", "[LBreakTime$Child;", true)
  | 1 => ("BreakTime$Yard", "heaps", "[LBreakTime$Heap;", true)
  | 2 => ("BreakTime$Yard", "texts", "[LBreakTime$Text;", true)
  | 3 => ("BreakTime$Yard", "tape", "LBreakTime$Row;", true)
  | 4 => ("BreakTime$Yard", "waiting", "LBreakTime$Row;", true)
  | 5 => ("BreakTime$Yard", "childCount", "I", false)
  | 6 => ("BreakTime$Yard", "heapCount", "I", false)
  | 7 => ("BreakTime$Yard", "minuteCount", "I", false)
  | 8 => ("BreakTime$Yard", "termCount", "I", false)
  | 9 => ("BreakTime$Yard", "z", "I", false)
  | 10 => ("BreakTime$Yard", "names", "[I", true)
  | _ => ("BreakTime$Yard", "moved", "[[I", true)
def tyX8 : Nat → FieldType := fun k => match k with
  | 0 => .array (.object "BreakTime$Child")
  | 1 => .array (.object "BreakTime$Heap")
  | 2 => .array (.object "BreakTime$Text")
  | 3 => .object "BreakTime$Row"
  | 4 => .object "BreakTime$Row"
  | 5 => .int
  | 6 => .int
  | 7 => .int
  | 8 => .int
  | 9 => .int
  | 10 => .array .int
  | _ => .array (.array .int)
abbrev wsX80 : List Cond := u_ws RX8 TX8 12
theorem nmX8 : ∀ a, a < 12 → ∀ b, b < 12 → a ≠ b → (TX8 a).2.1 ≠ (TX8 b).2.1 := by decide +kernel
theorem tyX8_ok : ∀ k, k < 12 → parseFieldDescriptor (TX8 k).2.2.1 = some (tyX8 k) := by decide +kernel
abbrev cX8_init : ByteArray := prog_10_method_1_code
def yX8_init : MethodName := ⟨RX8, "<init>", "()V"⟩
abbrev cX8_takeFrom : ByteArray := prog_10_method_2_code
def yX8_takeFrom : MethodName := ⟨RX8, "takeFrom", "(LBreakTime$Yard;)V"⟩
abbrev cX8_wall : ByteArray := prog_10_method_3_code
def yX8_wall : MethodName := ⟨RX8, "wall", "()I"⟩
abbrev cX8_grief : ByteArray := prog_10_method_4_code
def yX8_grief : MethodName := ⟨RX8, "grief", "()I"⟩
abbrev cX8_place : ByteArray := prog_10_method_5_code
def yX8_place : MethodName := ⟨RX8, "place", "(II)V"⟩
abbrev cX8_warmth : ByteArray := prog_10_method_6_code
def yX8_warmth : MethodName := ⟨RX8, "warmth", "(II)I"⟩
abbrev cX8_fondest : ByteArray := prog_10_method_7_code
def yX8_fondest : MethodName := ⟨RX8, "fondest", "(II)I"⟩
abbrev cX8_hasFriend : ByteArray := prog_10_method_8_code
def yX8_hasFriend : MethodName := ⟨RX8, "hasFriend", "(II)Z"⟩
abbrev cX8_chance : ByteArray := prog_10_method_9_code
def yX8_chance : MethodName := ⟨RX8, "chance", "(II)I"⟩
abbrev cX8_byWay : ByteArray := prog_10_method_10_code
def yX8_byWay : MethodName := ⟨RX8, "byWay", "(III)I"⟩
abbrev cX8_letsIn : ByteArray := prog_10_method_11_code
def yX8_letsIn : MethodName := ⟨RX8, "letsIn", "(III)I"⟩
abbrev cX8_bestHeap : ByteArray := prog_10_method_12_code
def yX8_bestHeap : MethodName := ⟨RX8, "bestHeap", "(I)I"⟩
abbrev cX8_pass : ByteArray := prog_10_method_13_code
def yX8_pass : MethodName := ⟨RX8, "pass", "(I)V"⟩
abbrev cX8_tryHeap : ByteArray := prog_10_method_14_code
def yX8_tryHeap : MethodName := ⟨RX8, "tryHeap", "(I)V"⟩
abbrev cX8_wearOut : ByteArray := prog_10_method_15_code
def yX8_wearOut : MethodName := ⟨RX8, "wearOut", "(I)V"⟩
abbrev cX8_passTerm : ByteArray := prog_10_method_16_code
def yX8_passTerm : MethodName := ⟨RX8, "passTerm", "()V"⟩
abbrev cX8_likesThen : ByteArray := prog_10_method_17_code
def yX8_likesThen : MethodName := ⟨RX8, "likesThen", "(II)I"⟩
abbrev cX8_countShared : ByteArray := prog_10_method_18_code
def yX8_countShared : MethodName := ⟨RX8, "countShared", "(II)I"⟩
def RX9 : String := "BreakTime"
def TX9 : u_T := fun k => match k with
  | 0 => ("BreakTime", "now", "LBreakTime$Yard;", true)
  | 1 => ("BreakTime", "ahead", "LBreakTime$Yard;", true)
  | 2 => ("BreakTime", "kept", "LBreakTime$Yard;", true)
  | 3 => ("BreakTime", "friends", "LBreakTime$Friends;", true)
  | 4 => ("BreakTime", "reader", "LBreakTime$Reader;", true)
  | 5 => ("BreakTime", "speaker", "LBreakTime$Speaker;", true)
  | 6 => ("BreakTime", "sheets", "[LBreakTime$Sheet;", true)
  | 7 => ("BreakTime", "errors", "[I", true)
  | _ => ("BreakTime", "images", "I", false)
def tyX9 : Nat → FieldType := fun k => match k with
  | 0 => .object "BreakTime$Yard"
  | 1 => .object "BreakTime$Yard"
  | 2 => .object "BreakTime$Yard"
  | 3 => .object "BreakTime$Friends"
  | 4 => .object "BreakTime$Reader"
  | 5 => .object "BreakTime$Speaker"
  | 6 => .array (.object "BreakTime$Sheet")
  | 7 => .array .int
  | _ => .int
abbrev wsX90 : List Cond := u_ws RX9 TX9 9
theorem nmX9 : ∀ a, a < 9 → ∀ b, b < 9 → a ≠ b → (TX9 a).2.1 ≠ (TX9 b).2.1 := by decide +kernel
theorem tyX9_ok : ∀ k, k < 9 → parseFieldDescriptor (TX9 k).2.2.1 = some (tyX9 k) := by decide +kernel
abbrev cX9_init : ByteArray := prog_1_method_1_code
def yX9_init : MethodName := ⟨RX9, "<init>", "()V"⟩
abbrev cX9_child : ByteArray := prog_1_method_2_code
def yX9_child : MethodName := ⟨RX9, "child", "(III)I"⟩
abbrev cX9_childIs : ByteArray := prog_1_method_3_code
def yX9_childIs : MethodName := ⟨RX9, "childIs", "(II)I"⟩
abbrev cX9_as : ByteArray := prog_1_method_4_code
def yX9_as : MethodName := ⟨RX9, "as", "(II)I"⟩
abbrev cX9_set : ByteArray := prog_1_method_5_code
def yX9_set : MethodName := ⟨RX9, "set", "(III)I"⟩
abbrev cX9_likes : ByteArray := prog_1_method_6_code
def yX9_likes : MethodName := ⟨RX9, "likes", "(III)I"⟩
abbrev cX9_heap : ByteArray := prog_1_method_7_code
def yX9_heap : MethodName := ⟨RX9, "heap", "(II)I"⟩
abbrev cX9_heapIs : ByteArray := prog_1_method_8_code
def yX9_heapIs : MethodName := ⟨RX9, "heapIs", "(II)I"⟩
abbrev cX9_rule : ByteArray := prog_1_method_9_code
def yX9_rule : MethodName := ⟨RX9, "rule", "(II)I"⟩
abbrev cX9_join : ByteArray := prog_1_method_10_code
def yX9_join : MethodName := ⟨RX9, "join", "(II)I"⟩
abbrev cX9_leave : ByteArray := prog_1_method_11_code
def yX9_leave : MethodName := ⟨RX9, "leave", "(I)I"⟩
abbrev cX9_between : ByteArray := prog_1_method_12_code
def yX9_between : MethodName := ⟨RX9, "between", "(III)I"⟩
abbrev cX9_feed : ByteArray := prog_1_method_13_code
def yX9_feed : MethodName := ⟨RX9, "feed", "(JI)I"⟩
abbrev cX9_text : ByteArray := prog_1_method_14_code
def yX9_text : MethodName := ⟨RX9, "text", "(I)I"⟩
abbrev cX9_untell : ByteArray := prog_1_method_15_code
def yX9_untell : MethodName := ⟨RX9, "untell", "(I)I"⟩
abbrev cX9_minutes : ByteArray := prog_1_method_16_code
def yX9_minutes : MethodName := ⟨RX9, "minutes", "(I)I"⟩
abbrev cX9_terms : ByteArray := prog_1_method_17_code
def yX9_terms : MethodName := ⟨RX9, "terms", "(I)I"⟩
abbrev cX9_seed : ByteArray := prog_1_method_18_code
def yX9_seed : MethodName := ⟨RX9, "seed", "(I)I"⟩
abbrev cX9_both : ByteArray := prog_1_method_19_code
def yX9_both : MethodName := ⟨RX9, "both", "(I)I"⟩
abbrev cX9_ring : ByteArray := prog_1_method_20_code
def yX9_ring : MethodName := ⟨RX9, "ring", "(I)I"⟩
abbrev cX9_net : ByteArray := prog_1_method_21_code
def yX9_net : MethodName := ⟨RX9, "net", "(I)I"⟩
abbrev cX9_then : ByteArray := prog_1_method_22_code
def yX9_then : MethodName := ⟨RX9, "then", "(III)I"⟩
abbrev cX9_sorrow : ByteArray := prog_1_method_23_code
def yX9_sorrow : MethodName := ⟨RX9, "sorrow", "(I)I"⟩
abbrev cX9_word : ByteArray := prog_1_method_24_code
def yX9_word : MethodName := ⟨RX9, "word", "(II)I"⟩
abbrev cX9_teach : ByteArray := prog_1_method_25_code
def yX9_teach : MethodName := ⟨RX9, "teach", "(II)I"⟩
abbrev cX9_classes : ByteArray := prog_1_method_26_code
def yX9_classes : MethodName := ⟨RX9, "classes", "(I)I"⟩
abbrev cX9_best : ByteArray := prog_1_method_27_code
def yX9_best : MethodName := ⟨RX9, "best", "(I)I"⟩
abbrev cX9_voice : ByteArray := prog_1_method_28_code
def yX9_voice : MethodName := ⟨RX9, "voice", "(III)I"⟩
abbrev cX9_body : ByteArray := prog_1_method_29_code
def yX9_body : MethodName := ⟨RX9, "body", "(I)I"⟩
abbrev cX9_sheet : ByteArray := prog_1_method_30_code
def yX9_sheet : MethodName := ⟨RX9, "sheet", "(III)I"⟩
abbrev cX9_put : ByteArray := prog_1_method_31_code
def yX9_put : MethodName := ⟨RX9, "put", "(III)I"⟩
abbrev cX9_move : ByteArray := prog_1_method_32_code
def yX9_move : MethodName := ⟨RX9, "move", "(IIIII)I"⟩
abbrev cX9_slips : ByteArray := prog_1_method_33_code
def yX9_slips : MethodName := ⟨RX9, "slips", "(II)I"⟩
abbrev cX9_film : ByteArray := prog_1_method_34_code
def yX9_film : MethodName := ⟨RX9, "film", "(II)I"⟩
abbrev cX9_image : ByteArray := prog_1_method_35_code
def yX9_image : MethodName := ⟨RX9, "image", "()I"⟩
abbrev cX9_restore : ByteArray := prog_1_method_36_code
def yX9_restore : MethodName := ⟨RX9, "restore", "()I"⟩
abbrev cX9_tell : ByteArray := prog_1_method_37_code
def yX9_tell : MethodName := ⟨RX9, "tell", "(I)I"⟩
abbrev cX9_check : ByteArray := prog_1_method_38_code
def yX9_check : MethodName := ⟨RX9, "check", "(I)I"⟩
abbrev cX9_count : ByteArray := prog_1_method_39_code
def yX9_count : MethodName := ⟨RX9, "count", "(I)I"⟩
abbrev cX9_told : ByteArray := prog_1_method_40_code
def yX9_told : MethodName := ⟨RX9, "told", "(I)I"⟩
abbrev cX9_error : ByteArray := prog_1_method_41_code
def yX9_error : MethodName := ⟨RX9, "error", "(I)I"⟩
abbrev cX9_noChild : ByteArray := prog_1_method_42_code
def yX9_noChild : MethodName := ⟨RX9, "noChild", "(I)Z"⟩
abbrev cX9_noHeap : ByteArray := prog_1_method_43_code
def yX9_noHeap : MethodName := ⟨RX9, "noHeap", "(I)Z"⟩
abbrev cX9_noSheet : ByteArray := prog_1_method_44_code
def yX9_noSheet : MethodName := ⟨RX9, "noSheet", "(I)Z"⟩
abbrev cX9_notAhead : ByteArray := prog_1_method_45_code
def yX9_notAhead : MethodName := ⟨RX9, "notAhead", "(I)Z"⟩
abbrev cX9_outside : ByteArray := prog_1_method_46_code
def yX9_outside : MethodName := ⟨RX9, "outside", "(III)Z"⟩
abbrev cX9_held : ByteArray := prog_1_method_47_code
def yX9_held : MethodName := ⟨RX9, "held", "(III)I"⟩
abbrev cX9_mostOf : ByteArray := prog_1_method_48_code
def yX9_mostOf : MethodName := ⟨RX9, "mostOf", "(I)I"⟩
abbrev cX9_ofChild : ByteArray := prog_1_method_49_code
def yX9_ofChild : MethodName := ⟨RX9, "ofChild", "(LBreakTime$Yard;II)I"⟩
def RX10 : String := "BreakTimeModel"
def TX10 : u_T := fun k => match k with
  | 0 => ("BreakTimeModel", "now", "[I", true)
  | 1 => ("BreakTimeModel", "kept", "[I", true)
  | 2 => ("BreakTimeModel", "aside", "[I", true)
  | 3 => ("BreakTimeModel", "images", "I", false)
  | 4 => ("BreakTimeModel", "errors", "[I", true)
  | 5 => ("BreakTimeModel", "NAMED", "[Ljava/lang/String;", true)
  | 6 => ("BreakTimeModel", "at", "I", false)
  | 7 => ("BreakTimeModel", "open", "I", false)
  | 8 => ("BreakTimeModel", "use", "I", false)
  | 9 => ("BreakTimeModel", "isWrong", "Z", false)
  | 10 => ("BreakTimeModel", "code", "[I", true)
  | 11 => ("BreakTimeModel", "coded", "I", false)
  | 12 => ("BreakTimeModel", "named", "[I", true)
  | 13 => ("BreakTimeModel", "pile", "[I", true)
  | 14 => ("BreakTimeModel", "moved", "[I", true)
  | 15 => ("BreakTimeModel", "slip", "[I", true)
  | 16 => ("BreakTimeModel", "trace", "[I", true)
  | 17 => ("BreakTimeModel", "traced", "I", false)
  | 18 => ("BreakTimeModel", "speaker", "I", false)
  | 19 => ("BreakTimeModel", "isParted", "Z", false)
  | 20 => ("BreakTimeModel", "widths", "[I", true)
  | 21 => ("BreakTimeModel", "sizes", "[I", true)
  | 22 => ("BreakTimeModel", "numbers", "[I", true)
  | _ => ("BreakTimeModel", "carried", "[I", true)
def tyX10 : Nat → FieldType := fun k => match k with
  | 0 => .array .int
  | 1 => .array .int
  | 2 => .array .int
  | 3 => .int
  | 4 => .array .int
  | 5 => .array (.object "java/lang/String")
  | 6 => .int
  | 7 => .int
  | 8 => .int
  | 9 => .boolean
  | 10 => .array .int
  | 11 => .int
  | 12 => .array .int
  | 13 => .array .int
  | 14 => .array .int
  | 15 => .array .int
  | 16 => .array .int
  | 17 => .int
  | 18 => .int
  | 19 => .boolean
  | 20 => .array .int
  | 21 => .array .int
  | 22 => .array .int
  | _ => .array .int
abbrev wsX100 : List Cond := u_ws RX10 TX10 24
theorem nmX10 : ∀ a, a < 24 → ∀ b, b < 24 → a ≠ b → (TX10 a).2.1 ≠ (TX10 b).2.1 := by decide +kernel
theorem tyX10_ok : ∀ k, k < 24 → parseFieldDescriptor (TX10 k).2.2.1 = some (tyX10 k) := by decide +kernel
abbrev cX10_init : ByteArray := prog_12_method_1_code
def yX10_init : MethodName := ⟨RX10, "<init>", "()V"⟩
abbrev cX10_finding : ByteArray := prog_12_method_2_code
def yX10_finding : MethodName := ⟨RX10, "finding", "(I)I"⟩
abbrev cX10_within : ByteArray := prog_12_method_3_code
def yX10_within : MethodName := ⟨RX10, "within", "(III)Z"⟩
abbrev cX10_hasBit : ByteArray := prog_12_method_4_code
def yX10_hasBit : MethodName := ⟨RX10, "hasBit", "(II)Z"⟩
abbrev cX10_held : ByteArray := prog_12_method_5_code
def yX10_held : MethodName := ⟨RX10, "held", "(III)I"⟩
abbrev cX10_is : ByteArray := prog_12_method_6_code
def yX10_is : MethodName := ⟨RX10, "is", "(II)Z"⟩
abbrev cX10_copy : ByteArray := prog_12_method_7_code
def yX10_copy : MethodName := ⟨RX10, "copy", "([I[I)V"⟩
abbrev cX10_become : ByteArray := prog_12_method_8_code
def yX10_become : MethodName := ⟨RX10, "become", "(II)I"⟩
abbrev cX10_putBack : ByteArray := prog_12_method_9_code
def yX10_putBack : MethodName := ⟨RX10, "putBack", "(I)I"⟩
abbrev cX10_bits : ByteArray := prog_12_method_10_code
def yX10_bits : MethodName := ⟨RX10, "bits", "(I)I"⟩
abbrev cX10_of : ByteArray := prog_12_method_11_code
def yX10_of : MethodName := ⟨RX10, "of", "(II)I"⟩
abbrev cX10_heapOf : ByteArray := prog_12_method_12_code
def yX10_heapOf : MethodName := ⟨RX10, "heapOf", "(II)I"⟩
abbrev cX10_likesOf : ByteArray := prog_12_method_13_code
def yX10_likesOf : MethodName := ⟨RX10, "likesOf", "(II)I"⟩
abbrev cX10_child : ByteArray := prog_12_method_14_code
def yX10_child : MethodName := ⟨RX10, "child", "(III)I"⟩
abbrev cX10_childTold : ByteArray := prog_12_method_15_code
def yX10_childTold : MethodName := ⟨RX10, "childTold", "(II)I"⟩
abbrev cX10_childIs : ByteArray := prog_12_method_16_code
def yX10_childIs : MethodName := ⟨RX10, "childIs", "(II)I"⟩
abbrev cX10_above : ByteArray := prog_12_method_17_code
def yX10_above : MethodName := ⟨RX10, "above", "(I)I"⟩
abbrev cX10_as : ByteArray := prog_12_method_18_code
def yX10_as : MethodName := ⟨RX10, "as", "(II)I"⟩
abbrev cX10_set : ByteArray := prog_12_method_19_code
def yX10_set : MethodName := ⟨RX10, "set", "(III)I"⟩
abbrev cX10_likes : ByteArray := prog_12_method_20_code
def yX10_likes : MethodName := ⟨RX10, "likes", "(III)I"⟩
abbrev cX10_heap : ByteArray := prog_12_method_21_code
def yX10_heap : MethodName := ⟨RX10, "heap", "(II)I"⟩
abbrev cX10_inHeap : ByteArray := prog_12_method_22_code
def yX10_inHeap : MethodName := ⟨RX10, "inHeap", "(I)I"⟩
abbrev cX10_heapIs : ByteArray := prog_12_method_23_code
def yX10_heapIs : MethodName := ⟨RX10, "heapIs", "(II)I"⟩
abbrev cX10_rule : ByteArray := prog_12_method_24_code
def yX10_rule : MethodName := ⟨RX10, "rule", "(II)I"⟩
abbrev cX10_isFew : ByteArray := prog_12_method_25_code
def yX10_isFew : MethodName := ⟨RX10, "isFew", "(I)Z"⟩
abbrev cX10_goesTo : ByteArray := prog_12_method_26_code
def yX10_goesTo : MethodName := ⟨RX10, "goesTo", "(II)V"⟩
abbrev cX10_join : ByteArray := prog_12_method_27_code
def yX10_join : MethodName := ⟨RX10, "join", "(II)I"⟩
abbrev cX10_leave : ByteArray := prog_12_method_28_code
def yX10_leave : MethodName := ⟨RX10, "leave", "(I)I"⟩
abbrev cX10_warmth : ByteArray := prog_12_method_29_code
def yX10_warmth : MethodName := ⟨RX10, "warmth", "(II)I"⟩
abbrev cX10_fondest : ByteArray := prog_12_method_30_code
def yX10_fondest : MethodName := ⟨RX10, "fondest", "(II)I"⟩
abbrev cX10_likesNobody : ByteArray := prog_12_method_31_code
def yX10_likesNobody : MethodName := ⟨RX10, "likesNobody", "(II)Z"⟩
abbrev cX10_watching : ByteArray := prog_12_method_32_code
def yX10_watching : MethodName := ⟨RX10, "watching", "(II)I"⟩
abbrev cX10_agesApart : ByteArray := prog_12_method_33_code
def yX10_agesApart : MethodName := ⟨RX10, "agesApart", "(II)I"⟩
abbrev cX10_plainChance : ByteArray := prog_12_method_34_code
def yX10_plainChance : MethodName := ⟨RX10, "plainChance", "(II)I"⟩
abbrev cX10_chance : ByteArray := prog_12_method_35_code
def yX10_chance : MethodName := ⟨RX10, "chance", "(II)I"⟩
abbrev cX10_between : ByteArray := prog_12_method_36_code
def yX10_between : MethodName := ⟨RX10, "between", "(III)I"⟩
abbrev cX10_feed : ByteArray := prog_12_method_37_code
def yX10_feed : MethodName := ⟨RX10, "feed", "(JI)I"⟩
abbrev cX10_here : ByteArray := prog_12_method_38_code
def yX10_here : MethodName := ⟨RX10, "here", "()I"⟩
abbrev cX10_takes : ByteArray := prog_12_method_39_code
def yX10_takes : MethodName := ⟨RX10, "takes", "(I)Z"⟩
abbrev cX10_codes : ByteArray := prog_12_method_40_code
def yX10_codes : MethodName := ⟨RX10, "codes", "(I)V"⟩
abbrev cX10_either : ByteArray := prog_12_method_41_code
def yX10_either : MethodName := ⟨RX10, "either", "()V"⟩
abbrev cX10_both : ByteArray := prog_12_method_42_code
def yX10_both : MethodName := ⟨RX10, "both", "()V"⟩
abbrev cX10_compared : ByteArray := prog_12_method_43_code
def yX10_compared : MethodName := ⟨RX10, "compared", "()V"⟩
abbrev cX10_sum : ByteArray := prog_12_method_44_code
def yX10_sum : MethodName := ⟨RX10, "sum", "()V"⟩
abbrev cX10_product : ByteArray := prog_12_method_45_code
def yX10_product : MethodName := ⟨RX10, "product", "()V"⟩
abbrev cX10_nameOf : ByteArray := prog_12_method_46_code
def yX10_nameOf : MethodName := ⟨RX10, "nameOf", "(I)I"⟩
abbrev cX10_one : ByteArray := prog_12_method_47_code
def yX10_one : MethodName := ⟨RX10, "one", "()V"⟩
abbrev cX10_text : ByteArray := prog_12_method_48_code
def yX10_text : MethodName := ⟨RX10, "text", "(I)I"⟩
abbrev cX10_untell : ByteArray := prog_12_method_49_code
def yX10_untell : MethodName := ⟨RX10, "untell", "(I)I"⟩
abbrev cX10_done : ByteArray := prog_12_method_50_code
def yX10_done : MethodName := ⟨RX10, "done", "(III)I"⟩
abbrev cX10_worked : ByteArray := prog_12_method_51_code
def yX10_worked : MethodName := ⟨RX10, "worked", "(I)I"⟩
abbrev cX10_hasText : ByteArray := prog_12_method_52_code
def yX10_hasText : MethodName := ⟨RX10, "hasText", "(I)Z"⟩
abbrev cX10_given : ByteArray := prog_12_method_53_code
def yX10_given : MethodName := ⟨RX10, "given", "(IIIIII)I"⟩
abbrev cX10_bestHeap : ByteArray := prog_12_method_54_code
def yX10_bestHeap : MethodName := ⟨RX10, "bestHeap", "(I)I"⟩
abbrev cX10_drawn : ByteArray := prog_12_method_55_code
def yX10_drawn : MethodName := ⟨RX10, "drawn", "(I)I"⟩
abbrev cX10_isLetIn : ByteArray := prog_12_method_56_code
def yX10_isLetIn : MethodName := ⟨RX10, "isLetIn", "(I)Z"⟩
abbrev cX10_fallsApart : ByteArray := prog_12_method_57_code
def yX10_fallsApart : MethodName := ⟨RX10, "fallsApart", "(I)V"⟩
abbrev cX10_minute : ByteArray := prog_12_method_58_code
def yX10_minute : MethodName := ⟨RX10, "minute", "()V"⟩
abbrev cX10_minutesGo : ByteArray := prog_12_method_59_code
def yX10_minutesGo : MethodName := ⟨RX10, "minutesGo", "(I)V"⟩
abbrev cX10_sorrowNow : ByteArray := prog_12_method_60_code
def yX10_sorrowNow : MethodName := ⟨RX10, "sorrowNow", "()I"⟩
abbrev cX10_minutes : ByteArray := prog_12_method_61_code
def yX10_minutes : MethodName := ⟨RX10, "minutes", "(I)I"⟩
abbrev cX10_movesTo : ByteArray := prog_12_method_62_code
def yX10_movesTo : MethodName := ⟨RX10, "movesTo", "(II)I"⟩
abbrev cX10_term : ByteArray := prog_12_method_63_code
def yX10_term : MethodName := ⟨RX10, "term", "()V"⟩
abbrev cX10_terms : ByteArray := prog_12_method_64_code
def yX10_terms : MethodName := ⟨RX10, "terms", "(I)I"⟩
abbrev cX10_seed : ByteArray := prog_12_method_65_code
def yX10_seed : MethodName := ⟨RX10, "seed", "(I)I"⟩
abbrev cX10_slipOf : ByteArray := prog_12_method_66_code
def yX10_slipOf : MethodName := ⟨RX10, "slipOf", "(I)I"⟩
abbrev cX10_namedOf : ByteArray := prog_12_method_67_code
def yX10_namedOf : MethodName := ⟨RX10, "namedOf", "(I)I"⟩
abbrev cX10_findSlips : ByteArray := prog_12_method_68_code
def yX10_findSlips : MethodName := ⟨RX10, "findSlips", "()V"⟩
abbrev cX10_bothOf : ByteArray := prog_12_method_69_code
def yX10_bothOf : MethodName := ⟨RX10, "bothOf", "(I)I"⟩
abbrev cX10_both_ : ByteArray := prog_12_method_70_code
def yX10_both_ : MethodName := ⟨RX10, "both", "(I)I"⟩
abbrev cX10_ringOf : ByteArray := prog_12_method_71_code
def yX10_ringOf : MethodName := ⟨RX10, "ringOf", "(I)I"⟩
abbrev cX10_ring : ByteArray := prog_12_method_72_code
def yX10_ring : MethodName := ⟨RX10, "ring", "(I)I"⟩
abbrev cX10_net : ByteArray := prog_12_method_73_code
def yX10_net : MethodName := ⟨RX10, "net", "(I)I"⟩
abbrev cX10_isAhead : ByteArray := prog_12_method_74_code
def yX10_isAhead : MethodName := ⟨RX10, "isAhead", "(I)Z"⟩
abbrev cX10_then : ByteArray := prog_12_method_75_code
def yX10_then : MethodName := ⟨RX10, "then", "(III)I"⟩
abbrev cX10_sorrow : ByteArray := prog_12_method_76_code
def yX10_sorrow : MethodName := ⟨RX10, "sorrow", "(I)I"⟩
abbrev cX10_word : ByteArray := prog_12_method_77_code
def yX10_word : MethodName := ⟨RX10, "word", "(II)I"⟩
abbrev cX10_teach : ByteArray := prog_12_method_78_code
def yX10_teach : MethodName := ⟨RX10, "teach", "(II)I"⟩
abbrev cX10_nobodyIn : ByteArray := prog_12_method_79_code
def yX10_nobodyIn : MethodName := ⟨RX10, "nobodyIn", "(I)I"⟩
abbrev cX10_classes : ByteArray := prog_12_method_80_code
def yX10_classes : MethodName := ⟨RX10, "classes", "(I)I"⟩
abbrev cX10_best : ByteArray := prog_12_method_81_code
def yX10_best : MethodName := ⟨RX10, "best", "(I)I"⟩
abbrev cX10_began : ByteArray := prog_12_method_82_code
def yX10_began : MethodName := ⟨RX10, "began", "(I)V"⟩
abbrev cX10_hasOwn : ByteArray := prog_12_method_83_code
def yX10_hasOwn : MethodName := ⟨RX10, "hasOwn", "(II)Z"⟩
abbrev cX10_voiced : ByteArray := prog_12_method_84_code
def yX10_voiced : MethodName := ⟨RX10, "voiced", "(II)I"⟩
abbrev cX10_bodyFrom : ByteArray := prog_12_method_85_code
def yX10_bodyFrom : MethodName := ⟨RX10, "bodyFrom", "(III)I"⟩
abbrev cX10_body : ByteArray := prog_12_method_86_code
def yX10_body : MethodName := ⟨RX10, "body", "(III)I"⟩
abbrev cX10_voice : ByteArray := prog_12_method_87_code
def yX10_voice : MethodName := ⟨RX10, "voice", "(III)I"⟩
abbrev cX10_body_ : ByteArray := prog_12_method_88_code
def yX10_body_ : MethodName := ⟨RX10, "body", "(I)I"⟩
abbrev cX10_isSheet : ByteArray := prog_12_method_89_code
def yX10_isSheet : MethodName := ⟨RX10, "isSheet", "(I)Z"⟩
abbrev cX10_sheet : ByteArray := prog_12_method_90_code
def yX10_sheet : MethodName := ⟨RX10, "sheet", "(III)I"⟩
abbrev cX10_put : ByteArray := prog_12_method_91_code
def yX10_put : MethodName := ⟨RX10, "put", "(III)I"⟩
abbrev cX10_move : ByteArray := prog_12_method_92_code
def yX10_move : MethodName := ⟨RX10, "move", "(IIIII)I"⟩
abbrev cX10_slips : ByteArray := prog_12_method_93_code
def yX10_slips : MethodName := ⟨RX10, "slips", "(II)I"⟩
abbrev cX10_film : ByteArray := prog_12_method_94_code
def yX10_film : MethodName := ⟨RX10, "film", "(II)I"⟩
abbrev cX10_image : ByteArray := prog_12_method_95_code
def yX10_image : MethodName := ⟨RX10, "image", "()I"⟩
abbrev cX10_restore : ByteArray := prog_12_method_96_code
def yX10_restore : MethodName := ⟨RX10, "restore", "()I"⟩
abbrev cX10_tell : ByteArray := prog_12_method_97_code
def yX10_tell : MethodName := ⟨RX10, "tell", "(I)I"⟩
abbrev cX10_check : ByteArray := prog_12_method_98_code
def yX10_check : MethodName := ⟨RX10, "check", "(I)I"⟩
abbrev cX10_count : ByteArray := prog_12_method_99_code
def yX10_count : MethodName := ⟨RX10, "count", "(I)I"⟩
abbrev cX10_told : ByteArray := prog_12_method_100_code
def yX10_told : MethodName := ⟨RX10, "told", "(I)I"⟩
def RJx145de : String := "java/io/Serializable"
def TJx145de : u_T := fun k => match k with
  | _ => ("", "", "", false)
def tyJx145de : Nat → FieldType := fun k => match k with
  | _ => .int
theorem nmJx145de : ∀ a, a < 0 → ∀ b, b < 0 → a ≠ b → (TJx145de a).2.1 ≠ (TJx145de b).2.1 := by decide +kernel
theorem tyJx145de_ok : ∀ k, k < 0 → parseFieldDescriptor (TJx145de k).2.2.1 = some (tyJx145de k) := by decide +kernel
def RJx9f9b0 : String := "java/lang/CharSequence"
def TJx9f9b0 : u_T := fun k => match k with
  | _ => ("", "", "", false)
def tyJx9f9b0 : Nat → FieldType := fun k => match k with
  | _ => .int
theorem nmJx9f9b0 : ∀ a, a < 0 → ∀ b, b < 0 → a ≠ b → (TJx9f9b0 a).2.1 ≠ (TJx9f9b0 b).2.1 := by decide +kernel
theorem tyJx9f9b0_ok : ∀ k, k < 0 → parseFieldDescriptor (TJx9f9b0 k).2.2.1 = some (tyJx9f9b0 k) := by decide +kernel
def RJ11 : String := "java/lang/Character"
def TJ11 : u_T := fun k => match k with
  | _ => ("", "", "", false)
def tyJ11 : Nat → FieldType := fun k => match k with
  | _ => .int
theorem nmJ11 : ∀ a, a < 0 → ∀ b, b < 0 → a ≠ b → (TJ11 a).2.1 ≠ (TJ11 b).2.1 := by decide +kernel
theorem tyJ11_ok : ∀ k, k < 0 → parseFieldDescriptor (TJ11 k).2.2.1 = some (tyJ11 k) := by decide +kernel
abbrev cJ11_isValidCodePoint_9a6ad : ByteArray := prog_13_method_11_code
def yJ11_isValidCodePoint_9a6ad : MethodName := ⟨RJ11, "isValidCodePoint", "(I)Z"⟩
abbrev cJ11_highSurrogate_5068e : ByteArray := prog_13_method_28_code
def yJ11_highSurrogate_5068e : MethodName := ⟨RJ11, "highSurrogate", "(I)C"⟩
abbrev cJ11_lowSurrogate_5068e : ByteArray := prog_13_method_29_code
def yJ11_lowSurrogate_5068e : MethodName := ⟨RJ11, "lowSurrogate", "(I)C"⟩
def RJxb160c : String := "java/lang/Comparable"
def TJxb160c : u_T := fun k => match k with
  | _ => ("", "", "", false)
def tyJxb160c : Nat → FieldType := fun k => match k with
  | _ => .int
theorem nmJxb160c : ∀ a, a < 0 → ∀ b, b < 0 → a ≠ b → (TJxb160c a).2.1 ≠ (TJxb160c b).2.1 := by decide +kernel
theorem tyJxb160c_ok : ∀ k, k < 0 → parseFieldDescriptor (TJxb160c k).2.2.1 = some (tyJxb160c k) := by decide +kernel
def RJ6 : String := "java/lang/Integer"
def TJ6 : u_T := fun k => match k with
  | _ => ("", "", "", false)
def tyJ6 : Nat → FieldType := fun k => match k with
  | _ => .int
theorem nmJ6 : ∀ a, a < 0 → ∀ b, b < 0 → a ≠ b → (TJ6 a).2.1 ≠ (TJ6 b).2.1 := by decide +kernel
theorem tyJ6_ok : ∀ k, k < 0 → parseFieldDescriptor (TJ6 k).2.2.1 = some (tyJ6 k) := by decide +kernel
abbrev cJ6_compare_7cf53 : ByteArray := prog_14_method_40_code
def yJ6_compare_7cf53 : MethodName := ⟨RJ6, "compare", "(II)I"⟩
abbrev cJ6_numberOfTrailingZeros_0f7a4 : ByteArray := prog_14_method_48_code
def yJ6_numberOfTrailingZeros_0f7a4 : MethodName := ⟨RJ6, "numberOfTrailingZeros", "(I)I"⟩
abbrev cJ6_bitCount_0f7a4 : ByteArray := prog_14_method_49_code
def yJ6_bitCount_0f7a4 : MethodName := ⟨RJ6, "bitCount", "(I)I"⟩
def RJ9 : String := "java/lang/Math"
def TJ9 : u_T := fun k => match k with
  | _ => ("", "", "", false)
def tyJ9 : Nat → FieldType := fun k => match k with
  | _ => .int
theorem nmJ9 : ∀ a, a < 0 → ∀ b, b < 0 → a ≠ b → (TJ9 a).2.1 ≠ (TJ9 b).2.1 := by decide +kernel
theorem tyJ9_ok : ∀ k, k < 0 → parseFieldDescriptor (TJ9 k).2.2.1 = some (tyJ9 k) := by decide +kernel
abbrev cJ9_abs_0f7a4 : ByteArray := prog_15_method_59_code
def yJ9_abs_0f7a4 : MethodName := ⟨RJ9, "abs", "(I)I"⟩
abbrev cJ9_max_7cf53 : ByteArray := prog_15_method_65_code
def yJ9_max_7cf53 : MethodName := ⟨RJ9, "max", "(II)I"⟩
abbrev cJ9_min_7cf53 : ByteArray := prog_15_method_69_code
def yJ9_min_7cf53 : MethodName := ⟨RJ9, "min", "(II)I"⟩
def RJ0 : String := "java/lang/String"
def TJ0 : u_T := fun k => match k with
  | _ => ("", "", "", false)
def tyJ0 : Nat → FieldType := fun k => match k with
  | _ => .int
theorem nmJ0 : ∀ a, a < 0 → ∀ b, b < 0 → a ≠ b → (TJ0 a).2.1 ≠ (TJ0 b).2.1 := by decide +kernel
theorem tyJ0_ok : ∀ k, k < 0 → parseFieldDescriptor (TJ0 k).2.2.1 = some (tyJ0 k) := by decide +kernel
abbrev cJ0_length_8abf5 : ByteArray := prog_16_method_54_code
def yJ0_length_8abf5 : MethodName := ⟨RJ0, "length", "()I"⟩
abbrev cJ0_charAt_5068e : ByteArray := prog_16_method_56_code
def yJ0_charAt_5068e : MethodName := ⟨RJ0, "charAt", "(I)C"⟩
abbrev cJ0_indexOf_0f7a4 : ByteArray := prog_16_method_79_code
def yJ0_indexOf_0f7a4 : MethodName := ⟨RJ0, "indexOf", "(I)I"⟩
abbrev cJ0_indexOf_7cf53 : ByteArray := prog_16_method_80_code
def yJ0_indexOf_7cf53 : MethodName := ⟨RJ0, "indexOf", "(II)I"⟩
abbrev cJ0_coder_7d493 : ByteArray := prog_16_method_152_code
def yJ0_coder_7d493 : MethodName := ⟨RJ0, "coder", "()B"⟩
abbrev cJ0_isLatin1_aae02 : ByteArray := prog_16_method_154_code
def yJ0_isLatin1_aae02 : MethodName := ⟨RJ0, "isLatin1", "()Z"⟩
abbrev cJ0_checkIndex_df160 : ByteArray := prog_16_method_155_code
def yJ0_checkIndex_df160 : MethodName := ⟨RJ0, "checkIndex", "(II)V"⟩
abbrev cJ0_checkBoundsBeginEnd_23922 : ByteArray := prog_16_method_158_code
def yJ0_checkBoundsBeginEnd_23922 : MethodName := ⟨RJ0, "checkBoundsBeginEnd", "(III)V"⟩
def RJ1 : String := "java/lang/StringLatin1"
def TJ1 : u_T := fun k => match k with
  | _ => ("", "", "", false)
def tyJ1 : Nat → FieldType := fun k => match k with
  | _ => .int
theorem nmJ1 : ∀ a, a < 0 → ∀ b, b < 0 → a ≠ b → (TJ1 a).2.1 ≠ (TJ1 b).2.1 := by decide +kernel
theorem tyJ1_ok : ∀ k, k < 0 → parseFieldDescriptor (TJ1 k).2.2.1 = some (tyJ1 k) := by decide +kernel
abbrev cJ1_charAt_3b067 : ByteArray := prog_17_method_2_code
def yJ1_charAt_3b067 : MethodName := ⟨RJ1, "charAt", "([BI)C"⟩
abbrev cJ1_canEncode_9a6ad : ByteArray := prog_17_method_4_code
def yJ1_canEncode_9a6ad : MethodName := ⟨RJ1, "canEncode", "(I)Z"⟩
abbrev cJ1_indexOf_4cfef : ByteArray := prog_17_method_22_code
def yJ1_indexOf_4cfef : MethodName := ⟨RJ1, "indexOf", "([BIII)I"⟩
abbrev cJ1_indexOfChar_4cfef : ByteArray := prog_17_method_23_code
def yJ1_indexOfChar_4cfef : MethodName := ⟨RJ1, "indexOfChar", "([BIII)I"⟩
def RJ2 : String := "java/lang/StringUTF16"
def TJ2 : u_T := fun k => match k with
  | _ => ("", "", "", false)
def tyJ2 : Nat → FieldType := fun k => match k with
  | _ => .int
theorem nmJ2 : ∀ a, a < 0 → ∀ b, b < 0 → a ≠ b → (TJ2 a).2.1 ≠ (TJ2 b).2.1 := by decide +kernel
theorem tyJ2_ok : ∀ k, k < 0 → parseFieldDescriptor (TJ2 k).2.2.1 = some (tyJ2 k) := by decide +kernel
abbrev cJ2_getChar_3b067 : ByteArray := prog_18_method_5_code
def yJ2_getChar_3b067 : MethodName := ⟨RJ2, "getChar", "([BI)C"⟩
abbrev cJ2_length_9d52b : ByteArray := prog_18_method_6_code
def yJ2_length_9d52b : MethodName := ⟨RJ2, "length", "([B)I"⟩
abbrev cJ2_indexOf_4cfef : ByteArray := prog_18_method_40_code
def yJ2_indexOf_4cfef : MethodName := ⟨RJ2, "indexOf", "([BIII)I"⟩
abbrev cJ2_indexOfChar_4cfef : ByteArray := prog_18_method_47_code
def yJ2_indexOfChar_4cfef : MethodName := ⟨RJ2, "indexOfChar", "([BIII)I"⟩
abbrev cJ2_indexOfCharUnsafe_4cfef : ByteArray := prog_18_method_48_code
def yJ2_indexOfCharUnsafe_4cfef : MethodName := ⟨RJ2, "indexOfCharUnsafe", "([BIII)I"⟩
abbrev cJ2_indexOfSupplementary_4cfef : ByteArray := prog_18_method_49_code
def yJ2_indexOfSupplementary_4cfef : MethodName := ⟨RJ2, "indexOfSupplementary", "([BIII)I"⟩
abbrev cJ2_charAt_3b067 : ByteArray := prog_18_method_83_code
def yJ2_charAt_3b067 : MethodName := ⟨RJ2, "charAt", "([BI)C"⟩
abbrev cJ2_checkIndex_2214a : ByteArray := prog_18_method_91_code
def yJ2_checkIndex_2214a : MethodName := ⟨RJ2, "checkIndex", "(I[B)V"⟩
abbrev cJ2_checkBoundsBeginEnd_d044e : ByteArray := prog_18_method_93_code
def yJ2_checkBoundsBeginEnd_d044e : MethodName := ⟨RJ2, "checkBoundsBeginEnd", "(II[B)V"⟩
def RJ10 : String := "java/lang/System"
def TJ10 : u_T := fun k => match k with
  | _ => ("", "", "", false)
def tyJ10 : Nat → FieldType := fun k => match k with
  | _ => .int
theorem nmJ10 : ∀ a, a < 0 → ∀ b, b < 0 → a ≠ b → (TJ10 a).2.1 ≠ (TJ10 b).2.1 := by decide +kernel
theorem tyJ10_ok : ∀ k, k < 0 → parseFieldDescriptor (TJ10 k).2.2.1 = some (tyJ10 k) := by decide +kernel
def RJxfd54e : String := "java/lang/constant/Constable"
def TJxfd54e : u_T := fun k => match k with
  | _ => ("", "", "", false)
def tyJxfd54e : Nat → FieldType := fun k => match k with
  | _ => .int
theorem nmJxfd54e : ∀ a, a < 0 → ∀ b, b < 0 → a ≠ b → (TJxfd54e a).2.1 ≠ (TJxfd54e b).2.1 := by decide +kernel
theorem tyJxfd54e_ok : ∀ k, k < 0 → parseFieldDescriptor (TJxfd54e k).2.2.1 = some (tyJxfd54e k) := by decide +kernel
def RJx3cf43 : String := "java/lang/constant/ConstantDesc"
def TJx3cf43 : u_T := fun k => match k with
  | _ => ("", "", "", false)
def tyJx3cf43 : Nat → FieldType := fun k => match k with
  | _ => .int
theorem nmJx3cf43 : ∀ a, a < 0 → ∀ b, b < 0 → a ≠ b → (TJx3cf43 a).2.1 ≠ (TJx3cf43 b).2.1 := by decide +kernel
theorem tyJx3cf43_ok : ∀ k, k < 0 → parseFieldDescriptor (TJx3cf43 k).2.2.1 = some (tyJx3cf43 k) := by decide +kernel
def RJ7 : String := "java/util/Arrays"
def TJ7 : u_T := fun k => match k with
  | _ => ("", "", "", false)
def tyJ7 : Nat → FieldType := fun k => match k with
  | _ => .int
theorem nmJ7 : ∀ a, a < 0 → ∀ b, b < 0 → a ≠ b → (TJ7 a).2.1 ≠ (TJ7 b).2.1 := by decide +kernel
theorem tyJ7_ok : ∀ k, k < 0 → parseFieldDescriptor (TJ7 k).2.2.1 = some (tyJ7 k) := by decide +kernel
abbrev cJ7_fill_53178 : ByteArray := prog_20_method_103_code
def yJ7_fill_53178 : MethodName := ⟨RJ7, "fill", "([II)V"⟩
def RJ3 : String := "jdk/internal/util/Preconditions"
def TJ3 : u_T := fun k => match k with
  | _ => ("", "", "", false)
def tyJ3 : Nat → FieldType := fun k => match k with
  | _ => .int
theorem nmJ3 : ∀ a, a < 0 → ∀ b, b < 0 → a ≠ b → (TJ3 a).2.1 ≠ (TJ3 b).2.1 := by decide +kernel
theorem tyJ3_ok : ∀ k, k < 0 → parseFieldDescriptor (TJ3 k).2.2.1 = some (tyJ3 k) := by decide +kernel
abbrev cJ3_checkIndex_8e157 : ByteArray := prog_21_method_11_code
def yJ3_checkIndex_8e157 : MethodName := ⟨RJ3, "checkIndex", "(IILjava/util/function/BiFunction;)I"⟩
abbrev cJ3_checkFromToIndex_8c36e : ByteArray := prog_21_method_12_code
def yJ3_checkFromToIndex_8c36e : MethodName := ⟨RJ3, "checkFromToIndex", "(IIILjava/util/function/BiFunction;)I"⟩
def RL : String := "BreakTimeLaw"
abbrev cL_law : ByteArray := code
def yL_law : MethodName := ⟨RL, "law", "([I)Z"⟩
abbrev vwCl : List vw_C := [(RX0, TX0, 8), (RX1, TX1, 4), (RX2, TX2, 5), (RX3, TX3, 5), (RX4, TX4, 2), (RX5, TX5, 3), (RX6, TX6, 5), (RX7, TX7, 3), (RX8, TX8, 12), (RX9, TX9, 9), (RX10, TX10, 24)]
end
section
theorem dX0_init_0 : decode cX0_init 0 = .ok (.aload_n 0, 1) := by decide +kernel
theorem dX0_init_1 : decode cX0_init 1 = .ok (.invokespecial 3, 3) := by decide +kernel
theorem dX0_init_4 : decode cX0_init 4 = .ok (.aload_n 0, 1) := by decide +kernel
theorem dX0_init_5 : decode cX0_init 5 = .ok (.iconst (-1), 1) := by decide +kernel
theorem dX0_init_6 : decode cX0_init 6 = .ok (.putfield 9, 3) := by decide +kernel
theorem dX0_init_9 : decode cX0_init 9 = .ok (.aload_n 0, 1) := by decide +kernel
theorem dX0_init_10 : decode cX0_init 10 = .ok (.bipush 10, 2) := by decide +kernel
theorem dX0_init_12 : decode cX0_init 12 = .ok (.newarray .int, 2) := by decide +kernel
theorem dX0_init_14 : decode cX0_init 14 = .ok (.putfield 15, 3) := by decide +kernel
theorem dX0_init_17 : decode cX0_init 17 = .ok (.aload_n 0, 1) := by decide +kernel
theorem dX0_init_18 : decode cX0_init 18 = .ok (.iconst 5, 1) := by decide +kernel
theorem dX0_init_19 : decode cX0_init 19 = .ok (.newarray .int, 2) := by decide +kernel
theorem dX0_init_21 : decode cX0_init 21 = .ok (.putfield 19, 3) := by decide +kernel
theorem dX0_init_24 : decode cX0_init 24 = .ok (.return_, 1) := by decide +kernel
theorem dX0_takeFrom_0 : decode cX0_takeFrom 0 = .ok (.aload_n 0, 1) := by decide +kernel
theorem dX0_takeFrom_1 : decode cX0_takeFrom 1 = .ok (.aload_n 1, 1) := by decide +kernel
theorem dX0_takeFrom_2 : decode cX0_takeFrom 2 = .ok (.getfield 22, 3) := by decide +kernel
theorem dX0_takeFrom_5 : decode cX0_takeFrom 5 = .ok (.putfield 22, 3) := by decide +kernel
theorem dX0_takeFrom_8 : decode cX0_takeFrom 8 = .ok (.aload_n 0, 1) := by decide +kernel
theorem dX0_takeFrom_9 : decode cX0_takeFrom 9 = .ok (.aload_n 1, 1) := by decide +kernel
theorem dX0_takeFrom_10 : decode cX0_takeFrom 10 = .ok (.getfield 25, 3) := by decide +kernel
theorem dX0_takeFrom_13 : decode cX0_takeFrom 13 = .ok (.putfield 25, 3) := by decide +kernel
theorem dX0_takeFrom_16 : decode cX0_takeFrom 16 = .ok (.aload_n 0, 1) := by decide +kernel
theorem dX0_takeFrom_17 : decode cX0_takeFrom 17 = .ok (.aload_n 1, 1) := by decide +kernel
theorem dX0_takeFrom_18 : decode cX0_takeFrom 18 = .ok (.getfield 28, 3) := by decide +kernel
theorem dX0_takeFrom_21 : decode cX0_takeFrom 21 = .ok (.putfield 28, 3) := by decide +kernel
theorem dX0_takeFrom_24 : decode cX0_takeFrom 24 = .ok (.aload_n 0, 1) := by decide +kernel
theorem dX0_takeFrom_25 : decode cX0_takeFrom 25 = .ok (.aload_n 1, 1) := by decide +kernel
theorem dX0_takeFrom_26 : decode cX0_takeFrom 26 = .ok (.getfield 31, 3) := by decide +kernel
theorem dX0_takeFrom_29 : decode cX0_takeFrom 29 = .ok (.putfield 31, 3) := by decide +kernel
theorem dX0_takeFrom_32 : decode cX0_takeFrom 32 = .ok (.aload_n 0, 1) := by decide +kernel
theorem dX0_takeFrom_33 : decode cX0_takeFrom 33 = .ok (.aload_n 1, 1) := by decide +kernel
theorem dX0_takeFrom_34 : decode cX0_takeFrom 34 = .ok (.getfield 9, 3) := by decide +kernel
theorem dX0_takeFrom_37 : decode cX0_takeFrom 37 = .ok (.putfield 9, 3) := by decide +kernel
theorem dX0_takeFrom_40 : decode cX0_takeFrom 40 = .ok (.aload_n 0, 1) := by decide +kernel
theorem dX0_takeFrom_41 : decode cX0_takeFrom 41 = .ok (.aload_n 1, 1) := by decide +kernel
theorem dX0_takeFrom_42 : decode cX0_takeFrom 42 = .ok (.getfield 34, 3) := by decide +kernel
theorem dX0_takeFrom_45 : decode cX0_takeFrom 45 = .ok (.putfield 34, 3) := by decide +kernel
theorem dX0_takeFrom_48 : decode cX0_takeFrom 48 = .ok (.aload_n 1, 1) := by decide +kernel
theorem dX0_takeFrom_49 : decode cX0_takeFrom 49 = .ok (.getfield 15, 3) := by decide +kernel
theorem dX0_takeFrom_52 : decode cX0_takeFrom 52 = .ok (.iconst 0, 1) := by decide +kernel
theorem dX0_takeFrom_53 : decode cX0_takeFrom 53 = .ok (.aload_n 0, 1) := by decide +kernel
theorem dX0_takeFrom_54 : decode cX0_takeFrom 54 = .ok (.getfield 15, 3) := by decide +kernel
theorem dX0_takeFrom_57 : decode cX0_takeFrom 57 = .ok (.iconst 0, 1) := by decide +kernel
theorem dX0_takeFrom_58 : decode cX0_takeFrom 58 = .ok (.bipush 10, 2) := by decide +kernel
theorem dX0_takeFrom_60 : decode cX0_takeFrom 60 = .ok (.invokestatic 37, 3) := by decide +kernel
theorem dX0_takeFrom_63 : decode cX0_takeFrom 63 = .ok (.aload_n 1, 1) := by decide +kernel
theorem dX0_takeFrom_64 : decode cX0_takeFrom 64 = .ok (.getfield 19, 3) := by decide +kernel
theorem dX0_takeFrom_67 : decode cX0_takeFrom 67 = .ok (.iconst 0, 1) := by decide +kernel
theorem dX0_takeFrom_68 : decode cX0_takeFrom 68 = .ok (.aload_n 0, 1) := by decide +kernel
theorem dX0_takeFrom_69 : decode cX0_takeFrom 69 = .ok (.getfield 19, 3) := by decide +kernel
theorem dX0_takeFrom_72 : decode cX0_takeFrom 72 = .ok (.iconst 0, 1) := by decide +kernel
theorem dX0_takeFrom_73 : decode cX0_takeFrom 73 = .ok (.iconst 5, 1) := by decide +kernel
theorem dX0_takeFrom_74 : decode cX0_takeFrom 74 = .ok (.invokestatic 37, 3) := by decide +kernel
theorem dX0_takeFrom_77 : decode cX0_takeFrom 77 = .ok (.return_, 1) := by decide +kernel
theorem dX1_init_0 : decode cX1_init 0 = .ok (.aload_n 0, 1) := by decide +kernel
theorem dX1_init_1 : decode cX1_init 1 = .ok (.invokespecial 3, 3) := by decide +kernel
theorem dX1_init_4 : decode cX1_init 4 = .ok (.aload_n 0, 1) := by decide +kernel
theorem dX1_init_5 : decode cX1_init 5 = .ok (.bipush 10, 2) := by decide +kernel
theorem dX1_init_7 : decode cX1_init 7 = .ok (.newarray .int, 2) := by decide +kernel
theorem dX1_init_9 : decode cX1_init 9 = .ok (.putfield 9, 3) := by decide +kernel
theorem dX1_init_12 : decode cX1_init 12 = .ok (.aload_n 0, 1) := by decide +kernel
theorem dX1_init_13 : decode cX1_init 13 = .ok (.bipush 10, 2) := by decide +kernel
theorem dX1_init_15 : decode cX1_init 15 = .ok (.newarray .int, 2) := by decide +kernel
theorem dX1_init_17 : decode cX1_init 17 = .ok (.putfield 15, 3) := by decide +kernel
theorem dX1_init_20 : decode cX1_init 20 = .ok (.return_, 1) := by decide +kernel
theorem dX1_look_0 : decode cX1_look 0 = .ok (.aload_n 0, 1) := by decide +kernel
theorem dX1_look_1 : decode cX1_look 1 = .ok (.aload_n 1, 1) := by decide +kernel
theorem dX1_look_2 : decode cX1_look 2 = .ok (.getfield 18, 3) := by decide +kernel
theorem dX1_look_5 : decode cX1_look 5 = .ok (.putfield 24, 3) := by decide +kernel
theorem dX1_look_8 : decode cX1_look 8 = .ok (.aload_n 0, 1) := by decide +kernel
theorem dX1_look_9 : decode cX1_look 9 = .ok (.iconst 0, 1) := by decide +kernel
theorem dX1_look_10 : decode cX1_look 10 = .ok (.putfield 27, 3) := by decide +kernel
theorem dX1_look_13 : decode cX1_look 13 = .ok (.iconst 0, 1) := by decide +kernel
theorem dX1_look_14 : decode cX1_look 14 = .ok (.istore_n 2, 1) := by decide +kernel
theorem dX1_look_15 : decode cX1_look 15 = .ok (.iload_n 2, 1) := by decide +kernel
theorem dX1_look_16 : decode cX1_look 16 = .ok (.aload_n 0, 1) := by decide +kernel
theorem dX1_look_17 : decode cX1_look 17 = .ok (.getfield 24, 3) := by decide +kernel
theorem dX1_look_20 : decode cX1_look 20 = .ok (.if_icmp .ge 48, 3) := by decide +kernel
theorem dX1_look_23 : decode cX1_look 23 = .ok (.aload_n 0, 1) := by decide +kernel
theorem dX1_look_24 : decode cX1_look 24 = .ok (.getfield 9, 3) := by decide +kernel
theorem dX1_look_27 : decode cX1_look 27 = .ok (.iload_n 2, 1) := by decide +kernel
theorem dX1_look_28 : decode cX1_look 28 = .ok (.aload_n 0, 1) := by decide +kernel
theorem dX1_look_29 : decode cX1_look 29 = .ok (.aload_n 1, 1) := by decide +kernel
theorem dX1_look_30 : decode cX1_look 30 = .ok (.getfield 30, 3) := by decide +kernel
theorem dX1_look_33 : decode cX1_look 33 = .ok (.iload_n 2, 1) := by decide +kernel
theorem dX1_look_34 : decode cX1_look 34 = .ok (.aaload, 1) := by decide +kernel
theorem dX1_look_35 : decode cX1_look 35 = .ok (.getfield 34, 3) := by decide +kernel
theorem dX1_look_38 : decode cX1_look 38 = .ok (.invokevirtual 39, 3) := by decide +kernel
theorem dX1_look_41 : decode cX1_look 41 = .ok (.iastore, 1) := by decide +kernel
theorem dX1_look_42 : decode cX1_look 42 = .ok (.aload_n 0, 1) := by decide +kernel
theorem dX1_look_43 : decode cX1_look 43 = .ok (.dup, 1) := by decide +kernel
theorem dX1_look_44 : decode cX1_look 44 = .ok (.getfield 27, 3) := by decide +kernel
theorem dX1_look_47 : decode cX1_look 47 = .ok (.aload_n 1, 1) := by decide +kernel
theorem dX1_look_48 : decode cX1_look 48 = .ok (.getfield 30, 3) := by decide +kernel
theorem dX1_look_51 : decode cX1_look 51 = .ok (.iload_n 2, 1) := by decide +kernel
theorem dX1_look_52 : decode cX1_look 52 = .ok (.aaload, 1) := by decide +kernel
theorem dX1_look_53 : decode cX1_look 53 = .ok (.getfield 43, 3) := by decide +kernel
theorem dX1_look_56 : decode cX1_look 56 = .ok (.iload_n 2, 1) := by decide +kernel
theorem dX1_look_57 : decode cX1_look 57 = .ok (.ishl, 1) := by decide +kernel
theorem dX1_look_58 : decode cX1_look 58 = .ok (.ior, 1) := by decide +kernel
theorem dX1_look_59 : decode cX1_look 59 = .ok (.putfield 27, 3) := by decide +kernel
theorem dX1_look_62 : decode cX1_look 62 = .ok (.iinc 2 1, 3) := by decide +kernel
theorem dX1_look_65 : decode cX1_look 65 = .ok (.goto (-50), 3) := by decide +kernel
theorem dX1_look_68 : decode cX1_look 68 = .ok (.iconst 0, 1) := by decide +kernel
theorem dX1_look_69 : decode cX1_look 69 = .ok (.istore_n 2, 1) := by decide +kernel
theorem dX1_look_70 : decode cX1_look 70 = .ok (.iload_n 2, 1) := by decide +kernel
theorem dX1_look_71 : decode cX1_look 71 = .ok (.aload_n 0, 1) := by decide +kernel
theorem dX1_look_72 : decode cX1_look 72 = .ok (.getfield 24, 3) := by decide +kernel
theorem dX1_look_75 : decode cX1_look 75 = .ok (.if_icmp .ge 27, 3) := by decide +kernel
theorem dX1_look_78 : decode cX1_look 78 = .ok (.aload_n 0, 1) := by decide +kernel
theorem dX1_look_79 : decode cX1_look 79 = .ok (.getfield 15, 3) := by decide +kernel
theorem dX1_look_82 : decode cX1_look 82 = .ok (.iload_n 2, 1) := by decide +kernel
theorem dX1_look_83 : decode cX1_look 83 = .ok (.aload_n 0, 1) := by decide +kernel
theorem dX1_look_84 : decode cX1_look 84 = .ok (.getfield 9, 3) := by decide +kernel
theorem dX1_look_87 : decode cX1_look 87 = .ok (.iload_n 2, 1) := by decide +kernel
theorem dX1_look_88 : decode cX1_look 88 = .ok (.iaload, 1) := by decide +kernel
theorem dX1_look_89 : decode cX1_look 89 = .ok (.aload_n 0, 1) := by decide +kernel
theorem dX1_look_90 : decode cX1_look 90 = .ok (.iload_n 2, 1) := by decide +kernel
theorem dX1_look_91 : decode cX1_look 91 = .ok (.invokevirtual 46, 3) := by decide +kernel
theorem dX1_look_94 : decode cX1_look 94 = .ok (.iand, 1) := by decide +kernel
theorem dX1_look_95 : decode cX1_look 95 = .ok (.iastore, 1) := by decide +kernel
theorem dX1_look_96 : decode cX1_look 96 = .ok (.iinc 2 1, 3) := by decide +kernel
theorem dX1_look_99 : decode cX1_look 99 = .ok (.goto (-29), 3) := by decide +kernel
theorem dX1_look_102 : decode cX1_look 102 = .ok (.return_, 1) := by decide +kernel
theorem dX1_slipOf_0 : decode cX1_slipOf 0 = .ok (.iconst 0, 1) := by decide +kernel
theorem dX1_slipOf_1 : decode cX1_slipOf 1 = .ok (.istore_n 2, 1) := by decide +kernel
theorem dX1_slipOf_2 : decode cX1_slipOf 2 = .ok (.iconst 0, 1) := by decide +kernel
theorem dX1_slipOf_3 : decode cX1_slipOf 3 = .ok (.istore_n 3, 1) := by decide +kernel
theorem dX1_slipOf_4 : decode cX1_slipOf 4 = .ok (.iload_n 3, 1) := by decide +kernel
theorem dX1_slipOf_5 : decode cX1_slipOf 5 = .ok (.iconst 3, 1) := by decide +kernel
theorem dX1_slipOf_6 : decode cX1_slipOf 6 = .ok (.if_icmp .ge 73, 3) := by decide +kernel
theorem dX1_slipOf_9 : decode cX1_slipOf 9 = .ok (.iconst (-1), 1) := by decide +kernel
theorem dX1_slipOf_10 : decode cX1_slipOf 10 = .ok (.istore 4, 2) := by decide +kernel
theorem dX1_slipOf_12 : decode cX1_slipOf 12 = .ok (.iconst 0, 1) := by decide +kernel
theorem dX1_slipOf_13 : decode cX1_slipOf 13 = .ok (.istore 5, 2) := by decide +kernel
theorem dX1_slipOf_15 : decode cX1_slipOf 15 = .ok (.iconst 0, 1) := by decide +kernel
theorem dX1_slipOf_16 : decode cX1_slipOf 16 = .ok (.istore 6, 2) := by decide +kernel
theorem dX1_slipOf_18 : decode cX1_slipOf 18 = .ok (.iload 6, 2) := by decide +kernel
theorem dX1_slipOf_20 : decode cX1_slipOf 20 = .ok (.aload_n 0, 1) := by decide +kernel
theorem dX1_slipOf_21 : decode cX1_slipOf 21 = .ok (.getfield 24, 3) := by decide +kernel
theorem dX1_slipOf_24 : decode cX1_slipOf 24 = .ok (.if_icmp .ge 37, 3) := by decide +kernel
theorem dX1_slipOf_27 : decode cX1_slipOf 27 = .ok (.iload_n 2, 1) := by decide +kernel
theorem dX1_slipOf_28 : decode cX1_slipOf 28 = .ok (.iload 6, 2) := by decide +kernel
theorem dX1_slipOf_30 : decode cX1_slipOf 30 = .ok (.ishr, 1) := by decide +kernel
theorem dX1_slipOf_31 : decode cX1_slipOf 31 = .ok (.iconst 1, 1) := by decide +kernel
theorem dX1_slipOf_32 : decode cX1_slipOf 32 = .ok (.iand, 1) := by decide +kernel
theorem dX1_slipOf_33 : decode cX1_slipOf 33 = .ok (.ifCond .ne 22, 3) := by decide +kernel
theorem dX1_slipOf_36 : decode cX1_slipOf 36 = .ok (.aload_n 1, 1) := by decide +kernel
theorem dX1_slipOf_37 : decode cX1_slipOf 37 = .ok (.iload 6, 2) := by decide +kernel
theorem dX1_slipOf_39 : decode cX1_slipOf 39 = .ok (.iaload, 1) := by decide +kernel
theorem dX1_slipOf_40 : decode cX1_slipOf 40 = .ok (.iload 5, 2) := by decide +kernel
theorem dX1_slipOf_42 : decode cX1_slipOf 42 = .ok (.if_icmp .le 13, 3) := by decide +kernel
theorem dX1_slipOf_45 : decode cX1_slipOf 45 = .ok (.iload 6, 2) := by decide +kernel
theorem dX1_slipOf_47 : decode cX1_slipOf 47 = .ok (.istore 4, 2) := by decide +kernel
theorem dX1_slipOf_49 : decode cX1_slipOf 49 = .ok (.aload_n 1, 1) := by decide +kernel
theorem dX1_slipOf_50 : decode cX1_slipOf 50 = .ok (.iload 6, 2) := by decide +kernel
theorem dX1_slipOf_52 : decode cX1_slipOf 52 = .ok (.iaload, 1) := by decide +kernel
theorem dX1_slipOf_53 : decode cX1_slipOf 53 = .ok (.istore 5, 2) := by decide +kernel
theorem dX1_slipOf_55 : decode cX1_slipOf 55 = .ok (.iinc 6 1, 3) := by decide +kernel
theorem dX1_slipOf_58 : decode cX1_slipOf 58 = .ok (.goto (-40), 3) := by decide +kernel
theorem dX1_slipOf_61 : decode cX1_slipOf 61 = .ok (.iload 4, 2) := by decide +kernel
theorem dX1_slipOf_63 : decode cX1_slipOf 63 = .ok (.ifCond .lt 10, 3) := by decide +kernel
theorem dX1_slipOf_66 : decode cX1_slipOf 66 = .ok (.iload_n 2, 1) := by decide +kernel
theorem dX1_slipOf_67 : decode cX1_slipOf 67 = .ok (.iconst 1, 1) := by decide +kernel
theorem dX1_slipOf_68 : decode cX1_slipOf 68 = .ok (.iload 4, 2) := by decide +kernel
theorem dX1_slipOf_70 : decode cX1_slipOf 70 = .ok (.ishl, 1) := by decide +kernel
theorem dX1_slipOf_71 : decode cX1_slipOf 71 = .ok (.ior, 1) := by decide +kernel
theorem dX1_slipOf_72 : decode cX1_slipOf 72 = .ok (.istore_n 2, 1) := by decide +kernel
theorem dX1_slipOf_73 : decode cX1_slipOf 73 = .ok (.iinc 3 1, 3) := by decide +kernel
theorem dX1_slipOf_76 : decode cX1_slipOf 76 = .ok (.goto (-72), 3) := by decide +kernel
theorem dX1_slipOf_79 : decode cX1_slipOf 79 = .ok (.iload_n 2, 1) := by decide +kernel
theorem dX1_slipOf_80 : decode cX1_slipOf 80 = .ok (.ireturn, 1) := by decide +kernel
theorem dX1_naming_0 : decode cX1_naming 0 = .ok (.iconst 0, 1) := by decide +kernel
theorem dX1_naming_1 : decode cX1_naming 1 = .ok (.istore_n 2, 1) := by decide +kernel
theorem dX1_naming_2 : decode cX1_naming 2 = .ok (.iconst 0, 1) := by decide +kernel
theorem dX1_naming_3 : decode cX1_naming 3 = .ok (.istore_n 3, 1) := by decide +kernel
theorem dX1_naming_4 : decode cX1_naming 4 = .ok (.iload_n 3, 1) := by decide +kernel
theorem dX1_naming_5 : decode cX1_naming 5 = .ok (.aload_n 0, 1) := by decide +kernel
theorem dX1_naming_6 : decode cX1_naming 6 = .ok (.getfield 24, 3) := by decide +kernel
theorem dX1_naming_9 : decode cX1_naming 9 = .ok (.if_icmp .ge 24, 3) := by decide +kernel
theorem dX1_naming_12 : decode cX1_naming 12 = .ok (.iload_n 2, 1) := by decide +kernel
theorem dX1_naming_13 : decode cX1_naming 13 = .ok (.aload_n 0, 1) := by decide +kernel
theorem dX1_naming_14 : decode cX1_naming 14 = .ok (.getfield 9, 3) := by decide +kernel
theorem dX1_naming_17 : decode cX1_naming 17 = .ok (.iload_n 3, 1) := by decide +kernel
theorem dX1_naming_18 : decode cX1_naming 18 = .ok (.iaload, 1) := by decide +kernel
theorem dX1_naming_19 : decode cX1_naming 19 = .ok (.iload_n 1, 1) := by decide +kernel
theorem dX1_naming_20 : decode cX1_naming 20 = .ok (.ishr, 1) := by decide +kernel
theorem dX1_naming_21 : decode cX1_naming 21 = .ok (.iconst 1, 1) := by decide +kernel
theorem dX1_naming_22 : decode cX1_naming 22 = .ok (.iand, 1) := by decide +kernel
theorem dX1_naming_23 : decode cX1_naming 23 = .ok (.iload_n 3, 1) := by decide +kernel
theorem dX1_naming_24 : decode cX1_naming 24 = .ok (.ishl, 1) := by decide +kernel
theorem dX1_naming_25 : decode cX1_naming 25 = .ok (.ior, 1) := by decide +kernel
theorem dX1_naming_26 : decode cX1_naming 26 = .ok (.istore_n 2, 1) := by decide +kernel
theorem dX1_naming_27 : decode cX1_naming 27 = .ok (.iinc 3 1, 3) := by decide +kernel
theorem dX1_naming_30 : decode cX1_naming 30 = .ok (.goto (-26), 3) := by decide +kernel
theorem dX1_naming_33 : decode cX1_naming 33 = .ok (.iload_n 2, 1) := by decide +kernel
theorem dX1_naming_34 : decode cX1_naming 34 = .ok (.ireturn, 1) := by decide +kernel
theorem dX1_countNaming_0 : decode cX1_countNaming 0 = .ok (.aload_n 0, 1) := by decide +kernel
theorem dX1_countNaming_1 : decode cX1_countNaming 1 = .ok (.iload_n 1, 1) := by decide +kernel
theorem dX1_countNaming_2 : decode cX1_countNaming 2 = .ok (.invokevirtual 46, 3) := by decide +kernel
theorem dX1_countNaming_5 : decode cX1_countNaming 5 = .ok (.invokestatic 50, 3) := by decide +kernel
theorem dX1_countNaming_8 : decode cX1_countNaming 8 = .ok (.ireturn, 1) := by decide +kernel
theorem dX1_ringOf_0 : decode cX1_ringOf 0 = .ok (.iconst 1, 1) := by decide +kernel
theorem dX1_ringOf_1 : decode cX1_ringOf 1 = .ok (.iload_n 1, 1) := by decide +kernel
theorem dX1_ringOf_2 : decode cX1_ringOf 2 = .ok (.ishl, 1) := by decide +kernel
theorem dX1_ringOf_3 : decode cX1_ringOf 3 = .ok (.istore_n 2, 1) := by decide +kernel
theorem dX1_ringOf_4 : decode cX1_ringOf 4 = .ok (.iconst 0, 1) := by decide +kernel
theorem dX1_ringOf_5 : decode cX1_ringOf 5 = .ok (.istore_n 3, 1) := by decide +kernel
theorem dX1_ringOf_6 : decode cX1_ringOf 6 = .ok (.iload_n 3, 1) := by decide +kernel
theorem dX1_ringOf_7 : decode cX1_ringOf 7 = .ok (.aload_n 0, 1) := by decide +kernel
theorem dX1_ringOf_8 : decode cX1_ringOf 8 = .ok (.getfield 24, 3) := by decide +kernel
theorem dX1_ringOf_11 : decode cX1_ringOf 11 = .ok (.if_icmp .ge 46, 3) := by decide +kernel
theorem dX1_ringOf_14 : decode cX1_ringOf 14 = .ok (.iconst 0, 1) := by decide +kernel
theorem dX1_ringOf_15 : decode cX1_ringOf 15 = .ok (.istore 4, 2) := by decide +kernel
theorem dX1_ringOf_17 : decode cX1_ringOf 17 = .ok (.iload 4, 2) := by decide +kernel
theorem dX1_ringOf_19 : decode cX1_ringOf 19 = .ok (.aload_n 0, 1) := by decide +kernel
theorem dX1_ringOf_20 : decode cX1_ringOf 20 = .ok (.getfield 24, 3) := by decide +kernel
theorem dX1_ringOf_23 : decode cX1_ringOf 23 = .ok (.if_icmp .ge 28, 3) := by decide +kernel
theorem dX1_ringOf_26 : decode cX1_ringOf 26 = .ok (.iload_n 2, 1) := by decide +kernel
theorem dX1_ringOf_27 : decode cX1_ringOf 27 = .ok (.iload 4, 2) := by decide +kernel
theorem dX1_ringOf_29 : decode cX1_ringOf 29 = .ok (.ishr, 1) := by decide +kernel
theorem dX1_ringOf_30 : decode cX1_ringOf 30 = .ok (.iconst 1, 1) := by decide +kernel
theorem dX1_ringOf_31 : decode cX1_ringOf 31 = .ok (.iand, 1) := by decide +kernel
theorem dX1_ringOf_32 : decode cX1_ringOf 32 = .ok (.ifCond .eq 13, 3) := by decide +kernel
theorem dX1_ringOf_35 : decode cX1_ringOf 35 = .ok (.iload_n 2, 1) := by decide +kernel
theorem dX1_ringOf_36 : decode cX1_ringOf 36 = .ok (.aload_n 0, 1) := by decide +kernel
theorem dX1_ringOf_37 : decode cX1_ringOf 37 = .ok (.getfield 15, 3) := by decide +kernel
theorem dX1_ringOf_40 : decode cX1_ringOf 40 = .ok (.iload 4, 2) := by decide +kernel
theorem dX1_ringOf_42 : decode cX1_ringOf 42 = .ok (.iaload, 1) := by decide +kernel
theorem dX1_ringOf_43 : decode cX1_ringOf 43 = .ok (.ior, 1) := by decide +kernel
theorem dX1_ringOf_44 : decode cX1_ringOf 44 = .ok (.istore_n 2, 1) := by decide +kernel
theorem dX1_ringOf_45 : decode cX1_ringOf 45 = .ok (.iinc 4 1, 3) := by decide +kernel
theorem dX1_ringOf_48 : decode cX1_ringOf 48 = .ok (.goto (-31), 3) := by decide +kernel
theorem dX1_ringOf_51 : decode cX1_ringOf 51 = .ok (.iinc 3 1, 3) := by decide +kernel
theorem dX1_ringOf_54 : decode cX1_ringOf 54 = .ok (.goto (-48), 3) := by decide +kernel
theorem dX1_ringOf_57 : decode cX1_ringOf 57 = .ok (.iload_n 2, 1) := by decide +kernel
theorem dX1_ringOf_58 : decode cX1_ringOf 58 = .ok (.ireturn, 1) := by decide +kernel
theorem dX1_countRings_0 : decode cX1_countRings 0 = .ok (.iconst 0, 1) := by decide +kernel
theorem dX1_countRings_1 : decode cX1_countRings 1 = .ok (.istore_n 1, 1) := by decide +kernel
theorem dX1_countRings_2 : decode cX1_countRings 2 = .ok (.iconst 0, 1) := by decide +kernel
theorem dX1_countRings_3 : decode cX1_countRings 3 = .ok (.istore_n 2, 1) := by decide +kernel
theorem dX1_countRings_4 : decode cX1_countRings 4 = .ok (.iload_n 2, 1) := by decide +kernel
theorem dX1_countRings_5 : decode cX1_countRings 5 = .ok (.aload_n 0, 1) := by decide +kernel
theorem dX1_countRings_6 : decode cX1_countRings 6 = .ok (.getfield 24, 3) := by decide +kernel
theorem dX1_countRings_9 : decode cX1_countRings 9 = .ok (.if_icmp .ge 24, 3) := by decide +kernel
theorem dX1_countRings_12 : decode cX1_countRings 12 = .ok (.aload_n 0, 1) := by decide +kernel
theorem dX1_countRings_13 : decode cX1_countRings 13 = .ok (.iload_n 2, 1) := by decide +kernel
theorem dX1_countRings_14 : decode cX1_countRings 14 = .ok (.invokevirtual 55, 3) := by decide +kernel
theorem dX1_countRings_17 : decode cX1_countRings 17 = .ok (.invokestatic 58, 3) := by decide +kernel
theorem dX1_countRings_20 : decode cX1_countRings 20 = .ok (.iload_n 2, 1) := by decide +kernel
theorem dX1_countRings_21 : decode cX1_countRings 21 = .ok (.if_icmp .ne 6, 3) := by decide +kernel
theorem dX1_countRings_24 : decode cX1_countRings 24 = .ok (.iinc 1 1, 3) := by decide +kernel
theorem dX1_countRings_27 : decode cX1_countRings 27 = .ok (.iinc 2 1, 3) := by decide +kernel
theorem dX1_countRings_30 : decode cX1_countRings 30 = .ok (.goto (-26), 3) := by decide +kernel
theorem dX1_countRings_33 : decode cX1_countRings 33 = .ok (.iload_n 1, 1) := by decide +kernel
theorem dX1_countRings_34 : decode cX1_countRings 34 = .ok (.ireturn, 1) := by decide +kernel
theorem dX1_countPairs_0 : decode cX1_countPairs 0 = .ok (.iconst 0, 1) := by decide +kernel
theorem dX1_countPairs_1 : decode cX1_countPairs 1 = .ok (.istore_n 1, 1) := by decide +kernel
theorem dX1_countPairs_2 : decode cX1_countPairs 2 = .ok (.iconst 0, 1) := by decide +kernel
theorem dX1_countPairs_3 : decode cX1_countPairs 3 = .ok (.istore_n 2, 1) := by decide +kernel
theorem dX1_countPairs_4 : decode cX1_countPairs 4 = .ok (.iload_n 2, 1) := by decide +kernel
theorem dX1_countPairs_5 : decode cX1_countPairs 5 = .ok (.aload_n 0, 1) := by decide +kernel
theorem dX1_countPairs_6 : decode cX1_countPairs 6 = .ok (.getfield 24, 3) := by decide +kernel
theorem dX1_countPairs_9 : decode cX1_countPairs 9 = .ok (.if_icmp .ge 21, 3) := by decide +kernel
theorem dX1_countPairs_12 : decode cX1_countPairs 12 = .ok (.iload_n 1, 1) := by decide +kernel
theorem dX1_countPairs_13 : decode cX1_countPairs 13 = .ok (.aload_n 0, 1) := by decide +kernel
theorem dX1_countPairs_14 : decode cX1_countPairs 14 = .ok (.getfield 15, 3) := by decide +kernel
theorem dX1_countPairs_17 : decode cX1_countPairs 17 = .ok (.iload_n 2, 1) := by decide +kernel
theorem dX1_countPairs_18 : decode cX1_countPairs 18 = .ok (.iaload, 1) := by decide +kernel
theorem dX1_countPairs_19 : decode cX1_countPairs 19 = .ok (.invokestatic 50, 3) := by decide +kernel
theorem dX1_countPairs_22 : decode cX1_countPairs 22 = .ok (.iadd, 1) := by decide +kernel
theorem dX1_countPairs_23 : decode cX1_countPairs 23 = .ok (.istore_n 1, 1) := by decide +kernel
theorem dX1_countPairs_24 : decode cX1_countPairs 24 = .ok (.iinc 2 1, 3) := by decide +kernel
theorem dX1_countPairs_27 : decode cX1_countPairs 27 = .ok (.goto (-23), 3) := by decide +kernel
theorem dX1_countPairs_30 : decode cX1_countPairs 30 = .ok (.iload_n 1, 1) := by decide +kernel
theorem dX1_countPairs_31 : decode cX1_countPairs 31 = .ok (.iconst 2, 1) := by decide +kernel
theorem dX1_countPairs_32 : decode cX1_countPairs 32 = .ok (.idiv, 1) := by decide +kernel
theorem dX1_countPairs_33 : decode cX1_countPairs 33 = .ok (.ireturn, 1) := by decide +kernel
theorem dX1_mostNamed_0 : decode cX1_mostNamed 0 = .ok (.iconst 0, 1) := by decide +kernel
theorem dX1_mostNamed_1 : decode cX1_mostNamed 1 = .ok (.istore_n 1, 1) := by decide +kernel
theorem dX1_mostNamed_2 : decode cX1_mostNamed 2 = .ok (.iconst 0, 1) := by decide +kernel
theorem dX1_mostNamed_3 : decode cX1_mostNamed 3 = .ok (.istore_n 2, 1) := by decide +kernel
theorem dX1_mostNamed_4 : decode cX1_mostNamed 4 = .ok (.iload_n 2, 1) := by decide +kernel
theorem dX1_mostNamed_5 : decode cX1_mostNamed 5 = .ok (.aload_n 0, 1) := by decide +kernel
theorem dX1_mostNamed_6 : decode cX1_mostNamed 6 = .ok (.getfield 24, 3) := by decide +kernel
theorem dX1_mostNamed_9 : decode cX1_mostNamed 9 = .ok (.if_icmp .ge 19, 3) := by decide +kernel
theorem dX1_mostNamed_12 : decode cX1_mostNamed 12 = .ok (.iload_n 1, 1) := by decide +kernel
theorem dX1_mostNamed_13 : decode cX1_mostNamed 13 = .ok (.aload_n 0, 1) := by decide +kernel
theorem dX1_mostNamed_14 : decode cX1_mostNamed 14 = .ok (.iload_n 2, 1) := by decide +kernel
theorem dX1_mostNamed_15 : decode cX1_mostNamed 15 = .ok (.invokevirtual 61, 3) := by decide +kernel
theorem dX1_mostNamed_18 : decode cX1_mostNamed 18 = .ok (.invokestatic 64, 3) := by decide +kernel
theorem dX1_mostNamed_21 : decode cX1_mostNamed 21 = .ok (.istore_n 1, 1) := by decide +kernel
theorem dX1_mostNamed_22 : decode cX1_mostNamed 22 = .ok (.iinc 2 1, 3) := by decide +kernel
theorem dX1_mostNamed_25 : decode cX1_mostNamed 25 = .ok (.goto (-21), 3) := by decide +kernel
theorem dX1_mostNamed_28 : decode cX1_mostNamed 28 = .ok (.iload_n 1, 1) := by decide +kernel
theorem dX1_mostNamed_29 : decode cX1_mostNamed 29 = .ok (.ireturn, 1) := by decide +kernel
theorem dX1_leftOut_0 : decode cX1_leftOut 0 = .ok (.iconst 0, 1) := by decide +kernel
theorem dX1_leftOut_1 : decode cX1_leftOut 1 = .ok (.istore_n 1, 1) := by decide +kernel
theorem dX1_leftOut_2 : decode cX1_leftOut 2 = .ok (.iconst 0, 1) := by decide +kernel
theorem dX1_leftOut_3 : decode cX1_leftOut 3 = .ok (.istore_n 2, 1) := by decide +kernel
theorem dX1_leftOut_4 : decode cX1_leftOut 4 = .ok (.iload_n 2, 1) := by decide +kernel
theorem dX1_leftOut_5 : decode cX1_leftOut 5 = .ok (.aload_n 0, 1) := by decide +kernel
theorem dX1_leftOut_6 : decode cX1_leftOut 6 = .ok (.getfield 24, 3) := by decide +kernel
theorem dX1_leftOut_9 : decode cX1_leftOut 9 = .ok (.if_icmp .ge 18, 3) := by decide +kernel
theorem dX1_leftOut_12 : decode cX1_leftOut 12 = .ok (.iload_n 1, 1) := by decide +kernel
theorem dX1_leftOut_13 : decode cX1_leftOut 13 = .ok (.aload_n 0, 1) := by decide +kernel
theorem dX1_leftOut_14 : decode cX1_leftOut 14 = .ok (.getfield 9, 3) := by decide +kernel
theorem dX1_leftOut_17 : decode cX1_leftOut 17 = .ok (.iload_n 2, 1) := by decide +kernel
theorem dX1_leftOut_18 : decode cX1_leftOut 18 = .ok (.iaload, 1) := by decide +kernel
theorem dX1_leftOut_19 : decode cX1_leftOut 19 = .ok (.ior, 1) := by decide +kernel
theorem dX1_leftOut_20 : decode cX1_leftOut 20 = .ok (.istore_n 1, 1) := by decide +kernel
theorem dX1_leftOut_21 : decode cX1_leftOut 21 = .ok (.iinc 2 1, 3) := by decide +kernel
theorem dX1_leftOut_24 : decode cX1_leftOut 24 = .ok (.goto (-20), 3) := by decide +kernel
theorem dX1_leftOut_27 : decode cX1_leftOut 27 = .ok (.aload_n 0, 1) := by decide +kernel
theorem dX1_leftOut_28 : decode cX1_leftOut 28 = .ok (.getfield 27, 3) := by decide +kernel
theorem dX1_leftOut_31 : decode cX1_leftOut 31 = .ok (.iload_n 1, 1) := by decide +kernel
theorem dX1_leftOut_32 : decode cX1_leftOut 32 = .ok (.iconst (-1), 1) := by decide +kernel
theorem dX1_leftOut_33 : decode cX1_leftOut 33 = .ok (.ixor, 1) := by decide +kernel
theorem dX1_leftOut_34 : decode cX1_leftOut 34 = .ok (.iand, 1) := by decide +kernel
theorem dX1_leftOut_35 : decode cX1_leftOut 35 = .ok (.ireturn, 1) := by decide +kernel
theorem dX1_secondClass_0 : decode cX1_secondClass 0 = .ok (.iconst (-1), 1) := by decide +kernel
theorem dX1_secondClass_1 : decode cX1_secondClass 1 = .ok (.istore_n 1, 1) := by decide +kernel
theorem dX1_secondClass_2 : decode cX1_secondClass 2 = .ok (.iconst 0, 1) := by decide +kernel
theorem dX1_secondClass_3 : decode cX1_secondClass 3 = .ok (.istore_n 2, 1) := by decide +kernel
theorem dX1_secondClass_4 : decode cX1_secondClass 4 = .ok (.iconst 0, 1) := by decide +kernel
theorem dX1_secondClass_5 : decode cX1_secondClass 5 = .ok (.istore_n 3, 1) := by decide +kernel
theorem dX1_secondClass_6 : decode cX1_secondClass 6 = .ok (.iload_n 3, 1) := by decide +kernel
theorem dX1_secondClass_7 : decode cX1_secondClass 7 = .ok (.iconst 1, 1) := by decide +kernel
theorem dX1_secondClass_8 : decode cX1_secondClass 8 = .ok (.aload_n 0, 1) := by decide +kernel
theorem dX1_secondClass_9 : decode cX1_secondClass 9 = .ok (.getfield 24, 3) := by decide +kernel
theorem dX1_secondClass_12 : decode cX1_secondClass 12 = .ok (.ishl, 1) := by decide +kernel
theorem dX1_secondClass_13 : decode cX1_secondClass 13 = .ok (.if_icmp .ge 64, 3) := by decide +kernel
theorem dX1_secondClass_16 : decode cX1_secondClass 16 = .ok (.iload_n 3, 1) := by decide +kernel
theorem dX1_secondClass_17 : decode cX1_secondClass 17 = .ok (.invokestatic 50, 3) := by decide +kernel
theorem dX1_secondClass_20 : decode cX1_secondClass 20 = .ok (.istore 4, 2) := by decide +kernel
theorem dX1_secondClass_22 : decode cX1_secondClass 22 = .ok (.iload 4, 2) := by decide +kernel
theorem dX1_secondClass_24 : decode cX1_secondClass 24 = .ok (.aload_n 0, 1) := by decide +kernel
theorem dX1_secondClass_25 : decode cX1_secondClass 25 = .ok (.getfield 24, 3) := by decide +kernel
theorem dX1_secondClass_28 : decode cX1_secondClass 28 = .ok (.iconst 2, 1) := by decide +kernel
theorem dX1_secondClass_29 : decode cX1_secondClass 29 = .ok (.idiv, 1) := by decide +kernel
theorem dX1_secondClass_30 : decode cX1_secondClass 30 = .ok (.if_icmp .lt 41, 3) := by decide +kernel
theorem dX1_secondClass_33 : decode cX1_secondClass 33 = .ok (.aload_n 0, 1) := by decide +kernel
theorem dX1_secondClass_34 : decode cX1_secondClass 34 = .ok (.getfield 24, 3) := by decide +kernel
theorem dX1_secondClass_37 : decode cX1_secondClass 37 = .ok (.iload 4, 2) := by decide +kernel
theorem dX1_secondClass_39 : decode cX1_secondClass 39 = .ok (.isub, 1) := by decide +kernel
theorem dX1_secondClass_40 : decode cX1_secondClass 40 = .ok (.aload_n 0, 1) := by decide +kernel
theorem dX1_secondClass_41 : decode cX1_secondClass 41 = .ok (.getfield 24, 3) := by decide +kernel
theorem dX1_secondClass_44 : decode cX1_secondClass 44 = .ok (.iconst 2, 1) := by decide +kernel
theorem dX1_secondClass_45 : decode cX1_secondClass 45 = .ok (.idiv, 1) := by decide +kernel
theorem dX1_secondClass_46 : decode cX1_secondClass 46 = .ok (.if_icmp .lt 25, 3) := by decide +kernel
theorem dX1_secondClass_49 : decode cX1_secondClass 49 = .ok (.aload_n 0, 1) := by decide +kernel
theorem dX1_secondClass_50 : decode cX1_secondClass 50 = .ok (.iload_n 3, 1) := by decide +kernel
theorem dX1_secondClass_51 : decode cX1_secondClass 51 = .ok (.invokevirtual 70, 3) := by decide +kernel
theorem dX1_secondClass_54 : decode cX1_secondClass 54 = .ok (.istore 5, 2) := by decide +kernel
theorem dX1_secondClass_56 : decode cX1_secondClass 56 = .ok (.iload_n 1, 1) := by decide +kernel
theorem dX1_secondClass_57 : decode cX1_secondClass 57 = .ok (.ifCond .lt 9, 3) := by decide +kernel
theorem dX1_secondClass_60 : decode cX1_secondClass 60 = .ok (.iload 5, 2) := by decide +kernel
theorem dX1_secondClass_62 : decode cX1_secondClass 62 = .ok (.iload_n 2, 1) := by decide +kernel
theorem dX1_secondClass_63 : decode cX1_secondClass 63 = .ok (.if_icmp .ge 8, 3) := by decide +kernel
theorem dX1_secondClass_66 : decode cX1_secondClass 66 = .ok (.iload_n 3, 1) := by decide +kernel
theorem dX1_secondClass_67 : decode cX1_secondClass 67 = .ok (.istore_n 1, 1) := by decide +kernel
theorem dX1_secondClass_68 : decode cX1_secondClass 68 = .ok (.iload 5, 2) := by decide +kernel
theorem dX1_secondClass_70 : decode cX1_secondClass 70 = .ok (.istore_n 2, 1) := by decide +kernel
theorem dX1_secondClass_71 : decode cX1_secondClass 71 = .ok (.iinc 3 2, 3) := by decide +kernel
theorem dX1_secondClass_74 : decode cX1_secondClass 74 = .ok (.goto (-68), 3) := by decide +kernel
theorem dX1_secondClass_77 : decode cX1_secondClass 77 = .ok (.iload_n 1, 1) := by decide +kernel
theorem dX1_secondClass_78 : decode cX1_secondClass 78 = .ok (.ireturn, 1) := by decide +kernel
theorem dX1_countLonely_0 : decode cX1_countLonely 0 = .ok (.iconst 0, 1) := by decide +kernel
theorem dX1_countLonely_1 : decode cX1_countLonely 1 = .ok (.istore_n 2, 1) := by decide +kernel
theorem dX1_countLonely_2 : decode cX1_countLonely 2 = .ok (.iconst 0, 1) := by decide +kernel
theorem dX1_countLonely_3 : decode cX1_countLonely 3 = .ok (.istore_n 3, 1) := by decide +kernel
theorem dX1_countLonely_4 : decode cX1_countLonely 4 = .ok (.iload_n 3, 1) := by decide +kernel
theorem dX1_countLonely_5 : decode cX1_countLonely 5 = .ok (.aload_n 0, 1) := by decide +kernel
theorem dX1_countLonely_6 : decode cX1_countLonely 6 = .ok (.getfield 24, 3) := by decide +kernel
theorem dX1_countLonely_9 : decode cX1_countLonely 9 = .ok (.if_icmp .ge 52, 3) := by decide +kernel
theorem dX1_countLonely_12 : decode cX1_countLonely 12 = .ok (.iload_n 1, 1) := by decide +kernel
theorem dX1_countLonely_13 : decode cX1_countLonely 13 = .ok (.iload_n 3, 1) := by decide +kernel
theorem dX1_countLonely_14 : decode cX1_countLonely 14 = .ok (.ishr, 1) := by decide +kernel
theorem dX1_countLonely_15 : decode cX1_countLonely 15 = .ok (.iconst 1, 1) := by decide +kernel
theorem dX1_countLonely_16 : decode cX1_countLonely 16 = .ok (.iand, 1) := by decide +kernel
theorem dX1_countLonely_17 : decode cX1_countLonely 17 = .ok (.ifCond .eq 7, 3) := by decide +kernel
theorem dX1_countLonely_20 : decode cX1_countLonely 20 = .ok (.iload_n 1, 1) := by decide +kernel
theorem dX1_countLonely_21 : decode cX1_countLonely 21 = .ok (.goto 6, 3) := by decide +kernel
theorem dX1_countLonely_24 : decode cX1_countLonely 24 = .ok (.iload_n 1, 1) := by decide +kernel
theorem dX1_countLonely_25 : decode cX1_countLonely 25 = .ok (.iconst (-1), 1) := by decide +kernel
theorem dX1_countLonely_26 : decode cX1_countLonely 26 = .ok (.ixor, 1) := by decide +kernel
theorem dX1_countLonely_27 : decode cX1_countLonely 27 = .ok (.istore 4, 2) := by decide +kernel
theorem dX1_countLonely_29 : decode cX1_countLonely 29 = .ok (.aload_n 0, 1) := by decide +kernel
theorem dX1_countLonely_30 : decode cX1_countLonely 30 = .ok (.getfield 27, 3) := by decide +kernel
theorem dX1_countLonely_33 : decode cX1_countLonely 33 = .ok (.iload_n 3, 1) := by decide +kernel
theorem dX1_countLonely_34 : decode cX1_countLonely 34 = .ok (.ishr, 1) := by decide +kernel
theorem dX1_countLonely_35 : decode cX1_countLonely 35 = .ok (.iconst 1, 1) := by decide +kernel
theorem dX1_countLonely_36 : decode cX1_countLonely 36 = .ok (.iand, 1) := by decide +kernel
theorem dX1_countLonely_37 : decode cX1_countLonely 37 = .ok (.ifCond .eq 18, 3) := by decide +kernel
theorem dX1_countLonely_40 : decode cX1_countLonely 40 = .ok (.aload_n 0, 1) := by decide +kernel
theorem dX1_countLonely_41 : decode cX1_countLonely 41 = .ok (.getfield 15, 3) := by decide +kernel
theorem dX1_countLonely_44 : decode cX1_countLonely 44 = .ok (.iload_n 3, 1) := by decide +kernel
theorem dX1_countLonely_45 : decode cX1_countLonely 45 = .ok (.iaload, 1) := by decide +kernel
theorem dX1_countLonely_46 : decode cX1_countLonely 46 = .ok (.iload 4, 2) := by decide +kernel
theorem dX1_countLonely_48 : decode cX1_countLonely 48 = .ok (.iand, 1) := by decide +kernel
theorem dX1_countLonely_49 : decode cX1_countLonely 49 = .ok (.ifCond .ne 6, 3) := by decide +kernel
theorem dX1_countLonely_52 : decode cX1_countLonely 52 = .ok (.iinc 2 1, 3) := by decide +kernel
theorem dX1_countLonely_55 : decode cX1_countLonely 55 = .ok (.iinc 3 1, 3) := by decide +kernel
theorem dX1_countLonely_58 : decode cX1_countLonely 58 = .ok (.goto (-54), 3) := by decide +kernel
theorem dX1_countLonely_61 : decode cX1_countLonely 61 = .ok (.iload_n 2, 1) := by decide +kernel
theorem dX1_countLonely_62 : decode cX1_countLonely 62 = .ok (.ireturn, 1) := by decide +kernel
theorem dX2_init_0 : decode cX2_init 0 = .ok (.aload_n 0, 1) := by decide +kernel
theorem dX2_init_1 : decode cX2_init 1 = .ok (.invokespecial 1, 3) := by decide +kernel
theorem dX2_init_4 : decode cX2_init 4 = .ok (.aload_n 0, 1) := by decide +kernel
theorem dX2_init_5 : decode cX2_init 5 = .ok (.bipush 30, 2) := by decide +kernel
theorem dX2_init_7 : decode cX2_init 7 = .ok (.putfield 7, 3) := by decide +kernel
theorem dX2_init_10 : decode cX2_init 10 = .ok (.return_, 1) := by decide +kernel
theorem dX2_size_0 : decode cX2_size 0 = .ok (.aload_n 0, 1) := by decide +kernel
theorem dX2_size_1 : decode cX2_size 1 = .ok (.getfield 13, 3) := by decide +kernel
theorem dX2_size_4 : decode cX2_size 4 = .ok (.invokestatic 16, 3) := by decide +kernel
theorem dX2_size_7 : decode cX2_size 7 = .ok (.ireturn, 1) := by decide +kernel
theorem dX2_lacksOne_0 : decode cX2_lacksOne 0 = .ok (.aload_n 0, 1) := by decide +kernel
theorem dX2_lacksOne_1 : decode cX2_lacksOne 1 = .ok (.getfield 13, 3) := by decide +kernel
theorem dX2_lacksOne_4 : decode cX2_lacksOne 4 = .ok (.invokestatic 16, 3) := by decide +kernel
theorem dX2_lacksOne_7 : decode cX2_lacksOne 7 = .ok (.iconst 1, 1) := by decide +kernel
theorem dX2_lacksOne_8 : decode cX2_lacksOne 8 = .ok (.iadd, 1) := by decide +kernel
theorem dX2_lacksOne_9 : decode cX2_lacksOne 9 = .ok (.istore_n 1, 1) := by decide +kernel
theorem dX2_lacksOne_10 : decode cX2_lacksOne 10 = .ok (.iload_n 1, 1) := by decide +kernel
theorem dX2_lacksOne_11 : decode cX2_lacksOne 11 = .ok (.aload_n 0, 1) := by decide +kernel
theorem dX2_lacksOne_12 : decode cX2_lacksOne 12 = .ok (.getfield 22, 3) := by decide +kernel
theorem dX2_lacksOne_15 : decode cX2_lacksOne 15 = .ok (.if_icmp .eq 11, 3) := by decide +kernel
theorem dX2_lacksOne_18 : decode cX2_lacksOne 18 = .ok (.iload_n 1, 1) := by decide +kernel
theorem dX2_lacksOne_19 : decode cX2_lacksOne 19 = .ok (.aload_n 0, 1) := by decide +kernel
theorem dX2_lacksOne_20 : decode cX2_lacksOne 20 = .ok (.getfield 25, 3) := by decide +kernel
theorem dX2_lacksOne_23 : decode cX2_lacksOne 23 = .ok (.if_icmp .ne 7, 3) := by decide +kernel
theorem dX2_lacksOne_26 : decode cX2_lacksOne 26 = .ok (.iconst 1, 1) := by decide +kernel
theorem dX2_lacksOne_27 : decode cX2_lacksOne 27 = .ok (.goto 4, 3) := by decide +kernel
theorem dX2_lacksOne_30 : decode cX2_lacksOne 30 = .ok (.iconst 0, 1) := by decide +kernel
theorem dX2_lacksOne_31 : decode cX2_lacksOne 31 = .ok (.ireturn, 1) := by decide +kernel
theorem dX2_hasTooFew_0 : decode cX2_hasTooFew 0 = .ok (.aload_n 0, 1) := by decide +kernel
theorem dX2_hasTooFew_1 : decode cX2_hasTooFew 1 = .ok (.getfield 13, 3) := by decide +kernel
theorem dX2_hasTooFew_4 : decode cX2_hasTooFew 4 = .ok (.ifCond .eq 18, 3) := by decide +kernel
theorem dX2_hasTooFew_7 : decode cX2_hasTooFew 7 = .ok (.aload_n 0, 1) := by decide +kernel
theorem dX2_hasTooFew_8 : decode cX2_hasTooFew 8 = .ok (.invokevirtual 28, 3) := by decide +kernel
theorem dX2_hasTooFew_11 : decode cX2_hasTooFew 11 = .ok (.aload_n 0, 1) := by decide +kernel
theorem dX2_hasTooFew_12 : decode cX2_hasTooFew 12 = .ok (.getfield 22, 3) := by decide +kernel
theorem dX2_hasTooFew_15 : decode cX2_hasTooFew 15 = .ok (.if_icmp .ge 7, 3) := by decide +kernel
theorem dX2_hasTooFew_18 : decode cX2_hasTooFew 18 = .ok (.iconst 1, 1) := by decide +kernel
theorem dX2_hasTooFew_19 : decode cX2_hasTooFew 19 = .ok (.goto 4, 3) := by decide +kernel
theorem dX2_hasTooFew_22 : decode cX2_hasTooFew 22 = .ok (.iconst 0, 1) := by decide +kernel
theorem dX2_hasTooFew_23 : decode cX2_hasTooFew 23 = .ok (.ireturn, 1) := by decide +kernel
theorem dX2_change_0 : decode cX2_change 0 = .ok (.aload_n 0, 1) := by decide +kernel
theorem dX2_change_1 : decode cX2_change 1 = .ok (.iload_n 1, 1) := by decide +kernel
theorem dX2_change_2 : decode cX2_change 2 = .ok (.putfield 13, 3) := by decide +kernel
theorem dX2_change_5 : decode cX2_change 5 = .ok (.aload_n 0, 1) := by decide +kernel
theorem dX2_change_6 : decode cX2_change 6 = .ok (.invokevirtual 32, 3) := by decide +kernel
theorem dX2_change_9 : decode cX2_change 9 = .ok (.ifCond .ne 8, 3) := by decide +kernel
theorem dX2_change_12 : decode cX2_change 12 = .ok (.aload_n 0, 1) := by decide +kernel
theorem dX2_change_13 : decode cX2_change 13 = .ok (.iconst 0, 1) := by decide +kernel
theorem dX2_change_14 : decode cX2_change 14 = .ok (.putfield 36, 3) := by decide +kernel
theorem dX2_change_17 : decode cX2_change 17 = .ok (.return_, 1) := by decide +kernel
theorem dX2_takeFrom_0 : decode cX2_takeFrom 0 = .ok (.aload_n 0, 1) := by decide +kernel
theorem dX2_takeFrom_1 : decode cX2_takeFrom 1 = .ok (.aload_n 1, 1) := by decide +kernel
theorem dX2_takeFrom_2 : decode cX2_takeFrom 2 = .ok (.getfield 22, 3) := by decide +kernel
theorem dX2_takeFrom_5 : decode cX2_takeFrom 5 = .ok (.putfield 22, 3) := by decide +kernel
theorem dX2_takeFrom_8 : decode cX2_takeFrom 8 = .ok (.aload_n 0, 1) := by decide +kernel
theorem dX2_takeFrom_9 : decode cX2_takeFrom 9 = .ok (.aload_n 1, 1) := by decide +kernel
theorem dX2_takeFrom_10 : decode cX2_takeFrom 10 = .ok (.getfield 25, 3) := by decide +kernel
theorem dX2_takeFrom_13 : decode cX2_takeFrom 13 = .ok (.putfield 25, 3) := by decide +kernel
theorem dX2_takeFrom_16 : decode cX2_takeFrom 16 = .ok (.aload_n 0, 1) := by decide +kernel
theorem dX2_takeFrom_17 : decode cX2_takeFrom 17 = .ok (.aload_n 1, 1) := by decide +kernel
theorem dX2_takeFrom_18 : decode cX2_takeFrom 18 = .ok (.getfield 7, 3) := by decide +kernel
theorem dX2_takeFrom_21 : decode cX2_takeFrom 21 = .ok (.putfield 7, 3) := by decide +kernel
theorem dX2_takeFrom_24 : decode cX2_takeFrom 24 = .ok (.aload_n 0, 1) := by decide +kernel
theorem dX2_takeFrom_25 : decode cX2_takeFrom 25 = .ok (.aload_n 1, 1) := by decide +kernel
theorem dX2_takeFrom_26 : decode cX2_takeFrom 26 = .ok (.getfield 13, 3) := by decide +kernel
theorem dX2_takeFrom_29 : decode cX2_takeFrom 29 = .ok (.putfield 13, 3) := by decide +kernel
theorem dX2_takeFrom_32 : decode cX2_takeFrom 32 = .ok (.aload_n 0, 1) := by decide +kernel
theorem dX2_takeFrom_33 : decode cX2_takeFrom 33 = .ok (.aload_n 1, 1) := by decide +kernel
theorem dX2_takeFrom_34 : decode cX2_takeFrom 34 = .ok (.getfield 36, 3) := by decide +kernel
theorem dX2_takeFrom_37 : decode cX2_takeFrom 37 = .ok (.putfield 36, 3) := by decide +kernel
theorem dX2_takeFrom_40 : decode cX2_takeFrom 40 = .ok (.return_, 1) := by decide +kernel
theorem dX3_init_0 : decode cX3_init 0 = .ok (.aload_n 0, 1) := by decide +kernel
theorem dX3_init_1 : decode cX3_init 1 = .ok (.invokespecial 3, 3) := by decide +kernel
theorem dX3_init_4 : decode cX3_init 4 = .ok (.aload_n 0, 1) := by decide +kernel
theorem dX3_init_5 : decode cX3_init 5 = .ok (.new 9, 3) := by decide +kernel
theorem dX3_init_8 : decode cX3_init 8 = .ok (.dup, 1) := by decide +kernel
theorem dX3_init_9 : decode cX3_init 9 = .ok (.invokespecial 11, 3) := by decide +kernel
theorem dX3_init_12 : decode cX3_init 12 = .ok (.putfield 12, 3) := by decide +kernel
theorem dX3_init_15 : decode cX3_init 15 = .ok (.aload_n 0, 1) := by decide +kernel
theorem dX3_init_16 : decode cX3_init 16 = .ok (.iconst 0, 1) := by decide +kernel
theorem dX3_init_17 : decode cX3_init 17 = .ok (.newarray .int, 2) := by decide +kernel
theorem dX3_init_19 : decode cX3_init 19 = .ok (.putfield 18, 3) := by decide +kernel
theorem dX3_init_22 : decode cX3_init 22 = .ok (.aload_n 0, 1) := by decide +kernel
theorem dX3_init_23 : decode cX3_init 23 = .ok (.ldc 22, 2) := by decide +kernel
theorem dX3_init_25 : decode cX3_init 25 = .ok (.putfield 24, 3) := by decide +kernel
theorem dX3_init_28 : decode cX3_init 28 = .ok (.return_, 1) := by decide +kernel
theorem dX3_read_0 : decode cX3_read 0 = .ok (.aload_n 0, 1) := by decide +kernel
theorem dX3_read_1 : decode cX3_read 1 = .ok (.getfield 12, 3) := by decide +kernel
theorem dX3_read_4 : decode cX3_read 4 = .ok (.iconst 0, 1) := by decide +kernel
theorem dX3_read_5 : decode cX3_read 5 = .ok (.putfield 28, 3) := by decide +kernel
theorem dX3_read_8 : decode cX3_read 8 = .ok (.aload_n 0, 1) := by decide +kernel
theorem dX3_read_9 : decode cX3_read 9 = .ok (.aload_n 1, 1) := by decide +kernel
theorem dX3_read_10 : decode cX3_read 10 = .ok (.getfield 32, 3) := by decide +kernel
theorem dX3_read_13 : decode cX3_read 13 = .ok (.putfield 18, 3) := by decide +kernel
theorem dX3_read_16 : decode cX3_read 16 = .ok (.aload_n 0, 1) := by decide +kernel
theorem dX3_read_17 : decode cX3_read 17 = .ok (.aload_n 1, 1) := by decide +kernel
theorem dX3_read_18 : decode cX3_read 18 = .ok (.getfield 37, 3) := by decide +kernel
theorem dX3_read_21 : decode cX3_read 21 = .ok (.putfield 38, 3) := by decide +kernel
theorem dX3_read_24 : decode cX3_read 24 = .ok (.aload_n 0, 1) := by decide +kernel
theorem dX3_read_25 : decode cX3_read 25 = .ok (.iconst 0, 1) := by decide +kernel
theorem dX3_read_26 : decode cX3_read 26 = .ok (.putfield 41, 3) := by decide +kernel
theorem dX3_read_29 : decode cX3_read 29 = .ok (.aload_n 0, 1) := by decide +kernel
theorem dX3_read_30 : decode cX3_read 30 = .ok (.aload_n 2, 1) := by decide +kernel
theorem dX3_read_31 : decode cX3_read 31 = .ok (.putfield 24, 3) := by decide +kernel
theorem dX3_read_34 : decode cX3_read 34 = .ok (.aload_n 0, 1) := by decide +kernel
theorem dX3_read_35 : decode cX3_read 35 = .ok (.iconst 0, 1) := by decide +kernel
theorem dX3_read_36 : decode cX3_read 36 = .ok (.iconst 0, 1) := by decide +kernel
theorem dX3_read_37 : decode cX3_read 37 = .ok (.invokevirtual 44, 3) := by decide +kernel
theorem dX3_read_40 : decode cX3_read 40 = .ok (.ifCond .eq 18, 3) := by decide +kernel
theorem dX3_read_43 : decode cX3_read 43 = .ok (.aload_n 0, 1) := by decide +kernel
theorem dX3_read_44 : decode cX3_read 44 = .ok (.getfield 41, 3) := by decide +kernel
theorem dX3_read_47 : decode cX3_read 47 = .ok (.aload_n 0, 1) := by decide +kernel
theorem dX3_read_48 : decode cX3_read 48 = .ok (.getfield 38, 3) := by decide +kernel
theorem dX3_read_51 : decode cX3_read 51 = .ok (.if_icmp .ne 7, 3) := by decide +kernel
theorem dX3_read_54 : decode cX3_read 54 = .ok (.iconst (-1), 1) := by decide +kernel
theorem dX3_read_55 : decode cX3_read 55 = .ok (.goto 7, 3) := by decide +kernel
theorem dX3_read_58 : decode cX3_read 58 = .ok (.aload_n 0, 1) := by decide +kernel
theorem dX3_read_59 : decode cX3_read 59 = .ok (.getfield 41, 3) := by decide +kernel
theorem dX3_read_62 : decode cX3_read 62 = .ok (.ireturn, 1) := by decide +kernel
theorem dX3_next_0 : decode cX3_next 0 = .ok (.aload_n 0, 1) := by decide +kernel
theorem dX3_next_1 : decode cX3_next 1 = .ok (.getfield 41, 3) := by decide +kernel
theorem dX3_next_4 : decode cX3_next 4 = .ok (.aload_n 0, 1) := by decide +kernel
theorem dX3_next_5 : decode cX3_next 5 = .ok (.getfield 38, 3) := by decide +kernel
theorem dX3_next_8 : decode cX3_next 8 = .ok (.if_icmp .ge 15, 3) := by decide +kernel
theorem dX3_next_11 : decode cX3_next 11 = .ok (.aload_n 0, 1) := by decide +kernel
theorem dX3_next_12 : decode cX3_next 12 = .ok (.getfield 18, 3) := by decide +kernel
theorem dX3_next_15 : decode cX3_next 15 = .ok (.aload_n 0, 1) := by decide +kernel
theorem dX3_next_16 : decode cX3_next 16 = .ok (.getfield 41, 3) := by decide +kernel
theorem dX3_next_19 : decode cX3_next 19 = .ok (.iaload, 1) := by decide +kernel
theorem dX3_next_20 : decode cX3_next 20 = .ok (.goto 4, 3) := by decide +kernel
theorem dX3_next_23 : decode cX3_next 23 = .ok (.iconst (-1), 1) := by decide +kernel
theorem dX3_next_24 : decode cX3_next 24 = .ok (.ireturn, 1) := by decide +kernel
theorem dX3_stands_0 : decode cX3_stands 0 = .ok (.aload_n 0, 1) := by decide +kernel
theorem dX3_stands_1 : decode cX3_stands 1 = .ok (.invokevirtual 48, 3) := by decide +kernel
theorem dX3_stands_4 : decode cX3_stands 4 = .ok (.istore_n 2, 1) := by decide +kernel
theorem dX3_stands_5 : decode cX3_stands 5 = .ok (.iload_n 2, 1) := by decide +kernel
theorem dX3_stands_6 : decode cX3_stands 6 = .ok (.ifCond .lt 16, 3) := by decide +kernel
theorem dX3_stands_9 : decode cX3_stands 9 = .ok (.aload_n 1, 1) := by decide +kernel
theorem dX3_stands_10 : decode cX3_stands 10 = .ok (.iload_n 2, 1) := by decide +kernel
theorem dX3_stands_11 : decode cX3_stands 11 = .ok (.i2c, 1) := by decide +kernel
theorem dX3_stands_12 : decode cX3_stands 12 = .ok (.invokevirtual 52, 3) := by decide +kernel
theorem dX3_stands_15 : decode cX3_stands 15 = .ok (.ifCond .lt 7, 3) := by decide +kernel
theorem dX3_stands_18 : decode cX3_stands 18 = .ok (.iconst 1, 1) := by decide +kernel
theorem dX3_stands_19 : decode cX3_stands 19 = .ok (.goto 4, 3) := by decide +kernel
theorem dX3_stands_22 : decode cX3_stands 22 = .ok (.iconst 0, 1) := by decide +kernel
theorem dX3_stands_23 : decode cX3_stands 23 = .ok (.ireturn, 1) := by decide +kernel
theorem dX3_readJoined_0 : decode cX3_readJoined 0 = .ok (.iload_n 1, 1) := by decide +kernel
theorem dX3_readJoined_1 : decode cX3_readJoined 1 = .ok (.iconst 5, 1) := by decide +kernel
theorem dX3_readJoined_2 : decode cX3_readJoined 2 = .ok (.if_icmp .lt 9, 3) := by decide +kernel
theorem dX3_readJoined_5 : decode cX3_readJoined 5 = .ok (.aload_n 0, 1) := by decide +kernel
theorem dX3_readJoined_6 : decode cX3_readJoined 6 = .ok (.iload_n 2, 1) := by decide +kernel
theorem dX3_readJoined_7 : decode cX3_readJoined 7 = .ok (.invokevirtual 58, 3) := by decide +kernel
theorem dX3_readJoined_10 : decode cX3_readJoined 10 = .ok (.ireturn, 1) := by decide +kernel
theorem dX3_readJoined_11 : decode cX3_readJoined 11 = .ok (.aload_n 0, 1) := by decide +kernel
theorem dX3_readJoined_12 : decode cX3_readJoined 12 = .ok (.iload_n 1, 1) := by decide +kernel
theorem dX3_readJoined_13 : decode cX3_readJoined 13 = .ok (.iconst 1, 1) := by decide +kernel
theorem dX3_readJoined_14 : decode cX3_readJoined 14 = .ok (.iadd, 1) := by decide +kernel
theorem dX3_readJoined_15 : decode cX3_readJoined 15 = .ok (.iload_n 2, 1) := by decide +kernel
theorem dX3_readJoined_16 : decode cX3_readJoined 16 = .ok (.invokevirtual 44, 3) := by decide +kernel
theorem dX3_readJoined_19 : decode cX3_readJoined 19 = .ok (.istore_n 3, 1) := by decide +kernel
theorem dX3_readJoined_20 : decode cX3_readJoined 20 = .ok (.iload_n 1, 1) := by decide +kernel
theorem dX3_readJoined_21 : decode cX3_readJoined 21 = .ok (.iconst 2, 1) := by decide +kernel
theorem dX3_readJoined_22 : decode cX3_readJoined 22 = .ok (.if_icmp .ne 7, 3) := by decide +kernel
theorem dX3_readJoined_25 : decode cX3_readJoined 25 = .ok (.iconst 1, 1) := by decide +kernel
theorem dX3_readJoined_26 : decode cX3_readJoined 26 = .ok (.goto 5, 3) := by decide +kernel
theorem dX3_readJoined_29 : decode cX3_readJoined 29 = .ok (.bipush 60, 2) := by decide +kernel
theorem dX3_readJoined_31 : decode cX3_readJoined 31 = .ok (.istore 4, 2) := by decide +kernel
theorem dX3_readJoined_33 : decode cX3_readJoined 33 = .ok (.iconst 0, 1) := by decide +kernel
theorem dX3_readJoined_34 : decode cX3_readJoined 34 = .ok (.istore 5, 2) := by decide +kernel
theorem dX3_readJoined_36 : decode cX3_readJoined 36 = .ok (.iload 5, 2) := by decide +kernel
theorem dX3_readJoined_38 : decode cX3_readJoined 38 = .ok (.iload 4, 2) := by decide +kernel
theorem dX3_readJoined_40 : decode cX3_readJoined 40 = .ok (.if_icmp .ge 62, 3) := by decide +kernel
theorem dX3_readJoined_43 : decode cX3_readJoined 43 = .ok (.iload_n 3, 1) := by decide +kernel
theorem dX3_readJoined_44 : decode cX3_readJoined 44 = .ok (.ifCond .eq 58, 3) := by decide +kernel
theorem dX3_readJoined_47 : decode cX3_readJoined 47 = .ok (.aload_n 0, 1) := by decide +kernel
theorem dX3_readJoined_48 : decode cX3_readJoined 48 = .ok (.iload_n 1, 1) := by decide +kernel
theorem dX3_readJoined_49 : decode cX3_readJoined 49 = .ok (.invokestatic 62, 3) := by decide +kernel
theorem dX3_readJoined_52 : decode cX3_readJoined 52 = .ok (.invokevirtual 66, 3) := by decide +kernel
theorem dX3_readJoined_55 : decode cX3_readJoined 55 = .ok (.ifCond .eq 47, 3) := by decide +kernel
theorem dX3_readJoined_58 : decode cX3_readJoined 58 = .ok (.aload_n 0, 1) := by decide +kernel
theorem dX3_readJoined_59 : decode cX3_readJoined 59 = .ok (.invokevirtual 48, 3) := by decide +kernel
theorem dX3_readJoined_62 : decode cX3_readJoined 62 = .ok (.istore 6, 2) := by decide +kernel
theorem dX3_readJoined_64 : decode cX3_readJoined 64 = .ok (.aload_n 0, 1) := by decide +kernel
theorem dX3_readJoined_65 : decode cX3_readJoined 65 = .ok (.dup, 1) := by decide +kernel
theorem dX3_readJoined_66 : decode cX3_readJoined 66 = .ok (.getfield 41, 3) := by decide +kernel
theorem dX3_readJoined_69 : decode cX3_readJoined 69 = .ok (.iconst 1, 1) := by decide +kernel
theorem dX3_readJoined_70 : decode cX3_readJoined 70 = .ok (.iadd, 1) := by decide +kernel
theorem dX3_readJoined_71 : decode cX3_readJoined 71 = .ok (.putfield 41, 3) := by decide +kernel
theorem dX3_readJoined_74 : decode cX3_readJoined 74 = .ok (.aload_n 0, 1) := by decide +kernel
theorem dX3_readJoined_75 : decode cX3_readJoined 75 = .ok (.iload_n 1, 1) := by decide +kernel
theorem dX3_readJoined_76 : decode cX3_readJoined 76 = .ok (.iconst 1, 1) := by decide +kernel
theorem dX3_readJoined_77 : decode cX3_readJoined 77 = .ok (.iadd, 1) := by decide +kernel
theorem dX3_readJoined_78 : decode cX3_readJoined 78 = .ok (.iload_n 2, 1) := by decide +kernel
theorem dX3_readJoined_79 : decode cX3_readJoined 79 = .ok (.invokevirtual 44, 3) := by decide +kernel
theorem dX3_readJoined_82 : decode cX3_readJoined 82 = .ok (.istore_n 3, 1) := by decide +kernel
theorem dX3_readJoined_83 : decode cX3_readJoined 83 = .ok (.aload_n 0, 1) := by decide +kernel
theorem dX3_readJoined_84 : decode cX3_readJoined 84 = .ok (.getfield 12, 3) := by decide +kernel
theorem dX3_readJoined_87 : decode cX3_readJoined 87 = .ok (.sipush 20000, 3) := by decide +kernel
theorem dX3_readJoined_90 : decode cX3_readJoined 90 = .ok (.iload 6, 2) := by decide +kernel
theorem dX3_readJoined_92 : decode cX3_readJoined 92 = .ok (.iadd, 1) := by decide +kernel
theorem dX3_readJoined_93 : decode cX3_readJoined 93 = .ok (.invokevirtual 70, 3) := by decide +kernel
theorem dX3_readJoined_96 : decode cX3_readJoined 96 = .ok (.iinc 5 1, 3) := by decide +kernel
theorem dX3_readJoined_99 : decode cX3_readJoined 99 = .ok (.goto (-63), 3) := by decide +kernel
theorem dX3_readJoined_102 : decode cX3_readJoined 102 = .ok (.iload_n 3, 1) := by decide +kernel
theorem dX3_readJoined_103 : decode cX3_readJoined 103 = .ok (.ireturn, 1) := by decide +kernel
theorem dX3_signsOf_0 : decode cX3_signsOf 0 = .ok (.iload_n 0, 1) := by decide +kernel
theorem dX3_signsOf_1 : decode cX3_signsOf 1 = .ok (.tableswitch 43 0 3 #[31, 34, 37, 40], 31) := by decide +kernel
theorem dX3_signsOf_32 : decode cX3_signsOf 32 = .ok (.ldc 74, 2) := by decide +kernel
theorem dX3_signsOf_34 : decode cX3_signsOf 34 = .ok (.areturn, 1) := by decide +kernel
theorem dX3_signsOf_35 : decode cX3_signsOf 35 = .ok (.ldc 76, 2) := by decide +kernel
theorem dX3_signsOf_37 : decode cX3_signsOf 37 = .ok (.areturn, 1) := by decide +kernel
theorem dX3_signsOf_38 : decode cX3_signsOf 38 = .ok (.ldc 78, 2) := by decide +kernel
theorem dX3_signsOf_40 : decode cX3_signsOf 40 = .ok (.areturn, 1) := by decide +kernel
theorem dX3_signsOf_41 : decode cX3_signsOf 41 = .ok (.ldc 80, 2) := by decide +kernel
theorem dX3_signsOf_43 : decode cX3_signsOf 43 = .ok (.areturn, 1) := by decide +kernel
theorem dX3_signsOf_44 : decode cX3_signsOf 44 = .ok (.ldc 82, 2) := by decide +kernel
theorem dX3_signsOf_46 : decode cX3_signsOf 46 = .ok (.areturn, 1) := by decide +kernel
theorem dX3_readQ_0 : decode cX3_readQ 0 = .ok (.aload_n 0, 1) := by decide +kernel
theorem dX3_readQ_1 : decode cX3_readQ 1 = .ok (.invokevirtual 48, 3) := by decide +kernel
theorem dX3_readQ_4 : decode cX3_readQ 4 = .ok (.invokestatic 84, 3) := by decide +kernel
theorem dX3_readQ_7 : decode cX3_readQ 7 = .ok (.ifCond .eq 9, 3) := by decide +kernel
theorem dX3_readQ_10 : decode cX3_readQ 10 = .ok (.aload_n 0, 1) := by decide +kernel
theorem dX3_readQ_11 : decode cX3_readQ 11 = .ok (.invokevirtual 87, 3) := by decide +kernel
theorem dX3_readQ_14 : decode cX3_readQ 14 = .ok (.iconst 1, 1) := by decide +kernel
theorem dX3_readQ_15 : decode cX3_readQ 15 = .ok (.ireturn, 1) := by decide +kernel
theorem dX3_readQ_16 : decode cX3_readQ 16 = .ok (.aload_n 0, 1) := by decide +kernel
theorem dX3_readQ_17 : decode cX3_readQ 17 = .ok (.aload_n 0, 1) := by decide +kernel
theorem dX3_readQ_18 : decode cX3_readQ 18 = .ok (.getfield 24, 3) := by decide +kernel
theorem dX3_readQ_21 : decode cX3_readQ 21 = .ok (.invokevirtual 66, 3) := by decide +kernel
theorem dX3_readQ_24 : decode cX3_readQ 24 = .ok (.ifCond .eq 38, 3) := by decide +kernel
theorem dX3_readQ_27 : decode cX3_readQ 27 = .ok (.aload_n 0, 1) := by decide +kernel
theorem dX3_readQ_28 : decode cX3_readQ 28 = .ok (.getfield 12, 3) := by decide +kernel
theorem dX3_readQ_31 : decode cX3_readQ 31 = .ok (.sipush 10000, 3) := by decide +kernel
theorem dX3_readQ_34 : decode cX3_readQ 34 = .ok (.aload_n 0, 1) := by decide +kernel
theorem dX3_readQ_35 : decode cX3_readQ 35 = .ok (.getfield 24, 3) := by decide +kernel
theorem dX3_readQ_38 : decode cX3_readQ 38 = .ok (.aload_n 0, 1) := by decide +kernel
theorem dX3_readQ_39 : decode cX3_readQ 39 = .ok (.invokevirtual 48, 3) := by decide +kernel
theorem dX3_readQ_42 : decode cX3_readQ 42 = .ok (.i2c, 1) := by decide +kernel
theorem dX3_readQ_43 : decode cX3_readQ 43 = .ok (.invokevirtual 52, 3) := by decide +kernel
theorem dX3_readQ_46 : decode cX3_readQ 46 = .ok (.iadd, 1) := by decide +kernel
theorem dX3_readQ_47 : decode cX3_readQ 47 = .ok (.invokevirtual 70, 3) := by decide +kernel
theorem dX3_readQ_50 : decode cX3_readQ 50 = .ok (.aload_n 0, 1) := by decide +kernel
theorem dX3_readQ_51 : decode cX3_readQ 51 = .ok (.dup, 1) := by decide +kernel
theorem dX3_readQ_52 : decode cX3_readQ 52 = .ok (.getfield 41, 3) := by decide +kernel
theorem dX3_readQ_55 : decode cX3_readQ 55 = .ok (.iconst 1, 1) := by decide +kernel
theorem dX3_readQ_56 : decode cX3_readQ 56 = .ok (.iadd, 1) := by decide +kernel
theorem dX3_readQ_57 : decode cX3_readQ 57 = .ok (.putfield 41, 3) := by decide +kernel
theorem dX3_readQ_60 : decode cX3_readQ 60 = .ok (.iconst 1, 1) := by decide +kernel
theorem dX3_readQ_61 : decode cX3_readQ 61 = .ok (.ireturn, 1) := by decide +kernel
theorem dX3_readQ_62 : decode cX3_readQ 62 = .ok (.iload_n 1, 1) := by decide +kernel
theorem dX3_readQ_63 : decode cX3_readQ 63 = .ok (.iconst 5, 1) := by decide +kernel
theorem dX3_readQ_64 : decode cX3_readQ 64 = .ok (.if_icmp .ge 12, 3) := by decide +kernel
theorem dX3_readQ_67 : decode cX3_readQ 67 = .ok (.aload_n 0, 1) := by decide +kernel
theorem dX3_readQ_68 : decode cX3_readQ 68 = .ok (.ldc 90, 2) := by decide +kernel
theorem dX3_readQ_70 : decode cX3_readQ 70 = .ok (.invokevirtual 66, 3) := by decide +kernel
theorem dX3_readQ_73 : decode cX3_readQ 73 = .ok (.ifCond .ne 5, 3) := by decide +kernel
theorem dX3_readQ_76 : decode cX3_readQ 76 = .ok (.iconst 0, 1) := by decide +kernel
theorem dX3_readQ_77 : decode cX3_readQ 77 = .ok (.ireturn, 1) := by decide +kernel
theorem dX3_readQ_78 : decode cX3_readQ 78 = .ok (.aload_n 0, 1) := by decide +kernel
theorem dX3_readQ_79 : decode cX3_readQ 79 = .ok (.invokevirtual 48, 3) := by decide +kernel
theorem dX3_readQ_82 : decode cX3_readQ 82 = .ok (.bipush 33, 2) := by decide +kernel
theorem dX3_readQ_84 : decode cX3_readQ 84 = .ok (.if_icmp .ne 7, 3) := by decide +kernel
theorem dX3_readQ_87 : decode cX3_readQ 87 = .ok (.iconst 1, 1) := by decide +kernel
theorem dX3_readQ_88 : decode cX3_readQ 88 = .ok (.goto 4, 3) := by decide +kernel
theorem dX3_readQ_91 : decode cX3_readQ 91 = .ok (.iconst 0, 1) := by decide +kernel
theorem dX3_readQ_92 : decode cX3_readQ 92 = .ok (.istore_n 2, 1) := by decide +kernel
theorem dX3_readQ_93 : decode cX3_readQ 93 = .ok (.aload_n 0, 1) := by decide +kernel
theorem dX3_readQ_94 : decode cX3_readQ 94 = .ok (.dup, 1) := by decide +kernel
theorem dX3_readQ_95 : decode cX3_readQ 95 = .ok (.getfield 41, 3) := by decide +kernel
theorem dX3_readQ_98 : decode cX3_readQ 98 = .ok (.iconst 1, 1) := by decide +kernel
theorem dX3_readQ_99 : decode cX3_readQ 99 = .ok (.iadd, 1) := by decide +kernel
theorem dX3_readQ_100 : decode cX3_readQ 100 = .ok (.putfield 41, 3) := by decide +kernel
theorem dX3_readQ_103 : decode cX3_readQ 103 = .ok (.iload_n 2, 1) := by decide +kernel
theorem dX3_readQ_104 : decode cX3_readQ 104 = .ok (.ifCond .eq 23, 3) := by decide +kernel
theorem dX3_readQ_107 : decode cX3_readQ 107 = .ok (.aload_n 0, 1) := by decide +kernel
theorem dX3_readQ_108 : decode cX3_readQ 108 = .ok (.iload_n 1, 1) := by decide +kernel
theorem dX3_readQ_109 : decode cX3_readQ 109 = .ok (.iconst 1, 1) := by decide +kernel
theorem dX3_readQ_110 : decode cX3_readQ 110 = .ok (.iadd, 1) := by decide +kernel
theorem dX3_readQ_111 : decode cX3_readQ 111 = .ok (.invokevirtual 58, 3) := by decide +kernel
theorem dX3_readQ_114 : decode cX3_readQ 114 = .ok (.istore_n 3, 1) := by decide +kernel
theorem dX3_readQ_115 : decode cX3_readQ 115 = .ok (.aload_n 0, 1) := by decide +kernel
theorem dX3_readQ_116 : decode cX3_readQ 116 = .ok (.getfield 12, 3) := by decide +kernel
theorem dX3_readQ_119 : decode cX3_readQ 119 = .ok (.sipush 20033, 3) := by decide +kernel
theorem dX3_readQ_122 : decode cX3_readQ 122 = .ok (.invokevirtual 70, 3) := by decide +kernel
theorem dX3_readQ_125 : decode cX3_readQ 125 = .ok (.iload_n 3, 1) := by decide +kernel
theorem dX3_readQ_126 : decode cX3_readQ 126 = .ok (.ireturn, 1) := by decide +kernel
theorem dX3_readQ_127 : decode cX3_readQ 127 = .ok (.aload_n 0, 1) := by decide +kernel
theorem dX3_readQ_128 : decode cX3_readQ 128 = .ok (.iconst 0, 1) := by decide +kernel
theorem dX3_readQ_129 : decode cX3_readQ 129 = .ok (.iload_n 1, 1) := by decide +kernel
theorem dX3_readQ_130 : decode cX3_readQ 130 = .ok (.iconst 1, 1) := by decide +kernel
theorem dX3_readQ_131 : decode cX3_readQ 131 = .ok (.iadd, 1) := by decide +kernel
theorem dX3_readQ_132 : decode cX3_readQ 132 = .ok (.invokevirtual 44, 3) := by decide +kernel
theorem dX3_readQ_135 : decode cX3_readQ 135 = .ok (.ifCond .eq 12, 3) := by decide +kernel
theorem dX3_readQ_138 : decode cX3_readQ 138 = .ok (.aload_n 0, 1) := by decide +kernel
theorem dX3_readQ_139 : decode cX3_readQ 139 = .ok (.ldc 92, 2) := by decide +kernel
theorem dX3_readQ_141 : decode cX3_readQ 141 = .ok (.invokevirtual 66, 3) := by decide +kernel
theorem dX3_readQ_144 : decode cX3_readQ 144 = .ok (.ifCond .ne 5, 3) := by decide +kernel
theorem dX3_readQ_147 : decode cX3_readQ 147 = .ok (.iconst 0, 1) := by decide +kernel
theorem dX3_readQ_148 : decode cX3_readQ 148 = .ok (.ireturn, 1) := by decide +kernel
theorem dX3_readQ_149 : decode cX3_readQ 149 = .ok (.aload_n 0, 1) := by decide +kernel
theorem dX3_readQ_150 : decode cX3_readQ 150 = .ok (.dup, 1) := by decide +kernel
theorem dX3_readQ_151 : decode cX3_readQ 151 = .ok (.getfield 41, 3) := by decide +kernel
theorem dX3_readQ_154 : decode cX3_readQ 154 = .ok (.iconst 1, 1) := by decide +kernel
theorem dX3_readQ_155 : decode cX3_readQ 155 = .ok (.iadd, 1) := by decide +kernel
theorem dX3_readQ_156 : decode cX3_readQ 156 = .ok (.putfield 41, 3) := by decide +kernel
theorem dX3_readQ_159 : decode cX3_readQ 159 = .ok (.iconst 1, 1) := by decide +kernel
theorem dX3_readQ_160 : decode cX3_readQ 160 = .ok (.ireturn, 1) := by decide +kernel
theorem dX3_readNumber_0 : decode cX3_readNumber 0 = .ok (.iconst 0, 1) := by decide +kernel
theorem dX3_readNumber_1 : decode cX3_readNumber 1 = .ok (.istore_n 1, 1) := by decide +kernel
theorem dX3_readNumber_2 : decode cX3_readNumber 2 = .ok (.iconst 0, 1) := by decide +kernel
theorem dX3_readNumber_3 : decode cX3_readNumber 3 = .ok (.istore_n 2, 1) := by decide +kernel
theorem dX3_readNumber_4 : decode cX3_readNumber 4 = .ok (.iload_n 2, 1) := by decide +kernel
theorem dX3_readNumber_5 : decode cX3_readNumber 5 = .ok (.iconst 4, 1) := by decide +kernel
theorem dX3_readNumber_6 : decode cX3_readNumber 6 = .ok (.if_icmp .ge 42, 3) := by decide +kernel
theorem dX3_readNumber_9 : decode cX3_readNumber 9 = .ok (.aload_n 0, 1) := by decide +kernel
theorem dX3_readNumber_10 : decode cX3_readNumber 10 = .ok (.invokevirtual 48, 3) := by decide +kernel
theorem dX3_readNumber_13 : decode cX3_readNumber 13 = .ok (.invokestatic 84, 3) := by decide +kernel
theorem dX3_readNumber_16 : decode cX3_readNumber 16 = .ok (.ifCond .eq 32, 3) := by decide +kernel
theorem dX3_readNumber_19 : decode cX3_readNumber 19 = .ok (.iload_n 1, 1) := by decide +kernel
theorem dX3_readNumber_20 : decode cX3_readNumber 20 = .ok (.bipush 10, 2) := by decide +kernel
theorem dX3_readNumber_22 : decode cX3_readNumber 22 = .ok (.imul, 1) := by decide +kernel
theorem dX3_readNumber_23 : decode cX3_readNumber 23 = .ok (.aload_n 0, 1) := by decide +kernel
theorem dX3_readNumber_24 : decode cX3_readNumber 24 = .ok (.invokevirtual 48, 3) := by decide +kernel
theorem dX3_readNumber_27 : decode cX3_readNumber 27 = .ok (.iadd, 1) := by decide +kernel
theorem dX3_readNumber_28 : decode cX3_readNumber 28 = .ok (.bipush 48, 2) := by decide +kernel
theorem dX3_readNumber_30 : decode cX3_readNumber 30 = .ok (.isub, 1) := by decide +kernel
theorem dX3_readNumber_31 : decode cX3_readNumber 31 = .ok (.istore_n 1, 1) := by decide +kernel
theorem dX3_readNumber_32 : decode cX3_readNumber 32 = .ok (.aload_n 0, 1) := by decide +kernel
theorem dX3_readNumber_33 : decode cX3_readNumber 33 = .ok (.dup, 1) := by decide +kernel
theorem dX3_readNumber_34 : decode cX3_readNumber 34 = .ok (.getfield 41, 3) := by decide +kernel
theorem dX3_readNumber_37 : decode cX3_readNumber 37 = .ok (.iconst 1, 1) := by decide +kernel
theorem dX3_readNumber_38 : decode cX3_readNumber 38 = .ok (.iadd, 1) := by decide +kernel
theorem dX3_readNumber_39 : decode cX3_readNumber 39 = .ok (.putfield 41, 3) := by decide +kernel
theorem dX3_readNumber_42 : decode cX3_readNumber 42 = .ok (.iinc 2 1, 3) := by decide +kernel
theorem dX3_readNumber_45 : decode cX3_readNumber 45 = .ok (.goto (-41), 3) := by decide +kernel
theorem dX3_readNumber_48 : decode cX3_readNumber 48 = .ok (.aload_n 0, 1) := by decide +kernel
theorem dX3_readNumber_49 : decode cX3_readNumber 49 = .ok (.getfield 12, 3) := by decide +kernel
theorem dX3_readNumber_52 : decode cX3_readNumber 52 = .ok (.iload_n 1, 1) := by decide +kernel
theorem dX3_readNumber_53 : decode cX3_readNumber 53 = .ok (.invokevirtual 70, 3) := by decide +kernel
theorem dX3_readNumber_56 : decode cX3_readNumber 56 = .ok (.return_, 1) := by decide +kernel
theorem dX3_isDigit_0 : decode cX3_isDigit 0 = .ok (.iload_n 0, 1) := by decide +kernel
theorem dX3_isDigit_1 : decode cX3_isDigit 1 = .ok (.bipush 48, 2) := by decide +kernel
theorem dX3_isDigit_3 : decode cX3_isDigit 3 = .ok (.if_icmp .lt 13, 3) := by decide +kernel
theorem dX3_isDigit_6 : decode cX3_isDigit 6 = .ok (.iload_n 0, 1) := by decide +kernel
theorem dX3_isDigit_7 : decode cX3_isDigit 7 = .ok (.bipush 57, 2) := by decide +kernel
theorem dX3_isDigit_9 : decode cX3_isDigit 9 = .ok (.if_icmp .gt 7, 3) := by decide +kernel
theorem dX3_isDigit_12 : decode cX3_isDigit 12 = .ok (.iconst 1, 1) := by decide +kernel
theorem dX3_isDigit_13 : decode cX3_isDigit 13 = .ok (.goto 4, 3) := by decide +kernel
theorem dX3_isDigit_16 : decode cX3_isDigit 16 = .ok (.iconst 0, 1) := by decide +kernel
theorem dX3_isDigit_17 : decode cX3_isDigit 17 = .ok (.ireturn, 1) := by decide +kernel
theorem dX4_init_0 : decode cX4_init 0 = .ok (.aload_n 0, 1) := by decide +kernel
theorem dX4_init_1 : decode cX4_init 1 = .ok (.invokespecial 1, 3) := by decide +kernel
theorem dX4_init_4 : decode cX4_init 4 = .ok (.aload_n 0, 1) := by decide +kernel
theorem dX4_init_5 : decode cX4_init 5 = .ok (.iconst 0, 1) := by decide +kernel
theorem dX4_init_6 : decode cX4_init 6 = .ok (.iload_n 1, 1) := by decide +kernel
theorem dX4_init_7 : decode cX4_init 7 = .ok (.invokestatic 7, 3) := by decide +kernel
theorem dX4_init_10 : decode cX4_init 10 = .ok (.newarray .int, 2) := by decide +kernel
theorem dX4_init_12 : decode cX4_init 12 = .ok (.putfield 13, 3) := by decide +kernel
theorem dX4_init_15 : decode cX4_init 15 = .ok (.return_, 1) := by decide +kernel
theorem dX4_add_0 : decode cX4_add 0 = .ok (.aload_n 0, 1) := by decide +kernel
theorem dX4_add_1 : decode cX4_add 1 = .ok (.getfield 19, 3) := by decide +kernel
theorem dX4_add_4 : decode cX4_add 4 = .ok (.aload_n 0, 1) := by decide +kernel
theorem dX4_add_5 : decode cX4_add 5 = .ok (.getfield 13, 3) := by decide +kernel
theorem dX4_add_8 : decode cX4_add 8 = .ok (.arraylength, 1) := by decide +kernel
theorem dX4_add_9 : decode cX4_add 9 = .ok (.if_icmp .ge 23, 3) := by decide +kernel
theorem dX4_add_12 : decode cX4_add 12 = .ok (.aload_n 0, 1) := by decide +kernel
theorem dX4_add_13 : decode cX4_add 13 = .ok (.getfield 13, 3) := by decide +kernel
theorem dX4_add_16 : decode cX4_add 16 = .ok (.aload_n 0, 1) := by decide +kernel
theorem dX4_add_17 : decode cX4_add 17 = .ok (.getfield 19, 3) := by decide +kernel
theorem dX4_add_20 : decode cX4_add 20 = .ok (.iload_n 1, 1) := by decide +kernel
theorem dX4_add_21 : decode cX4_add 21 = .ok (.iastore, 1) := by decide +kernel
theorem dX4_add_22 : decode cX4_add 22 = .ok (.aload_n 0, 1) := by decide +kernel
theorem dX4_add_23 : decode cX4_add 23 = .ok (.dup, 1) := by decide +kernel
theorem dX4_add_24 : decode cX4_add 24 = .ok (.getfield 19, 3) := by decide +kernel
theorem dX4_add_27 : decode cX4_add 27 = .ok (.iconst 1, 1) := by decide +kernel
theorem dX4_add_28 : decode cX4_add 28 = .ok (.iadd, 1) := by decide +kernel
theorem dX4_add_29 : decode cX4_add 29 = .ok (.putfield 19, 3) := by decide +kernel
theorem dX4_add_32 : decode cX4_add 32 = .ok (.return_, 1) := by decide +kernel
theorem dX4_takeFrom_0 : decode cX4_takeFrom 0 = .ok (.aload_n 0, 1) := by decide +kernel
theorem dX4_takeFrom_1 : decode cX4_takeFrom 1 = .ok (.aload_n 1, 1) := by decide +kernel
theorem dX4_takeFrom_2 : decode cX4_takeFrom 2 = .ok (.getfield 19, 3) := by decide +kernel
theorem dX4_takeFrom_5 : decode cX4_takeFrom 5 = .ok (.aload_n 0, 1) := by decide +kernel
theorem dX4_takeFrom_6 : decode cX4_takeFrom 6 = .ok (.getfield 13, 3) := by decide +kernel
theorem dX4_takeFrom_9 : decode cX4_takeFrom 9 = .ok (.arraylength, 1) := by decide +kernel
theorem dX4_takeFrom_10 : decode cX4_takeFrom 10 = .ok (.invokestatic 23, 3) := by decide +kernel
theorem dX4_takeFrom_13 : decode cX4_takeFrom 13 = .ok (.putfield 19, 3) := by decide +kernel
theorem dX4_takeFrom_16 : decode cX4_takeFrom 16 = .ok (.aload_n 1, 1) := by decide +kernel
theorem dX4_takeFrom_17 : decode cX4_takeFrom 17 = .ok (.getfield 13, 3) := by decide +kernel
theorem dX4_takeFrom_20 : decode cX4_takeFrom 20 = .ok (.iconst 0, 1) := by decide +kernel
theorem dX4_takeFrom_21 : decode cX4_takeFrom 21 = .ok (.aload_n 0, 1) := by decide +kernel
theorem dX4_takeFrom_22 : decode cX4_takeFrom 22 = .ok (.getfield 13, 3) := by decide +kernel
theorem dX4_takeFrom_25 : decode cX4_takeFrom 25 = .ok (.iconst 0, 1) := by decide +kernel
theorem dX4_takeFrom_26 : decode cX4_takeFrom 26 = .ok (.aload_n 0, 1) := by decide +kernel
theorem dX4_takeFrom_27 : decode cX4_takeFrom 27 = .ok (.getfield 19, 3) := by decide +kernel
theorem dX4_takeFrom_30 : decode cX4_takeFrom 30 = .ok (.invokestatic 26, 3) := by decide +kernel
theorem dX4_takeFrom_33 : decode cX4_takeFrom 33 = .ok (.return_, 1) := by decide +kernel
theorem dX5_init_0 : decode cX5_init 0 = .ok (.aload_n 0, 1) := by decide +kernel
theorem dX5_init_1 : decode cX5_init 1 = .ok (.invokespecial 3, 3) := by decide +kernel
theorem dX5_init_4 : decode cX5_init 4 = .ok (.aload_n 0, 1) := by decide +kernel
theorem dX5_init_5 : decode cX5_init 5 = .ok (.bipush 24, 2) := by decide +kernel
theorem dX5_init_7 : decode cX5_init 7 = .ok (.newarray .int, 2) := by decide +kernel
theorem dX5_init_9 : decode cX5_init 9 = .ok (.putfield 9, 3) := by decide +kernel
theorem dX5_init_12 : decode cX5_init 12 = .ok (.return_, 1) := by decide +kernel
theorem dX5_isMissing_0 : decode cX5_isMissing 0 = .ok (.aload_n 0, 1) := by decide +kernel
theorem dX5_isMissing_1 : decode cX5_isMissing 1 = .ok (.getfield 15, 3) := by decide +kernel
theorem dX5_isMissing_4 : decode cX5_isMissing 4 = .ok (.ifCond .ne 7, 3) := by decide +kernel
theorem dX5_isMissing_7 : decode cX5_isMissing 7 = .ok (.iconst 1, 1) := by decide +kernel
theorem dX5_isMissing_8 : decode cX5_isMissing 8 = .ok (.goto 4, 3) := by decide +kernel
theorem dX5_isMissing_11 : decode cX5_isMissing 11 = .ok (.iconst 0, 1) := by decide +kernel
theorem dX5_isMissing_12 : decode cX5_isMissing 12 = .ok (.ireturn, 1) := by decide +kernel
theorem dX5_lay_0 : decode cX5_lay 0 = .ok (.aload_n 0, 1) := by decide +kernel
theorem dX5_lay_1 : decode cX5_lay 1 = .ok (.iload_n 1, 1) := by decide +kernel
theorem dX5_lay_2 : decode cX5_lay 2 = .ok (.putfield 15, 3) := by decide +kernel
theorem dX5_lay_5 : decode cX5_lay 5 = .ok (.aload_n 0, 1) := by decide +kernel
theorem dX5_lay_6 : decode cX5_lay 6 = .ok (.iload_n 2, 1) := by decide +kernel
theorem dX5_lay_7 : decode cX5_lay 7 = .ok (.putfield 19, 3) := by decide +kernel
theorem dX5_lay_10 : decode cX5_lay 10 = .ok (.aload_n 0, 1) := by decide +kernel
theorem dX5_lay_11 : decode cX5_lay 11 = .ok (.getfield 9, 3) := by decide +kernel
theorem dX5_lay_14 : decode cX5_lay 14 = .ok (.iconst 0, 1) := by decide +kernel
theorem dX5_lay_15 : decode cX5_lay 15 = .ok (.invokestatic 22, 3) := by decide +kernel
theorem dX5_lay_18 : decode cX5_lay 18 = .ok (.return_, 1) := by decide +kernel
theorem dX5_write_0 : decode cX5_write 0 = .ok (.aload_n 0, 1) := by decide +kernel
theorem dX5_write_1 : decode cX5_write 1 = .ok (.getfield 15, 3) := by decide +kernel
theorem dX5_write_4 : decode cX5_write 4 = .ok (.lookupswitch 50 #[(8, 28), (16, 39)], 28) := by decide +kernel
theorem dX5_write_32 : decode cX5_write 32 = .ok (.aload_n 0, 1) := by decide +kernel
theorem dX5_write_33 : decode cX5_write 33 = .ok (.getfield 9, 3) := by decide +kernel
theorem dX5_write_36 : decode cX5_write 36 = .ok (.iload_n 1, 1) := by decide +kernel
theorem dX5_write_37 : decode cX5_write 37 = .ok (.iload_n 2, 1) := by decide +kernel
theorem dX5_write_38 : decode cX5_write 38 = .ok (.i2b, 1) := by decide +kernel
theorem dX5_write_39 : decode cX5_write 39 = .ok (.iastore, 1) := by decide +kernel
theorem dX5_write_40 : decode cX5_write 40 = .ok (.goto 21, 3) := by decide +kernel
theorem dX5_write_43 : decode cX5_write 43 = .ok (.aload_n 0, 1) := by decide +kernel
theorem dX5_write_44 : decode cX5_write 44 = .ok (.getfield 9, 3) := by decide +kernel
theorem dX5_write_47 : decode cX5_write 47 = .ok (.iload_n 1, 1) := by decide +kernel
theorem dX5_write_48 : decode cX5_write 48 = .ok (.iload_n 2, 1) := by decide +kernel
theorem dX5_write_49 : decode cX5_write 49 = .ok (.i2s, 1) := by decide +kernel
theorem dX5_write_50 : decode cX5_write 50 = .ok (.iastore, 1) := by decide +kernel
theorem dX5_write_51 : decode cX5_write 51 = .ok (.goto 10, 3) := by decide +kernel
theorem dX5_write_54 : decode cX5_write 54 = .ok (.aload_n 0, 1) := by decide +kernel
theorem dX5_write_55 : decode cX5_write 55 = .ok (.getfield 9, 3) := by decide +kernel
theorem dX5_write_58 : decode cX5_write 58 = .ok (.iload_n 1, 1) := by decide +kernel
theorem dX5_write_59 : decode cX5_write 59 = .ok (.iload_n 2, 1) := by decide +kernel
theorem dX5_write_60 : decode cX5_write 60 = .ok (.iastore, 1) := by decide +kernel
theorem dX5_write_61 : decode cX5_write 61 = .ok (.return_, 1) := by decide +kernel
theorem dX5_holds_0 : decode cX5_holds 0 = .ok (.iload_n 2, 1) := by decide +kernel
theorem dX5_holds_1 : decode cX5_holds 1 = .ok (.ifCond .lt 29, 3) := by decide +kernel
theorem dX5_holds_4 : decode cX5_holds 4 = .ok (.iload_n 2, 1) := by decide +kernel
theorem dX5_holds_5 : decode cX5_holds 5 = .ok (.aload_n 0, 1) := by decide +kernel
theorem dX5_holds_6 : decode cX5_holds 6 = .ok (.getfield 19, 3) := by decide +kernel
theorem dX5_holds_9 : decode cX5_holds 9 = .ok (.if_icmp .gt 21, 3) := by decide +kernel
theorem dX5_holds_12 : decode cX5_holds 12 = .ok (.iload_n 1, 1) := by decide +kernel
theorem dX5_holds_13 : decode cX5_holds 13 = .ok (.ifCond .lt 17, 3) := by decide +kernel
theorem dX5_holds_16 : decode cX5_holds 16 = .ok (.iload_n 1, 1) := by decide +kernel
theorem dX5_holds_17 : decode cX5_holds 17 = .ok (.aload_n 0, 1) := by decide +kernel
theorem dX5_holds_18 : decode cX5_holds 18 = .ok (.getfield 19, 3) := by decide +kernel
theorem dX5_holds_21 : decode cX5_holds 21 = .ok (.iload_n 2, 1) := by decide +kernel
theorem dX5_holds_22 : decode cX5_holds 22 = .ok (.isub, 1) := by decide +kernel
theorem dX5_holds_23 : decode cX5_holds 23 = .ok (.if_icmp .gt 7, 3) := by decide +kernel
theorem dX5_holds_26 : decode cX5_holds 26 = .ok (.iconst 1, 1) := by decide +kernel
theorem dX5_holds_27 : decode cX5_holds 27 = .ok (.goto 4, 3) := by decide +kernel
theorem dX5_holds_30 : decode cX5_holds 30 = .ok (.iconst 0, 1) := by decide +kernel
theorem dX5_holds_31 : decode cX5_holds 31 = .ok (.ireturn, 1) := by decide +kernel
theorem dX6_init_0 : decode cX6_init 0 = .ok (.aload_n 0, 1) := by decide +kernel
theorem dX6_init_1 : decode cX6_init 1 = .ok (.invokespecial 3, 3) := by decide +kernel
theorem dX6_init_4 : decode cX6_init 4 = .ok (.aload_n 0, 1) := by decide +kernel
theorem dX6_init_5 : decode cX6_init 5 = .ok (.new 9, 3) := by decide +kernel
theorem dX6_init_8 : decode cX6_init 8 = .ok (.dup, 1) := by decide +kernel
theorem dX6_init_9 : decode cX6_init 9 = .ok (.bipush 30, 2) := by decide +kernel
theorem dX6_init_11 : decode cX6_init 11 = .ok (.invokespecial 11, 3) := by decide +kernel
theorem dX6_init_14 : decode cX6_init 14 = .ok (.putfield 14, 3) := by decide +kernel
theorem dX6_init_17 : decode cX6_init 17 = .ok (.return_, 1) := by decide +kernel
theorem dX6_speak_0 : decode cX6_speak 0 = .ok (.aload_n 0, 1) := by decide +kernel
theorem dX6_speak_1 : decode cX6_speak 1 = .ok (.getfield 14, 3) := by decide +kernel
theorem dX6_speak_4 : decode cX6_speak 4 = .ok (.iconst 0, 1) := by decide +kernel
theorem dX6_speak_5 : decode cX6_speak 5 = .ok (.putfield 20, 3) := by decide +kernel
theorem dX6_speak_8 : decode cX6_speak 8 = .ok (.aload_n 0, 1) := by decide +kernel
theorem dX6_speak_9 : decode cX6_speak 9 = .ok (.iconst 0, 1) := by decide +kernel
theorem dX6_speak_10 : decode cX6_speak 10 = .ok (.putfield 24, 3) := by decide +kernel
theorem dX6_speak_13 : decode cX6_speak 13 = .ok (.aload_n 0, 1) := by decide +kernel
theorem dX6_speak_14 : decode cX6_speak 14 = .ok (.iload_n 1, 1) := by decide +kernel
theorem dX6_speak_15 : decode cX6_speak 15 = .ok (.putfield 28, 3) := by decide +kernel
theorem dX6_speak_18 : decode cX6_speak 18 = .ok (.aload_n 0, 1) := by decide +kernel
theorem dX6_speak_19 : decode cX6_speak 19 = .ok (.aload_n 2, 1) := by decide +kernel
theorem dX6_speak_20 : decode cX6_speak 20 = .ok (.getfield 31, 3) := by decide +kernel
theorem dX6_speak_23 : decode cX6_speak 23 = .ok (.putfield 36, 3) := by decide +kernel
theorem dX6_speak_26 : decode cX6_speak 26 = .ok (.aload_n 0, 1) := by decide +kernel
theorem dX6_speak_27 : decode cX6_speak 27 = .ok (.aload_n 2, 1) := by decide +kernel
theorem dX6_speak_28 : decode cX6_speak 28 = .ok (.getfield 37, 3) := by decide +kernel
theorem dX6_speak_31 : decode cX6_speak 31 = .ok (.putfield 40, 3) := by decide +kernel
theorem dX6_speak_34 : decode cX6_speak 34 = .ok (.aload_n 0, 1) := by decide +kernel
theorem dX6_speak_35 : decode cX6_speak 35 = .ok (.iload_n 3, 1) := by decide +kernel
theorem dX6_speak_36 : decode cX6_speak 36 = .ok (.aload_n 0, 1) := by decide +kernel
theorem dX6_speak_37 : decode cX6_speak 37 = .ok (.getfield 36, 3) := by decide +kernel
theorem dX6_speak_40 : decode cX6_speak 40 = .ok (.iload 4, 2) := by decide +kernel
theorem dX6_speak_42 : decode cX6_speak 42 = .ok (.iconst 0, 1) := by decide +kernel
theorem dX6_speak_43 : decode cX6_speak 43 = .ok (.invokevirtual 41, 3) := by decide +kernel
theorem dX6_speak_46 : decode cX6_speak 46 = .ok (.ireturn, 1) := by decide +kernel
theorem dX6_say_0 : decode cX6_say 0 = .ok (.aload_n 0, 1) := by decide +kernel
theorem dX6_say_1 : decode cX6_say 1 = .ok (.getfield 24, 3) := by decide +kernel
theorem dX6_say_4 : decode cX6_say 4 = .ok (.ifCond .ne 10, 3) := by decide +kernel
theorem dX6_say_7 : decode cX6_say 7 = .ok (.iload 4, 2) := by decide +kernel
theorem dX6_say_9 : decode cX6_say 9 = .ok (.bipush 30, 2) := by decide +kernel
theorem dX6_say_11 : decode cX6_say 11 = .ok (.if_icmp .le 5, 3) := by decide +kernel
theorem dX6_say_14 : decode cX6_say 14 = .ok (.iconst 0, 1) := by decide +kernel
theorem dX6_say_15 : decode cX6_say 15 = .ok (.ireturn, 1) := by decide +kernel
theorem dX6_say_16 : decode cX6_say 16 = .ok (.iload_n 2, 1) := by decide +kernel
theorem dX6_say_17 : decode cX6_say 17 = .ok (.istore 5, 2) := by decide +kernel
theorem dX6_say_19 : decode cX6_say 19 = .ok (.iconst 0, 1) := by decide +kernel
theorem dX6_say_20 : decode cX6_say 20 = .ok (.istore 6, 2) := by decide +kernel
theorem dX6_say_22 : decode cX6_say 22 = .ok (.iload 6, 2) := by decide +kernel
theorem dX6_say_24 : decode cX6_say 24 = .ok (.bipush 7, 2) := by decide +kernel
theorem dX6_say_26 : decode cX6_say 26 = .ok (.if_icmp .ge 30, 3) := by decide +kernel
theorem dX6_say_29 : decode cX6_say 29 = .ok (.getstatic 45, 3) := by decide +kernel
theorem dX6_say_32 : decode cX6_say 32 = .ok (.iload 5, 2) := by decide +kernel
theorem dX6_say_34 : decode cX6_say 34 = .ok (.iconst 4, 1) := by decide +kernel
theorem dX6_say_35 : decode cX6_say 35 = .ok (.imul, 1) := by decide +kernel
theorem dX6_say_36 : decode cX6_say 36 = .ok (.iload_n 1, 1) := by decide +kernel
theorem dX6_say_37 : decode cX6_say 37 = .ok (.iadd, 1) := by decide +kernel
theorem dX6_say_38 : decode cX6_say 38 = .ok (.iaload, 1) := by decide +kernel
theorem dX6_say_39 : decode cX6_say 39 = .ok (.ifCond .ne 17, 3) := by decide +kernel
theorem dX6_say_42 : decode cX6_say 42 = .ok (.getstatic 49, 3) := by decide +kernel
theorem dX6_say_45 : decode cX6_say 45 = .ok (.iload 5, 2) := by decide +kernel
theorem dX6_say_47 : decode cX6_say 47 = .ok (.iaload, 1) := by decide +kernel
theorem dX6_say_48 : decode cX6_say 48 = .ok (.istore 5, 2) := by decide +kernel
theorem dX6_say_50 : decode cX6_say 50 = .ok (.iinc 6 1, 3) := by decide +kernel
theorem dX6_say_53 : decode cX6_say 53 = .ok (.goto (-31), 3) := by decide +kernel
theorem dX6_say_56 : decode cX6_say 56 = .ok (.getstatic 45, 3) := by decide +kernel
theorem dX6_say_59 : decode cX6_say 59 = .ok (.iload 5, 2) := by decide +kernel
theorem dX6_say_61 : decode cX6_say 61 = .ok (.iconst 4, 1) := by decide +kernel
theorem dX6_say_62 : decode cX6_say 62 = .ok (.imul, 1) := by decide +kernel
theorem dX6_say_63 : decode cX6_say 63 = .ok (.iload_n 1, 1) := by decide +kernel
theorem dX6_say_64 : decode cX6_say 64 = .ok (.iadd, 1) := by decide +kernel
theorem dX6_say_65 : decode cX6_say 65 = .ok (.iaload, 1) := by decide +kernel
theorem dX6_say_66 : decode cX6_say 66 = .ok (.istore 6, 2) := by decide +kernel
theorem dX6_say_68 : decode cX6_say 68 = .ok (.getstatic 49, 3) := by decide +kernel
theorem dX6_say_71 : decode cX6_say 71 = .ok (.iload 5, 2) := by decide +kernel
theorem dX6_say_73 : decode cX6_say 73 = .ok (.iaload, 1) := by decide +kernel
theorem dX6_say_74 : decode cX6_say 74 = .ok (.istore 7, 2) := by decide +kernel
theorem dX6_say_76 : decode cX6_say 76 = .ok (.iload 4, 2) := by decide +kernel
theorem dX6_say_78 : decode cX6_say 78 = .ok (.iconst 1, 1) := by decide +kernel
theorem dX6_say_79 : decode cX6_say 79 = .ok (.iadd, 1) := by decide +kernel
theorem dX6_say_80 : decode cX6_say 80 = .ok (.istore 8, 2) := by decide +kernel
theorem dX6_say_82 : decode cX6_say 82 = .ok (.aload_n 0, 1) := by decide +kernel
theorem dX6_say_83 : decode cX6_say 83 = .ok (.getfield 14, 3) := by decide +kernel
theorem dX6_say_86 : decode cX6_say 86 = .ok (.iload 6, 2) := by decide +kernel
theorem dX6_say_88 : decode cX6_say 88 = .ok (.invokevirtual 52, 3) := by decide +kernel
theorem dX6_say_91 : decode cX6_say 91 = .ok (.iload 6, 2) := by decide +kernel
theorem dX6_say_93 : decode cX6_say 93 = .ok (.lookupswitch 294 #[(10, 115), (11, 122), (12, 137), (13, 155), (20, 170), (21, 184), (30, 208), (40, 221), (50, 234), (51, 247), (60, 263), (70, 276), (71, 278)], 115) := by decide +kernel
theorem dX6_say_208 : decode cX6_say 208 = .ok (.iload_n 3, 1) := by decide +kernel
theorem dX6_say_209 : decode cX6_say 209 = .ok (.aload_n 0, 1) := by decide +kernel
theorem dX6_say_210 : decode cX6_say 210 = .ok (.getfield 28, 3) := by decide +kernel
theorem dX6_say_213 : decode cX6_say 213 = .ok (.iadd, 1) := by decide +kernel
theorem dX6_say_214 : decode cX6_say 214 = .ok (.ireturn, 1) := by decide +kernel
theorem dX6_say_215 : decode cX6_say 215 = .ok (.aload_n 0, 1) := by decide +kernel
theorem dX6_say_216 : decode cX6_say 216 = .ok (.iconst 0, 1) := by decide +kernel
theorem dX6_say_217 : decode cX6_say 217 = .ok (.aload_n 0, 1) := by decide +kernel
theorem dX6_say_218 : decode cX6_say 218 = .ok (.getfield 36, 3) := by decide +kernel
theorem dX6_say_221 : decode cX6_say 221 = .ok (.iload_n 3, 1) := by decide +kernel
theorem dX6_say_222 : decode cX6_say 222 = .ok (.iload 8, 2) := by decide +kernel
theorem dX6_say_224 : decode cX6_say 224 = .ok (.invokevirtual 41, 3) := by decide +kernel
theorem dX6_say_227 : decode cX6_say 227 = .ok (.iconst 2, 1) := by decide +kernel
theorem dX6_say_228 : decode cX6_say 228 = .ok (.imul, 1) := by decide +kernel
theorem dX6_say_229 : decode cX6_say 229 = .ok (.ireturn, 1) := by decide +kernel
theorem dX6_say_230 : decode cX6_say 230 = .ok (.aload_n 0, 1) := by decide +kernel
theorem dX6_say_231 : decode cX6_say 231 = .ok (.iconst 1, 1) := by decide +kernel
theorem dX6_say_232 : decode cX6_say 232 = .ok (.aload_n 0, 1) := by decide +kernel
theorem dX6_say_233 : decode cX6_say 233 = .ok (.getfield 36, 3) := by decide +kernel
theorem dX6_say_236 : decode cX6_say 236 = .ok (.iload_n 3, 1) := by decide +kernel
theorem dX6_say_237 : decode cX6_say 237 = .ok (.iload 8, 2) := by decide +kernel
theorem dX6_say_239 : decode cX6_say 239 = .ok (.invokevirtual 41, 3) := by decide +kernel
theorem dX6_say_242 : decode cX6_say 242 = .ok (.aload_n 0, 1) := by decide +kernel
theorem dX6_say_243 : decode cX6_say 243 = .ok (.getfield 40, 3) := by decide +kernel
theorem dX6_say_246 : decode cX6_say 246 = .ok (.isub, 1) := by decide +kernel
theorem dX6_say_247 : decode cX6_say 247 = .ok (.ireturn, 1) := by decide +kernel
theorem dX6_say_248 : decode cX6_say 248 = .ok (.aload_n 0, 1) := by decide +kernel
theorem dX6_say_249 : decode cX6_say 249 = .ok (.iload_n 3, 1) := by decide +kernel
theorem dX6_say_250 : decode cX6_say 250 = .ok (.aload_n 0, 1) := by decide +kernel
theorem dX6_say_251 : decode cX6_say 251 = .ok (.getfield 40, 3) := by decide +kernel
theorem dX6_say_254 : decode cX6_say 254 = .ok (.aload_n 0, 1) := by decide +kernel
theorem dX6_say_255 : decode cX6_say 255 = .ok (.getfield 28, 3) := by decide +kernel
theorem dX6_say_258 : decode cX6_say 258 = .ok (.isub, 1) := by decide +kernel
theorem dX6_say_259 : decode cX6_say 259 = .ok (.invokevirtual 55, 3) := by decide +kernel
theorem dX6_say_262 : decode cX6_say 262 = .ok (.ireturn, 1) := by decide +kernel
theorem dX6_say_263 : decode cX6_say 263 = .ok (.aload_n 0, 1) := by decide +kernel
theorem dX6_say_264 : decode cX6_say 264 = .ok (.iconst 0, 1) := by decide +kernel
theorem dX6_say_265 : decode cX6_say 265 = .ok (.iload 7, 2) := by decide +kernel
theorem dX6_say_267 : decode cX6_say 267 = .ok (.iload_n 3, 1) := by decide +kernel
theorem dX6_say_268 : decode cX6_say 268 = .ok (.iload 8, 2) := by decide +kernel
theorem dX6_say_270 : decode cX6_say 270 = .ok (.invokevirtual 41, 3) := by decide +kernel
theorem dX6_say_273 : decode cX6_say 273 = .ok (.bipush 6, 2) := by decide +kernel
theorem dX6_say_275 : decode cX6_say 275 = .ok (.isub, 1) := by decide +kernel
theorem dX6_say_276 : decode cX6_say 276 = .ok (.ireturn, 1) := by decide +kernel
theorem dX6_say_277 : decode cX6_say 277 = .ok (.aload_n 0, 1) := by decide +kernel
theorem dX6_say_278 : decode cX6_say 278 = .ok (.iconst 3, 1) := by decide +kernel
theorem dX6_say_279 : decode cX6_say 279 = .ok (.iload 7, 2) := by decide +kernel
theorem dX6_say_281 : decode cX6_say 281 = .ok (.iload_n 3, 1) := by decide +kernel
theorem dX6_say_282 : decode cX6_say 282 = .ok (.iload 8, 2) := by decide +kernel
theorem dX6_say_284 : decode cX6_say 284 = .ok (.invokevirtual 41, 3) := by decide +kernel
theorem dX6_say_287 : decode cX6_say 287 = .ok (.aload_n 0, 1) := by decide +kernel
theorem dX6_say_288 : decode cX6_say 288 = .ok (.iconst 1, 1) := by decide +kernel
theorem dX6_say_289 : decode cX6_say 289 = .ok (.aload_n 0, 1) := by decide +kernel
theorem dX6_say_290 : decode cX6_say 290 = .ok (.getfield 36, 3) := by decide +kernel
theorem dX6_say_293 : decode cX6_say 293 = .ok (.iconst 1, 1) := by decide +kernel
theorem dX6_say_294 : decode cX6_say 294 = .ok (.iload 8, 2) := by decide +kernel
theorem dX6_say_296 : decode cX6_say 296 = .ok (.invokevirtual 41, 3) := by decide +kernel
theorem dX6_say_299 : decode cX6_say 299 = .ok (.iadd, 1) := by decide +kernel
theorem dX6_say_300 : decode cX6_say 300 = .ok (.ireturn, 1) := by decide +kernel
theorem dX6_say_301 : decode cX6_say 301 = .ok (.iconst 0, 1) := by decide +kernel
theorem dX6_say_302 : decode cX6_say 302 = .ok (.aload_n 0, 1) := by decide +kernel
theorem dX6_say_303 : decode cX6_say 303 = .ok (.iconst 1, 1) := by decide +kernel
theorem dX6_say_304 : decode cX6_say 304 = .ok (.iload 7, 2) := by decide +kernel
theorem dX6_say_306 : decode cX6_say 306 = .ok (.iload_n 3, 1) := by decide +kernel
theorem dX6_say_307 : decode cX6_say 307 = .ok (.iload 8, 2) := by decide +kernel
theorem dX6_say_309 : decode cX6_say 309 = .ok (.invokevirtual 41, 3) := by decide +kernel
theorem dX6_say_312 : decode cX6_say 312 = .ok (.isub, 1) := by decide +kernel
theorem dX6_say_313 : decode cX6_say 313 = .ok (.ireturn, 1) := by decide +kernel
theorem dX6_say_314 : decode cX6_say 314 = .ok (.aload_n 0, 1) := by decide +kernel
theorem dX6_say_315 : decode cX6_say 315 = .ok (.iconst 2, 1) := by decide +kernel
theorem dX6_say_316 : decode cX6_say 316 = .ok (.iload 7, 2) := by decide +kernel
theorem dX6_say_318 : decode cX6_say 318 = .ok (.iload_n 3, 1) := by decide +kernel
theorem dX6_say_319 : decode cX6_say 319 = .ok (.iconst 2, 1) := by decide +kernel
theorem dX6_say_320 : decode cX6_say 320 = .ok (.idiv, 1) := by decide +kernel
theorem dX6_say_321 : decode cX6_say 321 = .ok (.iload 8, 2) := by decide +kernel
theorem dX6_say_323 : decode cX6_say 323 = .ok (.invokevirtual 41, 3) := by decide +kernel
theorem dX6_say_326 : decode cX6_say 326 = .ok (.ireturn, 1) := by decide +kernel
theorem dX6_say_327 : decode cX6_say 327 = .ok (.aload_n 0, 1) := by decide +kernel
theorem dX6_say_328 : decode cX6_say 328 = .ok (.iconst 0, 1) := by decide +kernel
theorem dX6_say_329 : decode cX6_say 329 = .ok (.iload 7, 2) := by decide +kernel
theorem dX6_say_331 : decode cX6_say 331 = .ok (.iload_n 3, 1) := by decide +kernel
theorem dX6_say_332 : decode cX6_say 332 = .ok (.iload 8, 2) := by decide +kernel
theorem dX6_say_334 : decode cX6_say 334 = .ok (.invokevirtual 41, 3) := by decide +kernel
theorem dX6_say_337 : decode cX6_say 337 = .ok (.iconst 3, 1) := by decide +kernel
theorem dX6_say_338 : decode cX6_say 338 = .ok (.imul, 1) := by decide +kernel
theorem dX6_say_339 : decode cX6_say 339 = .ok (.ireturn, 1) := by decide +kernel
theorem dX6_say_340 : decode cX6_say 340 = .ok (.aload_n 0, 1) := by decide +kernel
theorem dX6_say_341 : decode cX6_say 341 = .ok (.iconst 2, 1) := by decide +kernel
theorem dX6_say_342 : decode cX6_say 342 = .ok (.iload 7, 2) := by decide +kernel
theorem dX6_say_344 : decode cX6_say 344 = .ok (.iload_n 3, 1) := by decide +kernel
theorem dX6_say_345 : decode cX6_say 345 = .ok (.iload 8, 2) := by decide +kernel
theorem dX6_say_347 : decode cX6_say 347 = .ok (.invokevirtual 41, 3) := by decide +kernel
theorem dX6_say_350 : decode cX6_say 350 = .ok (.aload_n 0, 1) := by decide +kernel
theorem dX6_say_351 : decode cX6_say 351 = .ok (.getfield 28, 3) := by decide +kernel
theorem dX6_say_354 : decode cX6_say 354 = .ok (.ixor, 1) := by decide +kernel
theorem dX6_say_355 : decode cX6_say 355 = .ok (.ireturn, 1) := by decide +kernel
theorem dX6_say_356 : decode cX6_say 356 = .ok (.aload_n 0, 1) := by decide +kernel
theorem dX6_say_357 : decode cX6_say 357 = .ok (.iconst 1, 1) := by decide +kernel
theorem dX6_say_358 : decode cX6_say 358 = .ok (.iload 7, 2) := by decide +kernel
theorem dX6_say_360 : decode cX6_say 360 = .ok (.iload_n 3, 1) := by decide +kernel
theorem dX6_say_361 : decode cX6_say 361 = .ok (.iconst 1, 1) := by decide +kernel
theorem dX6_say_362 : decode cX6_say 362 = .ok (.iadd, 1) := by decide +kernel
theorem dX6_say_363 : decode cX6_say 363 = .ok (.iload 8, 2) := by decide +kernel
theorem dX6_say_365 : decode cX6_say 365 = .ok (.invokevirtual 41, 3) := by decide +kernel
theorem dX6_say_368 : decode cX6_say 368 = .ok (.ireturn, 1) := by decide +kernel
theorem dX6_say_369 : decode cX6_say 369 = .ok (.iconst 5, 1) := by decide +kernel
theorem dX6_say_370 : decode cX6_say 370 = .ok (.ireturn, 1) := by decide +kernel
theorem dX6_say_371 : decode cX6_say 371 = .ok (.aload_n 0, 1) := by decide +kernel
theorem dX6_say_372 : decode cX6_say 372 = .ok (.iconst 1, 1) := by decide +kernel
theorem dX6_say_373 : decode cX6_say 373 = .ok (.iload 7, 2) := by decide +kernel
theorem dX6_say_375 : decode cX6_say 375 = .ok (.iload_n 3, 1) := by decide +kernel
theorem dX6_say_376 : decode cX6_say 376 = .ok (.iload 8, 2) := by decide +kernel
theorem dX6_say_378 : decode cX6_say 378 = .ok (.invokevirtual 41, 3) := by decide +kernel
theorem dX6_say_381 : decode cX6_say 381 = .ok (.aload_n 0, 1) := by decide +kernel
theorem dX6_say_382 : decode cX6_say 382 = .ok (.getfield 40, 3) := by decide +kernel
theorem dX6_say_385 : decode cX6_say 385 = .ok (.iadd, 1) := by decide +kernel
theorem dX6_say_386 : decode cX6_say 386 = .ok (.ireturn, 1) := by decide +kernel
theorem dX6_say_387 : decode cX6_say 387 = .ok (.iconst 0, 1) := by decide +kernel
theorem dX6_say_388 : decode cX6_say 388 = .ok (.ireturn, 1) := by decide +kernel
theorem dX6_part_0 : decode cX6_part 0 = .ok (.iload_n 2, 1) := by decide +kernel
theorem dX6_part_1 : decode cX6_part 1 = .ok (.ifCond .ne 10, 3) := by decide +kernel
theorem dX6_part_4 : decode cX6_part 4 = .ok (.aload_n 0, 1) := by decide +kernel
theorem dX6_part_5 : decode cX6_part 5 = .ok (.iconst 1, 1) := by decide +kernel
theorem dX6_part_6 : decode cX6_part 6 = .ok (.putfield 24, 3) := by decide +kernel
theorem dX6_part_9 : decode cX6_part 9 = .ok (.iconst 0, 1) := by decide +kernel
theorem dX6_part_10 : decode cX6_part 10 = .ok (.ireturn, 1) := by decide +kernel
theorem dX6_part_11 : decode cX6_part 11 = .ok (.iload_n 1, 1) := by decide +kernel
theorem dX6_part_12 : decode cX6_part 12 = .ok (.iload_n 2, 1) := by decide +kernel
theorem dX6_part_13 : decode cX6_part 13 = .ok (.idiv, 1) := by decide +kernel
theorem dX6_part_14 : decode cX6_part 14 = .ok (.ireturn, 1) := by decide +kernel
theorem dX7_init_0 : decode cX7_init 0 = .ok (.aload_n 0, 1) := by decide +kernel
theorem dX7_init_1 : decode cX7_init 1 = .ok (.invokespecial 3, 3) := by decide +kernel
theorem dX7_init_4 : decode cX7_init 4 = .ok (.aload_n 0, 1) := by decide +kernel
theorem dX7_init_5 : decode cX7_init 5 = .ok (.bipush 60, 2) := by decide +kernel
theorem dX7_init_7 : decode cX7_init 7 = .ok (.newarray .int, 2) := by decide +kernel
theorem dX7_init_9 : decode cX7_init 9 = .ok (.putfield 9, 3) := by decide +kernel
theorem dX7_init_12 : decode cX7_init 12 = .ok (.aload_n 0, 1) := by decide +kernel
theorem dX7_init_13 : decode cX7_init 13 = .ok (.bipush 60, 2) := by decide +kernel
theorem dX7_init_15 : decode cX7_init 15 = .ok (.newarray .int, 2) := by decide +kernel
theorem dX7_init_17 : decode cX7_init 17 = .ok (.putfield 15, 3) := by decide +kernel
theorem dX7_init_20 : decode cX7_init 20 = .ok (.return_, 1) := by decide +kernel
theorem dX7_isThere_0 : decode cX7_isThere 0 = .ok (.aload_n 0, 1) := by decide +kernel
theorem dX7_isThere_1 : decode cX7_isThere 1 = .ok (.getfield 18, 3) := by decide +kernel
theorem dX7_isThere_4 : decode cX7_isThere 4 = .ok (.ifCond .le 7, 3) := by decide +kernel
theorem dX7_isThere_7 : decode cX7_isThere 7 = .ok (.iconst 1, 1) := by decide +kernel
theorem dX7_isThere_8 : decode cX7_isThere 8 = .ok (.goto 4, 3) := by decide +kernel
theorem dX7_isThere_11 : decode cX7_isThere 11 = .ok (.iconst 0, 1) := by decide +kernel
theorem dX7_isThere_12 : decode cX7_isThere 12 = .ok (.ireturn, 1) := by decide +kernel
theorem dX7_add_0 : decode cX7_add 0 = .ok (.aload_n 0, 1) := by decide +kernel
theorem dX7_add_1 : decode cX7_add 1 = .ok (.getfield 18, 3) := by decide +kernel
theorem dX7_add_4 : decode cX7_add 4 = .ok (.bipush 60, 2) := by decide +kernel
theorem dX7_add_6 : decode cX7_add 6 = .ok (.if_icmp .ge 23, 3) := by decide +kernel
theorem dX7_add_9 : decode cX7_add 9 = .ok (.aload_n 0, 1) := by decide +kernel
theorem dX7_add_10 : decode cX7_add 10 = .ok (.getfield 9, 3) := by decide +kernel
theorem dX7_add_13 : decode cX7_add 13 = .ok (.aload_n 0, 1) := by decide +kernel
theorem dX7_add_14 : decode cX7_add 14 = .ok (.getfield 18, 3) := by decide +kernel
theorem dX7_add_17 : decode cX7_add 17 = .ok (.iload_n 1, 1) := by decide +kernel
theorem dX7_add_18 : decode cX7_add 18 = .ok (.iastore, 1) := by decide +kernel
theorem dX7_add_19 : decode cX7_add 19 = .ok (.aload_n 0, 1) := by decide +kernel
theorem dX7_add_20 : decode cX7_add 20 = .ok (.dup, 1) := by decide +kernel
theorem dX7_add_21 : decode cX7_add 21 = .ok (.getfield 18, 3) := by decide +kernel
theorem dX7_add_24 : decode cX7_add 24 = .ok (.iconst 1, 1) := by decide +kernel
theorem dX7_add_25 : decode cX7_add 25 = .ok (.iadd, 1) := by decide +kernel
theorem dX7_add_26 : decode cX7_add 26 = .ok (.putfield 18, 3) := by decide +kernel
theorem dX7_add_29 : decode cX7_add 29 = .ok (.return_, 1) := by decide +kernel
theorem dX7_takeFrom_0 : decode cX7_takeFrom 0 = .ok (.aload_n 0, 1) := by decide +kernel
theorem dX7_takeFrom_1 : decode cX7_takeFrom 1 = .ok (.aload_n 1, 1) := by decide +kernel
theorem dX7_takeFrom_2 : decode cX7_takeFrom 2 = .ok (.getfield 18, 3) := by decide +kernel
theorem dX7_takeFrom_5 : decode cX7_takeFrom 5 = .ok (.putfield 18, 3) := by decide +kernel
theorem dX7_takeFrom_8 : decode cX7_takeFrom 8 = .ok (.aload_n 1, 1) := by decide +kernel
theorem dX7_takeFrom_9 : decode cX7_takeFrom 9 = .ok (.getfield 9, 3) := by decide +kernel
theorem dX7_takeFrom_12 : decode cX7_takeFrom 12 = .ok (.iconst 0, 1) := by decide +kernel
theorem dX7_takeFrom_13 : decode cX7_takeFrom 13 = .ok (.aload_n 0, 1) := by decide +kernel
theorem dX7_takeFrom_14 : decode cX7_takeFrom 14 = .ok (.getfield 9, 3) := by decide +kernel
theorem dX7_takeFrom_17 : decode cX7_takeFrom 17 = .ok (.iconst 0, 1) := by decide +kernel
theorem dX7_takeFrom_18 : decode cX7_takeFrom 18 = .ok (.aload_n 0, 1) := by decide +kernel
theorem dX7_takeFrom_19 : decode cX7_takeFrom 19 = .ok (.getfield 18, 3) := by decide +kernel
theorem dX7_takeFrom_22 : decode cX7_takeFrom 22 = .ok (.invokestatic 22, 3) := by decide +kernel
theorem dX7_takeFrom_25 : decode cX7_takeFrom 25 = .ok (.return_, 1) := by decide +kernel
theorem dX7_worth_0 : decode cX7_worth 0 = .ok (.iconst (-1), 1) := by decide +kernel
theorem dX7_worth_1 : decode cX7_worth 1 = .ok (.istore_n 2, 1) := by decide +kernel
theorem dX7_worth_2 : decode cX7_worth 2 = .ok (.iconst 0, 1) := by decide +kernel
theorem dX7_worth_3 : decode cX7_worth 3 = .ok (.istore_n 3, 1) := by decide +kernel
theorem dX7_worth_4 : decode cX7_worth 4 = .ok (.iload_n 3, 1) := by decide +kernel
theorem dX7_worth_5 : decode cX7_worth 5 = .ok (.aload_n 0, 1) := by decide +kernel
theorem dX7_worth_6 : decode cX7_worth 6 = .ok (.getfield 18, 3) := by decide +kernel
theorem dX7_worth_9 : decode cX7_worth 9 = .ok (.if_icmp .ge 139, 3) := by decide +kernel
theorem dX7_worth_12 : decode cX7_worth 12 = .ok (.aload_n 0, 1) := by decide +kernel
theorem dX7_worth_13 : decode cX7_worth 13 = .ok (.getfield 9, 3) := by decide +kernel
theorem dX7_worth_16 : decode cX7_worth 16 = .ok (.iload_n 3, 1) := by decide +kernel
theorem dX7_worth_17 : decode cX7_worth 17 = .ok (.iaload, 1) := by decide +kernel
theorem dX7_worth_18 : decode cX7_worth 18 = .ok (.istore 4, 2) := by decide +kernel
theorem dX7_worth_20 : decode cX7_worth 20 = .ok (.iload 4, 2) := by decide +kernel
theorem dX7_worth_22 : decode cX7_worth 22 = .ok (.sipush 10000, 3) := by decide +kernel
theorem dX7_worth_25 : decode cX7_worth 25 = .ok (.if_icmp .ge 17, 3) := by decide +kernel
theorem dX7_worth_28 : decode cX7_worth 28 = .ok (.iinc 2 1, 3) := by decide +kernel
theorem dX7_worth_31 : decode cX7_worth 31 = .ok (.aload_n 0, 1) := by decide +kernel
theorem dX7_worth_32 : decode cX7_worth 32 = .ok (.getfield 15, 3) := by decide +kernel
theorem dX7_worth_35 : decode cX7_worth 35 = .ok (.iload_n 2, 1) := by decide +kernel
theorem dX7_worth_36 : decode cX7_worth 36 = .ok (.iload 4, 2) := by decide +kernel
theorem dX7_worth_38 : decode cX7_worth 38 = .ok (.iastore, 1) := by decide +kernel
theorem dX7_worth_39 : decode cX7_worth 39 = .ok (.goto 103, 3) := by decide +kernel
theorem dX7_worth_42 : decode cX7_worth 42 = .ok (.iload 4, 2) := by decide +kernel
theorem dX7_worth_44 : decode cX7_worth 44 = .ok (.sipush 20000, 3) := by decide +kernel
theorem dX7_worth_47 : decode cX7_worth 47 = .ok (.if_icmp .ge 23, 3) := by decide +kernel
theorem dX7_worth_50 : decode cX7_worth 50 = .ok (.iinc 2 1, 3) := by decide +kernel
theorem dX7_worth_53 : decode cX7_worth 53 = .ok (.aload_n 0, 1) := by decide +kernel
theorem dX7_worth_54 : decode cX7_worth 54 = .ok (.getfield 15, 3) := by decide +kernel
theorem dX7_worth_57 : decode cX7_worth 57 = .ok (.iload_n 2, 1) := by decide +kernel
theorem dX7_worth_58 : decode cX7_worth 58 = .ok (.aload_n 1, 1) := by decide +kernel
theorem dX7_worth_59 : decode cX7_worth 59 = .ok (.iload 4, 2) := by decide +kernel
theorem dX7_worth_61 : decode cX7_worth 61 = .ok (.sipush 10000, 3) := by decide +kernel
theorem dX7_worth_64 : decode cX7_worth 64 = .ok (.isub, 1) := by decide +kernel
theorem dX7_worth_65 : decode cX7_worth 65 = .ok (.iaload, 1) := by decide +kernel
theorem dX7_worth_66 : decode cX7_worth 66 = .ok (.iastore, 1) := by decide +kernel
theorem dX7_worth_67 : decode cX7_worth 67 = .ok (.goto 75, 3) := by decide +kernel
theorem dX7_worth_70 : decode cX7_worth 70 = .ok (.iload 4, 2) := by decide +kernel
theorem dX7_worth_72 : decode cX7_worth 72 = .ok (.sipush 20033, 3) := by decide +kernel
theorem dX7_worth_75 : decode cX7_worth 75 = .ok (.if_icmp .ne 30, 3) := by decide +kernel
theorem dX7_worth_78 : decode cX7_worth 78 = .ok (.iload_n 2, 1) := by decide +kernel
theorem dX7_worth_79 : decode cX7_worth 79 = .ok (.ifCond .lt 63, 3) := by decide +kernel
theorem dX7_worth_82 : decode cX7_worth 82 = .ok (.aload_n 0, 1) := by decide +kernel
theorem dX7_worth_83 : decode cX7_worth 83 = .ok (.getfield 15, 3) := by decide +kernel
theorem dX7_worth_86 : decode cX7_worth 86 = .ok (.iload_n 2, 1) := by decide +kernel
theorem dX7_worth_87 : decode cX7_worth 87 = .ok (.aload_n 0, 1) := by decide +kernel
theorem dX7_worth_88 : decode cX7_worth 88 = .ok (.getfield 15, 3) := by decide +kernel
theorem dX7_worth_91 : decode cX7_worth 91 = .ok (.iload_n 2, 1) := by decide +kernel
theorem dX7_worth_92 : decode cX7_worth 92 = .ok (.iaload, 1) := by decide +kernel
theorem dX7_worth_93 : decode cX7_worth 93 = .ok (.ifCond .ne 7, 3) := by decide +kernel
theorem dX7_worth_96 : decode cX7_worth 96 = .ok (.iconst 1, 1) := by decide +kernel
theorem dX7_worth_97 : decode cX7_worth 97 = .ok (.goto 4, 3) := by decide +kernel
theorem dX7_worth_100 : decode cX7_worth 100 = .ok (.iconst 0, 1) := by decide +kernel
theorem dX7_worth_101 : decode cX7_worth 101 = .ok (.iastore, 1) := by decide +kernel
theorem dX7_worth_102 : decode cX7_worth 102 = .ok (.goto 40, 3) := by decide +kernel
theorem dX7_worth_105 : decode cX7_worth 105 = .ok (.iload_n 2, 1) := by decide +kernel
theorem dX7_worth_106 : decode cX7_worth 106 = .ok (.iconst 1, 1) := by decide +kernel
theorem dX7_worth_107 : decode cX7_worth 107 = .ok (.if_icmp .lt 35, 3) := by decide +kernel
theorem dX7_worth_110 : decode cX7_worth 110 = .ok (.iinc 2 (-1), 3) := by decide +kernel
theorem dX7_worth_113 : decode cX7_worth 113 = .ok (.aload_n 0, 1) := by decide +kernel
theorem dX7_worth_114 : decode cX7_worth 114 = .ok (.getfield 15, 3) := by decide +kernel
theorem dX7_worth_117 : decode cX7_worth 117 = .ok (.iload_n 2, 1) := by decide +kernel
theorem dX7_worth_118 : decode cX7_worth 118 = .ok (.iload 4, 2) := by decide +kernel
theorem dX7_worth_120 : decode cX7_worth 120 = .ok (.sipush 20000, 3) := by decide +kernel
theorem dX7_worth_123 : decode cX7_worth 123 = .ok (.isub, 1) := by decide +kernel
theorem dX7_worth_124 : decode cX7_worth 124 = .ok (.aload_n 0, 1) := by decide +kernel
theorem dX7_worth_125 : decode cX7_worth 125 = .ok (.getfield 15, 3) := by decide +kernel
theorem dX7_worth_128 : decode cX7_worth 128 = .ok (.iload_n 2, 1) := by decide +kernel
theorem dX7_worth_129 : decode cX7_worth 129 = .ok (.iaload, 1) := by decide +kernel
theorem dX7_worth_130 : decode cX7_worth 130 = .ok (.aload_n 0, 1) := by decide +kernel
theorem dX7_worth_131 : decode cX7_worth 131 = .ok (.getfield 15, 3) := by decide +kernel
theorem dX7_worth_134 : decode cX7_worth 134 = .ok (.iload_n 2, 1) := by decide +kernel
theorem dX7_worth_135 : decode cX7_worth 135 = .ok (.iconst 1, 1) := by decide +kernel
theorem dX7_worth_136 : decode cX7_worth 136 = .ok (.iadd, 1) := by decide +kernel
theorem dX7_worth_137 : decode cX7_worth 137 = .ok (.iaload, 1) := by decide +kernel
theorem dX7_worth_138 : decode cX7_worth 138 = .ok (.invokestatic 28, 3) := by decide +kernel
theorem dX7_worth_141 : decode cX7_worth 141 = .ok (.iastore, 1) := by decide +kernel
theorem dX7_worth_142 : decode cX7_worth 142 = .ok (.iinc 3 1, 3) := by decide +kernel
theorem dX7_worth_145 : decode cX7_worth 145 = .ok (.goto (-141), 3) := by decide +kernel
theorem dX7_worth_148 : decode cX7_worth 148 = .ok (.iload_n 2, 1) := by decide +kernel
theorem dX7_worth_149 : decode cX7_worth 149 = .ok (.ifCond .lt 12, 3) := by decide +kernel
theorem dX7_worth_152 : decode cX7_worth 152 = .ok (.aload_n 0, 1) := by decide +kernel
theorem dX7_worth_153 : decode cX7_worth 153 = .ok (.getfield 15, 3) := by decide +kernel
theorem dX7_worth_156 : decode cX7_worth 156 = .ok (.iload_n 2, 1) := by decide +kernel
theorem dX7_worth_157 : decode cX7_worth 157 = .ok (.iaload, 1) := by decide +kernel
theorem dX7_worth_158 : decode cX7_worth 158 = .ok (.goto 4, 3) := by decide +kernel
theorem dX7_worth_161 : decode cX7_worth 161 = .ok (.iconst 0, 1) := by decide +kernel
theorem dX7_worth_162 : decode cX7_worth 162 = .ok (.ireturn, 1) := by decide +kernel
theorem dX7_apply_0 : decode cX7_apply 0 = .ok (.iload_n 0, 1) := by decide +kernel
theorem dX7_apply_1 : decode cX7_apply 1 = .ok (.lookupswitch 188 #[(37, 176), (38, 105), (42, 160), (43, 152), (45, 156), (47, 164), (60, 119), (61, 130), (62, 141), (124, 91)], 91) := by decide +kernel
theorem dX7_apply_92 : decode cX7_apply 92 = .ok (.iload_n 1, 1) := by decide +kernel
theorem dX7_apply_93 : decode cX7_apply 93 = .ok (.ifCond .ne 7, 3) := by decide +kernel
theorem dX7_apply_96 : decode cX7_apply 96 = .ok (.iload_n 2, 1) := by decide +kernel
theorem dX7_apply_97 : decode cX7_apply 97 = .ok (.ifCond .eq 7, 3) := by decide +kernel
theorem dX7_apply_100 : decode cX7_apply 100 = .ok (.iconst 1, 1) := by decide +kernel
theorem dX7_apply_101 : decode cX7_apply 101 = .ok (.goto 4, 3) := by decide +kernel
theorem dX7_apply_104 : decode cX7_apply 104 = .ok (.iconst 0, 1) := by decide +kernel
theorem dX7_apply_105 : decode cX7_apply 105 = .ok (.ireturn, 1) := by decide +kernel
theorem dX7_apply_106 : decode cX7_apply 106 = .ok (.iload_n 1, 1) := by decide +kernel
theorem dX7_apply_107 : decode cX7_apply 107 = .ok (.ifCond .eq 11, 3) := by decide +kernel
theorem dX7_apply_110 : decode cX7_apply 110 = .ok (.iload_n 2, 1) := by decide +kernel
theorem dX7_apply_111 : decode cX7_apply 111 = .ok (.ifCond .eq 7, 3) := by decide +kernel
theorem dX7_apply_114 : decode cX7_apply 114 = .ok (.iconst 1, 1) := by decide +kernel
theorem dX7_apply_115 : decode cX7_apply 115 = .ok (.goto 4, 3) := by decide +kernel
theorem dX7_apply_118 : decode cX7_apply 118 = .ok (.iconst 0, 1) := by decide +kernel
theorem dX7_apply_119 : decode cX7_apply 119 = .ok (.ireturn, 1) := by decide +kernel
theorem dX7_apply_120 : decode cX7_apply 120 = .ok (.iload_n 1, 1) := by decide +kernel
theorem dX7_apply_121 : decode cX7_apply 121 = .ok (.iload_n 2, 1) := by decide +kernel
theorem dX7_apply_122 : decode cX7_apply 122 = .ok (.if_icmp .ge 7, 3) := by decide +kernel
theorem dX7_apply_125 : decode cX7_apply 125 = .ok (.iconst 1, 1) := by decide +kernel
theorem dX7_apply_126 : decode cX7_apply 126 = .ok (.goto 4, 3) := by decide +kernel
theorem dX7_apply_129 : decode cX7_apply 129 = .ok (.iconst 0, 1) := by decide +kernel
theorem dX7_apply_130 : decode cX7_apply 130 = .ok (.ireturn, 1) := by decide +kernel
theorem dX7_apply_131 : decode cX7_apply 131 = .ok (.iload_n 1, 1) := by decide +kernel
theorem dX7_apply_132 : decode cX7_apply 132 = .ok (.iload_n 2, 1) := by decide +kernel
theorem dX7_apply_133 : decode cX7_apply 133 = .ok (.if_icmp .ne 7, 3) := by decide +kernel
theorem dX7_apply_136 : decode cX7_apply 136 = .ok (.iconst 1, 1) := by decide +kernel
theorem dX7_apply_137 : decode cX7_apply 137 = .ok (.goto 4, 3) := by decide +kernel
theorem dX7_apply_140 : decode cX7_apply 140 = .ok (.iconst 0, 1) := by decide +kernel
theorem dX7_apply_141 : decode cX7_apply 141 = .ok (.ireturn, 1) := by decide +kernel
theorem dX7_apply_142 : decode cX7_apply 142 = .ok (.iload_n 1, 1) := by decide +kernel
theorem dX7_apply_143 : decode cX7_apply 143 = .ok (.iload_n 2, 1) := by decide +kernel
theorem dX7_apply_144 : decode cX7_apply 144 = .ok (.if_icmp .le 7, 3) := by decide +kernel
theorem dX7_apply_147 : decode cX7_apply 147 = .ok (.iconst 1, 1) := by decide +kernel
theorem dX7_apply_148 : decode cX7_apply 148 = .ok (.goto 4, 3) := by decide +kernel
theorem dX7_apply_151 : decode cX7_apply 151 = .ok (.iconst 0, 1) := by decide +kernel
theorem dX7_apply_152 : decode cX7_apply 152 = .ok (.ireturn, 1) := by decide +kernel
theorem dX7_apply_153 : decode cX7_apply 153 = .ok (.iload_n 1, 1) := by decide +kernel
theorem dX7_apply_154 : decode cX7_apply 154 = .ok (.iload_n 2, 1) := by decide +kernel
theorem dX7_apply_155 : decode cX7_apply 155 = .ok (.iadd, 1) := by decide +kernel
theorem dX7_apply_156 : decode cX7_apply 156 = .ok (.ireturn, 1) := by decide +kernel
theorem dX7_apply_157 : decode cX7_apply 157 = .ok (.iload_n 1, 1) := by decide +kernel
theorem dX7_apply_158 : decode cX7_apply 158 = .ok (.iload_n 2, 1) := by decide +kernel
theorem dX7_apply_159 : decode cX7_apply 159 = .ok (.isub, 1) := by decide +kernel
theorem dX7_apply_160 : decode cX7_apply 160 = .ok (.ireturn, 1) := by decide +kernel
theorem dX7_apply_161 : decode cX7_apply 161 = .ok (.iload_n 1, 1) := by decide +kernel
theorem dX7_apply_162 : decode cX7_apply 162 = .ok (.iload_n 2, 1) := by decide +kernel
theorem dX7_apply_163 : decode cX7_apply 163 = .ok (.imul, 1) := by decide +kernel
theorem dX7_apply_164 : decode cX7_apply 164 = .ok (.ireturn, 1) := by decide +kernel
theorem dX7_apply_165 : decode cX7_apply 165 = .ok (.iload_n 2, 1) := by decide +kernel
theorem dX7_apply_166 : decode cX7_apply 166 = .ok (.ifCond .ne 7, 3) := by decide +kernel
theorem dX7_apply_169 : decode cX7_apply 169 = .ok (.iconst 0, 1) := by decide +kernel
theorem dX7_apply_170 : decode cX7_apply 170 = .ok (.goto 6, 3) := by decide +kernel
theorem dX7_apply_173 : decode cX7_apply 173 = .ok (.iload_n 1, 1) := by decide +kernel
theorem dX7_apply_174 : decode cX7_apply 174 = .ok (.iload_n 2, 1) := by decide +kernel
theorem dX7_apply_175 : decode cX7_apply 175 = .ok (.idiv, 1) := by decide +kernel
theorem dX7_apply_176 : decode cX7_apply 176 = .ok (.ireturn, 1) := by decide +kernel
theorem dX7_apply_177 : decode cX7_apply 177 = .ok (.iload_n 2, 1) := by decide +kernel
theorem dX7_apply_178 : decode cX7_apply 178 = .ok (.ifCond .ne 7, 3) := by decide +kernel
theorem dX7_apply_181 : decode cX7_apply 181 = .ok (.iconst 0, 1) := by decide +kernel
theorem dX7_apply_182 : decode cX7_apply 182 = .ok (.goto 6, 3) := by decide +kernel
theorem dX7_apply_185 : decode cX7_apply 185 = .ok (.iload_n 1, 1) := by decide +kernel
theorem dX7_apply_186 : decode cX7_apply 186 = .ok (.iload_n 2, 1) := by decide +kernel
theorem dX7_apply_187 : decode cX7_apply 187 = .ok (.irem, 1) := by decide +kernel
theorem dX7_apply_188 : decode cX7_apply 188 = .ok (.ireturn, 1) := by decide +kernel
theorem dX7_apply_189 : decode cX7_apply 189 = .ok (.iconst 0, 1) := by decide +kernel
theorem dX7_apply_190 : decode cX7_apply 190 = .ok (.ireturn, 1) := by decide +kernel
theorem dX8_init_0 : decode cX8_init 0 = .ok (.aload_n 0, 1) := by decide +kernel
theorem dX8_init_1 : decode cX8_init 1 = .ok (.invokespecial 3, 3) := by decide +kernel
theorem dX8_init_4 : decode cX8_init 4 = .ok (.aload_n 0, 1) := by decide +kernel
theorem dX8_init_5 : decode cX8_init 5 = .ok (.bipush 10, 2) := by decide +kernel
theorem dX8_init_7 : decode cX8_init 7 = .ok (.anewarray 9, 3) := by decide +kernel
theorem dX8_init_10 : decode cX8_init 10 = .ok (.putfield 11, 3) := by decide +kernel
theorem dX8_init_13 : decode cX8_init 13 = .ok (.aload_n 0, 1) := by decide +kernel
theorem dX8_init_14 : decode cX8_init 14 = .ok (.iconst 5, 1) := by decide +kernel
theorem dX8_init_15 : decode cX8_init 15 = .ok (.anewarray 17, 3) := by decide +kernel
theorem dX8_init_18 : decode cX8_init 18 = .ok (.putfield 19, 3) := by decide +kernel
theorem dX8_init_21 : decode cX8_init 21 = .ok (.aload_n 0, 1) := by decide +kernel
theorem dX8_init_22 : decode cX8_init 22 = .ok (.iconst 2, 1) := by decide +kernel
theorem dX8_init_23 : decode cX8_init 23 = .ok (.anewarray 23, 3) := by decide +kernel
theorem dX8_init_26 : decode cX8_init 26 = .ok (.putfield 25, 3) := by decide +kernel
theorem dX8_init_29 : decode cX8_init 29 = .ok (.aload_n 0, 1) := by decide +kernel
theorem dX8_init_30 : decode cX8_init 30 = .ok (.new 29, 3) := by decide +kernel
theorem dX8_init_33 : decode cX8_init 33 = .ok (.dup, 1) := by decide +kernel
theorem dX8_init_34 : decode cX8_init 34 = .ok (.bipush 60, 2) := by decide +kernel
theorem dX8_init_36 : decode cX8_init 36 = .ok (.invokespecial 31, 3) := by decide +kernel
theorem dX8_init_39 : decode cX8_init 39 = .ok (.putfield 34, 3) := by decide +kernel
theorem dX8_init_42 : decode cX8_init 42 = .ok (.aload_n 0, 1) := by decide +kernel
theorem dX8_init_43 : decode cX8_init 43 = .ok (.new 29, 3) := by decide +kernel
theorem dX8_init_46 : decode cX8_init 46 = .ok (.dup, 1) := by decide +kernel
theorem dX8_init_47 : decode cX8_init 47 = .ok (.bipush 24, 2) := by decide +kernel
theorem dX8_init_49 : decode cX8_init 49 = .ok (.invokespecial 31, 3) := by decide +kernel
theorem dX8_init_52 : decode cX8_init 52 = .ok (.putfield 38, 3) := by decide +kernel
theorem dX8_init_55 : decode cX8_init 55 = .ok (.aload_n 0, 1) := by decide +kernel
theorem dX8_init_56 : decode cX8_init 56 = .ok (.iconst 1, 1) := by decide +kernel
theorem dX8_init_57 : decode cX8_init 57 = .ok (.putfield 41, 3) := by decide +kernel
theorem dX8_init_60 : decode cX8_init 60 = .ok (.aload_n 0, 1) := by decide +kernel
theorem dX8_init_61 : decode cX8_init 61 = .ok (.iconst 5, 1) := by decide +kernel
theorem dX8_init_62 : decode cX8_init 62 = .ok (.newarray .int, 2) := by decide +kernel
theorem dX8_init_64 : decode cX8_init 64 = .ok (.putfield 45, 3) := by decide +kernel
theorem dX8_init_67 : decode cX8_init 67 = .ok (.aload_n 0, 1) := by decide +kernel
theorem dX8_init_68 : decode cX8_init 68 = .ok (.bipush 10, 2) := by decide +kernel
theorem dX8_init_70 : decode cX8_init 70 = .ok (.bipush 10, 2) := by decide +kernel
theorem dX8_init_72 : decode cX8_init 72 = .ok (.multianewarray 49 2, 4) := by decide +kernel
theorem dX8_init_76 : decode cX8_init 76 = .ok (.putfield 51, 3) := by decide +kernel
theorem dX8_init_79 : decode cX8_init 79 = .ok (.iconst 0, 1) := by decide +kernel
theorem dX8_init_80 : decode cX8_init 80 = .ok (.istore_n 1, 1) := by decide +kernel
theorem dX8_init_81 : decode cX8_init 81 = .ok (.iload_n 1, 1) := by decide +kernel
theorem dX8_init_82 : decode cX8_init 82 = .ok (.bipush 10, 2) := by decide +kernel
theorem dX8_init_84 : decode cX8_init 84 = .ok (.if_icmp .ge 22, 3) := by decide +kernel
theorem dX8_init_87 : decode cX8_init 87 = .ok (.aload_n 0, 1) := by decide +kernel
theorem dX8_init_88 : decode cX8_init 88 = .ok (.getfield 11, 3) := by decide +kernel
theorem dX8_init_91 : decode cX8_init 91 = .ok (.iload_n 1, 1) := by decide +kernel
theorem dX8_init_92 : decode cX8_init 92 = .ok (.new 9, 3) := by decide +kernel
theorem dX8_init_95 : decode cX8_init 95 = .ok (.dup, 1) := by decide +kernel
theorem dX8_init_96 : decode cX8_init 96 = .ok (.invokespecial 54, 3) := by decide +kernel
theorem dX8_init_99 : decode cX8_init 99 = .ok (.aastore, 1) := by decide +kernel
theorem dX8_init_100 : decode cX8_init 100 = .ok (.iinc 1 1, 3) := by decide +kernel
theorem dX8_init_103 : decode cX8_init 103 = .ok (.goto (-22), 3) := by decide +kernel
theorem dX8_init_106 : decode cX8_init 106 = .ok (.iconst 0, 1) := by decide +kernel
theorem dX8_init_107 : decode cX8_init 107 = .ok (.istore_n 1, 1) := by decide +kernel
theorem dX8_init_108 : decode cX8_init 108 = .ok (.iload_n 1, 1) := by decide +kernel
theorem dX8_init_109 : decode cX8_init 109 = .ok (.iconst 5, 1) := by decide +kernel
theorem dX8_init_110 : decode cX8_init 110 = .ok (.if_icmp .ge 22, 3) := by decide +kernel
theorem dX8_init_113 : decode cX8_init 113 = .ok (.aload_n 0, 1) := by decide +kernel
theorem dX8_init_114 : decode cX8_init 114 = .ok (.getfield 19, 3) := by decide +kernel
theorem dX8_init_117 : decode cX8_init 117 = .ok (.iload_n 1, 1) := by decide +kernel
theorem dX8_init_118 : decode cX8_init 118 = .ok (.new 17, 3) := by decide +kernel
theorem dX8_init_121 : decode cX8_init 121 = .ok (.dup, 1) := by decide +kernel
theorem dX8_init_122 : decode cX8_init 122 = .ok (.invokespecial 55, 3) := by decide +kernel
theorem dX8_init_125 : decode cX8_init 125 = .ok (.aastore, 1) := by decide +kernel
theorem dX8_init_126 : decode cX8_init 126 = .ok (.iinc 1 1, 3) := by decide +kernel
theorem dX8_init_129 : decode cX8_init 129 = .ok (.goto (-21), 3) := by decide +kernel
theorem dX8_init_132 : decode cX8_init 132 = .ok (.iconst 0, 1) := by decide +kernel
theorem dX8_init_133 : decode cX8_init 133 = .ok (.istore_n 1, 1) := by decide +kernel
theorem dX8_init_134 : decode cX8_init 134 = .ok (.iload_n 1, 1) := by decide +kernel
theorem dX8_init_135 : decode cX8_init 135 = .ok (.iconst 2, 1) := by decide +kernel
theorem dX8_init_136 : decode cX8_init 136 = .ok (.if_icmp .ge 22, 3) := by decide +kernel
theorem dX8_init_139 : decode cX8_init 139 = .ok (.aload_n 0, 1) := by decide +kernel
theorem dX8_init_140 : decode cX8_init 140 = .ok (.getfield 25, 3) := by decide +kernel
theorem dX8_init_143 : decode cX8_init 143 = .ok (.iload_n 1, 1) := by decide +kernel
theorem dX8_init_144 : decode cX8_init 144 = .ok (.new 23, 3) := by decide +kernel
theorem dX8_init_147 : decode cX8_init 147 = .ok (.dup, 1) := by decide +kernel
theorem dX8_init_148 : decode cX8_init 148 = .ok (.invokespecial 56, 3) := by decide +kernel
theorem dX8_init_151 : decode cX8_init 151 = .ok (.aastore, 1) := by decide +kernel
theorem dX8_init_152 : decode cX8_init 152 = .ok (.iinc 1 1, 3) := by decide +kernel
theorem dX8_init_155 : decode cX8_init 155 = .ok (.goto (-21), 3) := by decide +kernel
theorem dX8_init_158 : decode cX8_init 158 = .ok (.return_, 1) := by decide +kernel
theorem dX8_takeFrom_0 : decode cX8_takeFrom 0 = .ok (.iconst 0, 1) := by decide +kernel
theorem dX8_takeFrom_1 : decode cX8_takeFrom 1 = .ok (.istore_n 2, 1) := by decide +kernel
theorem dX8_takeFrom_2 : decode cX8_takeFrom 2 = .ok (.iload_n 2, 1) := by decide +kernel
theorem dX8_takeFrom_3 : decode cX8_takeFrom 3 = .ok (.bipush 10, 2) := by decide +kernel
theorem dX8_takeFrom_5 : decode cX8_takeFrom 5 = .ok (.if_icmp .ge 24, 3) := by decide +kernel
theorem dX8_takeFrom_8 : decode cX8_takeFrom 8 = .ok (.aload_n 0, 1) := by decide +kernel
theorem dX8_takeFrom_9 : decode cX8_takeFrom 9 = .ok (.getfield 11, 3) := by decide +kernel
theorem dX8_takeFrom_12 : decode cX8_takeFrom 12 = .ok (.iload_n 2, 1) := by decide +kernel
theorem dX8_takeFrom_13 : decode cX8_takeFrom 13 = .ok (.aaload, 1) := by decide +kernel
theorem dX8_takeFrom_14 : decode cX8_takeFrom 14 = .ok (.aload_n 1, 1) := by decide +kernel
theorem dX8_takeFrom_15 : decode cX8_takeFrom 15 = .ok (.getfield 11, 3) := by decide +kernel
theorem dX8_takeFrom_18 : decode cX8_takeFrom 18 = .ok (.iload_n 2, 1) := by decide +kernel
theorem dX8_takeFrom_19 : decode cX8_takeFrom 19 = .ok (.aaload, 1) := by decide +kernel
theorem dX8_takeFrom_20 : decode cX8_takeFrom 20 = .ok (.invokevirtual 57, 3) := by decide +kernel
theorem dX8_takeFrom_23 : decode cX8_takeFrom 23 = .ok (.iinc 2 1, 3) := by decide +kernel
theorem dX8_takeFrom_26 : decode cX8_takeFrom 26 = .ok (.goto (-24), 3) := by decide +kernel
theorem dX8_takeFrom_29 : decode cX8_takeFrom 29 = .ok (.iconst 0, 1) := by decide +kernel
theorem dX8_takeFrom_30 : decode cX8_takeFrom 30 = .ok (.istore_n 2, 1) := by decide +kernel
theorem dX8_takeFrom_31 : decode cX8_takeFrom 31 = .ok (.iload_n 2, 1) := by decide +kernel
theorem dX8_takeFrom_32 : decode cX8_takeFrom 32 = .ok (.iconst 5, 1) := by decide +kernel
theorem dX8_takeFrom_33 : decode cX8_takeFrom 33 = .ok (.if_icmp .ge 24, 3) := by decide +kernel
theorem dX8_takeFrom_36 : decode cX8_takeFrom 36 = .ok (.aload_n 0, 1) := by decide +kernel
theorem dX8_takeFrom_37 : decode cX8_takeFrom 37 = .ok (.getfield 19, 3) := by decide +kernel
theorem dX8_takeFrom_40 : decode cX8_takeFrom 40 = .ok (.iload_n 2, 1) := by decide +kernel
theorem dX8_takeFrom_41 : decode cX8_takeFrom 41 = .ok (.aaload, 1) := by decide +kernel
theorem dX8_takeFrom_42 : decode cX8_takeFrom 42 = .ok (.aload_n 1, 1) := by decide +kernel
theorem dX8_takeFrom_43 : decode cX8_takeFrom 43 = .ok (.getfield 19, 3) := by decide +kernel
theorem dX8_takeFrom_46 : decode cX8_takeFrom 46 = .ok (.iload_n 2, 1) := by decide +kernel
theorem dX8_takeFrom_47 : decode cX8_takeFrom 47 = .ok (.aaload, 1) := by decide +kernel
theorem dX8_takeFrom_48 : decode cX8_takeFrom 48 = .ok (.invokevirtual 61, 3) := by decide +kernel
theorem dX8_takeFrom_51 : decode cX8_takeFrom 51 = .ok (.iinc 2 1, 3) := by decide +kernel
theorem dX8_takeFrom_54 : decode cX8_takeFrom 54 = .ok (.goto (-23), 3) := by decide +kernel
theorem dX8_takeFrom_57 : decode cX8_takeFrom 57 = .ok (.iconst 0, 1) := by decide +kernel
theorem dX8_takeFrom_58 : decode cX8_takeFrom 58 = .ok (.istore_n 2, 1) := by decide +kernel
theorem dX8_takeFrom_59 : decode cX8_takeFrom 59 = .ok (.iload_n 2, 1) := by decide +kernel
theorem dX8_takeFrom_60 : decode cX8_takeFrom 60 = .ok (.iconst 2, 1) := by decide +kernel
theorem dX8_takeFrom_61 : decode cX8_takeFrom 61 = .ok (.if_icmp .ge 24, 3) := by decide +kernel
theorem dX8_takeFrom_64 : decode cX8_takeFrom 64 = .ok (.aload_n 0, 1) := by decide +kernel
theorem dX8_takeFrom_65 : decode cX8_takeFrom 65 = .ok (.getfield 25, 3) := by decide +kernel
theorem dX8_takeFrom_68 : decode cX8_takeFrom 68 = .ok (.iload_n 2, 1) := by decide +kernel
theorem dX8_takeFrom_69 : decode cX8_takeFrom 69 = .ok (.aaload, 1) := by decide +kernel
theorem dX8_takeFrom_70 : decode cX8_takeFrom 70 = .ok (.aload_n 1, 1) := by decide +kernel
theorem dX8_takeFrom_71 : decode cX8_takeFrom 71 = .ok (.getfield 25, 3) := by decide +kernel
theorem dX8_takeFrom_74 : decode cX8_takeFrom 74 = .ok (.iload_n 2, 1) := by decide +kernel
theorem dX8_takeFrom_75 : decode cX8_takeFrom 75 = .ok (.aaload, 1) := by decide +kernel
theorem dX8_takeFrom_76 : decode cX8_takeFrom 76 = .ok (.invokevirtual 64, 3) := by decide +kernel
theorem dX8_takeFrom_79 : decode cX8_takeFrom 79 = .ok (.iinc 2 1, 3) := by decide +kernel
theorem dX8_takeFrom_82 : decode cX8_takeFrom 82 = .ok (.goto (-23), 3) := by decide +kernel
theorem dX8_takeFrom_85 : decode cX8_takeFrom 85 = .ok (.aload_n 0, 1) := by decide +kernel
theorem dX8_takeFrom_86 : decode cX8_takeFrom 86 = .ok (.getfield 34, 3) := by decide +kernel
theorem dX8_takeFrom_89 : decode cX8_takeFrom 89 = .ok (.aload_n 1, 1) := by decide +kernel
theorem dX8_takeFrom_90 : decode cX8_takeFrom 90 = .ok (.getfield 34, 3) := by decide +kernel
theorem dX8_takeFrom_93 : decode cX8_takeFrom 93 = .ok (.invokevirtual 67, 3) := by decide +kernel
theorem dX8_takeFrom_96 : decode cX8_takeFrom 96 = .ok (.aload_n 0, 1) := by decide +kernel
theorem dX8_takeFrom_97 : decode cX8_takeFrom 97 = .ok (.getfield 38, 3) := by decide +kernel
theorem dX8_takeFrom_100 : decode cX8_takeFrom 100 = .ok (.aload_n 1, 1) := by decide +kernel
theorem dX8_takeFrom_101 : decode cX8_takeFrom 101 = .ok (.getfield 38, 3) := by decide +kernel
theorem dX8_takeFrom_104 : decode cX8_takeFrom 104 = .ok (.invokevirtual 67, 3) := by decide +kernel
theorem dX8_takeFrom_107 : decode cX8_takeFrom 107 = .ok (.aload_n 0, 1) := by decide +kernel
theorem dX8_takeFrom_108 : decode cX8_takeFrom 108 = .ok (.aload_n 1, 1) := by decide +kernel
theorem dX8_takeFrom_109 : decode cX8_takeFrom 109 = .ok (.getfield 70, 3) := by decide +kernel
theorem dX8_takeFrom_112 : decode cX8_takeFrom 112 = .ok (.putfield 70, 3) := by decide +kernel
theorem dX8_takeFrom_115 : decode cX8_takeFrom 115 = .ok (.aload_n 0, 1) := by decide +kernel
theorem dX8_takeFrom_116 : decode cX8_takeFrom 116 = .ok (.aload_n 1, 1) := by decide +kernel
theorem dX8_takeFrom_117 : decode cX8_takeFrom 117 = .ok (.getfield 73, 3) := by decide +kernel
theorem dX8_takeFrom_120 : decode cX8_takeFrom 120 = .ok (.putfield 73, 3) := by decide +kernel
theorem dX8_takeFrom_123 : decode cX8_takeFrom 123 = .ok (.aload_n 0, 1) := by decide +kernel
theorem dX8_takeFrom_124 : decode cX8_takeFrom 124 = .ok (.aload_n 1, 1) := by decide +kernel
theorem dX8_takeFrom_125 : decode cX8_takeFrom 125 = .ok (.getfield 76, 3) := by decide +kernel
theorem dX8_takeFrom_128 : decode cX8_takeFrom 128 = .ok (.putfield 76, 3) := by decide +kernel
theorem dX8_takeFrom_131 : decode cX8_takeFrom 131 = .ok (.aload_n 0, 1) := by decide +kernel
theorem dX8_takeFrom_132 : decode cX8_takeFrom 132 = .ok (.aload_n 1, 1) := by decide +kernel
theorem dX8_takeFrom_133 : decode cX8_takeFrom 133 = .ok (.getfield 79, 3) := by decide +kernel
theorem dX8_takeFrom_136 : decode cX8_takeFrom 136 = .ok (.putfield 79, 3) := by decide +kernel
theorem dX8_takeFrom_139 : decode cX8_takeFrom 139 = .ok (.aload_n 0, 1) := by decide +kernel
theorem dX8_takeFrom_140 : decode cX8_takeFrom 140 = .ok (.aload_n 1, 1) := by decide +kernel
theorem dX8_takeFrom_141 : decode cX8_takeFrom 141 = .ok (.getfield 41, 3) := by decide +kernel
theorem dX8_takeFrom_144 : decode cX8_takeFrom 144 = .ok (.putfield 41, 3) := by decide +kernel
theorem dX8_takeFrom_147 : decode cX8_takeFrom 147 = .ok (.return_, 1) := by decide +kernel
theorem dX8_wall_0 : decode cX8_wall 0 = .ok (.iconst 0, 1) := by decide +kernel
theorem dX8_wall_1 : decode cX8_wall 1 = .ok (.istore_n 1, 1) := by decide +kernel
theorem dX8_wall_2 : decode cX8_wall 2 = .ok (.iconst 0, 1) := by decide +kernel
theorem dX8_wall_3 : decode cX8_wall 3 = .ok (.istore_n 2, 1) := by decide +kernel
theorem dX8_wall_4 : decode cX8_wall 4 = .ok (.iload_n 2, 1) := by decide +kernel
theorem dX8_wall_5 : decode cX8_wall 5 = .ok (.aload_n 0, 1) := by decide +kernel
theorem dX8_wall_6 : decode cX8_wall 6 = .ok (.getfield 70, 3) := by decide +kernel
theorem dX8_wall_9 : decode cX8_wall 9 = .ok (.if_icmp .ge 28, 3) := by decide +kernel
theorem dX8_wall_12 : decode cX8_wall 12 = .ok (.aload_n 0, 1) := by decide +kernel
theorem dX8_wall_13 : decode cX8_wall 13 = .ok (.getfield 11, 3) := by decide +kernel
theorem dX8_wall_16 : decode cX8_wall 16 = .ok (.iload_n 2, 1) := by decide +kernel
theorem dX8_wall_17 : decode cX8_wall 17 = .ok (.aaload, 1) := by decide +kernel
theorem dX8_wall_18 : decode cX8_wall 18 = .ok (.getfield 82, 3) := by decide +kernel
theorem dX8_wall_21 : decode cX8_wall 21 = .ok (.iconst (-1), 1) := by decide +kernel
theorem dX8_wall_22 : decode cX8_wall 22 = .ok (.if_icmp .ne 9, 3) := by decide +kernel
theorem dX8_wall_25 : decode cX8_wall 25 = .ok (.iload_n 1, 1) := by decide +kernel
theorem dX8_wall_26 : decode cX8_wall 26 = .ok (.iconst 1, 1) := by decide +kernel
theorem dX8_wall_27 : decode cX8_wall 27 = .ok (.iload_n 2, 1) := by decide +kernel
theorem dX8_wall_28 : decode cX8_wall 28 = .ok (.ishl, 1) := by decide +kernel
theorem dX8_wall_29 : decode cX8_wall 29 = .ok (.ior, 1) := by decide +kernel
theorem dX8_wall_30 : decode cX8_wall 30 = .ok (.istore_n 1, 1) := by decide +kernel
theorem dX8_wall_31 : decode cX8_wall 31 = .ok (.iinc 2 1, 3) := by decide +kernel
theorem dX8_wall_34 : decode cX8_wall 34 = .ok (.goto (-30), 3) := by decide +kernel
theorem dX8_wall_37 : decode cX8_wall 37 = .ok (.iload_n 1, 1) := by decide +kernel
theorem dX8_wall_38 : decode cX8_wall 38 = .ok (.ireturn, 1) := by decide +kernel
theorem dX8_grief_0 : decode cX8_grief 0 = .ok (.iconst 0, 1) := by decide +kernel
theorem dX8_grief_1 : decode cX8_grief 1 = .ok (.istore_n 1, 1) := by decide +kernel
theorem dX8_grief_2 : decode cX8_grief 2 = .ok (.iconst 0, 1) := by decide +kernel
theorem dX8_grief_3 : decode cX8_grief 3 = .ok (.istore_n 2, 1) := by decide +kernel
theorem dX8_grief_4 : decode cX8_grief 4 = .ok (.iload_n 2, 1) := by decide +kernel
theorem dX8_grief_5 : decode cX8_grief 5 = .ok (.aload_n 0, 1) := by decide +kernel
theorem dX8_grief_6 : decode cX8_grief 6 = .ok (.getfield 70, 3) := by decide +kernel
theorem dX8_grief_9 : decode cX8_grief 9 = .ok (.if_icmp .ge 34, 3) := by decide +kernel
theorem dX8_grief_12 : decode cX8_grief 12 = .ok (.aload_n 0, 1) := by decide +kernel
theorem dX8_grief_13 : decode cX8_grief 13 = .ok (.getfield 11, 3) := by decide +kernel
theorem dX8_grief_16 : decode cX8_grief 16 = .ok (.iload_n 2, 1) := by decide +kernel
theorem dX8_grief_17 : decode cX8_grief 17 = .ok (.aaload, 1) := by decide +kernel
theorem dX8_grief_18 : decode cX8_grief 18 = .ok (.getfield 85, 3) := by decide +kernel
theorem dX8_grief_21 : decode cX8_grief 21 = .ok (.iconst 1, 1) := by decide +kernel
theorem dX8_grief_22 : decode cX8_grief 22 = .ok (.if_icmp .ne 15, 3) := by decide +kernel
theorem dX8_grief_25 : decode cX8_grief 25 = .ok (.iload_n 1, 1) := by decide +kernel
theorem dX8_grief_26 : decode cX8_grief 26 = .ok (.aload_n 0, 1) := by decide +kernel
theorem dX8_grief_27 : decode cX8_grief 27 = .ok (.getfield 11, 3) := by decide +kernel
theorem dX8_grief_30 : decode cX8_grief 30 = .ok (.iload_n 2, 1) := by decide +kernel
theorem dX8_grief_31 : decode cX8_grief 31 = .ok (.aaload, 1) := by decide +kernel
theorem dX8_grief_32 : decode cX8_grief 32 = .ok (.getfield 88, 3) := by decide +kernel
theorem dX8_grief_35 : decode cX8_grief 35 = .ok (.iadd, 1) := by decide +kernel
theorem dX8_grief_36 : decode cX8_grief 36 = .ok (.istore_n 1, 1) := by decide +kernel
theorem dX8_grief_37 : decode cX8_grief 37 = .ok (.iinc 2 1, 3) := by decide +kernel
theorem dX8_grief_40 : decode cX8_grief 40 = .ok (.goto (-36), 3) := by decide +kernel
theorem dX8_grief_43 : decode cX8_grief 43 = .ok (.iload_n 1, 1) := by decide +kernel
theorem dX8_grief_44 : decode cX8_grief 44 = .ok (.ireturn, 1) := by decide +kernel
theorem dX8_place_0 : decode cX8_place 0 = .ok (.aload_n 0, 1) := by decide +kernel
theorem dX8_place_1 : decode cX8_place 1 = .ok (.getfield 11, 3) := by decide +kernel
theorem dX8_place_4 : decode cX8_place 4 = .ok (.iload_n 1, 1) := by decide +kernel
theorem dX8_place_5 : decode cX8_place 5 = .ok (.aaload, 1) := by decide +kernel
theorem dX8_place_6 : decode cX8_place 6 = .ok (.astore_n 3, 1) := by decide +kernel
theorem dX8_place_7 : decode cX8_place 7 = .ok (.aload_n 3, 1) := by decide +kernel
theorem dX8_place_8 : decode cX8_place 8 = .ok (.getfield 82, 3) := by decide +kernel
theorem dX8_place_11 : decode cX8_place 11 = .ok (.iconst (-1), 1) := by decide +kernel
theorem dX8_place_12 : decode cX8_place 12 = .ok (.if_icmp .eq 30, 3) := by decide +kernel
theorem dX8_place_15 : decode cX8_place 15 = .ok (.aload_n 0, 1) := by decide +kernel
theorem dX8_place_16 : decode cX8_place 16 = .ok (.getfield 19, 3) := by decide +kernel
theorem dX8_place_19 : decode cX8_place 19 = .ok (.aload_n 3, 1) := by decide +kernel
theorem dX8_place_20 : decode cX8_place 20 = .ok (.getfield 82, 3) := by decide +kernel
theorem dX8_place_23 : decode cX8_place 23 = .ok (.aaload, 1) := by decide +kernel
theorem dX8_place_24 : decode cX8_place 24 = .ok (.astore 4, 2) := by decide +kernel
theorem dX8_place_26 : decode cX8_place 26 = .ok (.aload 4, 2) := by decide +kernel
theorem dX8_place_28 : decode cX8_place 28 = .ok (.aload 4, 2) := by decide +kernel
theorem dX8_place_30 : decode cX8_place 30 = .ok (.getfield 91, 3) := by decide +kernel
theorem dX8_place_33 : decode cX8_place 33 = .ok (.iconst 1, 1) := by decide +kernel
theorem dX8_place_34 : decode cX8_place 34 = .ok (.iload_n 1, 1) := by decide +kernel
theorem dX8_place_35 : decode cX8_place 35 = .ok (.ishl, 1) := by decide +kernel
theorem dX8_place_36 : decode cX8_place 36 = .ok (.iconst (-1), 1) := by decide +kernel
theorem dX8_place_37 : decode cX8_place 37 = .ok (.ixor, 1) := by decide +kernel
theorem dX8_place_38 : decode cX8_place 38 = .ok (.iand, 1) := by decide +kernel
theorem dX8_place_39 : decode cX8_place 39 = .ok (.invokevirtual 94, 3) := by decide +kernel
theorem dX8_place_42 : decode cX8_place 42 = .ok (.iload_n 2, 1) := by decide +kernel
theorem dX8_place_43 : decode cX8_place 43 = .ok (.iconst (-1), 1) := by decide +kernel
theorem dX8_place_44 : decode cX8_place 44 = .ok (.if_icmp .eq 25, 3) := by decide +kernel
theorem dX8_place_47 : decode cX8_place 47 = .ok (.aload_n 0, 1) := by decide +kernel
theorem dX8_place_48 : decode cX8_place 48 = .ok (.getfield 19, 3) := by decide +kernel
theorem dX8_place_51 : decode cX8_place 51 = .ok (.iload_n 2, 1) := by decide +kernel
theorem dX8_place_52 : decode cX8_place 52 = .ok (.aaload, 1) := by decide +kernel
theorem dX8_place_53 : decode cX8_place 53 = .ok (.aload_n 0, 1) := by decide +kernel
theorem dX8_place_54 : decode cX8_place 54 = .ok (.getfield 19, 3) := by decide +kernel
theorem dX8_place_57 : decode cX8_place 57 = .ok (.iload_n 2, 1) := by decide +kernel
theorem dX8_place_58 : decode cX8_place 58 = .ok (.aaload, 1) := by decide +kernel
theorem dX8_place_59 : decode cX8_place 59 = .ok (.getfield 91, 3) := by decide +kernel
theorem dX8_place_62 : decode cX8_place 62 = .ok (.iconst 1, 1) := by decide +kernel
theorem dX8_place_63 : decode cX8_place 63 = .ok (.iload_n 1, 1) := by decide +kernel
theorem dX8_place_64 : decode cX8_place 64 = .ok (.ishl, 1) := by decide +kernel
theorem dX8_place_65 : decode cX8_place 65 = .ok (.ior, 1) := by decide +kernel
theorem dX8_place_66 : decode cX8_place 66 = .ok (.invokevirtual 94, 3) := by decide +kernel
theorem dX8_place_69 : decode cX8_place 69 = .ok (.aload_n 3, 1) := by decide +kernel
theorem dX8_place_70 : decode cX8_place 70 = .ok (.iload_n 2, 1) := by decide +kernel
theorem dX8_place_71 : decode cX8_place 71 = .ok (.putfield 82, 3) := by decide +kernel
theorem dX8_place_74 : decode cX8_place 74 = .ok (.aload_n 3, 1) := by decide +kernel
theorem dX8_place_75 : decode cX8_place 75 = .ok (.getfield 97, 3) := by decide +kernel
theorem dX8_place_78 : decode cX8_place 78 = .ok (.iconst 0, 1) := by decide +kernel
theorem dX8_place_79 : decode cX8_place 79 = .ok (.invokestatic 100, 3) := by decide +kernel
theorem dX8_place_82 : decode cX8_place 82 = .ok (.return_, 1) := by decide +kernel
theorem dX8_warmth_0 : decode cX8_warmth 0 = .ok (.aload_n 0, 1) := by decide +kernel
theorem dX8_warmth_1 : decode cX8_warmth 1 = .ok (.getfield 19, 3) := by decide +kernel
theorem dX8_warmth_4 : decode cX8_warmth 4 = .ok (.iload_n 2, 1) := by decide +kernel
theorem dX8_warmth_5 : decode cX8_warmth 5 = .ok (.aaload, 1) := by decide +kernel
theorem dX8_warmth_6 : decode cX8_warmth 6 = .ok (.getfield 91, 3) := by decide +kernel
theorem dX8_warmth_9 : decode cX8_warmth 9 = .ok (.iconst 1, 1) := by decide +kernel
theorem dX8_warmth_10 : decode cX8_warmth 10 = .ok (.iload_n 1, 1) := by decide +kernel
theorem dX8_warmth_11 : decode cX8_warmth 11 = .ok (.ishl, 1) := by decide +kernel
theorem dX8_warmth_12 : decode cX8_warmth 12 = .ok (.iconst (-1), 1) := by decide +kernel
theorem dX8_warmth_13 : decode cX8_warmth 13 = .ok (.ixor, 1) := by decide +kernel
theorem dX8_warmth_14 : decode cX8_warmth 14 = .ok (.iand, 1) := by decide +kernel
theorem dX8_warmth_15 : decode cX8_warmth 15 = .ok (.istore_n 3, 1) := by decide +kernel
theorem dX8_warmth_16 : decode cX8_warmth 16 = .ok (.iload_n 3, 1) := by decide +kernel
theorem dX8_warmth_17 : decode cX8_warmth 17 = .ok (.ifCond .ne 5, 3) := by decide +kernel
theorem dX8_warmth_20 : decode cX8_warmth 20 = .ok (.iconst 0, 1) := by decide +kernel
theorem dX8_warmth_21 : decode cX8_warmth 21 = .ok (.ireturn, 1) := by decide +kernel
theorem dX8_warmth_22 : decode cX8_warmth 22 = .ok (.iconst 0, 1) := by decide +kernel
theorem dX8_warmth_23 : decode cX8_warmth 23 = .ok (.istore 4, 2) := by decide +kernel
theorem dX8_warmth_25 : decode cX8_warmth 25 = .ok (.iconst 0, 1) := by decide +kernel
theorem dX8_warmth_26 : decode cX8_warmth 26 = .ok (.istore 5, 2) := by decide +kernel
theorem dX8_warmth_28 : decode cX8_warmth 28 = .ok (.iload 5, 2) := by decide +kernel
theorem dX8_warmth_30 : decode cX8_warmth 30 = .ok (.aload_n 0, 1) := by decide +kernel
theorem dX8_warmth_31 : decode cX8_warmth 31 = .ok (.getfield 70, 3) := by decide +kernel
theorem dX8_warmth_34 : decode cX8_warmth 34 = .ok (.if_icmp .ge 35, 3) := by decide +kernel
theorem dX8_warmth_37 : decode cX8_warmth 37 = .ok (.iload_n 3, 1) := by decide +kernel
theorem dX8_warmth_38 : decode cX8_warmth 38 = .ok (.iload 5, 2) := by decide +kernel
theorem dX8_warmth_40 : decode cX8_warmth 40 = .ok (.ishr, 1) := by decide +kernel
theorem dX8_warmth_41 : decode cX8_warmth 41 = .ok (.iconst 1, 1) := by decide +kernel
theorem dX8_warmth_42 : decode cX8_warmth 42 = .ok (.iand, 1) := by decide +kernel
theorem dX8_warmth_43 : decode cX8_warmth 43 = .ok (.ifCond .eq 20, 3) := by decide +kernel
theorem dX8_warmth_46 : decode cX8_warmth 46 = .ok (.iload 4, 2) := by decide +kernel
theorem dX8_warmth_48 : decode cX8_warmth 48 = .ok (.aload_n 0, 1) := by decide +kernel
theorem dX8_warmth_49 : decode cX8_warmth 49 = .ok (.getfield 11, 3) := by decide +kernel
theorem dX8_warmth_52 : decode cX8_warmth 52 = .ok (.iload 5, 2) := by decide +kernel
theorem dX8_warmth_54 : decode cX8_warmth 54 = .ok (.aaload, 1) := by decide +kernel
theorem dX8_warmth_55 : decode cX8_warmth 55 = .ok (.getfield 106, 3) := by decide +kernel
theorem dX8_warmth_58 : decode cX8_warmth 58 = .ok (.iload_n 1, 1) := by decide +kernel
theorem dX8_warmth_59 : decode cX8_warmth 59 = .ok (.iaload, 1) := by decide +kernel
theorem dX8_warmth_60 : decode cX8_warmth 60 = .ok (.iadd, 1) := by decide +kernel
theorem dX8_warmth_61 : decode cX8_warmth 61 = .ok (.istore 4, 2) := by decide +kernel
theorem dX8_warmth_63 : decode cX8_warmth 63 = .ok (.iinc 5 1, 3) := by decide +kernel
theorem dX8_warmth_66 : decode cX8_warmth 66 = .ok (.goto (-38), 3) := by decide +kernel
theorem dX8_warmth_69 : decode cX8_warmth 69 = .ok (.iload 4, 2) := by decide +kernel
theorem dX8_warmth_71 : decode cX8_warmth 71 = .ok (.iload_n 3, 1) := by decide +kernel
theorem dX8_warmth_72 : decode cX8_warmth 72 = .ok (.invokestatic 109, 3) := by decide +kernel
theorem dX8_warmth_75 : decode cX8_warmth 75 = .ok (.idiv, 1) := by decide +kernel
theorem dX8_warmth_76 : decode cX8_warmth 76 = .ok (.ireturn, 1) := by decide +kernel
theorem dX8_fondest_0 : decode cX8_fondest 0 = .ok (.aload_n 0, 1) := by decide +kernel
theorem dX8_fondest_1 : decode cX8_fondest 1 = .ok (.getfield 19, 3) := by decide +kernel
theorem dX8_fondest_4 : decode cX8_fondest 4 = .ok (.iload_n 2, 1) := by decide +kernel
theorem dX8_fondest_5 : decode cX8_fondest 5 = .ok (.aaload, 1) := by decide +kernel
theorem dX8_fondest_6 : decode cX8_fondest 6 = .ok (.getfield 91, 3) := by decide +kernel
theorem dX8_fondest_9 : decode cX8_fondest 9 = .ok (.iconst 1, 1) := by decide +kernel
theorem dX8_fondest_10 : decode cX8_fondest 10 = .ok (.iload_n 1, 1) := by decide +kernel
theorem dX8_fondest_11 : decode cX8_fondest 11 = .ok (.ishl, 1) := by decide +kernel
theorem dX8_fondest_12 : decode cX8_fondest 12 = .ok (.iconst (-1), 1) := by decide +kernel
theorem dX8_fondest_13 : decode cX8_fondest 13 = .ok (.ixor, 1) := by decide +kernel
theorem dX8_fondest_14 : decode cX8_fondest 14 = .ok (.iand, 1) := by decide +kernel
theorem dX8_fondest_15 : decode cX8_fondest 15 = .ok (.istore_n 3, 1) := by decide +kernel
theorem dX8_fondest_16 : decode cX8_fondest 16 = .ok (.iconst 0, 1) := by decide +kernel
theorem dX8_fondest_17 : decode cX8_fondest 17 = .ok (.istore 4, 2) := by decide +kernel
theorem dX8_fondest_19 : decode cX8_fondest 19 = .ok (.iconst 0, 1) := by decide +kernel
theorem dX8_fondest_20 : decode cX8_fondest 20 = .ok (.istore 5, 2) := by decide +kernel
theorem dX8_fondest_22 : decode cX8_fondest 22 = .ok (.iload 5, 2) := by decide +kernel
theorem dX8_fondest_24 : decode cX8_fondest 24 = .ok (.aload_n 0, 1) := by decide +kernel
theorem dX8_fondest_25 : decode cX8_fondest 25 = .ok (.getfield 70, 3) := by decide +kernel
theorem dX8_fondest_28 : decode cX8_fondest 28 = .ok (.if_icmp .ge 37, 3) := by decide +kernel
theorem dX8_fondest_31 : decode cX8_fondest 31 = .ok (.iload_n 3, 1) := by decide +kernel
theorem dX8_fondest_32 : decode cX8_fondest 32 = .ok (.iload 5, 2) := by decide +kernel
theorem dX8_fondest_34 : decode cX8_fondest 34 = .ok (.ishr, 1) := by decide +kernel
theorem dX8_fondest_35 : decode cX8_fondest 35 = .ok (.iconst 1, 1) := by decide +kernel
theorem dX8_fondest_36 : decode cX8_fondest 36 = .ok (.iand, 1) := by decide +kernel
theorem dX8_fondest_37 : decode cX8_fondest 37 = .ok (.ifCond .eq 22, 3) := by decide +kernel
theorem dX8_fondest_40 : decode cX8_fondest 40 = .ok (.iload 4, 2) := by decide +kernel
theorem dX8_fondest_42 : decode cX8_fondest 42 = .ok (.aload_n 0, 1) := by decide +kernel
theorem dX8_fondest_43 : decode cX8_fondest 43 = .ok (.getfield 11, 3) := by decide +kernel
theorem dX8_fondest_46 : decode cX8_fondest 46 = .ok (.iload 5, 2) := by decide +kernel
theorem dX8_fondest_48 : decode cX8_fondest 48 = .ok (.aaload, 1) := by decide +kernel
theorem dX8_fondest_49 : decode cX8_fondest 49 = .ok (.getfield 106, 3) := by decide +kernel
theorem dX8_fondest_52 : decode cX8_fondest 52 = .ok (.iload_n 1, 1) := by decide +kernel
theorem dX8_fondest_53 : decode cX8_fondest 53 = .ok (.iaload, 1) := by decide +kernel
theorem dX8_fondest_54 : decode cX8_fondest 54 = .ok (.invokestatic 115, 3) := by decide +kernel
theorem dX8_fondest_57 : decode cX8_fondest 57 = .ok (.istore 4, 2) := by decide +kernel
theorem dX8_fondest_59 : decode cX8_fondest 59 = .ok (.iinc 5 1, 3) := by decide +kernel
theorem dX8_fondest_62 : decode cX8_fondest 62 = .ok (.goto (-40), 3) := by decide +kernel
theorem dX8_fondest_65 : decode cX8_fondest 65 = .ok (.iload 4, 2) := by decide +kernel
theorem dX8_fondest_67 : decode cX8_fondest 67 = .ok (.ireturn, 1) := by decide +kernel
theorem dX8_hasFriend_0 : decode cX8_hasFriend 0 = .ok (.aload_n 0, 1) := by decide +kernel
theorem dX8_hasFriend_1 : decode cX8_hasFriend 1 = .ok (.getfield 19, 3) := by decide +kernel
theorem dX8_hasFriend_4 : decode cX8_hasFriend 4 = .ok (.iload_n 2, 1) := by decide +kernel
theorem dX8_hasFriend_5 : decode cX8_hasFriend 5 = .ok (.aaload, 1) := by decide +kernel
theorem dX8_hasFriend_6 : decode cX8_hasFriend 6 = .ok (.getfield 91, 3) := by decide +kernel
theorem dX8_hasFriend_9 : decode cX8_hasFriend 9 = .ok (.iconst 1, 1) := by decide +kernel
theorem dX8_hasFriend_10 : decode cX8_hasFriend 10 = .ok (.iload_n 1, 1) := by decide +kernel
theorem dX8_hasFriend_11 : decode cX8_hasFriend 11 = .ok (.ishl, 1) := by decide +kernel
theorem dX8_hasFriend_12 : decode cX8_hasFriend 12 = .ok (.iconst (-1), 1) := by decide +kernel
theorem dX8_hasFriend_13 : decode cX8_hasFriend 13 = .ok (.ixor, 1) := by decide +kernel
theorem dX8_hasFriend_14 : decode cX8_hasFriend 14 = .ok (.iand, 1) := by decide +kernel
theorem dX8_hasFriend_15 : decode cX8_hasFriend 15 = .ok (.istore_n 3, 1) := by decide +kernel
theorem dX8_hasFriend_16 : decode cX8_hasFriend 16 = .ok (.iconst 0, 1) := by decide +kernel
theorem dX8_hasFriend_17 : decode cX8_hasFriend 17 = .ok (.istore 4, 2) := by decide +kernel
theorem dX8_hasFriend_19 : decode cX8_hasFriend 19 = .ok (.iload 4, 2) := by decide +kernel
theorem dX8_hasFriend_21 : decode cX8_hasFriend 21 = .ok (.aload_n 0, 1) := by decide +kernel
theorem dX8_hasFriend_22 : decode cX8_hasFriend 22 = .ok (.getfield 70, 3) := by decide +kernel
theorem dX8_hasFriend_25 : decode cX8_hasFriend 25 = .ok (.if_icmp .ge 37, 3) := by decide +kernel
theorem dX8_hasFriend_28 : decode cX8_hasFriend 28 = .ok (.iload_n 3, 1) := by decide +kernel
theorem dX8_hasFriend_29 : decode cX8_hasFriend 29 = .ok (.iload 4, 2) := by decide +kernel
theorem dX8_hasFriend_31 : decode cX8_hasFriend 31 = .ok (.ishr, 1) := by decide +kernel
theorem dX8_hasFriend_32 : decode cX8_hasFriend 32 = .ok (.iconst 1, 1) := by decide +kernel
theorem dX8_hasFriend_33 : decode cX8_hasFriend 33 = .ok (.iand, 1) := by decide +kernel
theorem dX8_hasFriend_34 : decode cX8_hasFriend 34 = .ok (.ifCond .eq 22, 3) := by decide +kernel
theorem dX8_hasFriend_37 : decode cX8_hasFriend 37 = .ok (.aload_n 0, 1) := by decide +kernel
theorem dX8_hasFriend_38 : decode cX8_hasFriend 38 = .ok (.getfield 11, 3) := by decide +kernel
theorem dX8_hasFriend_41 : decode cX8_hasFriend 41 = .ok (.iload_n 1, 1) := by decide +kernel
theorem dX8_hasFriend_42 : decode cX8_hasFriend 42 = .ok (.aaload, 1) := by decide +kernel
theorem dX8_hasFriend_43 : decode cX8_hasFriend 43 = .ok (.getfield 106, 3) := by decide +kernel
theorem dX8_hasFriend_46 : decode cX8_hasFriend 46 = .ok (.iload 4, 2) := by decide +kernel
theorem dX8_hasFriend_48 : decode cX8_hasFriend 48 = .ok (.iaload, 1) := by decide +kernel
theorem dX8_hasFriend_49 : decode cX8_hasFriend 49 = .ok (.bipush 50, 2) := by decide +kernel
theorem dX8_hasFriend_51 : decode cX8_hasFriend 51 = .ok (.if_icmp .lt 5, 3) := by decide +kernel
theorem dX8_hasFriend_54 : decode cX8_hasFriend 54 = .ok (.iconst 1, 1) := by decide +kernel
theorem dX8_hasFriend_55 : decode cX8_hasFriend 55 = .ok (.ireturn, 1) := by decide +kernel
theorem dX8_hasFriend_56 : decode cX8_hasFriend 56 = .ok (.iinc 4 1, 3) := by decide +kernel
theorem dX8_hasFriend_59 : decode cX8_hasFriend 59 = .ok (.goto (-40), 3) := by decide +kernel
theorem dX8_hasFriend_62 : decode cX8_hasFriend 62 = .ok (.iconst 0, 1) := by decide +kernel
theorem dX8_hasFriend_63 : decode cX8_hasFriend 63 = .ok (.ireturn, 1) := by decide +kernel
theorem dX8_chance_0 : decode cX8_chance 0 = .ok (.aload_n 0, 1) := by decide +kernel
theorem dX8_chance_1 : decode cX8_chance 1 = .ok (.getfield 19, 3) := by decide +kernel
theorem dX8_chance_4 : decode cX8_chance 4 = .ok (.iload_n 2, 1) := by decide +kernel
theorem dX8_chance_5 : decode cX8_chance 5 = .ok (.aaload, 1) := by decide +kernel
theorem dX8_chance_6 : decode cX8_chance 6 = .ok (.astore_n 3, 1) := by decide +kernel
theorem dX8_chance_7 : decode cX8_chance 7 = .ok (.aload_n 3, 1) := by decide +kernel
theorem dX8_chance_8 : decode cX8_chance 8 = .ok (.invokevirtual 121, 3) := by decide +kernel
theorem dX8_chance_11 : decode cX8_chance 11 = .ok (.aload_n 3, 1) := by decide +kernel
theorem dX8_chance_12 : decode cX8_chance 12 = .ok (.getfield 125, 3) := by decide +kernel
theorem dX8_chance_15 : decode cX8_chance 15 = .ok (.if_icmp .lt 5, 3) := by decide +kernel
theorem dX8_chance_18 : decode cX8_chance 18 = .ok (.iconst 0, 1) := by decide +kernel
theorem dX8_chance_19 : decode cX8_chance 19 = .ok (.ireturn, 1) := by decide +kernel
theorem dX8_chance_20 : decode cX8_chance 20 = .ok (.aload_n 0, 1) := by decide +kernel
theorem dX8_chance_21 : decode cX8_chance 21 = .ok (.iload_n 1, 1) := by decide +kernel
theorem dX8_chance_22 : decode cX8_chance 22 = .ok (.iload_n 2, 1) := by decide +kernel
theorem dX8_chance_23 : decode cX8_chance 23 = .ok (.invokevirtual 128, 3) := by decide +kernel
theorem dX8_chance_26 : decode cX8_chance 26 = .ok (.istore 4, 2) := by decide +kernel
theorem dX8_chance_28 : decode cX8_chance 28 = .ok (.aload_n 0, 1) := by decide +kernel
theorem dX8_chance_29 : decode cX8_chance 29 = .ok (.iload_n 1, 1) := by decide +kernel
theorem dX8_chance_30 : decode cX8_chance 30 = .ok (.iload_n 2, 1) := by decide +kernel
theorem dX8_chance_31 : decode cX8_chance 31 = .ok (.iload 4, 2) := by decide +kernel
theorem dX8_chance_33 : decode cX8_chance 33 = .ok (.aload_n 3, 1) := by decide +kernel
theorem dX8_chance_34 : decode cX8_chance 34 = .ok (.getfield 131, 3) := by decide +kernel
theorem dX8_chance_37 : decode cX8_chance 37 = .ok (.isub, 1) := by decide +kernel
theorem dX8_chance_38 : decode cX8_chance 38 = .ok (.bipush 50, 2) := by decide +kernel
theorem dX8_chance_40 : decode cX8_chance 40 = .ok (.iadd, 1) := by decide +kernel
theorem dX8_chance_41 : decode cX8_chance 41 = .ok (.invokevirtual 134, 3) := by decide +kernel
theorem dX8_chance_44 : decode cX8_chance 44 = .ok (.istore 5, 2) := by decide +kernel
theorem dX8_chance_46 : decode cX8_chance 46 = .ok (.iload 5, 2) := by decide +kernel
theorem dX8_chance_48 : decode cX8_chance 48 = .ok (.aload_n 0, 1) := by decide +kernel
theorem dX8_chance_49 : decode cX8_chance 49 = .ok (.iload_n 1, 1) := by decide +kernel
theorem dX8_chance_50 : decode cX8_chance 50 = .ok (.iload_n 2, 1) := by decide +kernel
theorem dX8_chance_51 : decode cX8_chance 51 = .ok (.iload 4, 2) := by decide +kernel
theorem dX8_chance_53 : decode cX8_chance 53 = .ok (.invokevirtual 138, 3) := by decide +kernel
theorem dX8_chance_56 : decode cX8_chance 56 = .ok (.iadd, 1) := by decide +kernel
theorem dX8_chance_57 : decode cX8_chance 57 = .ok (.iconst 0, 1) := by decide +kernel
theorem dX8_chance_58 : decode cX8_chance 58 = .ok (.bipush 100, 2) := by decide +kernel
theorem dX8_chance_60 : decode cX8_chance 60 = .ok (.invokestatic 141, 3) := by decide +kernel
theorem dX8_chance_63 : decode cX8_chance 63 = .ok (.ireturn, 1) := by decide +kernel
theorem dX8_byWay_0 : decode cX8_byWay 0 = .ok (.aload_n 0, 1) := by decide +kernel
theorem dX8_byWay_1 : decode cX8_byWay 1 = .ok (.getfield 11, 3) := by decide +kernel
theorem dX8_byWay_4 : decode cX8_byWay 4 = .ok (.iload_n 1, 1) := by decide +kernel
theorem dX8_byWay_5 : decode cX8_byWay 5 = .ok (.aaload, 1) := by decide +kernel
theorem dX8_byWay_6 : decode cX8_byWay 6 = .ok (.astore 4, 2) := by decide +kernel
theorem dX8_byWay_8 : decode cX8_byWay 8 = .ok (.iload_n 3, 1) := by decide +kernel
theorem dX8_byWay_9 : decode cX8_byWay 9 = .ok (.aload 4, 2) := by decide +kernel
theorem dX8_byWay_11 : decode cX8_byWay 11 = .ok (.getfield 144, 3) := by decide +kernel
theorem dX8_byWay_14 : decode cX8_byWay 14 = .ok (.aload 4, 2) := by decide +kernel
theorem dX8_byWay_16 : decode cX8_byWay 16 = .ok (.getfield 97, 3) := by decide +kernel
theorem dX8_byWay_19 : decode cX8_byWay 19 = .ok (.iload_n 2, 1) := by decide +kernel
theorem dX8_byWay_20 : decode cX8_byWay 20 = .ok (.iaload, 1) := by decide +kernel
theorem dX8_byWay_21 : decode cX8_byWay 21 = .ok (.imul, 1) := by decide +kernel
theorem dX8_byWay_22 : decode cX8_byWay 22 = .ok (.iadd, 1) := by decide +kernel
theorem dX8_byWay_23 : decode cX8_byWay 23 = .ok (.istore 5, 2) := by decide +kernel
theorem dX8_byWay_25 : decode cX8_byWay 25 = .ok (.aload 4, 2) := by decide +kernel
theorem dX8_byWay_27 : decode cX8_byWay 27 = .ok (.getfield 147, 3) := by decide +kernel
theorem dX8_byWay_30 : decode cX8_byWay 30 = .ok (.tableswitch 115 1 6 #[38, 46, 49, 60, 70, 90], 38) := by decide +kernel
theorem dX8_byWay_68 : decode cX8_byWay 68 = .ok (.iload_n 3, 1) := by decide +kernel
theorem dX8_byWay_69 : decode cX8_byWay 69 = .ok (.aload 4, 2) := by decide +kernel
theorem dX8_byWay_71 : decode cX8_byWay 71 = .ok (.getfield 144, 3) := by decide +kernel
theorem dX8_byWay_74 : decode cX8_byWay 74 = .ok (.isub, 1) := by decide +kernel
theorem dX8_byWay_75 : decode cX8_byWay 75 = .ok (.ireturn, 1) := by decide +kernel
theorem dX8_byWay_76 : decode cX8_byWay 76 = .ok (.iload 5, 2) := by decide +kernel
theorem dX8_byWay_78 : decode cX8_byWay 78 = .ok (.ireturn, 1) := by decide +kernel
theorem dX8_byWay_79 : decode cX8_byWay 79 = .ok (.iload_n 3, 1) := by decide +kernel
theorem dX8_byWay_80 : decode cX8_byWay 80 = .ok (.aload_n 0, 1) := by decide +kernel
theorem dX8_byWay_81 : decode cX8_byWay 81 = .ok (.iload_n 1, 1) := by decide +kernel
theorem dX8_byWay_82 : decode cX8_byWay 82 = .ok (.iload_n 2, 1) := by decide +kernel
theorem dX8_byWay_83 : decode cX8_byWay 83 = .ok (.invokevirtual 150, 3) := by decide +kernel
theorem dX8_byWay_86 : decode cX8_byWay 86 = .ok (.iconst 2, 1) := by decide +kernel
theorem dX8_byWay_87 : decode cX8_byWay 87 = .ok (.idiv, 1) := by decide +kernel
theorem dX8_byWay_88 : decode cX8_byWay 88 = .ok (.iadd, 1) := by decide +kernel
theorem dX8_byWay_89 : decode cX8_byWay 89 = .ok (.ireturn, 1) := by decide +kernel
theorem dX8_byWay_90 : decode cX8_byWay 90 = .ok (.iload_n 3, 1) := by decide +kernel
theorem dX8_byWay_91 : decode cX8_byWay 91 = .ok (.aload 4, 2) := by decide +kernel
theorem dX8_byWay_93 : decode cX8_byWay 93 = .ok (.getfield 144, 3) := by decide +kernel
theorem dX8_byWay_96 : decode cX8_byWay 96 = .ok (.isub, 1) := by decide +kernel
theorem dX8_byWay_97 : decode cX8_byWay 97 = .ok (.iconst 2, 1) := by decide +kernel
theorem dX8_byWay_98 : decode cX8_byWay 98 = .ok (.idiv, 1) := by decide +kernel
theorem dX8_byWay_99 : decode cX8_byWay 99 = .ok (.ireturn, 1) := by decide +kernel
theorem dX8_byWay_100 : decode cX8_byWay 100 = .ok (.aload_n 0, 1) := by decide +kernel
theorem dX8_byWay_101 : decode cX8_byWay 101 = .ok (.iload_n 1, 1) := by decide +kernel
theorem dX8_byWay_102 : decode cX8_byWay 102 = .ok (.iload_n 2, 1) := by decide +kernel
theorem dX8_byWay_103 : decode cX8_byWay 103 = .ok (.invokevirtual 153, 3) := by decide +kernel
theorem dX8_byWay_106 : decode cX8_byWay 106 = .ok (.ifCond .eq 8, 3) := by decide +kernel
theorem dX8_byWay_109 : decode cX8_byWay 109 = .ok (.iload 5, 2) := by decide +kernel
theorem dX8_byWay_111 : decode cX8_byWay 111 = .ok (.goto 8, 3) := by decide +kernel
theorem dX8_byWay_114 : decode cX8_byWay 114 = .ok (.iload 5, 2) := by decide +kernel
theorem dX8_byWay_116 : decode cX8_byWay 116 = .ok (.bipush 10, 2) := by decide +kernel
theorem dX8_byWay_118 : decode cX8_byWay 118 = .ok (.iadd, 1) := by decide +kernel
theorem dX8_byWay_119 : decode cX8_byWay 119 = .ok (.ireturn, 1) := by decide +kernel
theorem dX8_byWay_120 : decode cX8_byWay 120 = .ok (.aload_n 0, 1) := by decide +kernel
theorem dX8_byWay_121 : decode cX8_byWay 121 = .ok (.getfield 19, 3) := by decide +kernel
theorem dX8_byWay_124 : decode cX8_byWay 124 = .ok (.iload_n 2, 1) := by decide +kernel
theorem dX8_byWay_125 : decode cX8_byWay 125 = .ok (.aaload, 1) := by decide +kernel
theorem dX8_byWay_126 : decode cX8_byWay 126 = .ok (.invokevirtual 157, 3) := by decide +kernel
theorem dX8_byWay_129 : decode cX8_byWay 129 = .ok (.ifCond .eq 8, 3) := by decide +kernel
theorem dX8_byWay_132 : decode cX8_byWay 132 = .ok (.bipush 100, 2) := by decide +kernel
theorem dX8_byWay_134 : decode cX8_byWay 134 = .ok (.goto 10, 3) := by decide +kernel
theorem dX8_byWay_137 : decode cX8_byWay 137 = .ok (.iload_n 3, 1) := by decide +kernel
theorem dX8_byWay_138 : decode cX8_byWay 138 = .ok (.aload 4, 2) := by decide +kernel
theorem dX8_byWay_140 : decode cX8_byWay 140 = .ok (.getfield 144, 3) := by decide +kernel
theorem dX8_byWay_143 : decode cX8_byWay 143 = .ok (.isub, 1) := by decide +kernel
theorem dX8_byWay_144 : decode cX8_byWay 144 = .ok (.ireturn, 1) := by decide +kernel
theorem dX8_byWay_145 : decode cX8_byWay 145 = .ok (.iload_n 3, 1) := by decide +kernel
theorem dX8_byWay_146 : decode cX8_byWay 146 = .ok (.ireturn, 1) := by decide +kernel
theorem dX8_letsIn_0 : decode cX8_letsIn 0 = .ok (.aload_n 0, 1) := by decide +kernel
theorem dX8_letsIn_1 : decode cX8_letsIn 1 = .ok (.getfield 25, 3) := by decide +kernel
theorem dX8_letsIn_4 : decode cX8_letsIn 4 = .ok (.iconst 0, 1) := by decide +kernel
theorem dX8_letsIn_5 : decode cX8_letsIn 5 = .ok (.aaload, 1) := by decide +kernel
theorem dX8_letsIn_6 : decode cX8_letsIn 6 = .ok (.astore 4, 2) := by decide +kernel
theorem dX8_letsIn_8 : decode cX8_letsIn 8 = .ok (.aload 4, 2) := by decide +kernel
theorem dX8_letsIn_10 : decode cX8_letsIn 10 = .ok (.invokevirtual 161, 3) := by decide +kernel
theorem dX8_letsIn_13 : decode cX8_letsIn 13 = .ok (.ifCond .ne 5, 3) := by decide +kernel
theorem dX8_letsIn_16 : decode cX8_letsIn 16 = .ok (.iconst 0, 1) := by decide +kernel
theorem dX8_letsIn_17 : decode cX8_letsIn 17 = .ok (.ireturn, 1) := by decide +kernel
theorem dX8_letsIn_18 : decode cX8_letsIn 18 = .ok (.aload_n 0, 1) := by decide +kernel
theorem dX8_letsIn_19 : decode cX8_letsIn 19 = .ok (.getfield 19, 3) := by decide +kernel
theorem dX8_letsIn_22 : decode cX8_letsIn 22 = .ok (.iload_n 2, 1) := by decide +kernel
theorem dX8_letsIn_23 : decode cX8_letsIn 23 = .ok (.aaload, 1) := by decide +kernel
theorem dX8_letsIn_24 : decode cX8_letsIn 24 = .ok (.astore 5, 2) := by decide +kernel
theorem dX8_letsIn_26 : decode cX8_letsIn 26 = .ok (.aload_n 0, 1) := by decide +kernel
theorem dX8_letsIn_27 : decode cX8_letsIn 27 = .ok (.getfield 45, 3) := by decide +kernel
theorem dX8_letsIn_30 : decode cX8_letsIn 30 = .ok (.iconst 0, 1) := by decide +kernel
theorem dX8_letsIn_31 : decode cX8_letsIn 31 = .ok (.iload_n 3, 1) := by decide +kernel
theorem dX8_letsIn_32 : decode cX8_letsIn 32 = .ok (.iastore, 1) := by decide +kernel
theorem dX8_letsIn_33 : decode cX8_letsIn 33 = .ok (.aload_n 0, 1) := by decide +kernel
theorem dX8_letsIn_34 : decode cX8_letsIn 34 = .ok (.getfield 45, 3) := by decide +kernel
theorem dX8_letsIn_37 : decode cX8_letsIn 37 = .ok (.iconst 1, 1) := by decide +kernel
theorem dX8_letsIn_38 : decode cX8_letsIn 38 = .ok (.aload 5, 2) := by decide +kernel
theorem dX8_letsIn_40 : decode cX8_letsIn 40 = .ok (.getfield 131, 3) := by decide +kernel
theorem dX8_letsIn_43 : decode cX8_letsIn 43 = .ok (.iastore, 1) := by decide +kernel
theorem dX8_letsIn_44 : decode cX8_letsIn 44 = .ok (.aload_n 0, 1) := by decide +kernel
theorem dX8_letsIn_45 : decode cX8_letsIn 45 = .ok (.getfield 45, 3) := by decide +kernel
theorem dX8_letsIn_48 : decode cX8_letsIn 48 = .ok (.iconst 2, 1) := by decide +kernel
theorem dX8_letsIn_49 : decode cX8_letsIn 49 = .ok (.aload 5, 2) := by decide +kernel
theorem dX8_letsIn_51 : decode cX8_letsIn 51 = .ok (.invokevirtual 121, 3) := by decide +kernel
theorem dX8_letsIn_54 : decode cX8_letsIn 54 = .ok (.iastore, 1) := by decide +kernel
theorem dX8_letsIn_55 : decode cX8_letsIn 55 = .ok (.aload_n 0, 1) := by decide +kernel
theorem dX8_letsIn_56 : decode cX8_letsIn 56 = .ok (.getfield 45, 3) := by decide +kernel
theorem dX8_letsIn_59 : decode cX8_letsIn 59 = .ok (.iconst 3, 1) := by decide +kernel
theorem dX8_letsIn_60 : decode cX8_letsIn 60 = .ok (.aload_n 0, 1) := by decide +kernel
theorem dX8_letsIn_61 : decode cX8_letsIn 61 = .ok (.getfield 11, 3) := by decide +kernel
theorem dX8_letsIn_64 : decode cX8_letsIn 64 = .ok (.iload_n 1, 1) := by decide +kernel
theorem dX8_letsIn_65 : decode cX8_letsIn 65 = .ok (.aaload, 1) := by decide +kernel
theorem dX8_letsIn_66 : decode cX8_letsIn 66 = .ok (.getfield 97, 3) := by decide +kernel
theorem dX8_letsIn_69 : decode cX8_letsIn 69 = .ok (.iload_n 2, 1) := by decide +kernel
theorem dX8_letsIn_70 : decode cX8_letsIn 70 = .ok (.iaload, 1) := by decide +kernel
theorem dX8_letsIn_71 : decode cX8_letsIn 71 = .ok (.iastore, 1) := by decide +kernel
theorem dX8_letsIn_72 : decode cX8_letsIn 72 = .ok (.aload_n 0, 1) := by decide +kernel
theorem dX8_letsIn_73 : decode cX8_letsIn 73 = .ok (.getfield 45, 3) := by decide +kernel
theorem dX8_letsIn_76 : decode cX8_letsIn 76 = .ok (.iconst 4, 1) := by decide +kernel
theorem dX8_letsIn_77 : decode cX8_letsIn 77 = .ok (.iconst 0, 1) := by decide +kernel
theorem dX8_letsIn_78 : decode cX8_letsIn 78 = .ok (.iastore, 1) := by decide +kernel
theorem dX8_letsIn_79 : decode cX8_letsIn 79 = .ok (.aload 5, 2) := by decide +kernel
theorem dX8_letsIn_81 : decode cX8_letsIn 81 = .ok (.getfield 91, 3) := by decide +kernel
theorem dX8_letsIn_84 : decode cX8_letsIn 84 = .ok (.ifCond .eq 42, 3) := by decide +kernel
theorem dX8_letsIn_87 : decode cX8_letsIn 87 = .ok (.aload 5, 2) := by decide +kernel
theorem dX8_letsIn_89 : decode cX8_letsIn 89 = .ok (.getfield 91, 3) := by decide +kernel
theorem dX8_letsIn_92 : decode cX8_letsIn 92 = .ok (.invokestatic 164, 3) := by decide +kernel
theorem dX8_letsIn_95 : decode cX8_letsIn 95 = .ok (.istore 6, 2) := by decide +kernel
theorem dX8_letsIn_97 : decode cX8_letsIn 97 = .ok (.aload_n 0, 1) := by decide +kernel
theorem dX8_letsIn_98 : decode cX8_letsIn 98 = .ok (.getfield 45, 3) := by decide +kernel
theorem dX8_letsIn_101 : decode cX8_letsIn 101 = .ok (.iconst 4, 1) := by decide +kernel
theorem dX8_letsIn_102 : decode cX8_letsIn 102 = .ok (.aload_n 0, 1) := by decide +kernel
theorem dX8_letsIn_103 : decode cX8_letsIn 103 = .ok (.getfield 11, 3) := by decide +kernel
theorem dX8_letsIn_106 : decode cX8_letsIn 106 = .ok (.iload_n 1, 1) := by decide +kernel
theorem dX8_letsIn_107 : decode cX8_letsIn 107 = .ok (.aaload, 1) := by decide +kernel
theorem dX8_letsIn_108 : decode cX8_letsIn 108 = .ok (.getfield 167, 3) := by decide +kernel
theorem dX8_letsIn_111 : decode cX8_letsIn 111 = .ok (.aload_n 0, 1) := by decide +kernel
theorem dX8_letsIn_112 : decode cX8_letsIn 112 = .ok (.getfield 11, 3) := by decide +kernel
theorem dX8_letsIn_115 : decode cX8_letsIn 115 = .ok (.iload 6, 2) := by decide +kernel
theorem dX8_letsIn_117 : decode cX8_letsIn 117 = .ok (.aaload, 1) := by decide +kernel
theorem dX8_letsIn_118 : decode cX8_letsIn 118 = .ok (.getfield 167, 3) := by decide +kernel
theorem dX8_letsIn_121 : decode cX8_letsIn 121 = .ok (.isub, 1) := by decide +kernel
theorem dX8_letsIn_122 : decode cX8_letsIn 122 = .ok (.invokestatic 170, 3) := by decide +kernel
theorem dX8_letsIn_125 : decode cX8_letsIn 125 = .ok (.iastore, 1) := by decide +kernel
theorem dX8_letsIn_126 : decode cX8_letsIn 126 = .ok (.aload 4, 2) := by decide +kernel
theorem dX8_letsIn_128 : decode cX8_letsIn 128 = .ok (.aload_n 0, 1) := by decide +kernel
theorem dX8_letsIn_129 : decode cX8_letsIn 129 = .ok (.getfield 45, 3) := by decide +kernel
theorem dX8_letsIn_132 : decode cX8_letsIn 132 = .ok (.invokevirtual 173, 3) := by decide +kernel
theorem dX8_letsIn_135 : decode cX8_letsIn 135 = .ok (.bipush (-100), 2) := by decide +kernel
theorem dX8_letsIn_137 : decode cX8_letsIn 137 = .ok (.bipush 100, 2) := by decide +kernel
theorem dX8_letsIn_139 : decode cX8_letsIn 139 = .ok (.invokestatic 141, 3) := by decide +kernel
theorem dX8_letsIn_142 : decode cX8_letsIn 142 = .ok (.ireturn, 1) := by decide +kernel
theorem dX8_bestHeap_0 : decode cX8_bestHeap 0 = .ok (.iconst (-1), 1) := by decide +kernel
theorem dX8_bestHeap_1 : decode cX8_bestHeap 1 = .ok (.istore_n 2, 1) := by decide +kernel
theorem dX8_bestHeap_2 : decode cX8_bestHeap 2 = .ok (.iconst (-1), 1) := by decide +kernel
theorem dX8_bestHeap_3 : decode cX8_bestHeap 3 = .ok (.istore_n 3, 1) := by decide +kernel
theorem dX8_bestHeap_4 : decode cX8_bestHeap 4 = .ok (.iconst 0, 1) := by decide +kernel
theorem dX8_bestHeap_5 : decode cX8_bestHeap 5 = .ok (.istore 4, 2) := by decide +kernel
theorem dX8_bestHeap_7 : decode cX8_bestHeap 7 = .ok (.iload 4, 2) := by decide +kernel
theorem dX8_bestHeap_9 : decode cX8_bestHeap 9 = .ok (.aload_n 0, 1) := by decide +kernel
theorem dX8_bestHeap_10 : decode cX8_bestHeap 10 = .ok (.getfield 73, 3) := by decide +kernel
theorem dX8_bestHeap_13 : decode cX8_bestHeap 13 = .ok (.if_icmp .ge 30, 3) := by decide +kernel
theorem dX8_bestHeap_16 : decode cX8_bestHeap 16 = .ok (.aload_n 0, 1) := by decide +kernel
theorem dX8_bestHeap_17 : decode cX8_bestHeap 17 = .ok (.iload_n 1, 1) := by decide +kernel
theorem dX8_bestHeap_18 : decode cX8_bestHeap 18 = .ok (.iload 4, 2) := by decide +kernel
theorem dX8_bestHeap_20 : decode cX8_bestHeap 20 = .ok (.invokevirtual 177, 3) := by decide +kernel
theorem dX8_bestHeap_23 : decode cX8_bestHeap 23 = .ok (.istore 5, 2) := by decide +kernel
theorem dX8_bestHeap_25 : decode cX8_bestHeap 25 = .ok (.iload 5, 2) := by decide +kernel
theorem dX8_bestHeap_27 : decode cX8_bestHeap 27 = .ok (.iload_n 3, 1) := by decide +kernel
theorem dX8_bestHeap_28 : decode cX8_bestHeap 28 = .ok (.if_icmp .le 9, 3) := by decide +kernel
theorem dX8_bestHeap_31 : decode cX8_bestHeap 31 = .ok (.iload 4, 2) := by decide +kernel
theorem dX8_bestHeap_33 : decode cX8_bestHeap 33 = .ok (.istore_n 2, 1) := by decide +kernel
theorem dX8_bestHeap_34 : decode cX8_bestHeap 34 = .ok (.iload 5, 2) := by decide +kernel
theorem dX8_bestHeap_36 : decode cX8_bestHeap 36 = .ok (.istore_n 3, 1) := by decide +kernel
theorem dX8_bestHeap_37 : decode cX8_bestHeap 37 = .ok (.iinc 4 1, 3) := by decide +kernel
theorem dX8_bestHeap_40 : decode cX8_bestHeap 40 = .ok (.goto (-33), 3) := by decide +kernel
theorem dX8_bestHeap_43 : decode cX8_bestHeap 43 = .ok (.iload_n 2, 1) := by decide +kernel
theorem dX8_bestHeap_44 : decode cX8_bestHeap 44 = .ok (.ireturn, 1) := by decide +kernel
theorem dX8_pass_0 : decode cX8_pass 0 = .ok (.iconst 0, 1) := by decide +kernel
theorem dX8_pass_1 : decode cX8_pass 1 = .ok (.istore_n 2, 1) := by decide +kernel
theorem dX8_pass_2 : decode cX8_pass 2 = .ok (.iload_n 2, 1) := by decide +kernel
theorem dX8_pass_3 : decode cX8_pass 3 = .ok (.iload_n 1, 1) := by decide +kernel
theorem dX8_pass_4 : decode cX8_pass 4 = .ok (.if_icmp .ge 74, 3) := by decide +kernel
theorem dX8_pass_7 : decode cX8_pass 7 = .ok (.iconst 0, 1) := by decide +kernel
theorem dX8_pass_8 : decode cX8_pass 8 = .ok (.istore_n 3, 1) := by decide +kernel
theorem dX8_pass_9 : decode cX8_pass 9 = .ok (.iload_n 3, 1) := by decide +kernel
theorem dX8_pass_10 : decode cX8_pass 10 = .ok (.aload_n 0, 1) := by decide +kernel
theorem dX8_pass_11 : decode cX8_pass 11 = .ok (.getfield 70, 3) := by decide +kernel
theorem dX8_pass_14 : decode cX8_pass 14 = .ok (.if_icmp .ge 27, 3) := by decide +kernel
theorem dX8_pass_17 : decode cX8_pass 17 = .ok (.aload_n 0, 1) := by decide +kernel
theorem dX8_pass_18 : decode cX8_pass 18 = .ok (.getfield 11, 3) := by decide +kernel
theorem dX8_pass_21 : decode cX8_pass 21 = .ok (.iload_n 3, 1) := by decide +kernel
theorem dX8_pass_22 : decode cX8_pass 22 = .ok (.aaload, 1) := by decide +kernel
theorem dX8_pass_23 : decode cX8_pass 23 = .ok (.getfield 82, 3) := by decide +kernel
theorem dX8_pass_26 : decode cX8_pass 26 = .ok (.iconst (-1), 1) := by decide +kernel
theorem dX8_pass_27 : decode cX8_pass 27 = .ok (.if_icmp .ne 8, 3) := by decide +kernel
theorem dX8_pass_30 : decode cX8_pass 30 = .ok (.aload_n 0, 1) := by decide +kernel
theorem dX8_pass_31 : decode cX8_pass 31 = .ok (.iload_n 3, 1) := by decide +kernel
theorem dX8_pass_32 : decode cX8_pass 32 = .ok (.invokevirtual 180, 3) := by decide +kernel
theorem dX8_pass_35 : decode cX8_pass 35 = .ok (.iinc 3 1, 3) := by decide +kernel
theorem dX8_pass_38 : decode cX8_pass 38 = .ok (.goto (-29), 3) := by decide +kernel
theorem dX8_pass_41 : decode cX8_pass 41 = .ok (.iconst 0, 1) := by decide +kernel
theorem dX8_pass_42 : decode cX8_pass 42 = .ok (.istore_n 3, 1) := by decide +kernel
theorem dX8_pass_43 : decode cX8_pass 43 = .ok (.iload_n 3, 1) := by decide +kernel
theorem dX8_pass_44 : decode cX8_pass 44 = .ok (.aload_n 0, 1) := by decide +kernel
theorem dX8_pass_45 : decode cX8_pass 45 = .ok (.getfield 73, 3) := by decide +kernel
theorem dX8_pass_48 : decode cX8_pass 48 = .ok (.if_icmp .ge 14, 3) := by decide +kernel
theorem dX8_pass_51 : decode cX8_pass 51 = .ok (.aload_n 0, 1) := by decide +kernel
theorem dX8_pass_52 : decode cX8_pass 52 = .ok (.iload_n 3, 1) := by decide +kernel
theorem dX8_pass_53 : decode cX8_pass 53 = .ok (.invokevirtual 183, 3) := by decide +kernel
theorem dX8_pass_56 : decode cX8_pass 56 = .ok (.iinc 3 1, 3) := by decide +kernel
theorem dX8_pass_59 : decode cX8_pass 59 = .ok (.goto (-16), 3) := by decide +kernel
theorem dX8_pass_62 : decode cX8_pass 62 = .ok (.aload_n 0, 1) := by decide +kernel
theorem dX8_pass_63 : decode cX8_pass 63 = .ok (.dup, 1) := by decide +kernel
theorem dX8_pass_64 : decode cX8_pass 64 = .ok (.getfield 76, 3) := by decide +kernel
theorem dX8_pass_67 : decode cX8_pass 67 = .ok (.iconst 1, 1) := by decide +kernel
theorem dX8_pass_68 : decode cX8_pass 68 = .ok (.iadd, 1) := by decide +kernel
theorem dX8_pass_69 : decode cX8_pass 69 = .ok (.putfield 76, 3) := by decide +kernel
theorem dX8_pass_72 : decode cX8_pass 72 = .ok (.iinc 2 1, 3) := by decide +kernel
theorem dX8_pass_75 : decode cX8_pass 75 = .ok (.goto (-73), 3) := by decide +kernel
theorem dX8_pass_78 : decode cX8_pass 78 = .ok (.return_, 1) := by decide +kernel
theorem dX8_tryHeap_0 : decode cX8_tryHeap 0 = .ok (.aload_n 0, 1) := by decide +kernel
theorem dX8_tryHeap_1 : decode cX8_tryHeap 1 = .ok (.getfield 11, 3) := by decide +kernel
theorem dX8_tryHeap_4 : decode cX8_tryHeap 4 = .ok (.iload_n 1, 1) := by decide +kernel
theorem dX8_tryHeap_5 : decode cX8_tryHeap 5 = .ok (.aaload, 1) := by decide +kernel
theorem dX8_tryHeap_6 : decode cX8_tryHeap 6 = .ok (.astore_n 2, 1) := by decide +kernel
theorem dX8_tryHeap_7 : decode cX8_tryHeap 7 = .ok (.aload_n 0, 1) := by decide +kernel
theorem dX8_tryHeap_8 : decode cX8_tryHeap 8 = .ok (.iload_n 1, 1) := by decide +kernel
theorem dX8_tryHeap_9 : decode cX8_tryHeap 9 = .ok (.invokevirtual 186, 3) := by decide +kernel
theorem dX8_tryHeap_12 : decode cX8_tryHeap 12 = .ok (.istore_n 3, 1) := by decide +kernel
theorem dX8_tryHeap_13 : decode cX8_tryHeap 13 = .ok (.iload_n 3, 1) := by decide +kernel
theorem dX8_tryHeap_14 : decode cX8_tryHeap 14 = .ok (.iconst (-1), 1) := by decide +kernel
theorem dX8_tryHeap_15 : decode cX8_tryHeap 15 = .ok (.if_icmp .eq 67, 3) := by decide +kernel
theorem dX8_tryHeap_18 : decode cX8_tryHeap 18 = .ok (.aload_n 2, 1) := by decide +kernel
theorem dX8_tryHeap_19 : decode cX8_tryHeap 19 = .ok (.getfield 97, 3) := by decide +kernel
theorem dX8_tryHeap_22 : decode cX8_tryHeap 22 = .ok (.iload_n 3, 1) := by decide +kernel
theorem dX8_tryHeap_23 : decode cX8_tryHeap 23 = .ok (.aload_n 2, 1) := by decide +kernel
theorem dX8_tryHeap_24 : decode cX8_tryHeap 24 = .ok (.getfield 97, 3) := by decide +kernel
theorem dX8_tryHeap_27 : decode cX8_tryHeap 27 = .ok (.iload_n 3, 1) := by decide +kernel
theorem dX8_tryHeap_28 : decode cX8_tryHeap 28 = .ok (.iaload, 1) := by decide +kernel
theorem dX8_tryHeap_29 : decode cX8_tryHeap 29 = .ok (.iconst 1, 1) := by decide +kernel
theorem dX8_tryHeap_30 : decode cX8_tryHeap 30 = .ok (.iadd, 1) := by decide +kernel
theorem dX8_tryHeap_31 : decode cX8_tryHeap 31 = .ok (.bipush 99, 2) := by decide +kernel
theorem dX8_tryHeap_33 : decode cX8_tryHeap 33 = .ok (.invokestatic 189, 3) := by decide +kernel
theorem dX8_tryHeap_36 : decode cX8_tryHeap 36 = .ok (.iastore, 1) := by decide +kernel
theorem dX8_tryHeap_37 : decode cX8_tryHeap 37 = .ok (.aload_n 0, 1) := by decide +kernel
theorem dX8_tryHeap_38 : decode cX8_tryHeap 38 = .ok (.iload_n 1, 1) := by decide +kernel
theorem dX8_tryHeap_39 : decode cX8_tryHeap 39 = .ok (.iload_n 3, 1) := by decide +kernel
theorem dX8_tryHeap_40 : decode cX8_tryHeap 40 = .ok (.invokevirtual 177, 3) := by decide +kernel
theorem dX8_tryHeap_43 : decode cX8_tryHeap 43 = .ok (.istore 4, 2) := by decide +kernel
theorem dX8_tryHeap_45 : decode cX8_tryHeap 45 = .ok (.aload_n 0, 1) := by decide +kernel
theorem dX8_tryHeap_46 : decode cX8_tryHeap 46 = .ok (.aload_n 0, 1) := by decide +kernel
theorem dX8_tryHeap_47 : decode cX8_tryHeap 47 = .ok (.getfield 41, 3) := by decide +kernel
theorem dX8_tryHeap_50 : decode cX8_tryHeap 50 = .ok (.ldc 192, 2) := by decide +kernel
theorem dX8_tryHeap_52 : decode cX8_tryHeap 52 = .ok (.imul, 1) := by decide +kernel
theorem dX8_tryHeap_53 : decode cX8_tryHeap 53 = .ok (.sipush 12345, 3) := by decide +kernel
theorem dX8_tryHeap_56 : decode cX8_tryHeap 56 = .ok (.iadd, 1) := by decide +kernel
theorem dX8_tryHeap_57 : decode cX8_tryHeap 57 = .ok (.putfield 41, 3) := by decide +kernel
theorem dX8_tryHeap_60 : decode cX8_tryHeap 60 = .ok (.aload_n 0, 1) := by decide +kernel
theorem dX8_tryHeap_61 : decode cX8_tryHeap 61 = .ok (.getfield 41, 3) := by decide +kernel
theorem dX8_tryHeap_64 : decode cX8_tryHeap 64 = .ok (.bipush 8, 2) := by decide +kernel
theorem dX8_tryHeap_66 : decode cX8_tryHeap 66 = .ok (.iushr, 1) := by decide +kernel
theorem dX8_tryHeap_67 : decode cX8_tryHeap 67 = .ok (.bipush 100, 2) := by decide +kernel
theorem dX8_tryHeap_69 : decode cX8_tryHeap 69 = .ok (.irem, 1) := by decide +kernel
theorem dX8_tryHeap_70 : decode cX8_tryHeap 70 = .ok (.iload 4, 2) := by decide +kernel
theorem dX8_tryHeap_72 : decode cX8_tryHeap 72 = .ok (.if_icmp .ge 10, 3) := by decide +kernel
theorem dX8_tryHeap_75 : decode cX8_tryHeap 75 = .ok (.aload_n 0, 1) := by decide +kernel
theorem dX8_tryHeap_76 : decode cX8_tryHeap 76 = .ok (.iload_n 1, 1) := by decide +kernel
theorem dX8_tryHeap_77 : decode cX8_tryHeap 77 = .ok (.iload_n 3, 1) := by decide +kernel
theorem dX8_tryHeap_78 : decode cX8_tryHeap 78 = .ok (.invokevirtual 193, 3) := by decide +kernel
theorem dX8_tryHeap_81 : decode cX8_tryHeap 81 = .ok (.return_, 1) := by decide +kernel
theorem dX8_tryHeap_82 : decode cX8_tryHeap 82 = .ok (.aload_n 2, 1) := by decide +kernel
theorem dX8_tryHeap_83 : decode cX8_tryHeap 83 = .ok (.aload_n 2, 1) := by decide +kernel
theorem dX8_tryHeap_84 : decode cX8_tryHeap 84 = .ok (.getfield 88, 3) := by decide +kernel
theorem dX8_tryHeap_87 : decode cX8_tryHeap 87 = .ok (.iconst 1, 1) := by decide +kernel
theorem dX8_tryHeap_88 : decode cX8_tryHeap 88 = .ok (.iadd, 1) := by decide +kernel
theorem dX8_tryHeap_89 : decode cX8_tryHeap 89 = .ok (.ldc 197, 2) := by decide +kernel
theorem dX8_tryHeap_91 : decode cX8_tryHeap 91 = .ok (.invokestatic 189, 3) := by decide +kernel
theorem dX8_tryHeap_94 : decode cX8_tryHeap 94 = .ok (.putfield 88, 3) := by decide +kernel
theorem dX8_tryHeap_97 : decode cX8_tryHeap 97 = .ok (.return_, 1) := by decide +kernel
theorem dX8_wearOut_0 : decode cX8_wearOut 0 = .ok (.aload_n 0, 1) := by decide +kernel
theorem dX8_wearOut_1 : decode cX8_wearOut 1 = .ok (.getfield 19, 3) := by decide +kernel
theorem dX8_wearOut_4 : decode cX8_wearOut 4 = .ok (.iload_n 1, 1) := by decide +kernel
theorem dX8_wearOut_5 : decode cX8_wearOut 5 = .ok (.aaload, 1) := by decide +kernel
theorem dX8_wearOut_6 : decode cX8_wearOut 6 = .ok (.astore_n 2, 1) := by decide +kernel
theorem dX8_wearOut_7 : decode cX8_wearOut 7 = .ok (.aload_n 2, 1) := by decide +kernel
theorem dX8_wearOut_8 : decode cX8_wearOut 8 = .ok (.invokevirtual 198, 3) := by decide +kernel
theorem dX8_wearOut_11 : decode cX8_wearOut 11 = .ok (.ifCond .ne 4, 3) := by decide +kernel
theorem dX8_wearOut_14 : decode cX8_wearOut 14 = .ok (.return_, 1) := by decide +kernel
theorem dX8_wearOut_15 : decode cX8_wearOut 15 = .ok (.aload_n 2, 1) := by decide +kernel
theorem dX8_wearOut_16 : decode cX8_wearOut 16 = .ok (.dup, 1) := by decide +kernel
theorem dX8_wearOut_17 : decode cX8_wearOut 17 = .ok (.getfield 201, 3) := by decide +kernel
theorem dX8_wearOut_20 : decode cX8_wearOut 20 = .ok (.iconst 1, 1) := by decide +kernel
theorem dX8_wearOut_21 : decode cX8_wearOut 21 = .ok (.iadd, 1) := by decide +kernel
theorem dX8_wearOut_22 : decode cX8_wearOut 22 = .ok (.putfield 201, 3) := by decide +kernel
theorem dX8_wearOut_25 : decode cX8_wearOut 25 = .ok (.aload_n 2, 1) := by decide +kernel
theorem dX8_wearOut_26 : decode cX8_wearOut 26 = .ok (.getfield 201, 3) := by decide +kernel
theorem dX8_wearOut_29 : decode cX8_wearOut 29 = .ok (.iconst 5, 1) := by decide +kernel
theorem dX8_wearOut_30 : decode cX8_wearOut 30 = .ok (.if_icmp .ge 4, 3) := by decide +kernel
theorem dX8_wearOut_33 : decode cX8_wearOut 33 = .ok (.return_, 1) := by decide +kernel
theorem dX8_wearOut_34 : decode cX8_wearOut 34 = .ok (.iconst 0, 1) := by decide +kernel
theorem dX8_wearOut_35 : decode cX8_wearOut 35 = .ok (.istore_n 3, 1) := by decide +kernel
theorem dX8_wearOut_36 : decode cX8_wearOut 36 = .ok (.iload_n 3, 1) := by decide +kernel
theorem dX8_wearOut_37 : decode cX8_wearOut 37 = .ok (.aload_n 0, 1) := by decide +kernel
theorem dX8_wearOut_38 : decode cX8_wearOut 38 = .ok (.getfield 70, 3) := by decide +kernel
theorem dX8_wearOut_41 : decode cX8_wearOut 41 = .ok (.if_icmp .ge 28, 3) := by decide +kernel
theorem dX8_wearOut_44 : decode cX8_wearOut 44 = .ok (.aload_n 0, 1) := by decide +kernel
theorem dX8_wearOut_45 : decode cX8_wearOut 45 = .ok (.getfield 11, 3) := by decide +kernel
theorem dX8_wearOut_48 : decode cX8_wearOut 48 = .ok (.iload_n 3, 1) := by decide +kernel
theorem dX8_wearOut_49 : decode cX8_wearOut 49 = .ok (.aaload, 1) := by decide +kernel
theorem dX8_wearOut_50 : decode cX8_wearOut 50 = .ok (.getfield 82, 3) := by decide +kernel
theorem dX8_wearOut_53 : decode cX8_wearOut 53 = .ok (.iload_n 1, 1) := by decide +kernel
theorem dX8_wearOut_54 : decode cX8_wearOut 54 = .ok (.if_icmp .ne 9, 3) := by decide +kernel
theorem dX8_wearOut_57 : decode cX8_wearOut 57 = .ok (.aload_n 0, 1) := by decide +kernel
theorem dX8_wearOut_58 : decode cX8_wearOut 58 = .ok (.iload_n 3, 1) := by decide +kernel
theorem dX8_wearOut_59 : decode cX8_wearOut 59 = .ok (.iconst (-1), 1) := by decide +kernel
theorem dX8_wearOut_60 : decode cX8_wearOut 60 = .ok (.invokevirtual 193, 3) := by decide +kernel
theorem dX8_wearOut_63 : decode cX8_wearOut 63 = .ok (.iinc 3 1, 3) := by decide +kernel
theorem dX8_wearOut_66 : decode cX8_wearOut 66 = .ok (.goto (-30), 3) := by decide +kernel
theorem dX8_wearOut_69 : decode cX8_wearOut 69 = .ok (.return_, 1) := by decide +kernel
theorem dX8_passTerm_0 : decode cX8_passTerm 0 = .ok (.iconst 0, 1) := by decide +kernel
theorem dX8_passTerm_1 : decode cX8_passTerm 1 = .ok (.istore_n 1, 1) := by decide +kernel
theorem dX8_passTerm_2 : decode cX8_passTerm 2 = .ok (.iload_n 1, 1) := by decide +kernel
theorem dX8_passTerm_3 : decode cX8_passTerm 3 = .ok (.aload_n 0, 1) := by decide +kernel
theorem dX8_passTerm_4 : decode cX8_passTerm 4 = .ok (.getfield 70, 3) := by decide +kernel
theorem dX8_passTerm_7 : decode cX8_passTerm 7 = .ok (.if_icmp .ge 54, 3) := by decide +kernel
theorem dX8_passTerm_10 : decode cX8_passTerm 10 = .ok (.iconst 0, 1) := by decide +kernel
theorem dX8_passTerm_11 : decode cX8_passTerm 11 = .ok (.istore_n 2, 1) := by decide +kernel
theorem dX8_passTerm_12 : decode cX8_passTerm 12 = .ok (.iload_n 2, 1) := by decide +kernel
theorem dX8_passTerm_13 : decode cX8_passTerm 13 = .ok (.aload_n 0, 1) := by decide +kernel
theorem dX8_passTerm_14 : decode cX8_passTerm 14 = .ok (.getfield 70, 3) := by decide +kernel
theorem dX8_passTerm_17 : decode cX8_passTerm 17 = .ok (.if_icmp .ge 38, 3) := by decide +kernel
theorem dX8_passTerm_20 : decode cX8_passTerm 20 = .ok (.aload_n 0, 1) := by decide +kernel
theorem dX8_passTerm_21 : decode cX8_passTerm 21 = .ok (.getfield 51, 3) := by decide +kernel
theorem dX8_passTerm_24 : decode cX8_passTerm 24 = .ok (.iload_n 1, 1) := by decide +kernel
theorem dX8_passTerm_25 : decode cX8_passTerm 25 = .ok (.aaload, 1) := by decide +kernel
theorem dX8_passTerm_26 : decode cX8_passTerm 26 = .ok (.iload_n 2, 1) := by decide +kernel
theorem dX8_passTerm_27 : decode cX8_passTerm 27 = .ok (.iload_n 1, 1) := by decide +kernel
theorem dX8_passTerm_28 : decode cX8_passTerm 28 = .ok (.iload_n 2, 1) := by decide +kernel
theorem dX8_passTerm_29 : decode cX8_passTerm 29 = .ok (.if_icmp .ne 7, 3) := by decide +kernel
theorem dX8_passTerm_32 : decode cX8_passTerm 32 = .ok (.iconst 0, 1) := by decide +kernel
theorem dX8_passTerm_33 : decode cX8_passTerm 33 = .ok (.goto 15, 3) := by decide +kernel
theorem dX8_passTerm_36 : decode cX8_passTerm 36 = .ok (.aload_n 0, 1) := by decide +kernel
theorem dX8_passTerm_37 : decode cX8_passTerm 37 = .ok (.iload_n 1, 1) := by decide +kernel
theorem dX8_passTerm_38 : decode cX8_passTerm 38 = .ok (.iload_n 2, 1) := by decide +kernel
theorem dX8_passTerm_39 : decode cX8_passTerm 39 = .ok (.invokevirtual 204, 3) := by decide +kernel
theorem dX8_passTerm_42 : decode cX8_passTerm 42 = .ok (.iconst 0, 1) := by decide +kernel
theorem dX8_passTerm_43 : decode cX8_passTerm 43 = .ok (.bipush 99, 2) := by decide +kernel
theorem dX8_passTerm_45 : decode cX8_passTerm 45 = .ok (.invokestatic 141, 3) := by decide +kernel
theorem dX8_passTerm_48 : decode cX8_passTerm 48 = .ok (.iastore, 1) := by decide +kernel
theorem dX8_passTerm_49 : decode cX8_passTerm 49 = .ok (.iinc 2 1, 3) := by decide +kernel
theorem dX8_passTerm_52 : decode cX8_passTerm 52 = .ok (.goto (-40), 3) := by decide +kernel
theorem dX8_passTerm_55 : decode cX8_passTerm 55 = .ok (.iinc 1 1, 3) := by decide +kernel
theorem dX8_passTerm_58 : decode cX8_passTerm 58 = .ok (.goto (-56), 3) := by decide +kernel
theorem dX8_passTerm_61 : decode cX8_passTerm 61 = .ok (.iconst 0, 1) := by decide +kernel
theorem dX8_passTerm_62 : decode cX8_passTerm 62 = .ok (.istore_n 1, 1) := by decide +kernel
theorem dX8_passTerm_63 : decode cX8_passTerm 63 = .ok (.iload_n 1, 1) := by decide +kernel
theorem dX8_passTerm_64 : decode cX8_passTerm 64 = .ok (.aload_n 0, 1) := by decide +kernel
theorem dX8_passTerm_65 : decode cX8_passTerm 65 = .ok (.getfield 70, 3) := by decide +kernel
theorem dX8_passTerm_68 : decode cX8_passTerm 68 = .ok (.if_icmp .ge 33, 3) := by decide +kernel
theorem dX8_passTerm_71 : decode cX8_passTerm 71 = .ok (.aload_n 0, 1) := by decide +kernel
theorem dX8_passTerm_72 : decode cX8_passTerm 72 = .ok (.getfield 51, 3) := by decide +kernel
theorem dX8_passTerm_75 : decode cX8_passTerm 75 = .ok (.iload_n 1, 1) := by decide +kernel
theorem dX8_passTerm_76 : decode cX8_passTerm 76 = .ok (.aaload, 1) := by decide +kernel
theorem dX8_passTerm_77 : decode cX8_passTerm 77 = .ok (.iconst 0, 1) := by decide +kernel
theorem dX8_passTerm_78 : decode cX8_passTerm 78 = .ok (.aload_n 0, 1) := by decide +kernel
theorem dX8_passTerm_79 : decode cX8_passTerm 79 = .ok (.getfield 11, 3) := by decide +kernel
theorem dX8_passTerm_82 : decode cX8_passTerm 82 = .ok (.iload_n 1, 1) := by decide +kernel
theorem dX8_passTerm_83 : decode cX8_passTerm 83 = .ok (.aaload, 1) := by decide +kernel
theorem dX8_passTerm_84 : decode cX8_passTerm 84 = .ok (.getfield 106, 3) := by decide +kernel
theorem dX8_passTerm_87 : decode cX8_passTerm 87 = .ok (.iconst 0, 1) := by decide +kernel
theorem dX8_passTerm_88 : decode cX8_passTerm 88 = .ok (.aload_n 0, 1) := by decide +kernel
theorem dX8_passTerm_89 : decode cX8_passTerm 89 = .ok (.getfield 70, 3) := by decide +kernel
theorem dX8_passTerm_92 : decode cX8_passTerm 92 = .ok (.invokestatic 207, 3) := by decide +kernel
theorem dX8_passTerm_95 : decode cX8_passTerm 95 = .ok (.iinc 1 1, 3) := by decide +kernel
theorem dX8_passTerm_98 : decode cX8_passTerm 98 = .ok (.goto (-35), 3) := by decide +kernel
theorem dX8_passTerm_101 : decode cX8_passTerm 101 = .ok (.aload_n 0, 1) := by decide +kernel
theorem dX8_passTerm_102 : decode cX8_passTerm 102 = .ok (.dup, 1) := by decide +kernel
theorem dX8_passTerm_103 : decode cX8_passTerm 103 = .ok (.getfield 79, 3) := by decide +kernel
theorem dX8_passTerm_106 : decode cX8_passTerm 106 = .ok (.iconst 1, 1) := by decide +kernel
theorem dX8_passTerm_107 : decode cX8_passTerm 107 = .ok (.iadd, 1) := by decide +kernel
theorem dX8_passTerm_108 : decode cX8_passTerm 108 = .ok (.putfield 79, 3) := by decide +kernel
theorem dX8_passTerm_111 : decode cX8_passTerm 111 = .ok (.return_, 1) := by decide +kernel
theorem dX8_likesThen_0 : decode cX8_likesThen 0 = .ok (.aload_n 0, 1) := by decide +kernel
theorem dX8_likesThen_1 : decode cX8_likesThen 1 = .ok (.getfield 11, 3) := by decide +kernel
theorem dX8_likesThen_4 : decode cX8_likesThen 4 = .ok (.iload_n 1, 1) := by decide +kernel
theorem dX8_likesThen_5 : decode cX8_likesThen 5 = .ok (.aaload, 1) := by decide +kernel
theorem dX8_likesThen_6 : decode cX8_likesThen 6 = .ok (.getfield 106, 3) := by decide +kernel
theorem dX8_likesThen_9 : decode cX8_likesThen 9 = .ok (.iload_n 2, 1) := by decide +kernel
theorem dX8_likesThen_10 : decode cX8_likesThen 10 = .ok (.iaload, 1) := by decide +kernel
theorem dX8_likesThen_11 : decode cX8_likesThen 11 = .ok (.istore_n 3, 1) := by decide +kernel
theorem dX8_likesThen_12 : decode cX8_likesThen 12 = .ok (.aload_n 0, 1) := by decide +kernel
theorem dX8_likesThen_13 : decode cX8_likesThen 13 = .ok (.getfield 11, 3) := by decide +kernel
theorem dX8_likesThen_16 : decode cX8_likesThen 16 = .ok (.iload_n 2, 1) := by decide +kernel
theorem dX8_likesThen_17 : decode cX8_likesThen 17 = .ok (.aaload, 1) := by decide +kernel
theorem dX8_likesThen_18 : decode cX8_likesThen 18 = .ok (.getfield 106, 3) := by decide +kernel
theorem dX8_likesThen_21 : decode cX8_likesThen 21 = .ok (.iload_n 1, 1) := by decide +kernel
theorem dX8_likesThen_22 : decode cX8_likesThen 22 = .ok (.iaload, 1) := by decide +kernel
theorem dX8_likesThen_23 : decode cX8_likesThen 23 = .ok (.istore 4, 2) := by decide +kernel
theorem dX8_likesThen_25 : decode cX8_likesThen 25 = .ok (.aload_n 0, 1) := by decide +kernel
theorem dX8_likesThen_26 : decode cX8_likesThen 26 = .ok (.getfield 11, 3) := by decide +kernel
theorem dX8_likesThen_29 : decode cX8_likesThen 29 = .ok (.iload_n 1, 1) := by decide +kernel
theorem dX8_likesThen_30 : decode cX8_likesThen 30 = .ok (.aaload, 1) := by decide +kernel
theorem dX8_likesThen_31 : decode cX8_likesThen 31 = .ok (.getfield 82, 3) := by decide +kernel
theorem dX8_likesThen_34 : decode cX8_likesThen 34 = .ok (.istore 5, 2) := by decide +kernel
theorem dX8_likesThen_36 : decode cX8_likesThen 36 = .ok (.iload 5, 2) := by decide +kernel
theorem dX8_likesThen_38 : decode cX8_likesThen 38 = .ok (.iconst (-1), 1) := by decide +kernel
theorem dX8_likesThen_39 : decode cX8_likesThen 39 = .ok (.if_icmp .eq 21, 3) := by decide +kernel
theorem dX8_likesThen_42 : decode cX8_likesThen 42 = .ok (.iload 5, 2) := by decide +kernel
theorem dX8_likesThen_44 : decode cX8_likesThen 44 = .ok (.aload_n 0, 1) := by decide +kernel
theorem dX8_likesThen_45 : decode cX8_likesThen 45 = .ok (.getfield 11, 3) := by decide +kernel
theorem dX8_likesThen_48 : decode cX8_likesThen 48 = .ok (.iload_n 2, 1) := by decide +kernel
theorem dX8_likesThen_49 : decode cX8_likesThen 49 = .ok (.aaload, 1) := by decide +kernel
theorem dX8_likesThen_50 : decode cX8_likesThen 50 = .ok (.getfield 82, 3) := by decide +kernel
theorem dX8_likesThen_53 : decode cX8_likesThen 53 = .ok (.if_icmp .ne 7, 3) := by decide +kernel
theorem dX8_likesThen_56 : decode cX8_likesThen 56 = .ok (.iconst 1, 1) := by decide +kernel
theorem dX8_likesThen_57 : decode cX8_likesThen 57 = .ok (.goto 4, 3) := by decide +kernel
theorem dX8_likesThen_60 : decode cX8_likesThen 60 = .ok (.iconst 0, 1) := by decide +kernel
theorem dX8_likesThen_61 : decode cX8_likesThen 61 = .ok (.istore 6, 2) := by decide +kernel
theorem dX8_likesThen_63 : decode cX8_likesThen 63 = .ok (.aload_n 0, 1) := by decide +kernel
theorem dX8_likesThen_64 : decode cX8_likesThen 64 = .ok (.getfield 25, 3) := by decide +kernel
theorem dX8_likesThen_67 : decode cX8_likesThen 67 = .ok (.iconst 1, 1) := by decide +kernel
theorem dX8_likesThen_68 : decode cX8_likesThen 68 = .ok (.aaload, 1) := by decide +kernel
theorem dX8_likesThen_69 : decode cX8_likesThen 69 = .ok (.astore 7, 2) := by decide +kernel
theorem dX8_likesThen_71 : decode cX8_likesThen 71 = .ok (.aload 7, 2) := by decide +kernel
theorem dX8_likesThen_73 : decode cX8_likesThen 73 = .ok (.invokevirtual 161, 3) := by decide +kernel
theorem dX8_likesThen_76 : decode cX8_likesThen 76 = .ok (.ifCond .ne 15, 3) := by decide +kernel
theorem dX8_likesThen_79 : decode cX8_likesThen 79 = .ok (.iload_n 3, 1) := by decide +kernel
theorem dX8_likesThen_80 : decode cX8_likesThen 80 = .ok (.iload 4, 2) := by decide +kernel
theorem dX8_likesThen_82 : decode cX8_likesThen 82 = .ok (.iload_n 3, 1) := by decide +kernel
theorem dX8_likesThen_83 : decode cX8_likesThen 83 = .ok (.invokestatic 213, 3) := by decide +kernel
theorem dX8_likesThen_86 : decode cX8_likesThen 86 = .ok (.iadd, 1) := by decide +kernel
theorem dX8_likesThen_87 : decode cX8_likesThen 87 = .ok (.iload 6, 2) := by decide +kernel
theorem dX8_likesThen_89 : decode cX8_likesThen 89 = .ok (.iadd, 1) := by decide +kernel
theorem dX8_likesThen_90 : decode cX8_likesThen 90 = .ok (.ireturn, 1) := by decide +kernel
theorem dX8_likesThen_91 : decode cX8_likesThen 91 = .ok (.aload_n 0, 1) := by decide +kernel
theorem dX8_likesThen_92 : decode cX8_likesThen 92 = .ok (.getfield 45, 3) := by decide +kernel
theorem dX8_likesThen_95 : decode cX8_likesThen 95 = .ok (.iconst 0, 1) := by decide +kernel
theorem dX8_likesThen_96 : decode cX8_likesThen 96 = .ok (.iload_n 3, 1) := by decide +kernel
theorem dX8_likesThen_97 : decode cX8_likesThen 97 = .ok (.iastore, 1) := by decide +kernel
theorem dX8_likesThen_98 : decode cX8_likesThen 98 = .ok (.aload_n 0, 1) := by decide +kernel
theorem dX8_likesThen_99 : decode cX8_likesThen 99 = .ok (.getfield 45, 3) := by decide +kernel
theorem dX8_likesThen_102 : decode cX8_likesThen 102 = .ok (.iconst 1, 1) := by decide +kernel
theorem dX8_likesThen_103 : decode cX8_likesThen 103 = .ok (.iload 4, 2) := by decide +kernel
theorem dX8_likesThen_105 : decode cX8_likesThen 105 = .ok (.iastore, 1) := by decide +kernel
theorem dX8_likesThen_106 : decode cX8_likesThen 106 = .ok (.aload_n 0, 1) := by decide +kernel
theorem dX8_likesThen_107 : decode cX8_likesThen 107 = .ok (.getfield 45, 3) := by decide +kernel
theorem dX8_likesThen_110 : decode cX8_likesThen 110 = .ok (.iconst 2, 1) := by decide +kernel
theorem dX8_likesThen_111 : decode cX8_likesThen 111 = .ok (.aload_n 0, 1) := by decide +kernel
theorem dX8_likesThen_112 : decode cX8_likesThen 112 = .ok (.iload_n 1, 1) := by decide +kernel
theorem dX8_likesThen_113 : decode cX8_likesThen 113 = .ok (.iload_n 2, 1) := by decide +kernel
theorem dX8_likesThen_114 : decode cX8_likesThen 114 = .ok (.invokevirtual 216, 3) := by decide +kernel
theorem dX8_likesThen_117 : decode cX8_likesThen 117 = .ok (.iastore, 1) := by decide +kernel
theorem dX8_likesThen_118 : decode cX8_likesThen 118 = .ok (.aload_n 0, 1) := by decide +kernel
theorem dX8_likesThen_119 : decode cX8_likesThen 119 = .ok (.getfield 45, 3) := by decide +kernel
theorem dX8_likesThen_122 : decode cX8_likesThen 122 = .ok (.iconst 3, 1) := by decide +kernel
theorem dX8_likesThen_123 : decode cX8_likesThen 123 = .ok (.iload 6, 2) := by decide +kernel
theorem dX8_likesThen_125 : decode cX8_likesThen 125 = .ok (.iastore, 1) := by decide +kernel
theorem dX8_likesThen_126 : decode cX8_likesThen 126 = .ok (.aload 7, 2) := by decide +kernel
theorem dX8_likesThen_128 : decode cX8_likesThen 128 = .ok (.aload_n 0, 1) := by decide +kernel
theorem dX8_likesThen_129 : decode cX8_likesThen 129 = .ok (.getfield 45, 3) := by decide +kernel
theorem dX8_likesThen_132 : decode cX8_likesThen 132 = .ok (.invokevirtual 173, 3) := by decide +kernel
theorem dX8_likesThen_135 : decode cX8_likesThen 135 = .ok (.ireturn, 1) := by decide +kernel
theorem dX8_countShared_0 : decode cX8_countShared 0 = .ok (.iconst 0, 1) := by decide +kernel
theorem dX8_countShared_1 : decode cX8_countShared 1 = .ok (.istore_n 3, 1) := by decide +kernel
theorem dX8_countShared_2 : decode cX8_countShared 2 = .ok (.iconst 0, 1) := by decide +kernel
theorem dX8_countShared_3 : decode cX8_countShared 3 = .ok (.istore 4, 2) := by decide +kernel
theorem dX8_countShared_5 : decode cX8_countShared 5 = .ok (.iload 4, 2) := by decide +kernel
theorem dX8_countShared_7 : decode cX8_countShared 7 = .ok (.aload_n 0, 1) := by decide +kernel
theorem dX8_countShared_8 : decode cX8_countShared 8 = .ok (.getfield 70, 3) := by decide +kernel
theorem dX8_countShared_11 : decode cX8_countShared 11 = .ok (.if_icmp .ge 58, 3) := by decide +kernel
theorem dX8_countShared_14 : decode cX8_countShared 14 = .ok (.iload 4, 2) := by decide +kernel
theorem dX8_countShared_16 : decode cX8_countShared 16 = .ok (.iload_n 1, 1) := by decide +kernel
theorem dX8_countShared_17 : decode cX8_countShared 17 = .ok (.if_icmp .eq 46, 3) := by decide +kernel
theorem dX8_countShared_20 : decode cX8_countShared 20 = .ok (.iload 4, 2) := by decide +kernel
theorem dX8_countShared_22 : decode cX8_countShared 22 = .ok (.iload_n 2, 1) := by decide +kernel
theorem dX8_countShared_23 : decode cX8_countShared 23 = .ok (.if_icmp .eq 40, 3) := by decide +kernel
theorem dX8_countShared_26 : decode cX8_countShared 26 = .ok (.aload_n 0, 1) := by decide +kernel
theorem dX8_countShared_27 : decode cX8_countShared 27 = .ok (.getfield 11, 3) := by decide +kernel
theorem dX8_countShared_30 : decode cX8_countShared 30 = .ok (.iload_n 1, 1) := by decide +kernel
theorem dX8_countShared_31 : decode cX8_countShared 31 = .ok (.aaload, 1) := by decide +kernel
theorem dX8_countShared_32 : decode cX8_countShared 32 = .ok (.getfield 106, 3) := by decide +kernel
theorem dX8_countShared_35 : decode cX8_countShared 35 = .ok (.iload 4, 2) := by decide +kernel
theorem dX8_countShared_37 : decode cX8_countShared 37 = .ok (.iaload, 1) := by decide +kernel
theorem dX8_countShared_38 : decode cX8_countShared 38 = .ok (.bipush 50, 2) := by decide +kernel
theorem dX8_countShared_40 : decode cX8_countShared 40 = .ok (.if_icmp .lt 23, 3) := by decide +kernel
theorem dX8_countShared_43 : decode cX8_countShared 43 = .ok (.aload_n 0, 1) := by decide +kernel
theorem dX8_countShared_44 : decode cX8_countShared 44 = .ok (.getfield 11, 3) := by decide +kernel
theorem dX8_countShared_47 : decode cX8_countShared 47 = .ok (.iload_n 2, 1) := by decide +kernel
theorem dX8_countShared_48 : decode cX8_countShared 48 = .ok (.aaload, 1) := by decide +kernel
theorem dX8_countShared_49 : decode cX8_countShared 49 = .ok (.getfield 106, 3) := by decide +kernel
theorem dX8_countShared_52 : decode cX8_countShared 52 = .ok (.iload 4, 2) := by decide +kernel
theorem dX8_countShared_54 : decode cX8_countShared 54 = .ok (.iaload, 1) := by decide +kernel
theorem dX8_countShared_55 : decode cX8_countShared 55 = .ok (.bipush 50, 2) := by decide +kernel
theorem dX8_countShared_57 : decode cX8_countShared 57 = .ok (.if_icmp .lt 6, 3) := by decide +kernel
theorem dX8_countShared_60 : decode cX8_countShared 60 = .ok (.iinc 3 1, 3) := by decide +kernel
theorem dX8_countShared_63 : decode cX8_countShared 63 = .ok (.iinc 4 1, 3) := by decide +kernel
theorem dX8_countShared_66 : decode cX8_countShared 66 = .ok (.goto (-61), 3) := by decide +kernel
theorem dX8_countShared_69 : decode cX8_countShared 69 = .ok (.iload_n 3, 1) := by decide +kernel
theorem dX8_countShared_70 : decode cX8_countShared 70 = .ok (.ireturn, 1) := by decide +kernel
theorem dX9_init_0 : decode cX9_init 0 = .ok (.aload_n 0, 1) := by decide +kernel
theorem dX9_init_1 : decode cX9_init 1 = .ok (.invokespecial 1, 3) := by decide +kernel
theorem dX9_init_4 : decode cX9_init 4 = .ok (.aload_n 0, 1) := by decide +kernel
theorem dX9_init_5 : decode cX9_init 5 = .ok (.new 7, 3) := by decide +kernel
theorem dX9_init_8 : decode cX9_init 8 = .ok (.dup, 1) := by decide +kernel
theorem dX9_init_9 : decode cX9_init 9 = .ok (.invokespecial 9, 3) := by decide +kernel
theorem dX9_init_12 : decode cX9_init 12 = .ok (.putfield 10, 3) := by decide +kernel
theorem dX9_init_15 : decode cX9_init 15 = .ok (.aload_n 0, 1) := by decide +kernel
theorem dX9_init_16 : decode cX9_init 16 = .ok (.new 7, 3) := by decide +kernel
theorem dX9_init_19 : decode cX9_init 19 = .ok (.dup, 1) := by decide +kernel
theorem dX9_init_20 : decode cX9_init 20 = .ok (.invokespecial 9, 3) := by decide +kernel
theorem dX9_init_23 : decode cX9_init 23 = .ok (.putfield 16, 3) := by decide +kernel
theorem dX9_init_26 : decode cX9_init 26 = .ok (.aload_n 0, 1) := by decide +kernel
theorem dX9_init_27 : decode cX9_init 27 = .ok (.new 7, 3) := by decide +kernel
theorem dX9_init_30 : decode cX9_init 30 = .ok (.dup, 1) := by decide +kernel
theorem dX9_init_31 : decode cX9_init 31 = .ok (.invokespecial 9, 3) := by decide +kernel
theorem dX9_init_34 : decode cX9_init 34 = .ok (.putfield 19, 3) := by decide +kernel
theorem dX9_init_37 : decode cX9_init 37 = .ok (.aload_n 0, 1) := by decide +kernel
theorem dX9_init_38 : decode cX9_init 38 = .ok (.new 22, 3) := by decide +kernel
theorem dX9_init_41 : decode cX9_init 41 = .ok (.dup, 1) := by decide +kernel
theorem dX9_init_42 : decode cX9_init 42 = .ok (.invokespecial 24, 3) := by decide +kernel
theorem dX9_init_45 : decode cX9_init 45 = .ok (.putfield 25, 3) := by decide +kernel
theorem dX9_init_48 : decode cX9_init 48 = .ok (.aload_n 0, 1) := by decide +kernel
theorem dX9_init_49 : decode cX9_init 49 = .ok (.new 29, 3) := by decide +kernel
theorem dX9_init_52 : decode cX9_init 52 = .ok (.dup, 1) := by decide +kernel
theorem dX9_init_53 : decode cX9_init 53 = .ok (.invokespecial 31, 3) := by decide +kernel
theorem dX9_init_56 : decode cX9_init 56 = .ok (.putfield 32, 3) := by decide +kernel
theorem dX9_init_59 : decode cX9_init 59 = .ok (.aload_n 0, 1) := by decide +kernel
theorem dX9_init_60 : decode cX9_init 60 = .ok (.new 36, 3) := by decide +kernel
theorem dX9_init_63 : decode cX9_init 63 = .ok (.dup, 1) := by decide +kernel
theorem dX9_init_64 : decode cX9_init 64 = .ok (.invokespecial 38, 3) := by decide +kernel
theorem dX9_init_67 : decode cX9_init 67 = .ok (.putfield 39, 3) := by decide +kernel
theorem dX9_init_70 : decode cX9_init 70 = .ok (.aload_n 0, 1) := by decide +kernel
theorem dX9_init_71 : decode cX9_init 71 = .ok (.iconst 4, 1) := by decide +kernel
theorem dX9_init_72 : decode cX9_init 72 = .ok (.anewarray 43, 3) := by decide +kernel
theorem dX9_init_75 : decode cX9_init 75 = .ok (.putfield 45, 3) := by decide +kernel
theorem dX9_init_78 : decode cX9_init 78 = .ok (.aload_n 0, 1) := by decide +kernel
theorem dX9_init_79 : decode cX9_init 79 = .ok (.bipush 7, 2) := by decide +kernel
theorem dX9_init_81 : decode cX9_init 81 = .ok (.newarray .int, 2) := by decide +kernel
theorem dX9_init_83 : decode cX9_init 83 = .ok (.putfield 49, 3) := by decide +kernel
theorem dX9_init_86 : decode cX9_init 86 = .ok (.iconst 0, 1) := by decide +kernel
theorem dX9_init_87 : decode cX9_init 87 = .ok (.istore_n 1, 1) := by decide +kernel
theorem dX9_init_88 : decode cX9_init 88 = .ok (.iload_n 1, 1) := by decide +kernel
theorem dX9_init_89 : decode cX9_init 89 = .ok (.iconst 4, 1) := by decide +kernel
theorem dX9_init_90 : decode cX9_init 90 = .ok (.if_icmp .ge 22, 3) := by decide +kernel
theorem dX9_init_93 : decode cX9_init 93 = .ok (.aload_n 0, 1) := by decide +kernel
theorem dX9_init_94 : decode cX9_init 94 = .ok (.getfield 45, 3) := by decide +kernel
theorem dX9_init_97 : decode cX9_init 97 = .ok (.iload_n 1, 1) := by decide +kernel
theorem dX9_init_98 : decode cX9_init 98 = .ok (.new 43, 3) := by decide +kernel
theorem dX9_init_101 : decode cX9_init 101 = .ok (.dup, 1) := by decide +kernel
theorem dX9_init_102 : decode cX9_init 102 = .ok (.invokespecial 53, 3) := by decide +kernel
theorem dX9_init_105 : decode cX9_init 105 = .ok (.aastore, 1) := by decide +kernel
theorem dX9_init_106 : decode cX9_init 106 = .ok (.iinc 1 1, 3) := by decide +kernel
theorem dX9_init_109 : decode cX9_init 109 = .ok (.goto (-21), 3) := by decide +kernel
theorem dX9_init_112 : decode cX9_init 112 = .ok (.return_, 1) := by decide +kernel
theorem dX9_child_0 : decode cX9_child 0 = .ok (.iload_n 1, 1) := by decide +kernel
theorem dX9_child_1 : decode cX9_child 1 = .ok (.iconst 0, 1) := by decide +kernel
theorem dX9_child_2 : decode cX9_child 2 = .ok (.sipush 699, 3) := by decide +kernel
theorem dX9_child_5 : decode cX9_child 5 = .ok (.invokestatic 54, 3) := by decide +kernel
theorem dX9_child_8 : decode cX9_child 8 = .ok (.ifCond .ne 22, 3) := by decide +kernel
theorem dX9_child_11 : decode cX9_child 11 = .ok (.iload_n 2, 1) := by decide +kernel
theorem dX9_child_12 : decode cX9_child 12 = .ok (.iconst 0, 1) := by decide +kernel
theorem dX9_child_13 : decode cX9_child 13 = .ok (.bipush 99, 2) := by decide +kernel
theorem dX9_child_15 : decode cX9_child 15 = .ok (.invokestatic 54, 3) := by decide +kernel
theorem dX9_child_18 : decode cX9_child 18 = .ok (.ifCond .ne 12, 3) := by decide +kernel
theorem dX9_child_21 : decode cX9_child 21 = .ok (.iload_n 3, 1) := by decide +kernel
theorem dX9_child_22 : decode cX9_child 22 = .ok (.iconst 0, 1) := by decide +kernel
theorem dX9_child_23 : decode cX9_child 23 = .ok (.iconst 1, 1) := by decide +kernel
theorem dX9_child_24 : decode cX9_child 24 = .ok (.invokestatic 54, 3) := by decide +kernel
theorem dX9_child_27 : decode cX9_child 27 = .ok (.ifCond .eq 9, 3) := by decide +kernel
theorem dX9_child_30 : decode cX9_child 30 = .ok (.aload_n 0, 1) := by decide +kernel
theorem dX9_child_31 : decode cX9_child 31 = .ok (.iconst 1, 1) := by decide +kernel
theorem dX9_child_32 : decode cX9_child 32 = .ok (.invokevirtual 58, 3) := by decide +kernel
theorem dX9_child_35 : decode cX9_child 35 = .ok (.ireturn, 1) := by decide +kernel
theorem dX9_child_36 : decode cX9_child 36 = .ok (.aload_n 0, 1) := by decide +kernel
theorem dX9_child_37 : decode cX9_child 37 = .ok (.getfield 10, 3) := by decide +kernel
theorem dX9_child_40 : decode cX9_child 40 = .ok (.getfield 62, 3) := by decide +kernel
theorem dX9_child_43 : decode cX9_child 43 = .ok (.bipush 10, 2) := by decide +kernel
theorem dX9_child_45 : decode cX9_child 45 = .ok (.if_icmp .lt 9, 3) := by decide +kernel
theorem dX9_child_48 : decode cX9_child 48 = .ok (.aload_n 0, 1) := by decide +kernel
theorem dX9_child_49 : decode cX9_child 49 = .ok (.iconst 4, 1) := by decide +kernel
theorem dX9_child_50 : decode cX9_child 50 = .ok (.invokevirtual 58, 3) := by decide +kernel
theorem dX9_child_53 : decode cX9_child 53 = .ok (.ireturn, 1) := by decide +kernel
end
section
theorem dX9_child_54 : decode cX9_child 54 = .ok (.aload_n 0, 1) := by decide +kernel
theorem dX9_child_55 : decode cX9_child 55 = .ok (.getfield 10, 3) := by decide +kernel
theorem dX9_child_58 : decode cX9_child 58 = .ok (.getfield 66, 3) := by decide +kernel
theorem dX9_child_61 : decode cX9_child 61 = .ok (.aload_n 0, 1) := by decide +kernel
theorem dX9_child_62 : decode cX9_child 62 = .ok (.getfield 10, 3) := by decide +kernel
theorem dX9_child_65 : decode cX9_child 65 = .ok (.getfield 62, 3) := by decide +kernel
theorem dX9_child_68 : decode cX9_child 68 = .ok (.aaload, 1) := by decide +kernel
theorem dX9_child_69 : decode cX9_child 69 = .ok (.astore 4, 2) := by decide +kernel
theorem dX9_child_71 : decode cX9_child 71 = .ok (.aload 4, 2) := by decide +kernel
theorem dX9_child_73 : decode cX9_child 73 = .ok (.iload_n 1, 1) := by decide +kernel
theorem dX9_child_74 : decode cX9_child 74 = .ok (.bipush 100, 2) := by decide +kernel
theorem dX9_child_76 : decode cX9_child 76 = .ok (.idiv, 1) := by decide +kernel
theorem dX9_child_77 : decode cX9_child 77 = .ok (.putfield 70, 3) := by decide +kernel
theorem dX9_child_80 : decode cX9_child 80 = .ok (.aload 4, 2) := by decide +kernel
theorem dX9_child_82 : decode cX9_child 82 = .ok (.iload_n 1, 1) := by decide +kernel
theorem dX9_child_83 : decode cX9_child 83 = .ok (.bipush 100, 2) := by decide +kernel
theorem dX9_child_85 : decode cX9_child 85 = .ok (.irem, 1) := by decide +kernel
theorem dX9_child_86 : decode cX9_child 86 = .ok (.putfield 75, 3) := by decide +kernel
theorem dX9_child_89 : decode cX9_child 89 = .ok (.aload 4, 2) := by decide +kernel
theorem dX9_child_91 : decode cX9_child 91 = .ok (.iload_n 2, 1) := by decide +kernel
theorem dX9_child_92 : decode cX9_child 92 = .ok (.putfield 78, 3) := by decide +kernel
theorem dX9_child_95 : decode cX9_child 95 = .ok (.aload 4, 2) := by decide +kernel
theorem dX9_child_97 : decode cX9_child 97 = .ok (.iload_n 3, 1) := by decide +kernel
theorem dX9_child_98 : decode cX9_child 98 = .ok (.putfield 81, 3) := by decide +kernel
theorem dX9_child_101 : decode cX9_child 101 = .ok (.aload_n 0, 1) := by decide +kernel
theorem dX9_child_102 : decode cX9_child 102 = .ok (.getfield 10, 3) := by decide +kernel
theorem dX9_child_105 : decode cX9_child 105 = .ok (.dup, 1) := by decide +kernel
theorem dX9_child_106 : decode cX9_child 106 = .ok (.getfield 62, 3) := by decide +kernel
theorem dX9_child_109 : decode cX9_child 109 = .ok (.iconst 1, 1) := by decide +kernel
theorem dX9_child_110 : decode cX9_child 110 = .ok (.iadd, 1) := by decide +kernel
theorem dX9_child_111 : decode cX9_child 111 = .ok (.putfield 62, 3) := by decide +kernel
theorem dX9_child_114 : decode cX9_child 114 = .ok (.aload_n 0, 1) := by decide +kernel
theorem dX9_child_115 : decode cX9_child 115 = .ok (.getfield 10, 3) := by decide +kernel
theorem dX9_child_118 : decode cX9_child 118 = .ok (.getfield 62, 3) := by decide +kernel
theorem dX9_child_121 : decode cX9_child 121 = .ok (.iconst 1, 1) := by decide +kernel
theorem dX9_child_122 : decode cX9_child 122 = .ok (.isub, 1) := by decide +kernel
theorem dX9_child_123 : decode cX9_child 123 = .ok (.ireturn, 1) := by decide +kernel
theorem dX9_childIs_0 : decode cX9_childIs 0 = .ok (.aload_n 0, 1) := by decide +kernel
theorem dX9_childIs_1 : decode cX9_childIs 1 = .ok (.iload_n 1, 1) := by decide +kernel
theorem dX9_childIs_2 : decode cX9_childIs 2 = .ok (.invokevirtual 84, 3) := by decide +kernel
theorem dX9_childIs_5 : decode cX9_childIs 5 = .ok (.ifCond .ne 13, 3) := by decide +kernel
theorem dX9_childIs_8 : decode cX9_childIs 8 = .ok (.iload_n 2, 1) := by decide +kernel
theorem dX9_childIs_9 : decode cX9_childIs 9 = .ok (.iconst 0, 1) := by decide +kernel
theorem dX9_childIs_10 : decode cX9_childIs 10 = .ok (.bipush 7, 2) := by decide +kernel
theorem dX9_childIs_12 : decode cX9_childIs 12 = .ok (.invokestatic 54, 3) := by decide +kernel
theorem dX9_childIs_15 : decode cX9_childIs 15 = .ok (.ifCond .eq 9, 3) := by decide +kernel
theorem dX9_childIs_18 : decode cX9_childIs 18 = .ok (.aload_n 0, 1) := by decide +kernel
theorem dX9_childIs_19 : decode cX9_childIs 19 = .ok (.iconst 1, 1) := by decide +kernel
theorem dX9_childIs_20 : decode cX9_childIs 20 = .ok (.invokevirtual 58, 3) := by decide +kernel
theorem dX9_childIs_23 : decode cX9_childIs 23 = .ok (.ireturn, 1) := by decide +kernel
theorem dX9_childIs_24 : decode cX9_childIs 24 = .ok (.aload_n 0, 1) := by decide +kernel
theorem dX9_childIs_25 : decode cX9_childIs 25 = .ok (.aload_n 0, 1) := by decide +kernel
theorem dX9_childIs_26 : decode cX9_childIs 26 = .ok (.getfield 10, 3) := by decide +kernel
theorem dX9_childIs_29 : decode cX9_childIs 29 = .ok (.iload_n 1, 1) := by decide +kernel
theorem dX9_childIs_30 : decode cX9_childIs 30 = .ok (.iload_n 2, 1) := by decide +kernel
theorem dX9_childIs_31 : decode cX9_childIs 31 = .ok (.invokevirtual 88, 3) := by decide +kernel
theorem dX9_childIs_34 : decode cX9_childIs 34 = .ok (.ireturn, 1) := by decide +kernel
theorem dX9_as_0 : decode cX9_as 0 = .ok (.aload_n 0, 1) := by decide +kernel
theorem dX9_as_1 : decode cX9_as 1 = .ok (.iload_n 1, 1) := by decide +kernel
theorem dX9_as_2 : decode cX9_as 2 = .ok (.invokevirtual 84, 3) := by decide +kernel
theorem dX9_as_5 : decode cX9_as 5 = .ok (.ifCond .ne 13, 3) := by decide +kernel
theorem dX9_as_8 : decode cX9_as 8 = .ok (.iload_n 2, 1) := by decide +kernel
theorem dX9_as_9 : decode cX9_as 9 = .ok (.iconst 0, 1) := by decide +kernel
theorem dX9_as_10 : decode cX9_as 10 = .ok (.bipush 6, 2) := by decide +kernel
theorem dX9_as_12 : decode cX9_as 12 = .ok (.invokestatic 54, 3) := by decide +kernel
theorem dX9_as_15 : decode cX9_as 15 = .ok (.ifCond .eq 9, 3) := by decide +kernel
theorem dX9_as_18 : decode cX9_as 18 = .ok (.aload_n 0, 1) := by decide +kernel
theorem dX9_as_19 : decode cX9_as 19 = .ok (.iconst 1, 1) := by decide +kernel
theorem dX9_as_20 : decode cX9_as 20 = .ok (.invokevirtual 58, 3) := by decide +kernel
theorem dX9_as_23 : decode cX9_as 23 = .ok (.ireturn, 1) := by decide +kernel
theorem dX9_as_24 : decode cX9_as 24 = .ok (.aload_n 0, 1) := by decide +kernel
theorem dX9_as_25 : decode cX9_as 25 = .ok (.getfield 10, 3) := by decide +kernel
theorem dX9_as_28 : decode cX9_as 28 = .ok (.getfield 66, 3) := by decide +kernel
theorem dX9_as_31 : decode cX9_as 31 = .ok (.iload_n 1, 1) := by decide +kernel
theorem dX9_as_32 : decode cX9_as 32 = .ok (.aaload, 1) := by decide +kernel
theorem dX9_as_33 : decode cX9_as 33 = .ok (.astore_n 3, 1) := by decide +kernel
theorem dX9_as_34 : decode cX9_as 34 = .ok (.aload_n 3, 1) := by decide +kernel
theorem dX9_as_35 : decode cX9_as 35 = .ok (.getfield 70, 3) := by decide +kernel
theorem dX9_as_38 : decode cX9_as 38 = .ok (.istore 4, 2) := by decide +kernel
theorem dX9_as_40 : decode cX9_as 40 = .ok (.iconst 0, 1) := by decide +kernel
theorem dX9_as_41 : decode cX9_as 41 = .ok (.istore 5, 2) := by decide +kernel
theorem dX9_as_43 : decode cX9_as 43 = .ok (.iload 5, 2) := by decide +kernel
theorem dX9_as_45 : decode cX9_as 45 = .ok (.bipush 7, 2) := by decide +kernel
theorem dX9_as_47 : decode cX9_as 47 = .ok (.if_icmp .ge 28, 3) := by decide +kernel
theorem dX9_as_50 : decode cX9_as 50 = .ok (.iload 4, 2) := by decide +kernel
theorem dX9_as_52 : decode cX9_as 52 = .ok (.iload_n 2, 1) := by decide +kernel
theorem dX9_as_53 : decode cX9_as 53 = .ok (.if_icmp .eq 22, 3) := by decide +kernel
theorem dX9_as_56 : decode cX9_as 56 = .ok (.iload 4, 2) := by decide +kernel
theorem dX9_as_58 : decode cX9_as 58 = .ok (.ifCond .eq 17, 3) := by decide +kernel
theorem dX9_as_61 : decode cX9_as 61 = .ok (.getstatic 92, 3) := by decide +kernel
theorem dX9_as_64 : decode cX9_as 64 = .ok (.iload 4, 2) := by decide +kernel
theorem dX9_as_66 : decode cX9_as 66 = .ok (.iaload, 1) := by decide +kernel
theorem dX9_as_67 : decode cX9_as 67 = .ok (.istore 4, 2) := by decide +kernel
theorem dX9_as_69 : decode cX9_as 69 = .ok (.iinc 5 1, 3) := by decide +kernel
theorem dX9_as_72 : decode cX9_as 72 = .ok (.goto (-29), 3) := by decide +kernel
theorem dX9_as_75 : decode cX9_as 75 = .ok (.iload 4, 2) := by decide +kernel
theorem dX9_as_77 : decode cX9_as 77 = .ok (.iload_n 2, 1) := by decide +kernel
theorem dX9_as_78 : decode cX9_as 78 = .ok (.if_icmp .ne 10, 3) := by decide +kernel
theorem dX9_as_81 : decode cX9_as 81 = .ok (.aload_n 3, 1) := by decide +kernel
theorem dX9_as_82 : decode cX9_as 82 = .ok (.getfield 75, 3) := by decide +kernel
theorem dX9_as_85 : decode cX9_as 85 = .ok (.goto 8, 3) := by decide +kernel
theorem dX9_as_88 : decode cX9_as 88 = .ok (.aload_n 0, 1) := by decide +kernel
theorem dX9_as_89 : decode cX9_as 89 = .ok (.iconst 5, 1) := by decide +kernel
theorem dX9_as_90 : decode cX9_as 90 = .ok (.invokevirtual 58, 3) := by decide +kernel
theorem dX9_as_93 : decode cX9_as 93 = .ok (.ireturn, 1) := by decide +kernel
theorem dX9_set_0 : decode cX9_set 0 = .ok (.aload_n 0, 1) := by decide +kernel
theorem dX9_set_1 : decode cX9_set 1 = .ok (.iload_n 1, 1) := by decide +kernel
theorem dX9_set_2 : decode cX9_set 2 = .ok (.invokevirtual 84, 3) := by decide +kernel
theorem dX9_set_5 : decode cX9_set 5 = .ok (.ifCond .ne 24, 3) := by decide +kernel
theorem dX9_set_8 : decode cX9_set 8 = .ok (.iload_n 2, 1) := by decide +kernel
theorem dX9_set_9 : decode cX9_set 9 = .ok (.iconst 0, 1) := by decide +kernel
theorem dX9_set_10 : decode cX9_set 10 = .ok (.iconst 3, 1) := by decide +kernel
theorem dX9_set_11 : decode cX9_set 11 = .ok (.invokestatic 54, 3) := by decide +kernel
theorem dX9_set_14 : decode cX9_set 14 = .ok (.ifCond .ne 15, 3) := by decide +kernel
theorem dX9_set_17 : decode cX9_set 17 = .ok (.iload_n 3, 1) := by decide +kernel
theorem dX9_set_18 : decode cX9_set 18 = .ok (.iconst 0, 1) := by decide +kernel
theorem dX9_set_19 : decode cX9_set 19 = .ok (.iload_n 2, 1) := by decide +kernel
theorem dX9_set_20 : decode cX9_set 20 = .ok (.invokestatic 95, 3) := by decide +kernel
theorem dX9_set_23 : decode cX9_set 23 = .ok (.invokestatic 54, 3) := by decide +kernel
theorem dX9_set_26 : decode cX9_set 26 = .ok (.ifCond .eq 9, 3) := by decide +kernel
theorem dX9_set_29 : decode cX9_set 29 = .ok (.aload_n 0, 1) := by decide +kernel
theorem dX9_set_30 : decode cX9_set 30 = .ok (.iconst 1, 1) := by decide +kernel
theorem dX9_set_31 : decode cX9_set 31 = .ok (.invokevirtual 58, 3) := by decide +kernel
theorem dX9_set_34 : decode cX9_set 34 = .ok (.ireturn, 1) := by decide +kernel
theorem dX9_set_35 : decode cX9_set 35 = .ok (.aload_n 0, 1) := by decide +kernel
theorem dX9_set_36 : decode cX9_set 36 = .ok (.getfield 10, 3) := by decide +kernel
theorem dX9_set_39 : decode cX9_set 39 = .ok (.getfield 66, 3) := by decide +kernel
theorem dX9_set_42 : decode cX9_set 42 = .ok (.iload_n 1, 1) := by decide +kernel
theorem dX9_set_43 : decode cX9_set 43 = .ok (.aaload, 1) := by decide +kernel
theorem dX9_set_44 : decode cX9_set 44 = .ok (.astore 4, 2) := by decide +kernel
theorem dX9_set_46 : decode cX9_set 46 = .ok (.aload_n 0, 1) := by decide +kernel
theorem dX9_set_47 : decode cX9_set 47 = .ok (.aload_n 0, 1) := by decide +kernel
theorem dX9_set_48 : decode cX9_set 48 = .ok (.getfield 10, 3) := by decide +kernel
theorem dX9_set_51 : decode cX9_set 51 = .ok (.iload_n 1, 1) := by decide +kernel
theorem dX9_set_52 : decode cX9_set 52 = .ok (.iload_n 2, 1) := by decide +kernel
theorem dX9_set_53 : decode cX9_set 53 = .ok (.invokevirtual 88, 3) := by decide +kernel
theorem dX9_set_56 : decode cX9_set 56 = .ok (.istore 5, 2) := by decide +kernel
theorem dX9_set_58 : decode cX9_set 58 = .ok (.iload_n 2, 1) := by decide +kernel
theorem dX9_set_59 : decode cX9_set 59 = .ok (.tableswitch 52 0 2 #[25, 34, 43], 25) := by decide +kernel
theorem dX9_set_84 : decode cX9_set 84 = .ok (.aload 4, 2) := by decide +kernel
theorem dX9_set_86 : decode cX9_set 86 = .ok (.iload_n 3, 1) := by decide +kernel
theorem dX9_set_87 : decode cX9_set 87 = .ok (.putfield 70, 3) := by decide +kernel
theorem dX9_set_90 : decode cX9_set 90 = .ok (.goto 27, 3) := by decide +kernel
theorem dX9_set_93 : decode cX9_set 93 = .ok (.aload 4, 2) := by decide +kernel
theorem dX9_set_95 : decode cX9_set 95 = .ok (.iload_n 3, 1) := by decide +kernel
theorem dX9_set_96 : decode cX9_set 96 = .ok (.putfield 75, 3) := by decide +kernel
theorem dX9_set_99 : decode cX9_set 99 = .ok (.goto 18, 3) := by decide +kernel
theorem dX9_set_102 : decode cX9_set 102 = .ok (.aload 4, 2) := by decide +kernel
theorem dX9_set_104 : decode cX9_set 104 = .ok (.iload_n 3, 1) := by decide +kernel
theorem dX9_set_105 : decode cX9_set 105 = .ok (.putfield 78, 3) := by decide +kernel
theorem dX9_set_108 : decode cX9_set 108 = .ok (.goto 9, 3) := by decide +kernel
theorem dX9_set_111 : decode cX9_set 111 = .ok (.aload 4, 2) := by decide +kernel
theorem dX9_set_113 : decode cX9_set 113 = .ok (.iload_n 3, 1) := by decide +kernel
theorem dX9_set_114 : decode cX9_set 114 = .ok (.putfield 81, 3) := by decide +kernel
theorem dX9_set_117 : decode cX9_set 117 = .ok (.iload 5, 2) := by decide +kernel
theorem dX9_set_119 : decode cX9_set 119 = .ok (.ireturn, 1) := by decide +kernel
theorem dX9_likes_0 : decode cX9_likes 0 = .ok (.aload_n 0, 1) := by decide +kernel
theorem dX9_likes_1 : decode cX9_likes 1 = .ok (.iload_n 1, 1) := by decide +kernel
theorem dX9_likes_2 : decode cX9_likes 2 = .ok (.invokevirtual 84, 3) := by decide +kernel
theorem dX9_likes_5 : decode cX9_likes 5 = .ok (.ifCond .ne 26, 3) := by decide +kernel
theorem dX9_likes_8 : decode cX9_likes 8 = .ok (.aload_n 0, 1) := by decide +kernel
theorem dX9_likes_9 : decode cX9_likes 9 = .ok (.iload_n 2, 1) := by decide +kernel
theorem dX9_likes_10 : decode cX9_likes 10 = .ok (.invokevirtual 84, 3) := by decide +kernel
theorem dX9_likes_13 : decode cX9_likes 13 = .ok (.ifCond .ne 18, 3) := by decide +kernel
theorem dX9_likes_16 : decode cX9_likes 16 = .ok (.iload_n 1, 1) := by decide +kernel
theorem dX9_likes_17 : decode cX9_likes 17 = .ok (.iload_n 2, 1) := by decide +kernel
theorem dX9_likes_18 : decode cX9_likes 18 = .ok (.if_icmp .eq 13, 3) := by decide +kernel
theorem dX9_likes_21 : decode cX9_likes 21 = .ok (.iload_n 3, 1) := by decide +kernel
theorem dX9_likes_22 : decode cX9_likes 22 = .ok (.iconst 0, 1) := by decide +kernel
theorem dX9_likes_23 : decode cX9_likes 23 = .ok (.bipush 99, 2) := by decide +kernel
theorem dX9_likes_25 : decode cX9_likes 25 = .ok (.invokestatic 54, 3) := by decide +kernel
theorem dX9_likes_28 : decode cX9_likes 28 = .ok (.ifCond .eq 9, 3) := by decide +kernel
theorem dX9_likes_31 : decode cX9_likes 31 = .ok (.aload_n 0, 1) := by decide +kernel
theorem dX9_likes_32 : decode cX9_likes 32 = .ok (.iconst 1, 1) := by decide +kernel
theorem dX9_likes_33 : decode cX9_likes 33 = .ok (.invokevirtual 58, 3) := by decide +kernel
theorem dX9_likes_36 : decode cX9_likes 36 = .ok (.ireturn, 1) := by decide +kernel
theorem dX9_likes_37 : decode cX9_likes 37 = .ok (.aload_n 0, 1) := by decide +kernel
theorem dX9_likes_38 : decode cX9_likes 38 = .ok (.getfield 10, 3) := by decide +kernel
theorem dX9_likes_41 : decode cX9_likes 41 = .ok (.getfield 66, 3) := by decide +kernel
theorem dX9_likes_44 : decode cX9_likes 44 = .ok (.iload_n 1, 1) := by decide +kernel
theorem dX9_likes_45 : decode cX9_likes 45 = .ok (.aaload, 1) := by decide +kernel
theorem dX9_likes_46 : decode cX9_likes 46 = .ok (.getfield 98, 3) := by decide +kernel
theorem dX9_likes_49 : decode cX9_likes 49 = .ok (.iload_n 2, 1) := by decide +kernel
theorem dX9_likes_50 : decode cX9_likes 50 = .ok (.iaload, 1) := by decide +kernel
theorem dX9_likes_51 : decode cX9_likes 51 = .ok (.istore 4, 2) := by decide +kernel
theorem dX9_likes_53 : decode cX9_likes 53 = .ok (.aload_n 0, 1) := by decide +kernel
theorem dX9_likes_54 : decode cX9_likes 54 = .ok (.getfield 10, 3) := by decide +kernel
theorem dX9_likes_57 : decode cX9_likes 57 = .ok (.getfield 66, 3) := by decide +kernel
theorem dX9_likes_60 : decode cX9_likes 60 = .ok (.iload_n 1, 1) := by decide +kernel
theorem dX9_likes_61 : decode cX9_likes 61 = .ok (.aaload, 1) := by decide +kernel
theorem dX9_likes_62 : decode cX9_likes 62 = .ok (.getfield 98, 3) := by decide +kernel
theorem dX9_likes_65 : decode cX9_likes 65 = .ok (.iload_n 2, 1) := by decide +kernel
theorem dX9_likes_66 : decode cX9_likes 66 = .ok (.iload_n 3, 1) := by decide +kernel
theorem dX9_likes_67 : decode cX9_likes 67 = .ok (.iastore, 1) := by decide +kernel
theorem dX9_likes_68 : decode cX9_likes 68 = .ok (.iload 4, 2) := by decide +kernel
theorem dX9_likes_70 : decode cX9_likes 70 = .ok (.ireturn, 1) := by decide +kernel
theorem dX9_heap_0 : decode cX9_heap 0 = .ok (.iload_n 1, 1) := by decide +kernel
theorem dX9_heap_1 : decode cX9_heap 1 = .ok (.iconst 1, 1) := by decide +kernel
theorem dX9_heap_2 : decode cX9_heap 2 = .ok (.bipush 10, 2) := by decide +kernel
theorem dX9_heap_4 : decode cX9_heap 4 = .ok (.invokestatic 54, 3) := by decide +kernel
theorem dX9_heap_7 : decode cX9_heap 7 = .ok (.ifCond .ne 13, 3) := by decide +kernel
theorem dX9_heap_10 : decode cX9_heap 10 = .ok (.iload_n 2, 1) := by decide +kernel
theorem dX9_heap_11 : decode cX9_heap 11 = .ok (.iload_n 1, 1) := by decide +kernel
theorem dX9_heap_12 : decode cX9_heap 12 = .ok (.bipush 10, 2) := by decide +kernel
theorem dX9_heap_14 : decode cX9_heap 14 = .ok (.invokestatic 54, 3) := by decide +kernel
theorem dX9_heap_17 : decode cX9_heap 17 = .ok (.ifCond .eq 9, 3) := by decide +kernel
theorem dX9_heap_20 : decode cX9_heap 20 = .ok (.aload_n 0, 1) := by decide +kernel
theorem dX9_heap_21 : decode cX9_heap 21 = .ok (.iconst 1, 1) := by decide +kernel
theorem dX9_heap_22 : decode cX9_heap 22 = .ok (.invokevirtual 58, 3) := by decide +kernel
theorem dX9_heap_25 : decode cX9_heap 25 = .ok (.ireturn, 1) := by decide +kernel
theorem dX9_heap_26 : decode cX9_heap 26 = .ok (.aload_n 0, 1) := by decide +kernel
theorem dX9_heap_27 : decode cX9_heap 27 = .ok (.getfield 10, 3) := by decide +kernel
theorem dX9_heap_30 : decode cX9_heap 30 = .ok (.getfield 101, 3) := by decide +kernel
theorem dX9_heap_33 : decode cX9_heap 33 = .ok (.iconst 5, 1) := by decide +kernel
theorem dX9_heap_34 : decode cX9_heap 34 = .ok (.if_icmp .lt 9, 3) := by decide +kernel
theorem dX9_heap_37 : decode cX9_heap 37 = .ok (.aload_n 0, 1) := by decide +kernel
theorem dX9_heap_38 : decode cX9_heap 38 = .ok (.iconst 4, 1) := by decide +kernel
theorem dX9_heap_39 : decode cX9_heap 39 = .ok (.invokevirtual 58, 3) := by decide +kernel
theorem dX9_heap_42 : decode cX9_heap 42 = .ok (.ireturn, 1) := by decide +kernel
theorem dX9_heap_43 : decode cX9_heap 43 = .ok (.aload_n 0, 1) := by decide +kernel
theorem dX9_heap_44 : decode cX9_heap 44 = .ok (.getfield 10, 3) := by decide +kernel
theorem dX9_heap_47 : decode cX9_heap 47 = .ok (.getfield 104, 3) := by decide +kernel
theorem dX9_heap_50 : decode cX9_heap 50 = .ok (.aload_n 0, 1) := by decide +kernel
theorem dX9_heap_51 : decode cX9_heap 51 = .ok (.getfield 10, 3) := by decide +kernel
theorem dX9_heap_54 : decode cX9_heap 54 = .ok (.getfield 101, 3) := by decide +kernel
theorem dX9_heap_57 : decode cX9_heap 57 = .ok (.aaload, 1) := by decide +kernel
theorem dX9_heap_58 : decode cX9_heap 58 = .ok (.astore_n 3, 1) := by decide +kernel
theorem dX9_heap_59 : decode cX9_heap 59 = .ok (.aload_n 3, 1) := by decide +kernel
theorem dX9_heap_60 : decode cX9_heap 60 = .ok (.iload_n 1, 1) := by decide +kernel
theorem dX9_heap_61 : decode cX9_heap 61 = .ok (.putfield 108, 3) := by decide +kernel
theorem dX9_heap_64 : decode cX9_heap 64 = .ok (.aload_n 3, 1) := by decide +kernel
theorem dX9_heap_65 : decode cX9_heap 65 = .ok (.iload_n 2, 1) := by decide +kernel
theorem dX9_heap_66 : decode cX9_heap 66 = .ok (.putfield 113, 3) := by decide +kernel
theorem dX9_heap_69 : decode cX9_heap 69 = .ok (.aload_n 0, 1) := by decide +kernel
theorem dX9_heap_70 : decode cX9_heap 70 = .ok (.getfield 10, 3) := by decide +kernel
theorem dX9_heap_73 : decode cX9_heap 73 = .ok (.dup, 1) := by decide +kernel
theorem dX9_heap_74 : decode cX9_heap 74 = .ok (.getfield 101, 3) := by decide +kernel
theorem dX9_heap_77 : decode cX9_heap 77 = .ok (.iconst 1, 1) := by decide +kernel
theorem dX9_heap_78 : decode cX9_heap 78 = .ok (.iadd, 1) := by decide +kernel
theorem dX9_heap_79 : decode cX9_heap 79 = .ok (.putfield 101, 3) := by decide +kernel
theorem dX9_heap_82 : decode cX9_heap 82 = .ok (.aload_n 0, 1) := by decide +kernel
theorem dX9_heap_83 : decode cX9_heap 83 = .ok (.getfield 10, 3) := by decide +kernel
theorem dX9_heap_86 : decode cX9_heap 86 = .ok (.getfield 101, 3) := by decide +kernel
theorem dX9_heap_89 : decode cX9_heap 89 = .ok (.iconst 1, 1) := by decide +kernel
theorem dX9_heap_90 : decode cX9_heap 90 = .ok (.isub, 1) := by decide +kernel
theorem dX9_heap_91 : decode cX9_heap 91 = .ok (.ireturn, 1) := by decide +kernel
theorem dX9_heapIs_0 : decode cX9_heapIs 0 = .ok (.aload_n 0, 1) := by decide +kernel
theorem dX9_heapIs_1 : decode cX9_heapIs 1 = .ok (.iload_n 1, 1) := by decide +kernel
theorem dX9_heapIs_2 : decode cX9_heapIs 2 = .ok (.invokevirtual 116, 3) := by decide +kernel
theorem dX9_heapIs_5 : decode cX9_heapIs 5 = .ok (.ifCond .eq 9, 3) := by decide +kernel
theorem dX9_heapIs_8 : decode cX9_heapIs 8 = .ok (.aload_n 0, 1) := by decide +kernel
theorem dX9_heapIs_9 : decode cX9_heapIs 9 = .ok (.iconst 1, 1) := by decide +kernel
theorem dX9_heapIs_10 : decode cX9_heapIs 10 = .ok (.invokevirtual 58, 3) := by decide +kernel
theorem dX9_heapIs_13 : decode cX9_heapIs 13 = .ok (.ireturn, 1) := by decide +kernel
theorem dX9_heapIs_14 : decode cX9_heapIs 14 = .ok (.aload_n 0, 1) := by decide +kernel
theorem dX9_heapIs_15 : decode cX9_heapIs 15 = .ok (.getfield 10, 3) := by decide +kernel
theorem dX9_heapIs_18 : decode cX9_heapIs 18 = .ok (.getfield 104, 3) := by decide +kernel
theorem dX9_heapIs_21 : decode cX9_heapIs 21 = .ok (.iload_n 1, 1) := by decide +kernel
theorem dX9_heapIs_22 : decode cX9_heapIs 22 = .ok (.aaload, 1) := by decide +kernel
theorem dX9_heapIs_23 : decode cX9_heapIs 23 = .ok (.astore_n 3, 1) := by decide +kernel
theorem dX9_heapIs_24 : decode cX9_heapIs 24 = .ok (.iload_n 2, 1) := by decide +kernel
theorem dX9_heapIs_25 : decode cX9_heapIs 25 = .ok (.tableswitch 60 0 4 #[35, 40, 45, 50, 55], 35) := by decide +kernel
theorem dX9_heapIs_60 : decode cX9_heapIs 60 = .ok (.aload_n 3, 1) := by decide +kernel
theorem dX9_heapIs_61 : decode cX9_heapIs 61 = .ok (.getfield 108, 3) := by decide +kernel
theorem dX9_heapIs_64 : decode cX9_heapIs 64 = .ok (.ireturn, 1) := by decide +kernel
theorem dX9_heapIs_65 : decode cX9_heapIs 65 = .ok (.aload_n 3, 1) := by decide +kernel
theorem dX9_heapIs_66 : decode cX9_heapIs 66 = .ok (.getfield 113, 3) := by decide +kernel
theorem dX9_heapIs_69 : decode cX9_heapIs 69 = .ok (.ireturn, 1) := by decide +kernel
theorem dX9_heapIs_70 : decode cX9_heapIs 70 = .ok (.aload_n 3, 1) := by decide +kernel
theorem dX9_heapIs_71 : decode cX9_heapIs 71 = .ok (.getfield 119, 3) := by decide +kernel
theorem dX9_heapIs_74 : decode cX9_heapIs 74 = .ok (.ireturn, 1) := by decide +kernel
theorem dX9_heapIs_75 : decode cX9_heapIs 75 = .ok (.aload_n 3, 1) := by decide +kernel
theorem dX9_heapIs_76 : decode cX9_heapIs 76 = .ok (.getfield 122, 3) := by decide +kernel
theorem dX9_heapIs_79 : decode cX9_heapIs 79 = .ok (.ireturn, 1) := by decide +kernel
theorem dX9_heapIs_80 : decode cX9_heapIs 80 = .ok (.aload_n 3, 1) := by decide +kernel
theorem dX9_heapIs_81 : decode cX9_heapIs 81 = .ok (.getfield 125, 3) := by decide +kernel
theorem dX9_heapIs_84 : decode cX9_heapIs 84 = .ok (.ireturn, 1) := by decide +kernel
theorem dX9_heapIs_85 : decode cX9_heapIs 85 = .ok (.aload_n 0, 1) := by decide +kernel
theorem dX9_heapIs_86 : decode cX9_heapIs 86 = .ok (.iconst 1, 1) := by decide +kernel
theorem dX9_heapIs_87 : decode cX9_heapIs 87 = .ok (.invokevirtual 58, 3) := by decide +kernel
theorem dX9_heapIs_90 : decode cX9_heapIs 90 = .ok (.ireturn, 1) := by decide +kernel
theorem dX9_rule_0 : decode cX9_rule 0 = .ok (.aload_n 0, 1) := by decide +kernel
theorem dX9_rule_1 : decode cX9_rule 1 = .ok (.iload_n 1, 1) := by decide +kernel
theorem dX9_rule_2 : decode cX9_rule 2 = .ok (.invokevirtual 116, 3) := by decide +kernel
theorem dX9_rule_5 : decode cX9_rule 5 = .ok (.ifCond .ne 13, 3) := by decide +kernel
theorem dX9_rule_8 : decode cX9_rule 8 = .ok (.iload_n 2, 1) := by decide +kernel
theorem dX9_rule_9 : decode cX9_rule 9 = .ok (.iconst 0, 1) := by decide +kernel
theorem dX9_rule_10 : decode cX9_rule 10 = .ok (.bipush 99, 2) := by decide +kernel
theorem dX9_rule_12 : decode cX9_rule 12 = .ok (.invokestatic 54, 3) := by decide +kernel
theorem dX9_rule_15 : decode cX9_rule 15 = .ok (.ifCond .eq 9, 3) := by decide +kernel
theorem dX9_rule_18 : decode cX9_rule 18 = .ok (.aload_n 0, 1) := by decide +kernel
theorem dX9_rule_19 : decode cX9_rule 19 = .ok (.iconst 1, 1) := by decide +kernel
theorem dX9_rule_20 : decode cX9_rule 20 = .ok (.invokevirtual 58, 3) := by decide +kernel
theorem dX9_rule_23 : decode cX9_rule 23 = .ok (.ireturn, 1) := by decide +kernel
theorem dX9_rule_24 : decode cX9_rule 24 = .ok (.aload_n 0, 1) := by decide +kernel
theorem dX9_rule_25 : decode cX9_rule 25 = .ok (.getfield 10, 3) := by decide +kernel
theorem dX9_rule_28 : decode cX9_rule 28 = .ok (.getfield 104, 3) := by decide +kernel
theorem dX9_rule_31 : decode cX9_rule 31 = .ok (.iload_n 1, 1) := by decide +kernel
theorem dX9_rule_32 : decode cX9_rule 32 = .ok (.aaload, 1) := by decide +kernel
theorem dX9_rule_33 : decode cX9_rule 33 = .ok (.getfield 119, 3) := by decide +kernel
theorem dX9_rule_36 : decode cX9_rule 36 = .ok (.istore_n 3, 1) := by decide +kernel
theorem dX9_rule_37 : decode cX9_rule 37 = .ok (.aload_n 0, 1) := by decide +kernel
theorem dX9_rule_38 : decode cX9_rule 38 = .ok (.getfield 10, 3) := by decide +kernel
theorem dX9_rule_41 : decode cX9_rule 41 = .ok (.getfield 104, 3) := by decide +kernel
theorem dX9_rule_44 : decode cX9_rule 44 = .ok (.iload_n 1, 1) := by decide +kernel
theorem dX9_rule_45 : decode cX9_rule 45 = .ok (.aaload, 1) := by decide +kernel
theorem dX9_rule_46 : decode cX9_rule 46 = .ok (.iload_n 2, 1) := by decide +kernel
theorem dX9_rule_47 : decode cX9_rule 47 = .ok (.putfield 119, 3) := by decide +kernel
theorem dX9_rule_50 : decode cX9_rule 50 = .ok (.iload_n 3, 1) := by decide +kernel
theorem dX9_rule_51 : decode cX9_rule 51 = .ok (.ireturn, 1) := by decide +kernel
theorem dX9_join_0 : decode cX9_join 0 = .ok (.aload_n 0, 1) := by decide +kernel
theorem dX9_join_1 : decode cX9_join 1 = .ok (.iload_n 1, 1) := by decide +kernel
theorem dX9_join_2 : decode cX9_join 2 = .ok (.invokevirtual 84, 3) := by decide +kernel
theorem dX9_join_5 : decode cX9_join 5 = .ok (.ifCond .ne 11, 3) := by decide +kernel
theorem dX9_join_8 : decode cX9_join 8 = .ok (.aload_n 0, 1) := by decide +kernel
theorem dX9_join_9 : decode cX9_join 9 = .ok (.iload_n 2, 1) := by decide +kernel
theorem dX9_join_10 : decode cX9_join 10 = .ok (.invokevirtual 116, 3) := by decide +kernel
theorem dX9_join_13 : decode cX9_join 13 = .ok (.ifCond .eq 9, 3) := by decide +kernel
theorem dX9_join_16 : decode cX9_join 16 = .ok (.aload_n 0, 1) := by decide +kernel
theorem dX9_join_17 : decode cX9_join 17 = .ok (.iconst 1, 1) := by decide +kernel
theorem dX9_join_18 : decode cX9_join 18 = .ok (.invokevirtual 58, 3) := by decide +kernel
theorem dX9_join_21 : decode cX9_join 21 = .ok (.ireturn, 1) := by decide +kernel
theorem dX9_join_22 : decode cX9_join 22 = .ok (.aload_n 0, 1) := by decide +kernel
theorem dX9_join_23 : decode cX9_join 23 = .ok (.getfield 10, 3) := by decide +kernel
theorem dX9_join_26 : decode cX9_join 26 = .ok (.getfield 66, 3) := by decide +kernel
theorem dX9_join_29 : decode cX9_join 29 = .ok (.iload_n 1, 1) := by decide +kernel
theorem dX9_join_30 : decode cX9_join 30 = .ok (.aaload, 1) := by decide +kernel
theorem dX9_join_31 : decode cX9_join 31 = .ok (.getfield 128, 3) := by decide +kernel
theorem dX9_join_34 : decode cX9_join 34 = .ok (.iload_n 2, 1) := by decide +kernel
theorem dX9_join_35 : decode cX9_join 35 = .ok (.if_icmp .ne 9, 3) := by decide +kernel
theorem dX9_join_38 : decode cX9_join 38 = .ok (.aload_n 0, 1) := by decide +kernel
theorem dX9_join_39 : decode cX9_join 39 = .ok (.iconst 3, 1) := by decide +kernel
theorem dX9_join_40 : decode cX9_join 40 = .ok (.invokevirtual 58, 3) := by decide +kernel
theorem dX9_join_43 : decode cX9_join 43 = .ok (.ireturn, 1) := by decide +kernel
theorem dX9_join_44 : decode cX9_join 44 = .ok (.aload_n 0, 1) := by decide +kernel
theorem dX9_join_45 : decode cX9_join 45 = .ok (.getfield 10, 3) := by decide +kernel
theorem dX9_join_48 : decode cX9_join 48 = .ok (.iload_n 1, 1) := by decide +kernel
theorem dX9_join_49 : decode cX9_join 49 = .ok (.iload_n 2, 1) := by decide +kernel
theorem dX9_join_50 : decode cX9_join 50 = .ok (.invokevirtual 131, 3) := by decide +kernel
theorem dX9_join_53 : decode cX9_join 53 = .ok (.aload_n 0, 1) := by decide +kernel
theorem dX9_join_54 : decode cX9_join 54 = .ok (.getfield 10, 3) := by decide +kernel
theorem dX9_join_57 : decode cX9_join 57 = .ok (.getfield 104, 3) := by decide +kernel
theorem dX9_join_60 : decode cX9_join 60 = .ok (.iload_n 2, 1) := by decide +kernel
theorem dX9_join_61 : decode cX9_join 61 = .ok (.aaload, 1) := by decide +kernel
theorem dX9_join_62 : decode cX9_join 62 = .ok (.invokevirtual 135, 3) := by decide +kernel
theorem dX9_join_65 : decode cX9_join 65 = .ok (.ireturn, 1) := by decide +kernel
theorem dX9_leave_0 : decode cX9_leave 0 = .ok (.aload_n 0, 1) := by decide +kernel
theorem dX9_leave_1 : decode cX9_leave 1 = .ok (.iload_n 1, 1) := by decide +kernel
theorem dX9_leave_2 : decode cX9_leave 2 = .ok (.invokevirtual 84, 3) := by decide +kernel
theorem dX9_leave_5 : decode cX9_leave 5 = .ok (.ifCond .eq 9, 3) := by decide +kernel
theorem dX9_leave_8 : decode cX9_leave 8 = .ok (.aload_n 0, 1) := by decide +kernel
theorem dX9_leave_9 : decode cX9_leave 9 = .ok (.iconst 1, 1) := by decide +kernel
theorem dX9_leave_10 : decode cX9_leave 10 = .ok (.invokevirtual 58, 3) := by decide +kernel
theorem dX9_leave_13 : decode cX9_leave 13 = .ok (.ireturn, 1) := by decide +kernel
theorem dX9_leave_14 : decode cX9_leave 14 = .ok (.aload_n 0, 1) := by decide +kernel
theorem dX9_leave_15 : decode cX9_leave 15 = .ok (.getfield 10, 3) := by decide +kernel
theorem dX9_leave_18 : decode cX9_leave 18 = .ok (.getfield 66, 3) := by decide +kernel
theorem dX9_leave_21 : decode cX9_leave 21 = .ok (.iload_n 1, 1) := by decide +kernel
theorem dX9_leave_22 : decode cX9_leave 22 = .ok (.aaload, 1) := by decide +kernel
theorem dX9_leave_23 : decode cX9_leave 23 = .ok (.getfield 128, 3) := by decide +kernel
theorem dX9_leave_26 : decode cX9_leave 26 = .ok (.istore_n 2, 1) := by decide +kernel
theorem dX9_leave_27 : decode cX9_leave 27 = .ok (.iload_n 2, 1) := by decide +kernel
theorem dX9_leave_28 : decode cX9_leave 28 = .ok (.iconst (-1), 1) := by decide +kernel
theorem dX9_leave_29 : decode cX9_leave 29 = .ok (.if_icmp .ne 9, 3) := by decide +kernel
theorem dX9_leave_32 : decode cX9_leave 32 = .ok (.aload_n 0, 1) := by decide +kernel
theorem dX9_leave_33 : decode cX9_leave 33 = .ok (.iconst 3, 1) := by decide +kernel
theorem dX9_leave_34 : decode cX9_leave 34 = .ok (.invokevirtual 58, 3) := by decide +kernel
theorem dX9_leave_37 : decode cX9_leave 37 = .ok (.ireturn, 1) := by decide +kernel
theorem dX9_leave_38 : decode cX9_leave 38 = .ok (.aload_n 0, 1) := by decide +kernel
theorem dX9_leave_39 : decode cX9_leave 39 = .ok (.getfield 10, 3) := by decide +kernel
theorem dX9_leave_42 : decode cX9_leave 42 = .ok (.iload_n 1, 1) := by decide +kernel
theorem dX9_leave_43 : decode cX9_leave 43 = .ok (.iconst (-1), 1) := by decide +kernel
theorem dX9_leave_44 : decode cX9_leave 44 = .ok (.invokevirtual 131, 3) := by decide +kernel
theorem dX9_leave_47 : decode cX9_leave 47 = .ok (.iload_n 2, 1) := by decide +kernel
theorem dX9_leave_48 : decode cX9_leave 48 = .ok (.ireturn, 1) := by decide +kernel
theorem dX9_between_0 : decode cX9_between 0 = .ok (.aload_n 0, 1) := by decide +kernel
theorem dX9_between_1 : decode cX9_between 1 = .ok (.iload_n 1, 1) := by decide +kernel
theorem dX9_between_2 : decode cX9_between 2 = .ok (.invokevirtual 84, 3) := by decide +kernel
theorem dX9_between_5 : decode cX9_between 5 = .ok (.ifCond .ne 11, 3) := by decide +kernel
theorem dX9_between_8 : decode cX9_between 8 = .ok (.aload_n 0, 1) := by decide +kernel
theorem dX9_between_9 : decode cX9_between 9 = .ok (.iload_n 2, 1) := by decide +kernel
theorem dX9_between_10 : decode cX9_between 10 = .ok (.invokevirtual 116, 3) := by decide +kernel
theorem dX9_between_13 : decode cX9_between 13 = .ok (.ifCond .eq 9, 3) := by decide +kernel
theorem dX9_between_16 : decode cX9_between 16 = .ok (.aload_n 0, 1) := by decide +kernel
theorem dX9_between_17 : decode cX9_between 17 = .ok (.iconst 1, 1) := by decide +kernel
theorem dX9_between_18 : decode cX9_between 18 = .ok (.invokevirtual 58, 3) := by decide +kernel
theorem dX9_between_21 : decode cX9_between 21 = .ok (.ireturn, 1) := by decide +kernel
theorem dX9_between_22 : decode cX9_between 22 = .ok (.iload_n 3, 1) := by decide +kernel
theorem dX9_between_23 : decode cX9_between 23 = .ok (.tableswitch 60 0 2 #[25, 35, 45], 25) := by decide +kernel
theorem dX9_between_48 : decode cX9_between 48 = .ok (.aload_n 0, 1) := by decide +kernel
theorem dX9_between_49 : decode cX9_between 49 = .ok (.getfield 10, 3) := by decide +kernel
theorem dX9_between_52 : decode cX9_between 52 = .ok (.iload_n 1, 1) := by decide +kernel
theorem dX9_between_53 : decode cX9_between 53 = .ok (.iload_n 2, 1) := by decide +kernel
theorem dX9_between_54 : decode cX9_between 54 = .ok (.invokevirtual 139, 3) := by decide +kernel
theorem dX9_between_57 : decode cX9_between 57 = .ok (.ireturn, 1) := by decide +kernel
theorem dX9_between_58 : decode cX9_between 58 = .ok (.aload_n 0, 1) := by decide +kernel
theorem dX9_between_59 : decode cX9_between 59 = .ok (.getfield 10, 3) := by decide +kernel
theorem dX9_between_62 : decode cX9_between 62 = .ok (.iload_n 1, 1) := by decide +kernel
theorem dX9_between_63 : decode cX9_between 63 = .ok (.iload_n 2, 1) := by decide +kernel
theorem dX9_between_64 : decode cX9_between 64 = .ok (.invokevirtual 143, 3) := by decide +kernel
theorem dX9_between_67 : decode cX9_between 67 = .ok (.ireturn, 1) := by decide +kernel
theorem dX9_between_68 : decode cX9_between 68 = .ok (.aload_n 0, 1) := by decide +kernel
theorem dX9_between_69 : decode cX9_between 69 = .ok (.getfield 10, 3) := by decide +kernel
theorem dX9_between_72 : decode cX9_between 72 = .ok (.getfield 66, 3) := by decide +kernel
theorem dX9_between_75 : decode cX9_between 75 = .ok (.iload_n 1, 1) := by decide +kernel
theorem dX9_between_76 : decode cX9_between 76 = .ok (.aaload, 1) := by decide +kernel
theorem dX9_between_77 : decode cX9_between 77 = .ok (.getfield 146, 3) := by decide +kernel
theorem dX9_between_80 : decode cX9_between 80 = .ok (.iload_n 2, 1) := by decide +kernel
theorem dX9_between_81 : decode cX9_between 81 = .ok (.iaload, 1) := by decide +kernel
theorem dX9_between_82 : decode cX9_between 82 = .ok (.ireturn, 1) := by decide +kernel
theorem dX9_between_83 : decode cX9_between 83 = .ok (.aload_n 0, 1) := by decide +kernel
theorem dX9_between_84 : decode cX9_between 84 = .ok (.iconst 1, 1) := by decide +kernel
theorem dX9_between_85 : decode cX9_between 85 = .ok (.invokevirtual 58, 3) := by decide +kernel
theorem dX9_between_88 : decode cX9_between 88 = .ok (.ireturn, 1) := by decide +kernel
theorem dX9_feed_0 : decode cX9_feed 0 = .ok (.iload_n 3, 1) := by decide +kernel
theorem dX9_feed_1 : decode cX9_feed 1 = .ok (.iconst 1, 1) := by decide +kernel
theorem dX9_feed_2 : decode cX9_feed 2 = .ok (.bipush 8, 2) := by decide +kernel
theorem dX9_feed_4 : decode cX9_feed 4 = .ok (.invokestatic 54, 3) := by decide +kernel
theorem dX9_feed_7 : decode cX9_feed 7 = .ok (.ifCond .eq 9, 3) := by decide +kernel
theorem dX9_feed_10 : decode cX9_feed 10 = .ok (.aload_n 0, 1) := by decide +kernel
theorem dX9_feed_11 : decode cX9_feed 11 = .ok (.iconst 1, 1) := by decide +kernel
theorem dX9_feed_12 : decode cX9_feed 12 = .ok (.invokevirtual 58, 3) := by decide +kernel
theorem dX9_feed_15 : decode cX9_feed 15 = .ok (.ireturn, 1) := by decide +kernel
theorem dX9_feed_16 : decode cX9_feed 16 = .ok (.aload_n 0, 1) := by decide +kernel
theorem dX9_feed_17 : decode cX9_feed 17 = .ok (.getfield 10, 3) := by decide +kernel
theorem dX9_feed_20 : decode cX9_feed 20 = .ok (.getfield 149, 3) := by decide +kernel
theorem dX9_feed_23 : decode cX9_feed 23 = .ok (.getfield 153, 3) := by decide +kernel
theorem dX9_feed_26 : decode cX9_feed 26 = .ok (.iload_n 3, 1) := by decide +kernel
theorem dX9_feed_27 : decode cX9_feed 27 = .ok (.iadd, 1) := by decide +kernel
theorem dX9_feed_28 : decode cX9_feed 28 = .ok (.bipush 60, 2) := by decide +kernel
theorem dX9_feed_30 : decode cX9_feed 30 = .ok (.if_icmp .le 9, 3) := by decide +kernel
theorem dX9_feed_33 : decode cX9_feed 33 = .ok (.aload_n 0, 1) := by decide +kernel
theorem dX9_feed_34 : decode cX9_feed 34 = .ok (.iconst 4, 1) := by decide +kernel
theorem dX9_feed_35 : decode cX9_feed 35 = .ok (.invokevirtual 58, 3) := by decide +kernel
theorem dX9_feed_38 : decode cX9_feed 38 = .ok (.ireturn, 1) := by decide +kernel
theorem dX9_feed_39 : decode cX9_feed 39 = .ok (.iconst 0, 1) := by decide +kernel
theorem dX9_feed_40 : decode cX9_feed 40 = .ok (.istore 4, 2) := by decide +kernel
theorem dX9_feed_42 : decode cX9_feed 42 = .ok (.iload 4, 2) := by decide +kernel
theorem dX9_feed_44 : decode cX9_feed 44 = .ok (.iload_n 3, 1) := by decide +kernel
theorem dX9_feed_45 : decode cX9_feed 45 = .ok (.if_icmp .ge 31, 3) := by decide +kernel
theorem dX9_feed_48 : decode cX9_feed 48 = .ok (.aload_n 0, 1) := by decide +kernel
theorem dX9_feed_49 : decode cX9_feed 49 = .ok (.getfield 10, 3) := by decide +kernel
theorem dX9_feed_52 : decode cX9_feed 52 = .ok (.getfield 149, 3) := by decide +kernel
theorem dX9_feed_55 : decode cX9_feed 55 = .ok (.lload_n 1, 1) := by decide +kernel
theorem dX9_feed_56 : decode cX9_feed 56 = .ok (.bipush 8, 2) := by decide +kernel
theorem dX9_feed_58 : decode cX9_feed 58 = .ok (.iload 4, 2) := by decide +kernel
theorem dX9_feed_60 : decode cX9_feed 60 = .ok (.imul, 1) := by decide +kernel
theorem dX9_feed_61 : decode cX9_feed 61 = .ok (.lushr, 1) := by decide +kernel
theorem dX9_feed_62 : decode cX9_feed 62 = .ok (.l2i, 1) := by decide +kernel
theorem dX9_feed_63 : decode cX9_feed 63 = .ok (.sipush 255, 3) := by decide +kernel
theorem dX9_feed_66 : decode cX9_feed 66 = .ok (.iand, 1) := by decide +kernel
theorem dX9_feed_67 : decode cX9_feed 67 = .ok (.invokevirtual 157, 3) := by decide +kernel
theorem dX9_feed_70 : decode cX9_feed 70 = .ok (.iinc 4 1, 3) := by decide +kernel
theorem dX9_feed_73 : decode cX9_feed 73 = .ok (.goto (-31), 3) := by decide +kernel
theorem dX9_feed_76 : decode cX9_feed 76 = .ok (.aload_n 0, 1) := by decide +kernel
theorem dX9_feed_77 : decode cX9_feed 77 = .ok (.getfield 10, 3) := by decide +kernel
theorem dX9_feed_80 : decode cX9_feed 80 = .ok (.getfield 149, 3) := by decide +kernel
theorem dX9_feed_83 : decode cX9_feed 83 = .ok (.getfield 153, 3) := by decide +kernel
theorem dX9_feed_86 : decode cX9_feed 86 = .ok (.ireturn, 1) := by decide +kernel
theorem dX9_text_0 : decode cX9_text 0 = .ok (.iload_n 1, 1) := by decide +kernel
theorem dX9_text_1 : decode cX9_text 1 = .ok (.iconst 0, 1) := by decide +kernel
theorem dX9_text_2 : decode cX9_text 2 = .ok (.iconst 1, 1) := by decide +kernel
theorem dX9_text_3 : decode cX9_text 3 = .ok (.invokestatic 54, 3) := by decide +kernel
theorem dX9_text_6 : decode cX9_text 6 = .ok (.ifCond .eq 9, 3) := by decide +kernel
theorem dX9_text_9 : decode cX9_text 9 = .ok (.aload_n 0, 1) := by decide +kernel
theorem dX9_text_10 : decode cX9_text 10 = .ok (.iconst 1, 1) := by decide +kernel
theorem dX9_text_11 : decode cX9_text 11 = .ok (.invokevirtual 58, 3) := by decide +kernel
theorem dX9_text_14 : decode cX9_text 14 = .ok (.ireturn, 1) := by decide +kernel
theorem dX9_text_15 : decode cX9_text 15 = .ok (.aload_n 0, 1) := by decide +kernel
theorem dX9_text_16 : decode cX9_text 16 = .ok (.getfield 32, 3) := by decide +kernel
theorem dX9_text_19 : decode cX9_text 19 = .ok (.aload_n 0, 1) := by decide +kernel
theorem dX9_text_20 : decode cX9_text 20 = .ok (.getfield 10, 3) := by decide +kernel
theorem dX9_text_23 : decode cX9_text 23 = .ok (.getfield 149, 3) := by decide +kernel
theorem dX9_text_26 : decode cX9_text 26 = .ok (.iload_n 1, 1) := by decide +kernel
theorem dX9_text_27 : decode cX9_text 27 = .ok (.ifCond .ne 8, 3) := by decide +kernel
theorem dX9_text_30 : decode cX9_text 30 = .ok (.ldc 161, 2) := by decide +kernel
theorem dX9_text_32 : decode cX9_text 32 = .ok (.goto 5, 3) := by decide +kernel
theorem dX9_text_35 : decode cX9_text 35 = .ok (.ldc 163, 2) := by decide +kernel
theorem dX9_text_37 : decode cX9_text 37 = .ok (.invokevirtual 165, 3) := by decide +kernel
theorem dX9_text_40 : decode cX9_text 40 = .ok (.istore_n 2, 1) := by decide +kernel
theorem dX9_text_41 : decode cX9_text 41 = .ok (.aload_n 0, 1) := by decide +kernel
theorem dX9_text_42 : decode cX9_text 42 = .ok (.getfield 10, 3) := by decide +kernel
theorem dX9_text_45 : decode cX9_text 45 = .ok (.getfield 149, 3) := by decide +kernel
theorem dX9_text_48 : decode cX9_text 48 = .ok (.iconst 0, 1) := by decide +kernel
theorem dX9_text_49 : decode cX9_text 49 = .ok (.putfield 153, 3) := by decide +kernel
theorem dX9_text_52 : decode cX9_text 52 = .ok (.iload_n 2, 1) := by decide +kernel
theorem dX9_text_53 : decode cX9_text 53 = .ok (.iconst (-1), 1) := by decide +kernel
theorem dX9_text_54 : decode cX9_text 54 = .ok (.if_icmp .eq 8, 3) := by decide +kernel
theorem dX9_text_57 : decode cX9_text 57 = .ok (.bipush (-10), 2) := by decide +kernel
theorem dX9_text_59 : decode cX9_text 59 = .ok (.iload_n 2, 1) := by decide +kernel
theorem dX9_text_60 : decode cX9_text 60 = .ok (.isub, 1) := by decide +kernel
theorem dX9_text_61 : decode cX9_text 61 = .ok (.ireturn, 1) := by decide +kernel
theorem dX9_text_62 : decode cX9_text 62 = .ok (.aload_n 0, 1) := by decide +kernel
theorem dX9_text_63 : decode cX9_text 63 = .ok (.getfield 10, 3) := by decide +kernel
theorem dX9_text_66 : decode cX9_text 66 = .ok (.getfield 169, 3) := by decide +kernel
theorem dX9_text_69 : decode cX9_text 69 = .ok (.iload_n 1, 1) := by decide +kernel
theorem dX9_text_70 : decode cX9_text 70 = .ok (.aaload, 1) := by decide +kernel
theorem dX9_text_71 : decode cX9_text 71 = .ok (.aload_n 0, 1) := by decide +kernel
theorem dX9_text_72 : decode cX9_text 72 = .ok (.getfield 32, 3) := by decide +kernel
theorem dX9_text_75 : decode cX9_text 75 = .ok (.getfield 173, 3) := by decide +kernel
theorem dX9_text_78 : decode cX9_text 78 = .ok (.invokevirtual 177, 3) := by decide +kernel
theorem dX9_text_81 : decode cX9_text 81 = .ok (.iconst 1, 1) := by decide +kernel
theorem dX9_text_82 : decode cX9_text 82 = .ok (.ireturn, 1) := by decide +kernel
theorem dX9_untell_0 : decode cX9_untell 0 = .ok (.iload_n 1, 1) := by decide +kernel
theorem dX9_untell_1 : decode cX9_untell 1 = .ok (.iconst 0, 1) := by decide +kernel
theorem dX9_untell_2 : decode cX9_untell 2 = .ok (.iconst 1, 1) := by decide +kernel
theorem dX9_untell_3 : decode cX9_untell 3 = .ok (.invokestatic 54, 3) := by decide +kernel
theorem dX9_untell_6 : decode cX9_untell 6 = .ok (.ifCond .eq 9, 3) := by decide +kernel
theorem dX9_untell_9 : decode cX9_untell 9 = .ok (.aload_n 0, 1) := by decide +kernel
theorem dX9_untell_10 : decode cX9_untell 10 = .ok (.iconst 1, 1) := by decide +kernel
theorem dX9_untell_11 : decode cX9_untell 11 = .ok (.invokevirtual 58, 3) := by decide +kernel
theorem dX9_untell_14 : decode cX9_untell 14 = .ok (.ireturn, 1) := by decide +kernel
theorem dX9_untell_15 : decode cX9_untell 15 = .ok (.aload_n 0, 1) := by decide +kernel
theorem dX9_untell_16 : decode cX9_untell 16 = .ok (.getfield 10, 3) := by decide +kernel
theorem dX9_untell_19 : decode cX9_untell 19 = .ok (.getfield 169, 3) := by decide +kernel
theorem dX9_untell_22 : decode cX9_untell 22 = .ok (.iload_n 1, 1) := by decide +kernel
theorem dX9_untell_23 : decode cX9_untell 23 = .ok (.aaload, 1) := by decide +kernel
theorem dX9_untell_24 : decode cX9_untell 24 = .ok (.invokevirtual 183, 3) := by decide +kernel
theorem dX9_untell_27 : decode cX9_untell 27 = .ok (.ifCond .eq 7, 3) := by decide +kernel
theorem dX9_untell_30 : decode cX9_untell 30 = .ok (.iconst 1, 1) := by decide +kernel
theorem dX9_untell_31 : decode cX9_untell 31 = .ok (.goto 4, 3) := by decide +kernel
theorem dX9_untell_34 : decode cX9_untell 34 = .ok (.iconst 0, 1) := by decide +kernel
theorem dX9_untell_35 : decode cX9_untell 35 = .ok (.istore_n 2, 1) := by decide +kernel
theorem dX9_untell_36 : decode cX9_untell 36 = .ok (.aload_n 0, 1) := by decide +kernel
theorem dX9_untell_37 : decode cX9_untell 37 = .ok (.getfield 10, 3) := by decide +kernel
theorem dX9_untell_40 : decode cX9_untell 40 = .ok (.getfield 169, 3) := by decide +kernel
theorem dX9_untell_43 : decode cX9_untell 43 = .ok (.iload_n 1, 1) := by decide +kernel
theorem dX9_untell_44 : decode cX9_untell 44 = .ok (.aaload, 1) := by decide +kernel
theorem dX9_untell_45 : decode cX9_untell 45 = .ok (.iconst 0, 1) := by decide +kernel
theorem dX9_untell_46 : decode cX9_untell 46 = .ok (.putfield 187, 3) := by decide +kernel
theorem dX9_untell_49 : decode cX9_untell 49 = .ok (.iload_n 2, 1) := by decide +kernel
theorem dX9_untell_50 : decode cX9_untell 50 = .ok (.ireturn, 1) := by decide +kernel
theorem dX9_minutes_0 : decode cX9_minutes 0 = .ok (.iload_n 1, 1) := by decide +kernel
theorem dX9_minutes_1 : decode cX9_minutes 1 = .ok (.iconst 1, 1) := by decide +kernel
theorem dX9_minutes_2 : decode cX9_minutes 2 = .ok (.bipush 60, 2) := by decide +kernel
theorem dX9_minutes_4 : decode cX9_minutes 4 = .ok (.invokestatic 54, 3) := by decide +kernel
theorem dX9_minutes_7 : decode cX9_minutes 7 = .ok (.ifCond .eq 9, 3) := by decide +kernel
theorem dX9_minutes_10 : decode cX9_minutes 10 = .ok (.aload_n 0, 1) := by decide +kernel
theorem dX9_minutes_11 : decode cX9_minutes 11 = .ok (.iconst 1, 1) := by decide +kernel
theorem dX9_minutes_12 : decode cX9_minutes 12 = .ok (.invokevirtual 58, 3) := by decide +kernel
theorem dX9_minutes_15 : decode cX9_minutes 15 = .ok (.ireturn, 1) := by decide +kernel
theorem dX9_minutes_16 : decode cX9_minutes 16 = .ok (.aload_n 0, 1) := by decide +kernel
theorem dX9_minutes_17 : decode cX9_minutes 17 = .ok (.getfield 10, 3) := by decide +kernel
theorem dX9_minutes_20 : decode cX9_minutes 20 = .ok (.getfield 188, 3) := by decide +kernel
theorem dX9_minutes_23 : decode cX9_minutes 23 = .ok (.iload_n 1, 1) := by decide +kernel
theorem dX9_minutes_24 : decode cX9_minutes 24 = .ok (.iadd, 1) := by decide +kernel
theorem dX9_minutes_25 : decode cX9_minutes 25 = .ok (.ldc 191, 2) := by decide +kernel
theorem dX9_minutes_27 : decode cX9_minutes 27 = .ok (.if_icmp .le 9, 3) := by decide +kernel
theorem dX9_minutes_30 : decode cX9_minutes 30 = .ok (.aload_n 0, 1) := by decide +kernel
theorem dX9_minutes_31 : decode cX9_minutes 31 = .ok (.iconst 3, 1) := by decide +kernel
theorem dX9_minutes_32 : decode cX9_minutes 32 = .ok (.invokevirtual 58, 3) := by decide +kernel
theorem dX9_minutes_35 : decode cX9_minutes 35 = .ok (.ireturn, 1) := by decide +kernel
theorem dX9_minutes_36 : decode cX9_minutes 36 = .ok (.aload_n 0, 1) := by decide +kernel
theorem dX9_minutes_37 : decode cX9_minutes 37 = .ok (.getfield 10, 3) := by decide +kernel
theorem dX9_minutes_40 : decode cX9_minutes 40 = .ok (.iload_n 1, 1) := by decide +kernel
theorem dX9_minutes_41 : decode cX9_minutes 41 = .ok (.invokevirtual 192, 3) := by decide +kernel
theorem dX9_minutes_44 : decode cX9_minutes 44 = .ok (.aload_n 0, 1) := by decide +kernel
theorem dX9_minutes_45 : decode cX9_minutes 45 = .ok (.getfield 10, 3) := by decide +kernel
theorem dX9_minutes_48 : decode cX9_minutes 48 = .ok (.invokevirtual 195, 3) := by decide +kernel
theorem dX9_minutes_51 : decode cX9_minutes 51 = .ok (.ireturn, 1) := by decide +kernel
theorem dX9_terms_0 : decode cX9_terms 0 = .ok (.iload_n 1, 1) := by decide +kernel
theorem dX9_terms_1 : decode cX9_terms 1 = .ok (.iconst 1, 1) := by decide +kernel
theorem dX9_terms_2 : decode cX9_terms 2 = .ok (.bipush 20, 2) := by decide +kernel
theorem dX9_terms_4 : decode cX9_terms 4 = .ok (.invokestatic 54, 3) := by decide +kernel
theorem dX9_terms_7 : decode cX9_terms 7 = .ok (.ifCond .eq 9, 3) := by decide +kernel
theorem dX9_terms_10 : decode cX9_terms 10 = .ok (.aload_n 0, 1) := by decide +kernel
theorem dX9_terms_11 : decode cX9_terms 11 = .ok (.iconst 1, 1) := by decide +kernel
theorem dX9_terms_12 : decode cX9_terms 12 = .ok (.invokevirtual 58, 3) := by decide +kernel
theorem dX9_terms_15 : decode cX9_terms 15 = .ok (.ireturn, 1) := by decide +kernel
theorem dX9_terms_16 : decode cX9_terms 16 = .ok (.aload_n 0, 1) := by decide +kernel
theorem dX9_terms_17 : decode cX9_terms 17 = .ok (.getfield 10, 3) := by decide +kernel
theorem dX9_terms_20 : decode cX9_terms 20 = .ok (.getfield 198, 3) := by decide +kernel
theorem dX9_terms_23 : decode cX9_terms 23 = .ok (.iload_n 1, 1) := by decide +kernel
theorem dX9_terms_24 : decode cX9_terms 24 = .ok (.iadd, 1) := by decide +kernel
theorem dX9_terms_25 : decode cX9_terms 25 = .ok (.sipush 999, 3) := by decide +kernel
theorem dX9_terms_28 : decode cX9_terms 28 = .ok (.if_icmp .le 9, 3) := by decide +kernel
theorem dX9_terms_31 : decode cX9_terms 31 = .ok (.aload_n 0, 1) := by decide +kernel
theorem dX9_terms_32 : decode cX9_terms 32 = .ok (.iconst 3, 1) := by decide +kernel
theorem dX9_terms_33 : decode cX9_terms 33 = .ok (.invokevirtual 58, 3) := by decide +kernel
theorem dX9_terms_36 : decode cX9_terms 36 = .ok (.ireturn, 1) := by decide +kernel
theorem dX9_terms_37 : decode cX9_terms 37 = .ok (.iconst 0, 1) := by decide +kernel
theorem dX9_terms_38 : decode cX9_terms 38 = .ok (.istore_n 2, 1) := by decide +kernel
theorem dX9_terms_39 : decode cX9_terms 39 = .ok (.iload_n 2, 1) := by decide +kernel
theorem dX9_terms_40 : decode cX9_terms 40 = .ok (.iload_n 1, 1) := by decide +kernel
theorem dX9_terms_41 : decode cX9_terms 41 = .ok (.if_icmp .ge 16, 3) := by decide +kernel
theorem dX9_terms_44 : decode cX9_terms 44 = .ok (.aload_n 0, 1) := by decide +kernel
theorem dX9_terms_45 : decode cX9_terms 45 = .ok (.getfield 10, 3) := by decide +kernel
theorem dX9_terms_48 : decode cX9_terms 48 = .ok (.invokevirtual 201, 3) := by decide +kernel
theorem dX9_terms_51 : decode cX9_terms 51 = .ok (.iinc 2 1, 3) := by decide +kernel
theorem dX9_terms_54 : decode cX9_terms 54 = .ok (.goto (-15), 3) := by decide +kernel
theorem dX9_terms_57 : decode cX9_terms 57 = .ok (.aload_n 0, 1) := by decide +kernel
theorem dX9_terms_58 : decode cX9_terms 58 = .ok (.getfield 10, 3) := by decide +kernel
theorem dX9_terms_61 : decode cX9_terms 61 = .ok (.getfield 198, 3) := by decide +kernel
theorem dX9_terms_64 : decode cX9_terms 64 = .ok (.ireturn, 1) := by decide +kernel
theorem dX9_seed_0 : decode cX9_seed 0 = .ok (.aload_n 0, 1) := by decide +kernel
theorem dX9_seed_1 : decode cX9_seed 1 = .ok (.getfield 10, 3) := by decide +kernel
theorem dX9_seed_4 : decode cX9_seed 4 = .ok (.getfield 204, 3) := by decide +kernel
theorem dX9_seed_7 : decode cX9_seed 7 = .ok (.istore_n 2, 1) := by decide +kernel
theorem dX9_seed_8 : decode cX9_seed 8 = .ok (.aload_n 0, 1) := by decide +kernel
theorem dX9_seed_9 : decode cX9_seed 9 = .ok (.getfield 10, 3) := by decide +kernel
theorem dX9_seed_12 : decode cX9_seed 12 = .ok (.iload_n 1, 1) := by decide +kernel
theorem dX9_seed_13 : decode cX9_seed 13 = .ok (.putfield 204, 3) := by decide +kernel
theorem dX9_seed_16 : decode cX9_seed 16 = .ok (.iload_n 2, 1) := by decide +kernel
theorem dX9_seed_17 : decode cX9_seed 17 = .ok (.ireturn, 1) := by decide +kernel
theorem dX9_both_0 : decode cX9_both 0 = .ok (.aload_n 0, 1) := by decide +kernel
theorem dX9_both_1 : decode cX9_both 1 = .ok (.iload_n 1, 1) := by decide +kernel
theorem dX9_both_2 : decode cX9_both 2 = .ok (.invokevirtual 84, 3) := by decide +kernel
theorem dX9_both_5 : decode cX9_both 5 = .ok (.ifCond .eq 9, 3) := by decide +kernel
theorem dX9_both_8 : decode cX9_both 8 = .ok (.aload_n 0, 1) := by decide +kernel
theorem dX9_both_9 : decode cX9_both 9 = .ok (.iconst 1, 1) := by decide +kernel
theorem dX9_both_10 : decode cX9_both 10 = .ok (.invokevirtual 58, 3) := by decide +kernel
theorem dX9_both_13 : decode cX9_both 13 = .ok (.ireturn, 1) := by decide +kernel
theorem dX9_both_14 : decode cX9_both 14 = .ok (.aload_n 0, 1) := by decide +kernel
theorem dX9_both_15 : decode cX9_both 15 = .ok (.getfield 25, 3) := by decide +kernel
theorem dX9_both_18 : decode cX9_both 18 = .ok (.aload_n 0, 1) := by decide +kernel
theorem dX9_both_19 : decode cX9_both 19 = .ok (.getfield 10, 3) := by decide +kernel
theorem dX9_both_22 : decode cX9_both 22 = .ok (.invokevirtual 207, 3) := by decide +kernel
theorem dX9_both_25 : decode cX9_both 25 = .ok (.aload_n 0, 1) := by decide +kernel
theorem dX9_both_26 : decode cX9_both 26 = .ok (.getfield 25, 3) := by decide +kernel
theorem dX9_both_29 : decode cX9_both 29 = .ok (.getfield 211, 3) := by decide +kernel
theorem dX9_both_32 : decode cX9_both 32 = .ok (.iload_n 1, 1) := by decide +kernel
theorem dX9_both_33 : decode cX9_both 33 = .ok (.iaload, 1) := by decide +kernel
theorem dX9_both_34 : decode cX9_both 34 = .ok (.ireturn, 1) := by decide +kernel
theorem dX9_ring_0 : decode cX9_ring 0 = .ok (.aload_n 0, 1) := by decide +kernel
theorem dX9_ring_1 : decode cX9_ring 1 = .ok (.iload_n 1, 1) := by decide +kernel
theorem dX9_ring_2 : decode cX9_ring 2 = .ok (.invokevirtual 84, 3) := by decide +kernel
theorem dX9_ring_5 : decode cX9_ring 5 = .ok (.ifCond .eq 9, 3) := by decide +kernel
theorem dX9_ring_8 : decode cX9_ring 8 = .ok (.aload_n 0, 1) := by decide +kernel
theorem dX9_ring_9 : decode cX9_ring 9 = .ok (.iconst 1, 1) := by decide +kernel
theorem dX9_ring_10 : decode cX9_ring 10 = .ok (.invokevirtual 58, 3) := by decide +kernel
theorem dX9_ring_13 : decode cX9_ring 13 = .ok (.ireturn, 1) := by decide +kernel
theorem dX9_ring_14 : decode cX9_ring 14 = .ok (.aload_n 0, 1) := by decide +kernel
theorem dX9_ring_15 : decode cX9_ring 15 = .ok (.getfield 25, 3) := by decide +kernel
theorem dX9_ring_18 : decode cX9_ring 18 = .ok (.aload_n 0, 1) := by decide +kernel
theorem dX9_ring_19 : decode cX9_ring 19 = .ok (.getfield 10, 3) := by decide +kernel
theorem dX9_ring_22 : decode cX9_ring 22 = .ok (.invokevirtual 207, 3) := by decide +kernel
theorem dX9_ring_25 : decode cX9_ring 25 = .ok (.aload_n 0, 1) := by decide +kernel
theorem dX9_ring_26 : decode cX9_ring 26 = .ok (.getfield 25, 3) := by decide +kernel
theorem dX9_ring_29 : decode cX9_ring 29 = .ok (.iload_n 1, 1) := by decide +kernel
theorem dX9_ring_30 : decode cX9_ring 30 = .ok (.invokevirtual 214, 3) := by decide +kernel
theorem dX9_ring_33 : decode cX9_ring 33 = .ok (.ireturn, 1) := by decide +kernel
theorem dX9_net_0 : decode cX9_net 0 = .ok (.iload_n 1, 1) := by decide +kernel
theorem dX9_net_1 : decode cX9_net 1 = .ok (.iconst 0, 1) := by decide +kernel
theorem dX9_net_2 : decode cX9_net 2 = .ok (.iconst 3, 1) := by decide +kernel
theorem dX9_net_3 : decode cX9_net 3 = .ok (.invokestatic 54, 3) := by decide +kernel
theorem dX9_net_6 : decode cX9_net 6 = .ok (.ifCond .eq 9, 3) := by decide +kernel
theorem dX9_net_9 : decode cX9_net 9 = .ok (.aload_n 0, 1) := by decide +kernel
theorem dX9_net_10 : decode cX9_net 10 = .ok (.iconst 1, 1) := by decide +kernel
theorem dX9_net_11 : decode cX9_net 11 = .ok (.invokevirtual 58, 3) := by decide +kernel
theorem dX9_net_14 : decode cX9_net 14 = .ok (.ireturn, 1) := by decide +kernel
theorem dX9_net_15 : decode cX9_net 15 = .ok (.aload_n 0, 1) := by decide +kernel
theorem dX9_net_16 : decode cX9_net 16 = .ok (.getfield 25, 3) := by decide +kernel
theorem dX9_net_19 : decode cX9_net 19 = .ok (.aload_n 0, 1) := by decide +kernel
theorem dX9_net_20 : decode cX9_net 20 = .ok (.getfield 10, 3) := by decide +kernel
theorem dX9_net_23 : decode cX9_net 23 = .ok (.invokevirtual 207, 3) := by decide +kernel
theorem dX9_net_26 : decode cX9_net 26 = .ok (.iload_n 1, 1) := by decide +kernel
theorem dX9_net_27 : decode cX9_net 27 = .ok (.tableswitch 49 0 2 #[25, 33, 41], 25) := by decide +kernel
theorem dX9_net_52 : decode cX9_net 52 = .ok (.aload_n 0, 1) := by decide +kernel
theorem dX9_net_53 : decode cX9_net 53 = .ok (.getfield 25, 3) := by decide +kernel
theorem dX9_net_56 : decode cX9_net 56 = .ok (.invokevirtual 217, 3) := by decide +kernel
theorem dX9_net_59 : decode cX9_net 59 = .ok (.ireturn, 1) := by decide +kernel
theorem dX9_net_60 : decode cX9_net 60 = .ok (.aload_n 0, 1) := by decide +kernel
theorem dX9_net_61 : decode cX9_net 61 = .ok (.getfield 25, 3) := by decide +kernel
theorem dX9_net_64 : decode cX9_net 64 = .ok (.invokevirtual 220, 3) := by decide +kernel
theorem dX9_net_67 : decode cX9_net 67 = .ok (.ireturn, 1) := by decide +kernel
theorem dX9_net_68 : decode cX9_net 68 = .ok (.aload_n 0, 1) := by decide +kernel
theorem dX9_net_69 : decode cX9_net 69 = .ok (.getfield 25, 3) := by decide +kernel
theorem dX9_net_72 : decode cX9_net 72 = .ok (.invokevirtual 223, 3) := by decide +kernel
theorem dX9_net_75 : decode cX9_net 75 = .ok (.ireturn, 1) := by decide +kernel
theorem dX9_net_76 : decode cX9_net 76 = .ok (.aload_n 0, 1) := by decide +kernel
theorem dX9_net_77 : decode cX9_net 77 = .ok (.getfield 25, 3) := by decide +kernel
theorem dX9_net_80 : decode cX9_net 80 = .ok (.invokevirtual 226, 3) := by decide +kernel
theorem dX9_net_83 : decode cX9_net 83 = .ok (.ireturn, 1) := by decide +kernel
theorem dX9_then_0 : decode cX9_then 0 = .ok (.iload_n 1, 1) := by decide +kernel
theorem dX9_then_1 : decode cX9_then 1 = .ok (.invokestatic 229, 3) := by decide +kernel
theorem dX9_then_4 : decode cX9_then 4 = .ok (.ifCond .ne 21, 3) := by decide +kernel
theorem dX9_then_7 : decode cX9_then 7 = .ok (.aload_n 0, 1) := by decide +kernel
theorem dX9_then_8 : decode cX9_then 8 = .ok (.iload_n 2, 1) := by decide +kernel
theorem dX9_then_9 : decode cX9_then 9 = .ok (.invokevirtual 84, 3) := by decide +kernel
theorem dX9_then_12 : decode cX9_then 12 = .ok (.ifCond .ne 13, 3) := by decide +kernel
theorem dX9_then_15 : decode cX9_then 15 = .ok (.iload_n 3, 1) := by decide +kernel
theorem dX9_then_16 : decode cX9_then 16 = .ok (.iconst 0, 1) := by decide +kernel
theorem dX9_then_17 : decode cX9_then 17 = .ok (.bipush 7, 2) := by decide +kernel
theorem dX9_then_19 : decode cX9_then 19 = .ok (.invokestatic 54, 3) := by decide +kernel
theorem dX9_then_22 : decode cX9_then 22 = .ok (.ifCond .eq 9, 3) := by decide +kernel
theorem dX9_then_25 : decode cX9_then 25 = .ok (.aload_n 0, 1) := by decide +kernel
theorem dX9_then_26 : decode cX9_then 26 = .ok (.iconst 1, 1) := by decide +kernel
theorem dX9_then_27 : decode cX9_then 27 = .ok (.invokevirtual 58, 3) := by decide +kernel
theorem dX9_then_30 : decode cX9_then 30 = .ok (.ireturn, 1) := by decide +kernel
theorem dX9_then_31 : decode cX9_then 31 = .ok (.aload_n 0, 1) := by decide +kernel
theorem dX9_then_32 : decode cX9_then 32 = .ok (.getfield 16, 3) := by decide +kernel
theorem dX9_then_35 : decode cX9_then 35 = .ok (.aload_n 0, 1) := by decide +kernel
theorem dX9_then_36 : decode cX9_then 36 = .ok (.getfield 10, 3) := by decide +kernel
theorem dX9_then_39 : decode cX9_then 39 = .ok (.invokevirtual 232, 3) := by decide +kernel
theorem dX9_then_42 : decode cX9_then 42 = .ok (.aload_n 0, 1) := by decide +kernel
theorem dX9_then_43 : decode cX9_then 43 = .ok (.getfield 16, 3) := by decide +kernel
theorem dX9_then_46 : decode cX9_then 46 = .ok (.iload_n 1, 1) := by decide +kernel
theorem dX9_then_47 : decode cX9_then 47 = .ok (.invokevirtual 192, 3) := by decide +kernel
theorem dX9_then_50 : decode cX9_then 50 = .ok (.aload_n 0, 1) := by decide +kernel
theorem dX9_then_51 : decode cX9_then 51 = .ok (.aload_n 0, 1) := by decide +kernel
theorem dX9_then_52 : decode cX9_then 52 = .ok (.getfield 16, 3) := by decide +kernel
theorem dX9_then_55 : decode cX9_then 55 = .ok (.iload_n 2, 1) := by decide +kernel
theorem dX9_then_56 : decode cX9_then 56 = .ok (.iload_n 3, 1) := by decide +kernel
theorem dX9_then_57 : decode cX9_then 57 = .ok (.invokevirtual 88, 3) := by decide +kernel
theorem dX9_then_60 : decode cX9_then 60 = .ok (.ireturn, 1) := by decide +kernel
theorem dX9_sorrow_0 : decode cX9_sorrow 0 = .ok (.iload_n 1, 1) := by decide +kernel
theorem dX9_sorrow_1 : decode cX9_sorrow 1 = .ok (.invokestatic 229, 3) := by decide +kernel
theorem dX9_sorrow_4 : decode cX9_sorrow 4 = .ok (.ifCond .eq 9, 3) := by decide +kernel
theorem dX9_sorrow_7 : decode cX9_sorrow 7 = .ok (.aload_n 0, 1) := by decide +kernel
theorem dX9_sorrow_8 : decode cX9_sorrow 8 = .ok (.iconst 1, 1) := by decide +kernel
theorem dX9_sorrow_9 : decode cX9_sorrow 9 = .ok (.invokevirtual 58, 3) := by decide +kernel
theorem dX9_sorrow_12 : decode cX9_sorrow 12 = .ok (.ireturn, 1) := by decide +kernel
theorem dX9_sorrow_13 : decode cX9_sorrow 13 = .ok (.aload_n 0, 1) := by decide +kernel
theorem dX9_sorrow_14 : decode cX9_sorrow 14 = .ok (.getfield 16, 3) := by decide +kernel
theorem dX9_sorrow_17 : decode cX9_sorrow 17 = .ok (.aload_n 0, 1) := by decide +kernel
theorem dX9_sorrow_18 : decode cX9_sorrow 18 = .ok (.getfield 10, 3) := by decide +kernel
theorem dX9_sorrow_21 : decode cX9_sorrow 21 = .ok (.invokevirtual 232, 3) := by decide +kernel
theorem dX9_sorrow_24 : decode cX9_sorrow 24 = .ok (.aload_n 0, 1) := by decide +kernel
theorem dX9_sorrow_25 : decode cX9_sorrow 25 = .ok (.getfield 16, 3) := by decide +kernel
theorem dX9_sorrow_28 : decode cX9_sorrow 28 = .ok (.iload_n 1, 1) := by decide +kernel
theorem dX9_sorrow_29 : decode cX9_sorrow 29 = .ok (.invokevirtual 192, 3) := by decide +kernel
theorem dX9_sorrow_32 : decode cX9_sorrow 32 = .ok (.aload_n 0, 1) := by decide +kernel
theorem dX9_sorrow_33 : decode cX9_sorrow 33 = .ok (.getfield 16, 3) := by decide +kernel
theorem dX9_sorrow_36 : decode cX9_sorrow 36 = .ok (.invokevirtual 195, 3) := by decide +kernel
theorem dX9_sorrow_39 : decode cX9_sorrow 39 = .ok (.ireturn, 1) := by decide +kernel
theorem dX9_word_0 : decode cX9_word 0 = .ok (.aload_n 0, 1) := by decide +kernel
theorem dX9_word_1 : decode cX9_word 1 = .ok (.iload_n 1, 1) := by decide +kernel
theorem dX9_word_2 : decode cX9_word 2 = .ok (.invokevirtual 84, 3) := by decide +kernel
theorem dX9_word_5 : decode cX9_word 5 = .ok (.ifCond .ne 10, 3) := by decide +kernel
theorem dX9_word_8 : decode cX9_word 8 = .ok (.iload_n 2, 1) := by decide +kernel
theorem dX9_word_9 : decode cX9_word 9 = .ok (.invokestatic 229, 3) := by decide +kernel
theorem dX9_word_12 : decode cX9_word 12 = .ok (.ifCond .eq 9, 3) := by decide +kernel
theorem dX9_word_15 : decode cX9_word 15 = .ok (.aload_n 0, 1) := by decide +kernel
theorem dX9_word_16 : decode cX9_word 16 = .ok (.iconst 1, 1) := by decide +kernel
theorem dX9_word_17 : decode cX9_word 17 = .ok (.invokevirtual 58, 3) := by decide +kernel
theorem dX9_word_20 : decode cX9_word 20 = .ok (.ireturn, 1) := by decide +kernel
theorem dX9_word_21 : decode cX9_word 21 = .ok (.aload_n 0, 1) := by decide +kernel
theorem dX9_word_22 : decode cX9_word 22 = .ok (.getfield 10, 3) := by decide +kernel
theorem dX9_word_25 : decode cX9_word 25 = .ok (.getfield 66, 3) := by decide +kernel
theorem dX9_word_28 : decode cX9_word 28 = .ok (.iload_n 1, 1) := by decide +kernel
theorem dX9_word_29 : decode cX9_word 29 = .ok (.aaload, 1) := by decide +kernel
theorem dX9_word_30 : decode cX9_word 30 = .ok (.getfield 128, 3) := by decide +kernel
theorem dX9_word_33 : decode cX9_word 33 = .ok (.iconst (-1), 1) := by decide +kernel
theorem dX9_word_34 : decode cX9_word 34 = .ok (.if_icmp .eq 9, 3) := by decide +kernel
theorem dX9_word_37 : decode cX9_word 37 = .ok (.aload_n 0, 1) := by decide +kernel
theorem dX9_word_38 : decode cX9_word 38 = .ok (.iconst 3, 1) := by decide +kernel
theorem dX9_word_39 : decode cX9_word 39 = .ok (.invokevirtual 58, 3) := by decide +kernel
theorem dX9_word_42 : decode cX9_word 42 = .ok (.ireturn, 1) := by decide +kernel
theorem dX9_word_43 : decode cX9_word 43 = .ok (.iconst (-1), 1) := by decide +kernel
theorem dX9_word_44 : decode cX9_word 44 = .ok (.istore_n 3, 1) := by decide +kernel
theorem dX9_word_45 : decode cX9_word 45 = .ok (.iconst 0, 1) := by decide +kernel
theorem dX9_word_46 : decode cX9_word 46 = .ok (.istore 4, 2) := by decide +kernel
theorem dX9_word_48 : decode cX9_word 48 = .ok (.iconst 0, 1) := by decide +kernel
theorem dX9_word_49 : decode cX9_word 49 = .ok (.istore 5, 2) := by decide +kernel
theorem dX9_word_51 : decode cX9_word 51 = .ok (.iconst 0, 1) := by decide +kernel
theorem dX9_word_52 : decode cX9_word 52 = .ok (.istore 6, 2) := by decide +kernel
theorem dX9_word_54 : decode cX9_word 54 = .ok (.iload 6, 2) := by decide +kernel
theorem dX9_word_56 : decode cX9_word 56 = .ok (.aload_n 0, 1) := by decide +kernel
theorem dX9_word_57 : decode cX9_word 57 = .ok (.getfield 10, 3) := by decide +kernel
theorem dX9_word_60 : decode cX9_word 60 = .ok (.getfield 62, 3) := by decide +kernel
theorem dX9_word_63 : decode cX9_word 63 = .ok (.if_icmp .ge 105, 3) := by decide +kernel
theorem dX9_word_66 : decode cX9_word 66 = .ok (.aload_n 0, 1) := by decide +kernel
theorem dX9_word_67 : decode cX9_word 67 = .ok (.getfield 10, 3) := by decide +kernel
theorem dX9_word_70 : decode cX9_word 70 = .ok (.getfield 66, 3) := by decide +kernel
theorem dX9_word_73 : decode cX9_word 73 = .ok (.iload 6, 2) := by decide +kernel
theorem dX9_word_75 : decode cX9_word 75 = .ok (.aaload, 1) := by decide +kernel
theorem dX9_word_76 : decode cX9_word 76 = .ok (.getfield 128, 3) := by decide +kernel
theorem dX9_word_79 : decode cX9_word 79 = .ok (.istore 7, 2) := by decide +kernel
theorem dX9_word_81 : decode cX9_word 81 = .ok (.iload 7, 2) := by decide +kernel
theorem dX9_word_83 : decode cX9_word 83 = .ok (.iconst (-1), 1) := by decide +kernel
theorem dX9_word_84 : decode cX9_word 84 = .ok (.if_icmp .eq 78, 3) := by decide +kernel
theorem dX9_word_87 : decode cX9_word 87 = .ok (.iload 5, 2) := by decide +kernel
theorem dX9_word_89 : decode cX9_word 89 = .ok (.iload 7, 2) := by decide +kernel
theorem dX9_word_91 : decode cX9_word 91 = .ok (.ishr, 1) := by decide +kernel
theorem dX9_word_92 : decode cX9_word 92 = .ok (.iconst 1, 1) := by decide +kernel
theorem dX9_word_93 : decode cX9_word 93 = .ok (.iand, 1) := by decide +kernel
theorem dX9_word_94 : decode cX9_word 94 = .ok (.ifCond .ne 68, 3) := by decide +kernel
theorem dX9_word_97 : decode cX9_word 97 = .ok (.iload 5, 2) := by decide +kernel
theorem dX9_word_99 : decode cX9_word 99 = .ok (.iconst 1, 1) := by decide +kernel
theorem dX9_word_100 : decode cX9_word 100 = .ok (.iload 7, 2) := by decide +kernel
theorem dX9_word_102 : decode cX9_word 102 = .ok (.ishl, 1) := by decide +kernel
theorem dX9_word_103 : decode cX9_word 103 = .ok (.ior, 1) := by decide +kernel
theorem dX9_word_104 : decode cX9_word 104 = .ok (.istore 5, 2) := by decide +kernel
theorem dX9_word_106 : decode cX9_word 106 = .ok (.aload_n 0, 1) := by decide +kernel
theorem dX9_word_107 : decode cX9_word 107 = .ok (.getfield 16, 3) := by decide +kernel
theorem dX9_word_110 : decode cX9_word 110 = .ok (.aload_n 0, 1) := by decide +kernel
theorem dX9_word_111 : decode cX9_word 111 = .ok (.getfield 10, 3) := by decide +kernel
theorem dX9_word_114 : decode cX9_word 114 = .ok (.invokevirtual 232, 3) := by decide +kernel
theorem dX9_word_117 : decode cX9_word 117 = .ok (.aload_n 0, 1) := by decide +kernel
theorem dX9_word_118 : decode cX9_word 118 = .ok (.getfield 16, 3) := by decide +kernel
theorem dX9_word_121 : decode cX9_word 121 = .ok (.iload_n 1, 1) := by decide +kernel
theorem dX9_word_122 : decode cX9_word 122 = .ok (.iload 7, 2) := by decide +kernel
theorem dX9_word_124 : decode cX9_word 124 = .ok (.invokevirtual 131, 3) := by decide +kernel
theorem dX9_word_127 : decode cX9_word 127 = .ok (.aload_n 0, 1) := by decide +kernel
theorem dX9_word_128 : decode cX9_word 128 = .ok (.getfield 16, 3) := by decide +kernel
theorem dX9_word_131 : decode cX9_word 131 = .ok (.iload_n 2, 1) := by decide +kernel
theorem dX9_word_132 : decode cX9_word 132 = .ok (.invokevirtual 192, 3) := by decide +kernel
theorem dX9_word_135 : decode cX9_word 135 = .ok (.aload_n 0, 1) := by decide +kernel
theorem dX9_word_136 : decode cX9_word 136 = .ok (.getfield 16, 3) := by decide +kernel
theorem dX9_word_139 : decode cX9_word 139 = .ok (.invokevirtual 195, 3) := by decide +kernel
theorem dX9_word_142 : decode cX9_word 142 = .ok (.istore 8, 2) := by decide +kernel
theorem dX9_word_144 : decode cX9_word 144 = .ok (.iload_n 3, 1) := by decide +kernel
theorem dX9_word_145 : decode cX9_word 145 = .ok (.ifCond .lt 10, 3) := by decide +kernel
theorem dX9_word_148 : decode cX9_word 148 = .ok (.iload 8, 2) := by decide +kernel
theorem dX9_word_150 : decode cX9_word 150 = .ok (.iload 4, 2) := by decide +kernel
theorem dX9_word_152 : decode cX9_word 152 = .ok (.if_icmp .ge 10, 3) := by decide +kernel
theorem dX9_word_155 : decode cX9_word 155 = .ok (.iload 6, 2) := by decide +kernel
theorem dX9_word_157 : decode cX9_word 157 = .ok (.istore_n 3, 1) := by decide +kernel
theorem dX9_word_158 : decode cX9_word 158 = .ok (.iload 8, 2) := by decide +kernel
theorem dX9_word_160 : decode cX9_word 160 = .ok (.istore 4, 2) := by decide +kernel
theorem dX9_word_162 : decode cX9_word 162 = .ok (.iinc 6 1, 3) := by decide +kernel
theorem dX9_word_165 : decode cX9_word 165 = .ok (.goto (-111), 3) := by decide +kernel
theorem dX9_word_168 : decode cX9_word 168 = .ok (.iload_n 3, 1) := by decide +kernel
theorem dX9_word_169 : decode cX9_word 169 = .ok (.ifCond .ge 11, 3) := by decide +kernel
theorem dX9_word_172 : decode cX9_word 172 = .ok (.aload_n 0, 1) := by decide +kernel
theorem dX9_word_173 : decode cX9_word 173 = .ok (.iconst 2, 1) := by decide +kernel
theorem dX9_word_174 : decode cX9_word 174 = .ok (.invokevirtual 58, 3) := by decide +kernel
theorem dX9_word_177 : decode cX9_word 177 = .ok (.goto 4, 3) := by decide +kernel
theorem dX9_word_180 : decode cX9_word 180 = .ok (.iload_n 3, 1) := by decide +kernel
theorem dX9_word_181 : decode cX9_word 181 = .ok (.ireturn, 1) := by decide +kernel
theorem dX9_teach_0 : decode cX9_teach 0 = .ok (.aload_n 0, 1) := by decide +kernel
theorem dX9_teach_1 : decode cX9_teach 1 = .ok (.iload_n 1, 1) := by decide +kernel
theorem dX9_teach_2 : decode cX9_teach 2 = .ok (.invokevirtual 84, 3) := by decide +kernel
theorem dX9_teach_5 : decode cX9_teach 5 = .ok (.ifCond .ne 10, 3) := by decide +kernel
theorem dX9_teach_8 : decode cX9_teach 8 = .ok (.iload_n 2, 1) := by decide +kernel
theorem dX9_teach_9 : decode cX9_teach 9 = .ok (.invokestatic 229, 3) := by decide +kernel
theorem dX9_teach_12 : decode cX9_teach 12 = .ok (.ifCond .eq 9, 3) := by decide +kernel
theorem dX9_teach_15 : decode cX9_teach 15 = .ok (.aload_n 0, 1) := by decide +kernel
theorem dX9_teach_16 : decode cX9_teach 16 = .ok (.iconst 1, 1) := by decide +kernel
theorem dX9_teach_17 : decode cX9_teach 17 = .ok (.invokevirtual 58, 3) := by decide +kernel
theorem dX9_teach_20 : decode cX9_teach 20 = .ok (.ireturn, 1) := by decide +kernel
theorem dX9_teach_21 : decode cX9_teach 21 = .ok (.iconst 0, 1) := by decide +kernel
theorem dX9_teach_22 : decode cX9_teach 22 = .ok (.istore_n 3, 1) := by decide +kernel
theorem dX9_teach_23 : decode cX9_teach 23 = .ok (.iconst 0, 1) := by decide +kernel
theorem dX9_teach_24 : decode cX9_teach 24 = .ok (.istore 4, 2) := by decide +kernel
theorem dX9_teach_26 : decode cX9_teach 26 = .ok (.iconst 0, 1) := by decide +kernel
theorem dX9_teach_27 : decode cX9_teach 27 = .ok (.istore 5, 2) := by decide +kernel
theorem dX9_teach_29 : decode cX9_teach 29 = .ok (.iload 5, 2) := by decide +kernel
theorem dX9_teach_31 : decode cX9_teach 31 = .ok (.bipush 7, 2) := by decide +kernel
theorem dX9_teach_33 : decode cX9_teach 33 = .ok (.if_icmp .ge 75, 3) := by decide +kernel
theorem dX9_teach_36 : decode cX9_teach 36 = .ok (.aload_n 0, 1) := by decide +kernel
theorem dX9_teach_37 : decode cX9_teach 37 = .ok (.getfield 16, 3) := by decide +kernel
theorem dX9_teach_40 : decode cX9_teach 40 = .ok (.aload_n 0, 1) := by decide +kernel
theorem dX9_teach_41 : decode cX9_teach 41 = .ok (.getfield 10, 3) := by decide +kernel
theorem dX9_teach_44 : decode cX9_teach 44 = .ok (.invokevirtual 232, 3) := by decide +kernel
theorem dX9_teach_47 : decode cX9_teach 47 = .ok (.aload_n 0, 1) := by decide +kernel
theorem dX9_teach_48 : decode cX9_teach 48 = .ok (.getfield 16, 3) := by decide +kernel
theorem dX9_teach_51 : decode cX9_teach 51 = .ok (.getfield 66, 3) := by decide +kernel
theorem dX9_teach_54 : decode cX9_teach 54 = .ok (.iload_n 1, 1) := by decide +kernel
theorem dX9_teach_55 : decode cX9_teach 55 = .ok (.aaload, 1) := by decide +kernel
theorem dX9_teach_56 : decode cX9_teach 56 = .ok (.iload 5, 2) := by decide +kernel
theorem dX9_teach_58 : decode cX9_teach 58 = .ok (.putfield 70, 3) := by decide +kernel
theorem dX9_teach_61 : decode cX9_teach 61 = .ok (.aload_n 0, 1) := by decide +kernel
theorem dX9_teach_62 : decode cX9_teach 62 = .ok (.getfield 16, 3) := by decide +kernel
theorem dX9_teach_65 : decode cX9_teach 65 = .ok (.iload_n 2, 1) := by decide +kernel
theorem dX9_teach_66 : decode cX9_teach 66 = .ok (.invokevirtual 192, 3) := by decide +kernel
theorem dX9_teach_69 : decode cX9_teach 69 = .ok (.aload_n 0, 1) := by decide +kernel
theorem dX9_teach_70 : decode cX9_teach 70 = .ok (.getfield 16, 3) := by decide +kernel
theorem dX9_teach_73 : decode cX9_teach 73 = .ok (.getfield 66, 3) := by decide +kernel
theorem dX9_teach_76 : decode cX9_teach 76 = .ok (.iload_n 1, 1) := by decide +kernel
theorem dX9_teach_77 : decode cX9_teach 77 = .ok (.aaload, 1) := by decide +kernel
theorem dX9_teach_78 : decode cX9_teach 78 = .ok (.getfield 234, 3) := by decide +kernel
theorem dX9_teach_81 : decode cX9_teach 81 = .ok (.istore 6, 2) := by decide +kernel
theorem dX9_teach_83 : decode cX9_teach 83 = .ok (.iload 5, 2) := by decide +kernel
theorem dX9_teach_85 : decode cX9_teach 85 = .ok (.ifCond .eq 10, 3) := by decide +kernel
theorem dX9_teach_88 : decode cX9_teach 88 = .ok (.iload 6, 2) := by decide +kernel
theorem dX9_teach_90 : decode cX9_teach 90 = .ok (.iload 4, 2) := by decide +kernel
theorem dX9_teach_92 : decode cX9_teach 92 = .ok (.if_icmp .ge 10, 3) := by decide +kernel
theorem dX9_teach_95 : decode cX9_teach 95 = .ok (.iload 5, 2) := by decide +kernel
theorem dX9_teach_97 : decode cX9_teach 97 = .ok (.istore_n 3, 1) := by decide +kernel
theorem dX9_teach_98 : decode cX9_teach 98 = .ok (.iload 6, 2) := by decide +kernel
theorem dX9_teach_100 : decode cX9_teach 100 = .ok (.istore 4, 2) := by decide +kernel
theorem dX9_teach_102 : decode cX9_teach 102 = .ok (.iinc 5 1, 3) := by decide +kernel
theorem dX9_teach_105 : decode cX9_teach 105 = .ok (.goto (-76), 3) := by decide +kernel
theorem dX9_teach_108 : decode cX9_teach 108 = .ok (.iload_n 3, 1) := by decide +kernel
theorem dX9_teach_109 : decode cX9_teach 109 = .ok (.ireturn, 1) := by decide +kernel
theorem dX9_classes_0 : decode cX9_classes 0 = .ok (.iload_n 1, 1) := by decide +kernel
theorem dX9_classes_1 : decode cX9_classes 1 = .ok (.iconst 0, 1) := by decide +kernel
theorem dX9_classes_2 : decode cX9_classes 2 = .ok (.iconst 1, 1) := by decide +kernel
theorem dX9_classes_3 : decode cX9_classes 3 = .ok (.invokestatic 54, 3) := by decide +kernel
theorem dX9_classes_6 : decode cX9_classes 6 = .ok (.ifCond .eq 9, 3) := by decide +kernel
theorem dX9_classes_9 : decode cX9_classes 9 = .ok (.aload_n 0, 1) := by decide +kernel
theorem dX9_classes_10 : decode cX9_classes 10 = .ok (.iconst 1, 1) := by decide +kernel
theorem dX9_classes_11 : decode cX9_classes 11 = .ok (.invokevirtual 58, 3) := by decide +kernel
theorem dX9_classes_14 : decode cX9_classes 14 = .ok (.ireturn, 1) := by decide +kernel
theorem dX9_classes_15 : decode cX9_classes 15 = .ok (.aload_n 0, 1) := by decide +kernel
theorem dX9_classes_16 : decode cX9_classes 16 = .ok (.getfield 10, 3) := by decide +kernel
theorem dX9_classes_19 : decode cX9_classes 19 = .ok (.getfield 62, 3) := by decide +kernel
theorem dX9_classes_22 : decode cX9_classes 22 = .ok (.iconst 2, 1) := by decide +kernel
theorem dX9_classes_23 : decode cX9_classes 23 = .ok (.if_icmp .ge 9, 3) := by decide +kernel
theorem dX9_classes_26 : decode cX9_classes 26 = .ok (.aload_n 0, 1) := by decide +kernel
theorem dX9_classes_27 : decode cX9_classes 27 = .ok (.iconst 2, 1) := by decide +kernel
theorem dX9_classes_28 : decode cX9_classes 28 = .ok (.invokevirtual 58, 3) := by decide +kernel
theorem dX9_classes_31 : decode cX9_classes 31 = .ok (.ireturn, 1) := by decide +kernel
theorem dX9_classes_32 : decode cX9_classes 32 = .ok (.aload_n 0, 1) := by decide +kernel
theorem dX9_classes_33 : decode cX9_classes 33 = .ok (.getfield 25, 3) := by decide +kernel
theorem dX9_classes_36 : decode cX9_classes 36 = .ok (.aload_n 0, 1) := by decide +kernel
theorem dX9_classes_37 : decode cX9_classes 37 = .ok (.getfield 10, 3) := by decide +kernel
theorem dX9_classes_40 : decode cX9_classes 40 = .ok (.invokevirtual 207, 3) := by decide +kernel
theorem dX9_classes_43 : decode cX9_classes 43 = .ok (.aload_n 0, 1) := by decide +kernel
theorem dX9_classes_44 : decode cX9_classes 44 = .ok (.getfield 25, 3) := by decide +kernel
theorem dX9_classes_47 : decode cX9_classes 47 = .ok (.invokevirtual 237, 3) := by decide +kernel
theorem dX9_classes_50 : decode cX9_classes 50 = .ok (.istore_n 2, 1) := by decide +kernel
theorem dX9_classes_51 : decode cX9_classes 51 = .ok (.iload_n 1, 1) := by decide +kernel
theorem dX9_classes_52 : decode cX9_classes 52 = .ok (.ifCond .ne 7, 3) := by decide +kernel
theorem dX9_classes_55 : decode cX9_classes 55 = .ok (.iload_n 2, 1) := by decide +kernel
theorem dX9_classes_56 : decode cX9_classes 56 = .ok (.goto 11, 3) := by decide +kernel
theorem dX9_classes_59 : decode cX9_classes 59 = .ok (.aload_n 0, 1) := by decide +kernel
theorem dX9_classes_60 : decode cX9_classes 60 = .ok (.getfield 25, 3) := by decide +kernel
theorem dX9_classes_63 : decode cX9_classes 63 = .ok (.iload_n 2, 1) := by decide +kernel
theorem dX9_classes_64 : decode cX9_classes 64 = .ok (.invokevirtual 240, 3) := by decide +kernel
theorem dX9_classes_67 : decode cX9_classes 67 = .ok (.ireturn, 1) := by decide +kernel
theorem dX9_best_0 : decode cX9_best 0 = .ok (.aload_n 0, 1) := by decide +kernel
theorem dX9_best_1 : decode cX9_best 1 = .ok (.iload_n 1, 1) := by decide +kernel
theorem dX9_best_2 : decode cX9_best 2 = .ok (.invokevirtual 84, 3) := by decide +kernel
theorem dX9_best_5 : decode cX9_best 5 = .ok (.ifCond .eq 9, 3) := by decide +kernel
theorem dX9_best_8 : decode cX9_best 8 = .ok (.aload_n 0, 1) := by decide +kernel
theorem dX9_best_9 : decode cX9_best 9 = .ok (.iconst 1, 1) := by decide +kernel
theorem dX9_best_10 : decode cX9_best 10 = .ok (.invokevirtual 58, 3) := by decide +kernel
theorem dX9_best_13 : decode cX9_best 13 = .ok (.ireturn, 1) := by decide +kernel
theorem dX9_best_14 : decode cX9_best 14 = .ok (.aload_n 0, 1) := by decide +kernel
theorem dX9_best_15 : decode cX9_best 15 = .ok (.getfield 10, 3) := by decide +kernel
theorem dX9_best_18 : decode cX9_best 18 = .ok (.getfield 101, 3) := by decide +kernel
theorem dX9_best_21 : decode cX9_best 21 = .ok (.ifCond .ne 9, 3) := by decide +kernel
theorem dX9_best_24 : decode cX9_best 24 = .ok (.aload_n 0, 1) := by decide +kernel
theorem dX9_best_25 : decode cX9_best 25 = .ok (.iconst 2, 1) := by decide +kernel
theorem dX9_best_26 : decode cX9_best 26 = .ok (.invokevirtual 58, 3) := by decide +kernel
theorem dX9_best_29 : decode cX9_best 29 = .ok (.ireturn, 1) := by decide +kernel
theorem dX9_best_30 : decode cX9_best 30 = .ok (.aload_n 0, 1) := by decide +kernel
theorem dX9_best_31 : decode cX9_best 31 = .ok (.getfield 10, 3) := by decide +kernel
theorem dX9_best_34 : decode cX9_best 34 = .ok (.iload_n 1, 1) := by decide +kernel
theorem dX9_best_35 : decode cX9_best 35 = .ok (.invokevirtual 243, 3) := by decide +kernel
theorem dX9_best_38 : decode cX9_best 38 = .ok (.ireturn, 1) := by decide +kernel
theorem dX9_voice_0 : decode cX9_voice 0 = .ok (.aload_n 0, 1) := by decide +kernel
theorem dX9_voice_1 : decode cX9_voice 1 = .ok (.iload_n 1, 1) := by decide +kernel
theorem dX9_voice_2 : decode cX9_voice 2 = .ok (.invokevirtual 84, 3) := by decide +kernel
theorem dX9_voice_5 : decode cX9_voice 5 = .ok (.ifCond .ne 12, 3) := by decide +kernel
theorem dX9_voice_8 : decode cX9_voice 8 = .ok (.iload_n 2, 1) := by decide +kernel
theorem dX9_voice_9 : decode cX9_voice 9 = .ok (.iconst 0, 1) := by decide +kernel
theorem dX9_voice_10 : decode cX9_voice 10 = .ok (.iconst 3, 1) := by decide +kernel
theorem dX9_voice_11 : decode cX9_voice 11 = .ok (.invokestatic 54, 3) := by decide +kernel
theorem dX9_voice_14 : decode cX9_voice 14 = .ok (.ifCond .eq 9, 3) := by decide +kernel
theorem dX9_voice_17 : decode cX9_voice 17 = .ok (.aload_n 0, 1) := by decide +kernel
theorem dX9_voice_18 : decode cX9_voice 18 = .ok (.iconst 1, 1) := by decide +kernel
theorem dX9_voice_19 : decode cX9_voice 19 = .ok (.invokevirtual 58, 3) := by decide +kernel
theorem dX9_voice_22 : decode cX9_voice 22 = .ok (.ireturn, 1) := by decide +kernel
theorem dX9_voice_23 : decode cX9_voice 23 = .ok (.aload_n 0, 1) := by decide +kernel
theorem dX9_voice_24 : decode cX9_voice 24 = .ok (.getfield 39, 3) := by decide +kernel
theorem dX9_voice_27 : decode cX9_voice 27 = .ok (.iload_n 1, 1) := by decide +kernel
theorem dX9_voice_28 : decode cX9_voice 28 = .ok (.aload_n 0, 1) := by decide +kernel
theorem dX9_voice_29 : decode cX9_voice 29 = .ok (.getfield 10, 3) := by decide +kernel
theorem dX9_voice_32 : decode cX9_voice 32 = .ok (.getfield 66, 3) := by decide +kernel
theorem dX9_voice_35 : decode cX9_voice 35 = .ok (.iload_n 1, 1) := by decide +kernel
theorem dX9_voice_36 : decode cX9_voice 36 = .ok (.aaload, 1) := by decide +kernel
theorem dX9_voice_37 : decode cX9_voice 37 = .ok (.iload_n 2, 1) := by decide +kernel
theorem dX9_voice_38 : decode cX9_voice 38 = .ok (.iload_n 3, 1) := by decide +kernel
theorem dX9_voice_39 : decode cX9_voice 39 = .ok (.invokevirtual 246, 3) := by decide +kernel
theorem dX9_voice_42 : decode cX9_voice 42 = .ok (.istore 4, 2) := by decide +kernel
theorem dX9_voice_44 : decode cX9_voice 44 = .ok (.aload_n 0, 1) := by decide +kernel
theorem dX9_voice_45 : decode cX9_voice 45 = .ok (.getfield 39, 3) := by decide +kernel
theorem dX9_voice_48 : decode cX9_voice 48 = .ok (.getfield 250, 3) := by decide +kernel
theorem dX9_voice_51 : decode cX9_voice 51 = .ok (.ifCond .eq 12, 3) := by decide +kernel
theorem dX9_voice_54 : decode cX9_voice 54 = .ok (.aload_n 0, 1) := by decide +kernel
theorem dX9_voice_55 : decode cX9_voice 55 = .ok (.bipush 6, 2) := by decide +kernel
theorem dX9_voice_57 : decode cX9_voice 57 = .ok (.invokevirtual 58, 3) := by decide +kernel
theorem dX9_voice_60 : decode cX9_voice 60 = .ok (.goto 5, 3) := by decide +kernel
theorem dX9_voice_63 : decode cX9_voice 63 = .ok (.iload 4, 2) := by decide +kernel
theorem dX9_voice_65 : decode cX9_voice 65 = .ok (.ireturn, 1) := by decide +kernel
theorem dX9_body_0 : decode cX9_body 0 = .ok (.iload_n 1, 1) := by decide +kernel
theorem dX9_body_1 : decode cX9_body 1 = .ok (.iconst 0, 1) := by decide +kernel
theorem dX9_body_2 : decode cX9_body 2 = .ok (.aload_n 0, 1) := by decide +kernel
theorem dX9_body_3 : decode cX9_body 3 = .ok (.getfield 39, 3) := by decide +kernel
theorem dX9_body_6 : decode cX9_body 6 = .ok (.getfield 254, 3) := by decide +kernel
theorem dX9_body_9 : decode cX9_body 9 = .ok (.getfield 153, 3) := by decide +kernel
theorem dX9_body_12 : decode cX9_body 12 = .ok (.iconst 1, 1) := by decide +kernel
theorem dX9_body_13 : decode cX9_body 13 = .ok (.isub, 1) := by decide +kernel
theorem dX9_body_14 : decode cX9_body 14 = .ok (.invokestatic 54, 3) := by decide +kernel
theorem dX9_body_17 : decode cX9_body 17 = .ok (.ifCond .eq 9, 3) := by decide +kernel
theorem dX9_body_20 : decode cX9_body 20 = .ok (.aload_n 0, 1) := by decide +kernel
theorem dX9_body_21 : decode cX9_body 21 = .ok (.iconst 2, 1) := by decide +kernel
theorem dX9_body_22 : decode cX9_body 22 = .ok (.invokevirtual 58, 3) := by decide +kernel
theorem dX9_body_25 : decode cX9_body 25 = .ok (.ireturn, 1) := by decide +kernel
theorem dX9_body_26 : decode cX9_body 26 = .ok (.aload_n 0, 1) := by decide +kernel
theorem dX9_body_27 : decode cX9_body 27 = .ok (.getfield 39, 3) := by decide +kernel
theorem dX9_body_30 : decode cX9_body 30 = .ok (.getfield 254, 3) := by decide +kernel
theorem dX9_body_33 : decode cX9_body 33 = .ok (.getfield 257, 3) := by decide +kernel
theorem dX9_body_36 : decode cX9_body 36 = .ok (.iload_n 1, 1) := by decide +kernel
theorem dX9_body_37 : decode cX9_body 37 = .ok (.iaload, 1) := by decide +kernel
theorem dX9_body_38 : decode cX9_body 38 = .ok (.ireturn, 1) := by decide +kernel
theorem dX9_sheet_0 : decode cX9_sheet 0 = .ok (.iload_n 1, 1) := by decide +kernel
theorem dX9_sheet_1 : decode cX9_sheet 1 = .ok (.invokestatic 260, 3) := by decide +kernel
theorem dX9_sheet_4 : decode cX9_sheet 4 = .ok (.ifCond .ne 25, 3) := by decide +kernel
theorem dX9_sheet_7 : decode cX9_sheet 7 = .ok (.iload_n 2, 1) := by decide +kernel
theorem dX9_sheet_8 : decode cX9_sheet 8 = .ok (.ifCond .eq 27, 3) := by decide +kernel
theorem dX9_sheet_11 : decode cX9_sheet 11 = .ok (.iload_n 2, 1) := by decide +kernel
theorem dX9_sheet_12 : decode cX9_sheet 12 = .ok (.bipush 8, 2) := by decide +kernel
theorem dX9_sheet_14 : decode cX9_sheet 14 = .ok (.if_icmp .eq 21, 3) := by decide +kernel
theorem dX9_sheet_17 : decode cX9_sheet 17 = .ok (.iload_n 2, 1) := by decide +kernel
theorem dX9_sheet_18 : decode cX9_sheet 18 = .ok (.bipush 16, 2) := by decide +kernel
theorem dX9_sheet_20 : decode cX9_sheet 20 = .ok (.if_icmp .eq 15, 3) := by decide +kernel
theorem dX9_sheet_23 : decode cX9_sheet 23 = .ok (.iload_n 2, 1) := by decide +kernel
theorem dX9_sheet_24 : decode cX9_sheet 24 = .ok (.bipush 32, 2) := by decide +kernel
theorem dX9_sheet_26 : decode cX9_sheet 26 = .ok (.if_icmp .eq 9, 3) := by decide +kernel
theorem dX9_sheet_29 : decode cX9_sheet 29 = .ok (.aload_n 0, 1) := by decide +kernel
theorem dX9_sheet_30 : decode cX9_sheet 30 = .ok (.iconst 1, 1) := by decide +kernel
theorem dX9_sheet_31 : decode cX9_sheet 31 = .ok (.invokevirtual 58, 3) := by decide +kernel
theorem dX9_sheet_34 : decode cX9_sheet 34 = .ok (.ireturn, 1) := by decide +kernel
theorem dX9_sheet_35 : decode cX9_sheet 35 = .ok (.iload_n 2, 1) := by decide +kernel
theorem dX9_sheet_36 : decode cX9_sheet 36 = .ok (.ifCond .ne 16, 3) := by decide +kernel
theorem dX9_sheet_39 : decode cX9_sheet 39 = .ok (.aload_n 0, 1) := by decide +kernel
theorem dX9_sheet_40 : decode cX9_sheet 40 = .ok (.getfield 45, 3) := by decide +kernel
theorem dX9_sheet_43 : decode cX9_sheet 43 = .ok (.iload_n 1, 1) := by decide +kernel
theorem dX9_sheet_44 : decode cX9_sheet 44 = .ok (.aaload, 1) := by decide +kernel
theorem dX9_sheet_45 : decode cX9_sheet 45 = .ok (.iconst 0, 1) := by decide +kernel
theorem dX9_sheet_46 : decode cX9_sheet 46 = .ok (.iconst 0, 1) := by decide +kernel
theorem dX9_sheet_47 : decode cX9_sheet 47 = .ok (.invokevirtual 263, 3) := by decide +kernel
theorem dX9_sheet_50 : decode cX9_sheet 50 = .ok (.iconst 1, 1) := by decide +kernel
theorem dX9_sheet_51 : decode cX9_sheet 51 = .ok (.ireturn, 1) := by decide +kernel
theorem dX9_sheet_52 : decode cX9_sheet 52 = .ok (.iload_n 3, 1) := by decide +kernel
theorem dX9_sheet_53 : decode cX9_sheet 53 = .ok (.ifCond .ge 9, 3) := by decide +kernel
theorem dX9_sheet_56 : decode cX9_sheet 56 = .ok (.aload_n 0, 1) := by decide +kernel
theorem dX9_sheet_57 : decode cX9_sheet 57 = .ok (.iconst 3, 1) := by decide +kernel
theorem dX9_sheet_58 : decode cX9_sheet 58 = .ok (.invokevirtual 58, 3) := by decide +kernel
theorem dX9_sheet_61 : decode cX9_sheet 61 = .ok (.ireturn, 1) := by decide +kernel
theorem dX9_sheet_62 : decode cX9_sheet 62 = .ok (.iload_n 3, 1) := by decide +kernel
theorem dX9_sheet_63 : decode cX9_sheet 63 = .ok (.bipush 24, 2) := by decide +kernel
theorem dX9_sheet_65 : decode cX9_sheet 65 = .ok (.if_icmp .le 9, 3) := by decide +kernel
theorem dX9_sheet_68 : decode cX9_sheet 68 = .ok (.aload_n 0, 1) := by decide +kernel
theorem dX9_sheet_69 : decode cX9_sheet 69 = .ok (.iconst 1, 1) := by decide +kernel
theorem dX9_sheet_70 : decode cX9_sheet 70 = .ok (.invokevirtual 58, 3) := by decide +kernel
theorem dX9_sheet_73 : decode cX9_sheet 73 = .ok (.ireturn, 1) := by decide +kernel
theorem dX9_sheet_74 : decode cX9_sheet 74 = .ok (.aload_n 0, 1) := by decide +kernel
theorem dX9_sheet_75 : decode cX9_sheet 75 = .ok (.getfield 45, 3) := by decide +kernel
theorem dX9_sheet_78 : decode cX9_sheet 78 = .ok (.iload_n 1, 1) := by decide +kernel
theorem dX9_sheet_79 : decode cX9_sheet 79 = .ok (.aaload, 1) := by decide +kernel
theorem dX9_sheet_80 : decode cX9_sheet 80 = .ok (.iload_n 2, 1) := by decide +kernel
theorem dX9_sheet_81 : decode cX9_sheet 81 = .ok (.iload_n 3, 1) := by decide +kernel
theorem dX9_sheet_82 : decode cX9_sheet 82 = .ok (.invokevirtual 263, 3) := by decide +kernel
theorem dX9_sheet_85 : decode cX9_sheet 85 = .ok (.iconst 1, 1) := by decide +kernel
theorem dX9_sheet_86 : decode cX9_sheet 86 = .ok (.ireturn, 1) := by decide +kernel
theorem dX9_put_0 : decode cX9_put 0 = .ok (.iload_n 1, 1) := by decide +kernel
theorem dX9_put_1 : decode cX9_put 1 = .ok (.invokestatic 260, 3) := by decide +kernel
theorem dX9_put_4 : decode cX9_put 4 = .ok (.ifCond .eq 9, 3) := by decide +kernel
theorem dX9_put_7 : decode cX9_put 7 = .ok (.aload_n 0, 1) := by decide +kernel
theorem dX9_put_8 : decode cX9_put 8 = .ok (.iconst 1, 1) := by decide +kernel
theorem dX9_put_9 : decode cX9_put 9 = .ok (.invokevirtual 58, 3) := by decide +kernel
theorem dX9_put_12 : decode cX9_put 12 = .ok (.ireturn, 1) := by decide +kernel
theorem dX9_put_13 : decode cX9_put 13 = .ok (.aload_n 0, 1) := by decide +kernel
theorem dX9_put_14 : decode cX9_put 14 = .ok (.getfield 45, 3) := by decide +kernel
theorem dX9_put_17 : decode cX9_put 17 = .ok (.iload_n 1, 1) := by decide +kernel
theorem dX9_put_18 : decode cX9_put 18 = .ok (.aaload, 1) := by decide +kernel
theorem dX9_put_19 : decode cX9_put 19 = .ok (.astore 4, 2) := by decide +kernel
theorem dX9_put_21 : decode cX9_put 21 = .ok (.aload 4, 2) := by decide +kernel
theorem dX9_put_23 : decode cX9_put 23 = .ok (.invokevirtual 266, 3) := by decide +kernel
theorem dX9_put_26 : decode cX9_put 26 = .ok (.ifCond .eq 9, 3) := by decide +kernel
theorem dX9_put_29 : decode cX9_put 29 = .ok (.aload_n 0, 1) := by decide +kernel
theorem dX9_put_30 : decode cX9_put 30 = .ok (.iconst 2, 1) := by decide +kernel
theorem dX9_put_31 : decode cX9_put 31 = .ok (.invokevirtual 58, 3) := by decide +kernel
theorem dX9_put_34 : decode cX9_put 34 = .ok (.ireturn, 1) := by decide +kernel
theorem dX9_put_35 : decode cX9_put 35 = .ok (.iload_n 2, 1) := by decide +kernel
theorem dX9_put_36 : decode cX9_put 36 = .ok (.iconst 0, 1) := by decide +kernel
theorem dX9_put_37 : decode cX9_put 37 = .ok (.aload 4, 2) := by decide +kernel
theorem dX9_put_39 : decode cX9_put 39 = .ok (.getfield 269, 3) := by decide +kernel
theorem dX9_put_42 : decode cX9_put 42 = .ok (.iconst 1, 1) := by decide +kernel
theorem dX9_put_43 : decode cX9_put 43 = .ok (.isub, 1) := by decide +kernel
theorem dX9_put_44 : decode cX9_put 44 = .ok (.invokestatic 54, 3) := by decide +kernel
theorem dX9_put_47 : decode cX9_put 47 = .ok (.ifCond .eq 9, 3) := by decide +kernel
theorem dX9_put_50 : decode cX9_put 50 = .ok (.aload_n 0, 1) := by decide +kernel
theorem dX9_put_51 : decode cX9_put 51 = .ok (.iconst 1, 1) := by decide +kernel
theorem dX9_put_52 : decode cX9_put 52 = .ok (.invokevirtual 58, 3) := by decide +kernel
theorem dX9_put_55 : decode cX9_put 55 = .ok (.ireturn, 1) := by decide +kernel
theorem dX9_put_56 : decode cX9_put 56 = .ok (.aload 4, 2) := by decide +kernel
theorem dX9_put_58 : decode cX9_put 58 = .ok (.iload_n 2, 1) := by decide +kernel
theorem dX9_put_59 : decode cX9_put 59 = .ok (.iload_n 3, 1) := by decide +kernel
theorem dX9_put_60 : decode cX9_put 60 = .ok (.invokevirtual 270, 3) := by decide +kernel
theorem dX9_put_63 : decode cX9_put 63 = .ok (.iconst 1, 1) := by decide +kernel
theorem dX9_put_64 : decode cX9_put 64 = .ok (.ireturn, 1) := by decide +kernel
theorem dX9_move_0 : decode cX9_move 0 = .ok (.iload_n 1, 1) := by decide +kernel
theorem dX9_move_1 : decode cX9_move 1 = .ok (.invokestatic 260, 3) := by decide +kernel
theorem dX9_move_4 : decode cX9_move 4 = .ok (.ifCond .ne 10, 3) := by decide +kernel
theorem dX9_move_7 : decode cX9_move 7 = .ok (.iload_n 3, 1) := by decide +kernel
theorem dX9_move_8 : decode cX9_move 8 = .ok (.invokestatic 260, 3) := by decide +kernel
theorem dX9_move_11 : decode cX9_move 11 = .ok (.ifCond .eq 9, 3) := by decide +kernel
theorem dX9_move_14 : decode cX9_move 14 = .ok (.aload_n 0, 1) := by decide +kernel
theorem dX9_move_15 : decode cX9_move 15 = .ok (.iconst 1, 1) := by decide +kernel
theorem dX9_move_16 : decode cX9_move 16 = .ok (.invokevirtual 58, 3) := by decide +kernel
theorem dX9_move_19 : decode cX9_move 19 = .ok (.ireturn, 1) := by decide +kernel
theorem dX9_move_20 : decode cX9_move 20 = .ok (.aload_n 0, 1) := by decide +kernel
theorem dX9_move_21 : decode cX9_move 21 = .ok (.getfield 45, 3) := by decide +kernel
theorem dX9_move_24 : decode cX9_move 24 = .ok (.iload_n 1, 1) := by decide +kernel
theorem dX9_move_25 : decode cX9_move 25 = .ok (.aaload, 1) := by decide +kernel
theorem dX9_move_26 : decode cX9_move 26 = .ok (.astore 6, 2) := by decide +kernel
theorem dX9_move_28 : decode cX9_move 28 = .ok (.aload_n 0, 1) := by decide +kernel
theorem dX9_move_29 : decode cX9_move 29 = .ok (.getfield 45, 3) := by decide +kernel
theorem dX9_move_32 : decode cX9_move 32 = .ok (.iload_n 3, 1) := by decide +kernel
theorem dX9_move_33 : decode cX9_move 33 = .ok (.aaload, 1) := by decide +kernel
theorem dX9_move_34 : decode cX9_move 34 = .ok (.astore 7, 2) := by decide +kernel
theorem dX9_move_36 : decode cX9_move 36 = .ok (.aload 6, 2) := by decide +kernel
theorem dX9_move_38 : decode cX9_move 38 = .ok (.invokevirtual 266, 3) := by decide +kernel
theorem dX9_move_41 : decode cX9_move 41 = .ok (.ifCond .ne 11, 3) := by decide +kernel
theorem dX9_move_44 : decode cX9_move 44 = .ok (.aload 7, 2) := by decide +kernel
theorem dX9_move_46 : decode cX9_move 46 = .ok (.invokevirtual 266, 3) := by decide +kernel
theorem dX9_move_49 : decode cX9_move 49 = .ok (.ifCond .eq 9, 3) := by decide +kernel
theorem dX9_move_52 : decode cX9_move 52 = .ok (.aload_n 0, 1) := by decide +kernel
theorem dX9_move_53 : decode cX9_move 53 = .ok (.iconst 2, 1) := by decide +kernel
theorem dX9_move_54 : decode cX9_move 54 = .ok (.invokevirtual 58, 3) := by decide +kernel
theorem dX9_move_57 : decode cX9_move 57 = .ok (.ireturn, 1) := by decide +kernel
theorem dX9_move_58 : decode cX9_move 58 = .ok (.aload 6, 2) := by decide +kernel
theorem dX9_move_60 : decode cX9_move 60 = .ok (.getfield 273, 3) := by decide +kernel
theorem dX9_move_63 : decode cX9_move 63 = .ok (.aload 7, 2) := by decide +kernel
theorem dX9_move_65 : decode cX9_move 65 = .ok (.getfield 273, 3) := by decide +kernel
theorem dX9_move_68 : decode cX9_move 68 = .ok (.if_icmp .eq 9, 3) := by decide +kernel
theorem dX9_move_71 : decode cX9_move 71 = .ok (.aload_n 0, 1) := by decide +kernel
theorem dX9_move_72 : decode cX9_move 72 = .ok (.iconst 5, 1) := by decide +kernel
theorem dX9_move_73 : decode cX9_move 73 = .ok (.invokevirtual 58, 3) := by decide +kernel
theorem dX9_move_76 : decode cX9_move 76 = .ok (.ireturn, 1) := by decide +kernel
theorem dX9_move_77 : decode cX9_move 77 = .ok (.aload 6, 2) := by decide +kernel
theorem dX9_move_79 : decode cX9_move 79 = .ok (.iload_n 2, 1) := by decide +kernel
theorem dX9_move_80 : decode cX9_move 80 = .ok (.iload 5, 2) := by decide +kernel
theorem dX9_move_82 : decode cX9_move 82 = .ok (.invokevirtual 276, 3) := by decide +kernel
theorem dX9_move_85 : decode cX9_move 85 = .ok (.ifCond .eq 15, 3) := by decide +kernel
theorem dX9_move_88 : decode cX9_move 88 = .ok (.aload 7, 2) := by decide +kernel
theorem dX9_move_90 : decode cX9_move 90 = .ok (.iload 4, 2) := by decide +kernel
theorem dX9_move_92 : decode cX9_move 92 = .ok (.iload 5, 2) := by decide +kernel
theorem dX9_move_94 : decode cX9_move 94 = .ok (.invokevirtual 276, 3) := by decide +kernel
theorem dX9_move_97 : decode cX9_move 97 = .ok (.ifCond .ne 9, 3) := by decide +kernel
theorem dX9_move_100 : decode cX9_move 100 = .ok (.aload_n 0, 1) := by decide +kernel
theorem dX9_move_101 : decode cX9_move 101 = .ok (.iconst 1, 1) := by decide +kernel
theorem dX9_move_102 : decode cX9_move 102 = .ok (.invokevirtual 58, 3) := by decide +kernel
theorem dX9_move_105 : decode cX9_move 105 = .ok (.ireturn, 1) := by decide +kernel
theorem dX9_move_106 : decode cX9_move 106 = .ok (.aload 6, 2) := by decide +kernel
theorem dX9_move_108 : decode cX9_move 108 = .ok (.getfield 280, 3) := by decide +kernel
theorem dX9_move_111 : decode cX9_move 111 = .ok (.iload_n 2, 1) := by decide +kernel
theorem dX9_move_112 : decode cX9_move 112 = .ok (.aload 7, 2) := by decide +kernel
theorem dX9_move_114 : decode cX9_move 114 = .ok (.getfield 280, 3) := by decide +kernel
theorem dX9_move_117 : decode cX9_move 117 = .ok (.iload 4, 2) := by decide +kernel
theorem dX9_move_119 : decode cX9_move 119 = .ok (.iload 5, 2) := by decide +kernel
theorem dX9_move_121 : decode cX9_move 121 = .ok (.invokestatic 281, 3) := by decide +kernel
theorem dX9_move_124 : decode cX9_move 124 = .ok (.iload 5, 2) := by decide +kernel
theorem dX9_move_126 : decode cX9_move 126 = .ok (.ireturn, 1) := by decide +kernel
theorem dX9_slips_0 : decode cX9_slips 0 = .ok (.iload_n 1, 1) := by decide +kernel
theorem dX9_slips_1 : decode cX9_slips 1 = .ok (.invokestatic 260, 3) := by decide +kernel
theorem dX9_slips_4 : decode cX9_slips 4 = .ok (.ifCond .ne 11, 3) := by decide +kernel
theorem dX9_slips_7 : decode cX9_slips 7 = .ok (.aload_n 0, 1) := by decide +kernel
theorem dX9_slips_8 : decode cX9_slips 8 = .ok (.iload_n 2, 1) := by decide +kernel
theorem dX9_slips_9 : decode cX9_slips 9 = .ok (.invokevirtual 84, 3) := by decide +kernel
theorem dX9_slips_12 : decode cX9_slips 12 = .ok (.ifCond .eq 9, 3) := by decide +kernel
theorem dX9_slips_15 : decode cX9_slips 15 = .ok (.aload_n 0, 1) := by decide +kernel
theorem dX9_slips_16 : decode cX9_slips 16 = .ok (.iconst 1, 1) := by decide +kernel
theorem dX9_slips_17 : decode cX9_slips 17 = .ok (.invokevirtual 58, 3) := by decide +kernel
theorem dX9_slips_20 : decode cX9_slips 20 = .ok (.ireturn, 1) := by decide +kernel
theorem dX9_slips_21 : decode cX9_slips 21 = .ok (.aload_n 0, 1) := by decide +kernel
theorem dX9_slips_22 : decode cX9_slips 22 = .ok (.getfield 45, 3) := by decide +kernel
theorem dX9_slips_25 : decode cX9_slips 25 = .ok (.iload_n 1, 1) := by decide +kernel
theorem dX9_slips_26 : decode cX9_slips 26 = .ok (.aaload, 1) := by decide +kernel
theorem dX9_slips_27 : decode cX9_slips 27 = .ok (.astore_n 3, 1) := by decide +kernel
theorem dX9_slips_28 : decode cX9_slips 28 = .ok (.aload_n 3, 1) := by decide +kernel
theorem dX9_slips_29 : decode cX9_slips 29 = .ok (.invokevirtual 266, 3) := by decide +kernel
theorem dX9_slips_32 : decode cX9_slips 32 = .ok (.ifCond .eq 9, 3) := by decide +kernel
theorem dX9_slips_35 : decode cX9_slips 35 = .ok (.aload_n 0, 1) := by decide +kernel
theorem dX9_slips_36 : decode cX9_slips 36 = .ok (.iconst 2, 1) := by decide +kernel
theorem dX9_slips_37 : decode cX9_slips 37 = .ok (.invokevirtual 58, 3) := by decide +kernel
theorem dX9_slips_40 : decode cX9_slips 40 = .ok (.ireturn, 1) := by decide +kernel
theorem dX9_slips_41 : decode cX9_slips 41 = .ok (.aload_n 3, 1) := by decide +kernel
theorem dX9_slips_42 : decode cX9_slips 42 = .ok (.getfield 269, 3) := by decide +kernel
theorem dX9_slips_45 : decode cX9_slips 45 = .ok (.aload_n 0, 1) := by decide +kernel
theorem dX9_slips_46 : decode cX9_slips 46 = .ok (.getfield 10, 3) := by decide +kernel
theorem dX9_slips_49 : decode cX9_slips 49 = .ok (.getfield 62, 3) := by decide +kernel
theorem dX9_slips_52 : decode cX9_slips 52 = .ok (.invokestatic 287, 3) := by decide +kernel
theorem dX9_slips_55 : decode cX9_slips 55 = .ok (.istore 4, 2) := by decide +kernel
theorem dX9_slips_57 : decode cX9_slips 57 = .ok (.iconst 0, 1) := by decide +kernel
theorem dX9_slips_58 : decode cX9_slips 58 = .ok (.istore 5, 2) := by decide +kernel
theorem dX9_slips_60 : decode cX9_slips 60 = .ok (.iload 5, 2) := by decide +kernel
theorem dX9_slips_62 : decode cX9_slips 62 = .ok (.iload 4, 2) := by decide +kernel
theorem dX9_slips_64 : decode cX9_slips 64 = .ok (.if_icmp .ge 55, 3) := by decide +kernel
theorem dX9_slips_67 : decode cX9_slips 67 = .ok (.aload_n 3, 1) := by decide +kernel
theorem dX9_slips_68 : decode cX9_slips 68 = .ok (.getfield 280, 3) := by decide +kernel
theorem dX9_slips_71 : decode cX9_slips 71 = .ok (.iload 5, 2) := by decide +kernel
theorem dX9_slips_73 : decode cX9_slips 73 = .ok (.iaload, 1) := by decide +kernel
theorem dX9_slips_74 : decode cX9_slips 74 = .ok (.istore 6, 2) := by decide +kernel
theorem dX9_slips_76 : decode cX9_slips 76 = .ok (.iload 5, 2) := by decide +kernel
theorem dX9_slips_78 : decode cX9_slips 78 = .ok (.iload_n 2, 1) := by decide +kernel
theorem dX9_slips_79 : decode cX9_slips 79 = .ok (.if_icmp .eq 34, 3) := by decide +kernel
theorem dX9_slips_82 : decode cX9_slips 82 = .ok (.iload 6, 2) := by decide +kernel
theorem dX9_slips_84 : decode cX9_slips 84 = .ok (.iconst 0, 1) := by decide +kernel
theorem dX9_slips_85 : decode cX9_slips 85 = .ok (.bipush 99, 2) := by decide +kernel
theorem dX9_slips_87 : decode cX9_slips 87 = .ok (.invokestatic 54, 3) := by decide +kernel
theorem dX9_slips_90 : decode cX9_slips 90 = .ok (.ifCond .eq 6, 3) := by decide +kernel
theorem dX9_slips_93 : decode cX9_slips 93 = .ok (.iload 5, 2) := by decide +kernel
theorem dX9_slips_95 : decode cX9_slips 95 = .ok (.ireturn, 1) := by decide +kernel
theorem dX9_slips_96 : decode cX9_slips 96 = .ok (.aload_n 0, 1) := by decide +kernel
theorem dX9_slips_97 : decode cX9_slips 97 = .ok (.getfield 10, 3) := by decide +kernel
theorem dX9_slips_100 : decode cX9_slips 100 = .ok (.getfield 66, 3) := by decide +kernel
theorem dX9_slips_103 : decode cX9_slips 103 = .ok (.iload_n 2, 1) := by decide +kernel
theorem dX9_slips_104 : decode cX9_slips 104 = .ok (.aaload, 1) := by decide +kernel
theorem dX9_slips_105 : decode cX9_slips 105 = .ok (.getfield 98, 3) := by decide +kernel
theorem dX9_slips_108 : decode cX9_slips 108 = .ok (.iload 5, 2) := by decide +kernel
theorem dX9_slips_110 : decode cX9_slips 110 = .ok (.iload 6, 2) := by decide +kernel
theorem dX9_slips_112 : decode cX9_slips 112 = .ok (.iastore, 1) := by decide +kernel
theorem dX9_slips_113 : decode cX9_slips 113 = .ok (.iinc 5 1, 3) := by decide +kernel
theorem dX9_slips_116 : decode cX9_slips 116 = .ok (.goto (-56), 3) := by decide +kernel
theorem dX9_slips_119 : decode cX9_slips 119 = .ok (.iload 4, 2) := by decide +kernel
theorem dX9_slips_121 : decode cX9_slips 121 = .ok (.ireturn, 1) := by decide +kernel
theorem dX9_film_0 : decode cX9_film 0 = .ok (.iload_n 1, 1) := by decide +kernel
theorem dX9_film_1 : decode cX9_film 1 = .ok (.invokestatic 260, 3) := by decide +kernel
theorem dX9_film_4 : decode cX9_film 4 = .ok (.ifCond .ne 10, 3) := by decide +kernel
theorem dX9_film_7 : decode cX9_film 7 = .ok (.iload_n 2, 1) := by decide +kernel
theorem dX9_film_8 : decode cX9_film 8 = .ok (.invokestatic 229, 3) := by decide +kernel
theorem dX9_film_11 : decode cX9_film 11 = .ok (.ifCond .eq 9, 3) := by decide +kernel
theorem dX9_film_14 : decode cX9_film 14 = .ok (.aload_n 0, 1) := by decide +kernel
theorem dX9_film_15 : decode cX9_film 15 = .ok (.iconst 1, 1) := by decide +kernel
theorem dX9_film_16 : decode cX9_film 16 = .ok (.invokevirtual 58, 3) := by decide +kernel
theorem dX9_film_19 : decode cX9_film 19 = .ok (.ireturn, 1) := by decide +kernel
theorem dX9_film_20 : decode cX9_film 20 = .ok (.aload_n 0, 1) := by decide +kernel
theorem dX9_film_21 : decode cX9_film 21 = .ok (.getfield 45, 3) := by decide +kernel
theorem dX9_film_24 : decode cX9_film 24 = .ok (.iload_n 1, 1) := by decide +kernel
theorem dX9_film_25 : decode cX9_film 25 = .ok (.aaload, 1) := by decide +kernel
theorem dX9_film_26 : decode cX9_film 26 = .ok (.astore_n 3, 1) := by decide +kernel
theorem dX9_film_27 : decode cX9_film 27 = .ok (.aload_n 3, 1) := by decide +kernel
theorem dX9_film_28 : decode cX9_film 28 = .ok (.invokevirtual 266, 3) := by decide +kernel
theorem dX9_film_31 : decode cX9_film 31 = .ok (.ifCond .eq 9, 3) := by decide +kernel
theorem dX9_film_34 : decode cX9_film 34 = .ok (.aload_n 0, 1) := by decide +kernel
theorem dX9_film_35 : decode cX9_film 35 = .ok (.iconst 2, 1) := by decide +kernel
theorem dX9_film_36 : decode cX9_film 36 = .ok (.invokevirtual 58, 3) := by decide +kernel
theorem dX9_film_39 : decode cX9_film 39 = .ok (.ireturn, 1) := by decide +kernel
theorem dX9_film_40 : decode cX9_film 40 = .ok (.aload_n 0, 1) := by decide +kernel
theorem dX9_film_41 : decode cX9_film 41 = .ok (.getfield 16, 3) := by decide +kernel
theorem dX9_film_44 : decode cX9_film 44 = .ok (.aload_n 0, 1) := by decide +kernel
theorem dX9_film_45 : decode cX9_film 45 = .ok (.getfield 10, 3) := by decide +kernel
theorem dX9_film_48 : decode cX9_film 48 = .ok (.invokevirtual 232, 3) := by decide +kernel
theorem dX9_film_51 : decode cX9_film 51 = .ok (.aload_n 0, 1) := by decide +kernel
theorem dX9_film_52 : decode cX9_film 52 = .ok (.getfield 16, 3) := by decide +kernel
theorem dX9_film_55 : decode cX9_film 55 = .ok (.iload_n 2, 1) := by decide +kernel
theorem dX9_film_56 : decode cX9_film 56 = .ok (.invokevirtual 192, 3) := by decide +kernel
theorem dX9_film_59 : decode cX9_film 59 = .ok (.aload_n 3, 1) := by decide +kernel
theorem dX9_film_60 : decode cX9_film 60 = .ok (.getfield 269, 3) := by decide +kernel
theorem dX9_film_63 : decode cX9_film 63 = .ok (.aload_n 0, 1) := by decide +kernel
theorem dX9_film_64 : decode cX9_film 64 = .ok (.getfield 16, 3) := by decide +kernel
theorem dX9_film_67 : decode cX9_film 67 = .ok (.getfield 62, 3) := by decide +kernel
theorem dX9_film_70 : decode cX9_film 70 = .ok (.invokestatic 287, 3) := by decide +kernel
theorem dX9_film_73 : decode cX9_film 73 = .ok (.istore 4, 2) := by decide +kernel
theorem dX9_film_75 : decode cX9_film 75 = .ok (.iconst 0, 1) := by decide +kernel
theorem dX9_film_76 : decode cX9_film 76 = .ok (.istore 5, 2) := by decide +kernel
theorem dX9_film_78 : decode cX9_film 78 = .ok (.iload 5, 2) := by decide +kernel
theorem dX9_film_80 : decode cX9_film 80 = .ok (.iload 4, 2) := by decide +kernel
theorem dX9_film_82 : decode cX9_film 82 = .ok (.if_icmp .ge 35, 3) := by decide +kernel
theorem dX9_film_85 : decode cX9_film 85 = .ok (.aload_n 3, 1) := by decide +kernel
theorem dX9_film_86 : decode cX9_film 86 = .ok (.getfield 280, 3) := by decide +kernel
theorem dX9_film_89 : decode cX9_film 89 = .ok (.iload 5, 2) := by decide +kernel
theorem dX9_film_91 : decode cX9_film 91 = .ok (.iaload, 1) := by decide +kernel
theorem dX9_film_92 : decode cX9_film 92 = .ok (.aload_n 0, 1) := by decide +kernel
theorem dX9_film_93 : decode cX9_film 93 = .ok (.getfield 16, 3) := by decide +kernel
theorem dX9_film_96 : decode cX9_film 96 = .ok (.getfield 66, 3) := by decide +kernel
theorem dX9_film_99 : decode cX9_film 99 = .ok (.iload 5, 2) := by decide +kernel
theorem dX9_film_101 : decode cX9_film 101 = .ok (.aaload, 1) := by decide +kernel
theorem dX9_film_102 : decode cX9_film 102 = .ok (.getfield 128, 3) := by decide +kernel
theorem dX9_film_105 : decode cX9_film 105 = .ok (.if_icmp .eq 6, 3) := by decide +kernel
theorem dX9_film_108 : decode cX9_film 108 = .ok (.iload 5, 2) := by decide +kernel
theorem dX9_film_110 : decode cX9_film 110 = .ok (.ireturn, 1) := by decide +kernel
theorem dX9_film_111 : decode cX9_film 111 = .ok (.iinc 5 1, 3) := by decide +kernel
theorem dX9_film_114 : decode cX9_film 114 = .ok (.goto (-36), 3) := by decide +kernel
theorem dX9_film_117 : decode cX9_film 117 = .ok (.iload 4, 2) := by decide +kernel
theorem dX9_film_119 : decode cX9_film 119 = .ok (.ireturn, 1) := by decide +kernel
theorem dX9_image_0 : decode cX9_image 0 = .ok (.aload_n 0, 1) := by decide +kernel
theorem dX9_image_1 : decode cX9_image 1 = .ok (.getfield 19, 3) := by decide +kernel
theorem dX9_image_4 : decode cX9_image 4 = .ok (.aload_n 0, 1) := by decide +kernel
theorem dX9_image_5 : decode cX9_image 5 = .ok (.getfield 10, 3) := by decide +kernel
theorem dX9_image_8 : decode cX9_image 8 = .ok (.invokevirtual 232, 3) := by decide +kernel
theorem dX9_image_11 : decode cX9_image 11 = .ok (.aload_n 0, 1) := by decide +kernel
theorem dX9_image_12 : decode cX9_image 12 = .ok (.dup, 1) := by decide +kernel
theorem dX9_image_13 : decode cX9_image 13 = .ok (.getfield 292, 3) := by decide +kernel
theorem dX9_image_16 : decode cX9_image 16 = .ok (.iconst 1, 1) := by decide +kernel
theorem dX9_image_17 : decode cX9_image 17 = .ok (.iadd, 1) := by decide +kernel
theorem dX9_image_18 : decode cX9_image 18 = .ok (.putfield 292, 3) := by decide +kernel
theorem dX9_image_21 : decode cX9_image 21 = .ok (.aload_n 0, 1) := by decide +kernel
theorem dX9_image_22 : decode cX9_image 22 = .ok (.getfield 292, 3) := by decide +kernel
theorem dX9_image_25 : decode cX9_image 25 = .ok (.ireturn, 1) := by decide +kernel
theorem dX9_restore_0 : decode cX9_restore 0 = .ok (.aload_n 0, 1) := by decide +kernel
theorem dX9_restore_1 : decode cX9_restore 1 = .ok (.getfield 292, 3) := by decide +kernel
theorem dX9_restore_4 : decode cX9_restore 4 = .ok (.ifCond .ne 9, 3) := by decide +kernel
theorem dX9_restore_7 : decode cX9_restore 7 = .ok (.aload_n 0, 1) := by decide +kernel
theorem dX9_restore_8 : decode cX9_restore 8 = .ok (.iconst 2, 1) := by decide +kernel
theorem dX9_restore_9 : decode cX9_restore 9 = .ok (.invokevirtual 58, 3) := by decide +kernel
theorem dX9_restore_12 : decode cX9_restore 12 = .ok (.ireturn, 1) := by decide +kernel
theorem dX9_restore_13 : decode cX9_restore 13 = .ok (.aload_n 0, 1) := by decide +kernel
theorem dX9_restore_14 : decode cX9_restore 14 = .ok (.getfield 10, 3) := by decide +kernel
theorem dX9_restore_17 : decode cX9_restore 17 = .ok (.aload_n 0, 1) := by decide +kernel
theorem dX9_restore_18 : decode cX9_restore 18 = .ok (.getfield 19, 3) := by decide +kernel
theorem dX9_restore_21 : decode cX9_restore 21 = .ok (.invokevirtual 232, 3) := by decide +kernel
theorem dX9_restore_24 : decode cX9_restore 24 = .ok (.aload_n 0, 1) := by decide +kernel
theorem dX9_restore_25 : decode cX9_restore 25 = .ok (.getfield 10, 3) := by decide +kernel
theorem dX9_restore_28 : decode cX9_restore 28 = .ok (.getfield 188, 3) := by decide +kernel
theorem dX9_restore_31 : decode cX9_restore 31 = .ok (.ireturn, 1) := by decide +kernel
theorem dX9_tell_0 : decode cX9_tell 0 = .ok (.aload_n 0, 1) := by decide +kernel
theorem dX9_tell_1 : decode cX9_tell 1 = .ok (.getfield 10, 3) := by decide +kernel
theorem dX9_tell_4 : decode cX9_tell 4 = .ok (.getfield 295, 3) := by decide +kernel
theorem dX9_tell_7 : decode cX9_tell 7 = .ok (.getfield 153, 3) := by decide +kernel
theorem dX9_tell_10 : decode cX9_tell 10 = .ok (.bipush 24, 2) := by decide +kernel
theorem dX9_tell_12 : decode cX9_tell 12 = .ok (.if_icmp .lt 9, 3) := by decide +kernel
theorem dX9_tell_15 : decode cX9_tell 15 = .ok (.aload_n 0, 1) := by decide +kernel
theorem dX9_tell_16 : decode cX9_tell 16 = .ok (.iconst 4, 1) := by decide +kernel
theorem dX9_tell_17 : decode cX9_tell 17 = .ok (.invokevirtual 58, 3) := by decide +kernel
theorem dX9_tell_20 : decode cX9_tell 20 = .ok (.ireturn, 1) := by decide +kernel
theorem dX9_tell_21 : decode cX9_tell 21 = .ok (.aload_n 0, 1) := by decide +kernel
theorem dX9_tell_22 : decode cX9_tell 22 = .ok (.getfield 10, 3) := by decide +kernel
theorem dX9_tell_25 : decode cX9_tell 25 = .ok (.getfield 295, 3) := by decide +kernel
theorem dX9_tell_28 : decode cX9_tell 28 = .ok (.iload_n 1, 1) := by decide +kernel
theorem dX9_tell_29 : decode cX9_tell 29 = .ok (.invokevirtual 157, 3) := by decide +kernel
theorem dX9_tell_32 : decode cX9_tell 32 = .ok (.aload_n 0, 1) := by decide +kernel
theorem dX9_tell_33 : decode cX9_tell 33 = .ok (.getfield 10, 3) := by decide +kernel
theorem dX9_tell_36 : decode cX9_tell 36 = .ok (.getfield 295, 3) := by decide +kernel
theorem dX9_tell_39 : decode cX9_tell 39 = .ok (.getfield 153, 3) := by decide +kernel
theorem dX9_tell_42 : decode cX9_tell 42 = .ok (.ireturn, 1) := by decide +kernel
theorem dX9_check_0 : decode cX9_check 0 = .ok (.aload_n 0, 1) := by decide +kernel
theorem dX9_check_1 : decode cX9_check 1 = .ok (.getfield 10, 3) := by decide +kernel
theorem dX9_check_4 : decode cX9_check 4 = .ok (.getfield 295, 3) := by decide +kernel
theorem dX9_check_7 : decode cX9_check 7 = .ok (.getfield 153, 3) := by decide +kernel
theorem dX9_check_10 : decode cX9_check 10 = .ok (.istore_n 2, 1) := by decide +kernel
theorem dX9_check_11 : decode cX9_check 11 = .ok (.aload_n 0, 1) := by decide +kernel
theorem dX9_check_12 : decode cX9_check 12 = .ok (.getfield 10, 3) := by decide +kernel
theorem dX9_check_15 : decode cX9_check 15 = .ok (.getfield 295, 3) := by decide +kernel
theorem dX9_check_18 : decode cX9_check 18 = .ok (.iconst 0, 1) := by decide +kernel
theorem dX9_check_19 : decode cX9_check 19 = .ok (.putfield 153, 3) := by decide +kernel
theorem dX9_check_22 : decode cX9_check 22 = .ok (.aload_n 0, 1) := by decide +kernel
theorem dX9_check_23 : decode cX9_check 23 = .ok (.iload_n 1, 1) := by decide +kernel
theorem dX9_check_24 : decode cX9_check 24 = .ok (.invokevirtual 116, 3) := by decide +kernel
theorem dX9_check_27 : decode cX9_check 27 = .ok (.ifCond .eq 9, 3) := by decide +kernel
theorem dX9_check_30 : decode cX9_check 30 = .ok (.aload_n 0, 1) := by decide +kernel
theorem dX9_check_31 : decode cX9_check 31 = .ok (.iconst 1, 1) := by decide +kernel
theorem dX9_check_32 : decode cX9_check 32 = .ok (.invokevirtual 58, 3) := by decide +kernel
theorem dX9_check_35 : decode cX9_check 35 = .ok (.ireturn, 1) := by decide +kernel
theorem dX9_check_36 : decode cX9_check 36 = .ok (.aload_n 0, 1) := by decide +kernel
theorem dX9_check_37 : decode cX9_check 37 = .ok (.getfield 10, 3) := by decide +kernel
theorem dX9_check_40 : decode cX9_check 40 = .ok (.getfield 104, 3) := by decide +kernel
theorem dX9_check_43 : decode cX9_check 43 = .ok (.iload_n 1, 1) := by decide +kernel
theorem dX9_check_44 : decode cX9_check 44 = .ok (.aaload, 1) := by decide +kernel
theorem dX9_check_45 : decode cX9_check 45 = .ok (.getfield 122, 3) := by decide +kernel
theorem dX9_check_48 : decode cX9_check 48 = .ok (.istore_n 3, 1) := by decide +kernel
theorem dX9_check_49 : decode cX9_check 49 = .ok (.iconst 0, 1) := by decide +kernel
theorem dX9_check_50 : decode cX9_check 50 = .ok (.istore 4, 2) := by decide +kernel
theorem dX9_check_52 : decode cX9_check 52 = .ok (.iconst 0, 1) := by decide +kernel
theorem dX9_check_53 : decode cX9_check 53 = .ok (.istore 5, 2) := by decide +kernel
theorem dX9_check_55 : decode cX9_check 55 = .ok (.iload 5, 2) := by decide +kernel
theorem dX9_check_57 : decode cX9_check 57 = .ok (.aload_n 0, 1) := by decide +kernel
theorem dX9_check_58 : decode cX9_check 58 = .ok (.getfield 10, 3) := by decide +kernel
theorem dX9_check_61 : decode cX9_check 61 = .ok (.getfield 62, 3) := by decide +kernel
theorem dX9_check_64 : decode cX9_check 64 = .ok (.if_icmp .ge 50, 3) := by decide +kernel
theorem dX9_check_67 : decode cX9_check 67 = .ok (.iload_n 3, 1) := by decide +kernel
theorem dX9_check_68 : decode cX9_check 68 = .ok (.iload 5, 2) := by decide +kernel
theorem dX9_check_70 : decode cX9_check 70 = .ok (.ishr, 1) := by decide +kernel
theorem dX9_check_71 : decode cX9_check 71 = .ok (.iconst 1, 1) := by decide +kernel
theorem dX9_check_72 : decode cX9_check 72 = .ok (.iand, 1) := by decide +kernel
theorem dX9_check_73 : decode cX9_check 73 = .ok (.ifCond .eq 35, 3) := by decide +kernel
theorem dX9_check_76 : decode cX9_check 76 = .ok (.iload 4, 2) := by decide +kernel
theorem dX9_check_78 : decode cX9_check 78 = .ok (.iload_n 2, 1) := by decide +kernel
theorem dX9_check_79 : decode cX9_check 79 = .ok (.if_icmp .ge 21, 3) := by decide +kernel
theorem dX9_check_82 : decode cX9_check 82 = .ok (.aload_n 0, 1) := by decide +kernel
theorem dX9_check_83 : decode cX9_check 83 = .ok (.getfield 10, 3) := by decide +kernel
theorem dX9_check_86 : decode cX9_check 86 = .ok (.getfield 295, 3) := by decide +kernel
theorem dX9_check_89 : decode cX9_check 89 = .ok (.getfield 257, 3) := by decide +kernel
theorem dX9_check_92 : decode cX9_check 92 = .ok (.iload 4, 2) := by decide +kernel
theorem dX9_check_94 : decode cX9_check 94 = .ok (.iaload, 1) := by decide +kernel
theorem dX9_check_95 : decode cX9_check 95 = .ok (.iload 5, 2) := by decide +kernel
theorem dX9_check_97 : decode cX9_check 97 = .ok (.if_icmp .eq 8, 3) := by decide +kernel
theorem dX9_check_100 : decode cX9_check 100 = .ok (.iconst 1, 1) := by decide +kernel
theorem dX9_check_101 : decode cX9_check 101 = .ok (.iload 4, 2) := by decide +kernel
theorem dX9_check_103 : decode cX9_check 103 = .ok (.iadd, 1) := by decide +kernel
theorem dX9_check_104 : decode cX9_check 104 = .ok (.ireturn, 1) := by decide +kernel
theorem dX9_check_105 : decode cX9_check 105 = .ok (.iinc 4 1, 3) := by decide +kernel
theorem dX9_check_108 : decode cX9_check 108 = .ok (.iinc 5 1, 3) := by decide +kernel
theorem dX9_check_111 : decode cX9_check 111 = .ok (.goto (-56), 3) := by decide +kernel
theorem dX9_check_114 : decode cX9_check 114 = .ok (.iload 4, 2) := by decide +kernel
theorem dX9_check_116 : decode cX9_check 116 = .ok (.iload_n 2, 1) := by decide +kernel
theorem dX9_check_117 : decode cX9_check 117 = .ok (.if_icmp .ge 10, 3) := by decide +kernel
theorem dX9_check_120 : decode cX9_check 120 = .ok (.iconst 1, 1) := by decide +kernel
theorem dX9_check_121 : decode cX9_check 121 = .ok (.iload 4, 2) := by decide +kernel
theorem dX9_check_123 : decode cX9_check 123 = .ok (.iadd, 1) := by decide +kernel
theorem dX9_check_124 : decode cX9_check 124 = .ok (.goto 4, 3) := by decide +kernel
theorem dX9_check_127 : decode cX9_check 127 = .ok (.iconst 0, 1) := by decide +kernel
theorem dX9_check_128 : decode cX9_check 128 = .ok (.ireturn, 1) := by decide +kernel
theorem dX9_count_0 : decode cX9_count 0 = .ok (.iload_n 1, 1) := by decide +kernel
theorem dX9_count_1 : decode cX9_count 1 = .ok (.tableswitch 132 0 8 #[51, 59, 67, 75, 83, 91, 102, 113, 124], 51) := by decide +kernel
theorem dX9_count_52 : decode cX9_count 52 = .ok (.aload_n 0, 1) := by decide +kernel
theorem dX9_count_53 : decode cX9_count 53 = .ok (.getfield 10, 3) := by decide +kernel
theorem dX9_count_56 : decode cX9_count 56 = .ok (.getfield 62, 3) := by decide +kernel
theorem dX9_count_59 : decode cX9_count 59 = .ok (.ireturn, 1) := by decide +kernel
theorem dX9_count_60 : decode cX9_count 60 = .ok (.aload_n 0, 1) := by decide +kernel
theorem dX9_count_61 : decode cX9_count 61 = .ok (.getfield 10, 3) := by decide +kernel
theorem dX9_count_64 : decode cX9_count 64 = .ok (.getfield 101, 3) := by decide +kernel
theorem dX9_count_67 : decode cX9_count 67 = .ok (.ireturn, 1) := by decide +kernel
theorem dX9_count_68 : decode cX9_count 68 = .ok (.aload_n 0, 1) := by decide +kernel
theorem dX9_count_69 : decode cX9_count 69 = .ok (.getfield 10, 3) := by decide +kernel
theorem dX9_count_72 : decode cX9_count 72 = .ok (.getfield 188, 3) := by decide +kernel
theorem dX9_count_75 : decode cX9_count 75 = .ok (.ireturn, 1) := by decide +kernel
theorem dX9_count_76 : decode cX9_count 76 = .ok (.aload_n 0, 1) := by decide +kernel
theorem dX9_count_77 : decode cX9_count 77 = .ok (.getfield 10, 3) := by decide +kernel
theorem dX9_count_80 : decode cX9_count 80 = .ok (.getfield 198, 3) := by decide +kernel
theorem dX9_count_83 : decode cX9_count 83 = .ok (.ireturn, 1) := by decide +kernel
theorem dX9_count_84 : decode cX9_count 84 = .ok (.aload_n 0, 1) := by decide +kernel
theorem dX9_count_85 : decode cX9_count 85 = .ok (.getfield 10, 3) := by decide +kernel
theorem dX9_count_88 : decode cX9_count 88 = .ok (.invokevirtual 298, 3) := by decide +kernel
theorem dX9_count_91 : decode cX9_count 91 = .ok (.ireturn, 1) := by decide +kernel
theorem dX9_count_92 : decode cX9_count 92 = .ok (.aload_n 0, 1) := by decide +kernel
theorem dX9_count_93 : decode cX9_count 93 = .ok (.getfield 10, 3) := by decide +kernel
theorem dX9_count_96 : decode cX9_count 96 = .ok (.getfield 149, 3) := by decide +kernel
theorem dX9_count_99 : decode cX9_count 99 = .ok (.getfield 153, 3) := by decide +kernel
theorem dX9_count_102 : decode cX9_count 102 = .ok (.ireturn, 1) := by decide +kernel
theorem dX9_count_103 : decode cX9_count 103 = .ok (.aload_n 0, 1) := by decide +kernel
theorem dX9_count_104 : decode cX9_count 104 = .ok (.getfield 10, 3) := by decide +kernel
theorem dX9_count_107 : decode cX9_count 107 = .ok (.getfield 295, 3) := by decide +kernel
theorem dX9_count_110 : decode cX9_count 110 = .ok (.getfield 153, 3) := by decide +kernel
theorem dX9_count_113 : decode cX9_count 113 = .ok (.ireturn, 1) := by decide +kernel
theorem dX9_count_114 : decode cX9_count 114 = .ok (.aload_n 0, 1) := by decide +kernel
theorem dX9_count_115 : decode cX9_count 115 = .ok (.getfield 39, 3) := by decide +kernel
theorem dX9_count_118 : decode cX9_count 118 = .ok (.getfield 254, 3) := by decide +kernel
theorem dX9_count_121 : decode cX9_count 121 = .ok (.getfield 153, 3) := by decide +kernel
theorem dX9_count_124 : decode cX9_count 124 = .ok (.ireturn, 1) := by decide +kernel
theorem dX9_count_125 : decode cX9_count 125 = .ok (.aload_n 0, 1) := by decide +kernel
theorem dX9_count_126 : decode cX9_count 126 = .ok (.getfield 10, 3) := by decide +kernel
theorem dX9_count_129 : decode cX9_count 129 = .ok (.getfield 204, 3) := by decide +kernel
theorem dX9_count_132 : decode cX9_count 132 = .ok (.ireturn, 1) := by decide +kernel
theorem dX9_count_133 : decode cX9_count 133 = .ok (.aload_n 0, 1) := by decide +kernel
theorem dX9_count_134 : decode cX9_count 134 = .ok (.iconst 1, 1) := by decide +kernel
theorem dX9_count_135 : decode cX9_count 135 = .ok (.invokevirtual 58, 3) := by decide +kernel
theorem dX9_count_138 : decode cX9_count 138 = .ok (.ireturn, 1) := by decide +kernel
theorem dX9_told_0 : decode cX9_told 0 = .ok (.iload_n 1, 1) := by decide +kernel
theorem dX9_told_1 : decode cX9_told 1 = .ok (.iconst 1, 1) := by decide +kernel
theorem dX9_told_2 : decode cX9_told 2 = .ok (.bipush 6, 2) := by decide +kernel
theorem dX9_told_4 : decode cX9_told 4 = .ok (.invokestatic 54, 3) := by decide +kernel
theorem dX9_told_7 : decode cX9_told 7 = .ok (.ifCond .eq 11, 3) := by decide +kernel
theorem dX9_told_10 : decode cX9_told 10 = .ok (.aload_n 0, 1) := by decide +kernel
theorem dX9_told_11 : decode cX9_told 11 = .ok (.iconst 1, 1) := by decide +kernel
theorem dX9_told_12 : decode cX9_told 12 = .ok (.invokevirtual 58, 3) := by decide +kernel
theorem dX9_told_15 : decode cX9_told 15 = .ok (.goto 9, 3) := by decide +kernel
theorem dX9_told_18 : decode cX9_told 18 = .ok (.aload_n 0, 1) := by decide +kernel
theorem dX9_told_19 : decode cX9_told 19 = .ok (.getfield 49, 3) := by decide +kernel
theorem dX9_told_22 : decode cX9_told 22 = .ok (.iload_n 1, 1) := by decide +kernel
theorem dX9_told_23 : decode cX9_told 23 = .ok (.iaload, 1) := by decide +kernel
theorem dX9_told_24 : decode cX9_told 24 = .ok (.ireturn, 1) := by decide +kernel
theorem dX9_error_0 : decode cX9_error 0 = .ok (.aload_n 0, 1) := by decide +kernel
theorem dX9_error_1 : decode cX9_error 1 = .ok (.getfield 49, 3) := by decide +kernel
theorem dX9_error_4 : decode cX9_error 4 = .ok (.iload_n 1, 1) := by decide +kernel
theorem dX9_error_5 : decode cX9_error 5 = .ok (.dup2, 1) := by decide +kernel
theorem dX9_error_6 : decode cX9_error 6 = .ok (.iaload, 1) := by decide +kernel
theorem dX9_error_7 : decode cX9_error 7 = .ok (.iconst 1, 1) := by decide +kernel
theorem dX9_error_8 : decode cX9_error 8 = .ok (.iadd, 1) := by decide +kernel
theorem dX9_error_9 : decode cX9_error 9 = .ok (.iastore, 1) := by decide +kernel
theorem dX9_error_10 : decode cX9_error 10 = .ok (.ldc_w 301, 3) := by decide +kernel
theorem dX9_error_13 : decode cX9_error 13 = .ok (.iload_n 1, 1) := by decide +kernel
theorem dX9_error_14 : decode cX9_error 14 = .ok (.isub, 1) := by decide +kernel
theorem dX9_error_15 : decode cX9_error 15 = .ok (.ireturn, 1) := by decide +kernel
theorem dX9_noChild_0 : decode cX9_noChild 0 = .ok (.iload_n 1, 1) := by decide +kernel
theorem dX9_noChild_1 : decode cX9_noChild 1 = .ok (.iconst 0, 1) := by decide +kernel
theorem dX9_noChild_2 : decode cX9_noChild 2 = .ok (.aload_n 0, 1) := by decide +kernel
theorem dX9_noChild_3 : decode cX9_noChild 3 = .ok (.getfield 10, 3) := by decide +kernel
theorem dX9_noChild_6 : decode cX9_noChild 6 = .ok (.getfield 62, 3) := by decide +kernel
theorem dX9_noChild_9 : decode cX9_noChild 9 = .ok (.iconst 1, 1) := by decide +kernel
theorem dX9_noChild_10 : decode cX9_noChild 10 = .ok (.isub, 1) := by decide +kernel
theorem dX9_noChild_11 : decode cX9_noChild 11 = .ok (.invokestatic 54, 3) := by decide +kernel
theorem dX9_noChild_14 : decode cX9_noChild 14 = .ok (.ireturn, 1) := by decide +kernel
theorem dX9_noHeap_0 : decode cX9_noHeap 0 = .ok (.iload_n 1, 1) := by decide +kernel
theorem dX9_noHeap_1 : decode cX9_noHeap 1 = .ok (.iconst 0, 1) := by decide +kernel
theorem dX9_noHeap_2 : decode cX9_noHeap 2 = .ok (.aload_n 0, 1) := by decide +kernel
theorem dX9_noHeap_3 : decode cX9_noHeap 3 = .ok (.getfield 10, 3) := by decide +kernel
theorem dX9_noHeap_6 : decode cX9_noHeap 6 = .ok (.getfield 101, 3) := by decide +kernel
theorem dX9_noHeap_9 : decode cX9_noHeap 9 = .ok (.iconst 1, 1) := by decide +kernel
theorem dX9_noHeap_10 : decode cX9_noHeap 10 = .ok (.isub, 1) := by decide +kernel
theorem dX9_noHeap_11 : decode cX9_noHeap 11 = .ok (.invokestatic 54, 3) := by decide +kernel
theorem dX9_noHeap_14 : decode cX9_noHeap 14 = .ok (.ireturn, 1) := by decide +kernel
theorem dX9_noSheet_0 : decode cX9_noSheet 0 = .ok (.iload_n 0, 1) := by decide +kernel
theorem dX9_noSheet_1 : decode cX9_noSheet 1 = .ok (.iconst 0, 1) := by decide +kernel
theorem dX9_noSheet_2 : decode cX9_noSheet 2 = .ok (.iconst 3, 1) := by decide +kernel
theorem dX9_noSheet_3 : decode cX9_noSheet 3 = .ok (.invokestatic 54, 3) := by decide +kernel
theorem dX9_noSheet_6 : decode cX9_noSheet 6 = .ok (.ireturn, 1) := by decide +kernel
theorem dX9_notAhead_0 : decode cX9_notAhead 0 = .ok (.iload_n 0, 1) := by decide +kernel
theorem dX9_notAhead_1 : decode cX9_notAhead 1 = .ok (.iconst 0, 1) := by decide +kernel
theorem dX9_notAhead_2 : decode cX9_notAhead 2 = .ok (.bipush 60, 2) := by decide +kernel
theorem dX9_notAhead_4 : decode cX9_notAhead 4 = .ok (.invokestatic 54, 3) := by decide +kernel
theorem dX9_notAhead_7 : decode cX9_notAhead 7 = .ok (.ireturn, 1) := by decide +kernel
theorem dX9_outside_0 : decode cX9_outside 0 = .ok (.iload_n 0, 1) := by decide +kernel
theorem dX9_outside_1 : decode cX9_outside 1 = .ok (.iload_n 1, 1) := by decide +kernel
theorem dX9_outside_2 : decode cX9_outside 2 = .ok (.if_icmp .lt 8, 3) := by decide +kernel
theorem dX9_outside_5 : decode cX9_outside 5 = .ok (.iload_n 0, 1) := by decide +kernel
theorem dX9_outside_6 : decode cX9_outside 6 = .ok (.iload_n 2, 1) := by decide +kernel
theorem dX9_outside_7 : decode cX9_outside 7 = .ok (.if_icmp .le 7, 3) := by decide +kernel
theorem dX9_outside_10 : decode cX9_outside 10 = .ok (.iconst 1, 1) := by decide +kernel
theorem dX9_outside_11 : decode cX9_outside 11 = .ok (.goto 4, 3) := by decide +kernel
theorem dX9_outside_14 : decode cX9_outside 14 = .ok (.iconst 0, 1) := by decide +kernel
theorem dX9_outside_15 : decode cX9_outside 15 = .ok (.ireturn, 1) := by decide +kernel
theorem dX9_held_0 : decode cX9_held 0 = .ok (.iload_n 1, 1) := by decide +kernel
theorem dX9_held_1 : decode cX9_held 1 = .ok (.iload_n 2, 1) := by decide +kernel
theorem dX9_held_2 : decode cX9_held 2 = .ok (.iload_n 0, 1) := by decide +kernel
theorem dX9_held_3 : decode cX9_held 3 = .ok (.invokestatic 287, 3) := by decide +kernel
theorem dX9_held_6 : decode cX9_held 6 = .ok (.invokestatic 302, 3) := by decide +kernel
theorem dX9_held_9 : decode cX9_held 9 = .ok (.ireturn, 1) := by decide +kernel
theorem dX9_mostOf_0 : decode cX9_mostOf 0 = .ok (.iload_n 0, 1) := by decide +kernel
theorem dX9_mostOf_1 : decode cX9_mostOf 1 = .ok (.lookupswitch 32 #[(0, 27), (3, 30)], 27) := by decide +kernel
theorem dX9_mostOf_28 : decode cX9_mostOf 28 = .ok (.bipush 6, 2) := by decide +kernel
theorem dX9_mostOf_30 : decode cX9_mostOf 30 = .ok (.ireturn, 1) := by decide +kernel
theorem dX9_mostOf_31 : decode cX9_mostOf 31 = .ok (.iconst 1, 1) := by decide +kernel
theorem dX9_mostOf_32 : decode cX9_mostOf 32 = .ok (.ireturn, 1) := by decide +kernel
theorem dX9_mostOf_33 : decode cX9_mostOf 33 = .ok (.bipush 99, 2) := by decide +kernel
theorem dX9_mostOf_35 : decode cX9_mostOf 35 = .ok (.ireturn, 1) := by decide +kernel
theorem dX9_ofChild_0 : decode cX9_ofChild 0 = .ok (.aload_n 1, 1) := by decide +kernel
theorem dX9_ofChild_1 : decode cX9_ofChild 1 = .ok (.getfield 66, 3) := by decide +kernel
theorem dX9_ofChild_4 : decode cX9_ofChild 4 = .ok (.iload_n 2, 1) := by decide +kernel
theorem dX9_ofChild_5 : decode cX9_ofChild 5 = .ok (.aaload, 1) := by decide +kernel
theorem dX9_ofChild_6 : decode cX9_ofChild 6 = .ok (.astore 4, 2) := by decide +kernel
theorem dX9_ofChild_8 : decode cX9_ofChild 8 = .ok (.iload_n 3, 1) := by decide +kernel
theorem dX9_ofChild_9 : decode cX9_ofChild 9 = .ok (.tableswitch 75 0 5 #[39, 45, 51, 57, 63, 69], 39) := by decide +kernel
theorem dX9_ofChild_48 : decode cX9_ofChild 48 = .ok (.aload 4, 2) := by decide +kernel
theorem dX9_ofChild_50 : decode cX9_ofChild 50 = .ok (.getfield 70, 3) := by decide +kernel
theorem dX9_ofChild_53 : decode cX9_ofChild 53 = .ok (.ireturn, 1) := by decide +kernel
theorem dX9_ofChild_54 : decode cX9_ofChild 54 = .ok (.aload 4, 2) := by decide +kernel
theorem dX9_ofChild_56 : decode cX9_ofChild 56 = .ok (.getfield 75, 3) := by decide +kernel
theorem dX9_ofChild_59 : decode cX9_ofChild 59 = .ok (.ireturn, 1) := by decide +kernel
theorem dX9_ofChild_60 : decode cX9_ofChild 60 = .ok (.aload 4, 2) := by decide +kernel
theorem dX9_ofChild_62 : decode cX9_ofChild 62 = .ok (.getfield 78, 3) := by decide +kernel
theorem dX9_ofChild_65 : decode cX9_ofChild 65 = .ok (.ireturn, 1) := by decide +kernel
theorem dX9_ofChild_66 : decode cX9_ofChild 66 = .ok (.aload 4, 2) := by decide +kernel
theorem dX9_ofChild_68 : decode cX9_ofChild 68 = .ok (.getfield 81, 3) := by decide +kernel
theorem dX9_ofChild_71 : decode cX9_ofChild 71 = .ok (.ireturn, 1) := by decide +kernel
theorem dX9_ofChild_72 : decode cX9_ofChild 72 = .ok (.aload 4, 2) := by decide +kernel
theorem dX9_ofChild_74 : decode cX9_ofChild 74 = .ok (.getfield 128, 3) := by decide +kernel
theorem dX9_ofChild_77 : decode cX9_ofChild 77 = .ok (.ireturn, 1) := by decide +kernel
theorem dX9_ofChild_78 : decode cX9_ofChild 78 = .ok (.aload 4, 2) := by decide +kernel
theorem dX9_ofChild_80 : decode cX9_ofChild 80 = .ok (.getfield 234, 3) := by decide +kernel
theorem dX9_ofChild_83 : decode cX9_ofChild 83 = .ok (.ireturn, 1) := by decide +kernel
theorem dX9_ofChild_84 : decode cX9_ofChild 84 = .ok (.aload_n 0, 1) := by decide +kernel
theorem dX9_ofChild_85 : decode cX9_ofChild 85 = .ok (.getfield 25, 3) := by decide +kernel
theorem dX9_ofChild_88 : decode cX9_ofChild 88 = .ok (.aload_n 1, 1) := by decide +kernel
theorem dX9_ofChild_89 : decode cX9_ofChild 89 = .ok (.invokevirtual 207, 3) := by decide +kernel
theorem dX9_ofChild_92 : decode cX9_ofChild 92 = .ok (.iload_n 3, 1) := by decide +kernel
theorem dX9_ofChild_93 : decode cX9_ofChild 93 = .ok (.bipush 6, 2) := by decide +kernel
theorem dX9_ofChild_95 : decode cX9_ofChild 95 = .ok (.if_icmp .ne 15, 3) := by decide +kernel
theorem dX9_ofChild_98 : decode cX9_ofChild 98 = .ok (.aload_n 0, 1) := by decide +kernel
theorem dX9_ofChild_99 : decode cX9_ofChild 99 = .ok (.getfield 25, 3) := by decide +kernel
theorem dX9_ofChild_102 : decode cX9_ofChild 102 = .ok (.getfield 305, 3) := by decide +kernel
theorem dX9_ofChild_105 : decode cX9_ofChild 105 = .ok (.iload_n 2, 1) := by decide +kernel
theorem dX9_ofChild_106 : decode cX9_ofChild 106 = .ok (.iaload, 1) := by decide +kernel
theorem dX9_ofChild_107 : decode cX9_ofChild 107 = .ok (.goto 11, 3) := by decide +kernel
theorem dX9_ofChild_110 : decode cX9_ofChild 110 = .ok (.aload_n 0, 1) := by decide +kernel
theorem dX9_ofChild_111 : decode cX9_ofChild 111 = .ok (.getfield 25, 3) := by decide +kernel
theorem dX9_ofChild_114 : decode cX9_ofChild 114 = .ok (.iload_n 2, 1) := by decide +kernel
theorem dX9_ofChild_115 : decode cX9_ofChild 115 = .ok (.invokevirtual 308, 3) := by decide +kernel
theorem dX9_ofChild_118 : decode cX9_ofChild 118 = .ok (.ireturn, 1) := by decide +kernel
theorem dX10_init_0 : decode cX10_init 0 = .ok (.aload_n 0, 1) := by decide +kernel
theorem dX10_init_1 : decode cX10_init 1 = .ok (.invokespecial 3, 3) := by decide +kernel
theorem dX10_init_4 : decode cX10_init 4 = .ok (.aload_n 0, 1) := by decide +kernel
theorem dX10_init_5 : decode cX10_init 5 = .ok (.sipush 445, 3) := by decide +kernel
theorem dX10_init_8 : decode cX10_init 8 = .ok (.newarray .int, 2) := by decide +kernel
theorem dX10_init_10 : decode cX10_init 10 = .ok (.putfield 9, 3) := by decide +kernel
theorem dX10_init_13 : decode cX10_init 13 = .ok (.aload_n 0, 1) := by decide +kernel
theorem dX10_init_14 : decode cX10_init 14 = .ok (.sipush 445, 3) := by decide +kernel
theorem dX10_init_17 : decode cX10_init 17 = .ok (.newarray .int, 2) := by decide +kernel
theorem dX10_init_19 : decode cX10_init 19 = .ok (.putfield 13, 3) := by decide +kernel
theorem dX10_init_22 : decode cX10_init 22 = .ok (.aload_n 0, 1) := by decide +kernel
theorem dX10_init_23 : decode cX10_init 23 = .ok (.sipush 445, 3) := by decide +kernel
theorem dX10_init_26 : decode cX10_init 26 = .ok (.newarray .int, 2) := by decide +kernel
theorem dX10_init_28 : decode cX10_init 28 = .ok (.putfield 16, 3) := by decide +kernel
theorem dX10_init_31 : decode cX10_init 31 = .ok (.aload_n 0, 1) := by decide +kernel
theorem dX10_init_32 : decode cX10_init 32 = .ok (.bipush 7, 2) := by decide +kernel
theorem dX10_init_34 : decode cX10_init 34 = .ok (.newarray .int, 2) := by decide +kernel
theorem dX10_init_36 : decode cX10_init 36 = .ok (.putfield 19, 3) := by decide +kernel
theorem dX10_init_39 : decode cX10_init 39 = .ok (.aload_n 0, 1) := by decide +kernel
theorem dX10_init_40 : decode cX10_init 40 = .ok (.iconst 2, 1) := by decide +kernel
theorem dX10_init_41 : decode cX10_init 41 = .ok (.anewarray 22, 3) := by decide +kernel
theorem dX10_init_44 : decode cX10_init 44 = .ok (.dup, 1) := by decide +kernel
theorem dX10_init_45 : decode cX10_init 45 = .ok (.iconst 0, 1) := by decide +kernel
theorem dX10_init_46 : decode cX10_init 46 = .ok (.ldc 24, 2) := by decide +kernel
theorem dX10_init_48 : decode cX10_init 48 = .ok (.aastore, 1) := by decide +kernel
theorem dX10_init_49 : decode cX10_init 49 = .ok (.dup, 1) := by decide +kernel
theorem dX10_init_50 : decode cX10_init 50 = .ok (.iconst 1, 1) := by decide +kernel
theorem dX10_init_51 : decode cX10_init 51 = .ok (.ldc 26, 2) := by decide +kernel
theorem dX10_init_53 : decode cX10_init 53 = .ok (.aastore, 1) := by decide +kernel
theorem dX10_init_54 : decode cX10_init 54 = .ok (.putfield 28, 3) := by decide +kernel
theorem dX10_init_57 : decode cX10_init 57 = .ok (.aload_n 0, 1) := by decide +kernel
theorem dX10_init_58 : decode cX10_init 58 = .ok (.bipush 60, 2) := by decide +kernel
theorem dX10_init_60 : decode cX10_init 60 = .ok (.newarray .int, 2) := by decide +kernel
theorem dX10_init_62 : decode cX10_init 62 = .ok (.putfield 32, 3) := by decide +kernel
theorem dX10_init_65 : decode cX10_init 65 = .ok (.aload_n 0, 1) := by decide +kernel
theorem dX10_init_66 : decode cX10_init 66 = .ok (.iconst 5, 1) := by decide +kernel
theorem dX10_init_67 : decode cX10_init 67 = .ok (.newarray .int, 2) := by decide +kernel
theorem dX10_init_69 : decode cX10_init 69 = .ok (.putfield 35, 3) := by decide +kernel
theorem dX10_init_72 : decode cX10_init 72 = .ok (.aload_n 0, 1) := by decide +kernel
theorem dX10_init_73 : decode cX10_init 73 = .ok (.bipush 60, 2) := by decide +kernel
theorem dX10_init_75 : decode cX10_init 75 = .ok (.newarray .int, 2) := by decide +kernel
theorem dX10_init_77 : decode cX10_init 77 = .ok (.putfield 38, 3) := by decide +kernel
theorem dX10_init_80 : decode cX10_init 80 = .ok (.aload_n 0, 1) := by decide +kernel
theorem dX10_init_81 : decode cX10_init 81 = .ok (.bipush 100, 2) := by decide +kernel
theorem dX10_init_83 : decode cX10_init 83 = .ok (.newarray .int, 2) := by decide +kernel
theorem dX10_init_85 : decode cX10_init 85 = .ok (.putfield 41, 3) := by decide +kernel
theorem dX10_init_88 : decode cX10_init 88 = .ok (.aload_n 0, 1) := by decide +kernel
theorem dX10_init_89 : decode cX10_init 89 = .ok (.bipush 10, 2) := by decide +kernel
theorem dX10_init_91 : decode cX10_init 91 = .ok (.newarray .int, 2) := by decide +kernel
theorem dX10_init_93 : decode cX10_init 93 = .ok (.putfield 44, 3) := by decide +kernel
theorem dX10_init_96 : decode cX10_init 96 = .ok (.aload_n 0, 1) := by decide +kernel
theorem dX10_init_97 : decode cX10_init 97 = .ok (.bipush 30, 2) := by decide +kernel
theorem dX10_init_99 : decode cX10_init 99 = .ok (.newarray .int, 2) := by decide +kernel
theorem dX10_init_101 : decode cX10_init 101 = .ok (.putfield 47, 3) := by decide +kernel
theorem dX10_init_104 : decode cX10_init 104 = .ok (.aload_n 0, 1) := by decide +kernel
theorem dX10_init_105 : decode cX10_init 105 = .ok (.iconst 4, 1) := by decide +kernel
theorem dX10_init_106 : decode cX10_init 106 = .ok (.newarray .int, 2) := by decide +kernel
theorem dX10_init_108 : decode cX10_init 108 = .ok (.putfield 50, 3) := by decide +kernel
theorem dX10_init_111 : decode cX10_init 111 = .ok (.aload_n 0, 1) := by decide +kernel
theorem dX10_init_112 : decode cX10_init 112 = .ok (.iconst 4, 1) := by decide +kernel
theorem dX10_init_113 : decode cX10_init 113 = .ok (.newarray .int, 2) := by decide +kernel
theorem dX10_init_115 : decode cX10_init 115 = .ok (.putfield 53, 3) := by decide +kernel
theorem dX10_init_118 : decode cX10_init 118 = .ok (.aload_n 0, 1) := by decide +kernel
theorem dX10_init_119 : decode cX10_init 119 = .ok (.bipush 96, 2) := by decide +kernel
theorem dX10_init_121 : decode cX10_init 121 = .ok (.newarray .int, 2) := by decide +kernel
theorem dX10_init_123 : decode cX10_init 123 = .ok (.putfield 56, 3) := by decide +kernel
theorem dX10_init_126 : decode cX10_init 126 = .ok (.aload_n 0, 1) := by decide +kernel
theorem dX10_init_127 : decode cX10_init 127 = .ok (.bipush 24, 2) := by decide +kernel
theorem dX10_init_129 : decode cX10_init 129 = .ok (.newarray .int, 2) := by decide +kernel
theorem dX10_init_131 : decode cX10_init 131 = .ok (.putfield 59, 3) := by decide +kernel
theorem dX10_init_134 : decode cX10_init 134 = .ok (.aload_n 0, 1) := by decide +kernel
theorem dX10_init_135 : decode cX10_init 135 = .ok (.getfield 9, 3) := by decide +kernel
theorem dX10_init_138 : decode cX10_init 138 = .ok (.bipush 6, 2) := by decide +kernel
theorem dX10_init_140 : decode cX10_init 140 = .ok (.iconst 1, 1) := by decide +kernel
theorem dX10_init_141 : decode cX10_init 141 = .ok (.iastore, 1) := by decide +kernel
theorem dX10_init_142 : decode cX10_init 142 = .ok (.return_, 1) := by decide +kernel
theorem dX10_finding_0 : decode cX10_finding 0 = .ok (.aload_n 0, 1) := by decide +kernel
theorem dX10_finding_1 : decode cX10_finding 1 = .ok (.getfield 19, 3) := by decide +kernel
theorem dX10_finding_4 : decode cX10_finding 4 = .ok (.ldc 62, 2) := by decide +kernel
theorem dX10_finding_6 : decode cX10_finding 6 = .ok (.iload_n 1, 1) := by decide +kernel
theorem dX10_finding_7 : decode cX10_finding 7 = .ok (.isub, 1) := by decide +kernel
theorem dX10_finding_8 : decode cX10_finding 8 = .ok (.dup2, 1) := by decide +kernel
theorem dX10_finding_9 : decode cX10_finding 9 = .ok (.iaload, 1) := by decide +kernel
theorem dX10_finding_10 : decode cX10_finding 10 = .ok (.iconst 1, 1) := by decide +kernel
theorem dX10_finding_11 : decode cX10_finding 11 = .ok (.iadd, 1) := by decide +kernel
theorem dX10_finding_12 : decode cX10_finding 12 = .ok (.iastore, 1) := by decide +kernel
theorem dX10_finding_13 : decode cX10_finding 13 = .ok (.iload_n 1, 1) := by decide +kernel
theorem dX10_finding_14 : decode cX10_finding 14 = .ok (.ireturn, 1) := by decide +kernel
theorem dX10_within_0 : decode cX10_within 0 = .ok (.iload_n 0, 1) := by decide +kernel
theorem dX10_within_1 : decode cX10_within 1 = .ok (.iload_n 1, 1) := by decide +kernel
theorem dX10_within_2 : decode cX10_within 2 = .ok (.if_icmp .lt 12, 3) := by decide +kernel
theorem dX10_within_5 : decode cX10_within 5 = .ok (.iload_n 0, 1) := by decide +kernel
theorem dX10_within_6 : decode cX10_within 6 = .ok (.iload_n 2, 1) := by decide +kernel
theorem dX10_within_7 : decode cX10_within 7 = .ok (.if_icmp .gt 7, 3) := by decide +kernel
theorem dX10_within_10 : decode cX10_within 10 = .ok (.iconst 1, 1) := by decide +kernel
theorem dX10_within_11 : decode cX10_within 11 = .ok (.goto 4, 3) := by decide +kernel
theorem dX10_within_14 : decode cX10_within 14 = .ok (.iconst 0, 1) := by decide +kernel
theorem dX10_within_15 : decode cX10_within 15 = .ok (.ireturn, 1) := by decide +kernel
theorem dX10_hasBit_0 : decode cX10_hasBit 0 = .ok (.iload_n 0, 1) := by decide +kernel
theorem dX10_hasBit_1 : decode cX10_hasBit 1 = .ok (.iload_n 1, 1) := by decide +kernel
theorem dX10_hasBit_2 : decode cX10_hasBit 2 = .ok (.ishr, 1) := by decide +kernel
theorem dX10_hasBit_3 : decode cX10_hasBit 3 = .ok (.iconst 1, 1) := by decide +kernel
theorem dX10_hasBit_4 : decode cX10_hasBit 4 = .ok (.iand, 1) := by decide +kernel
theorem dX10_hasBit_5 : decode cX10_hasBit 5 = .ok (.iconst 1, 1) := by decide +kernel
theorem dX10_hasBit_6 : decode cX10_hasBit 6 = .ok (.if_icmp .ne 7, 3) := by decide +kernel
theorem dX10_hasBit_9 : decode cX10_hasBit 9 = .ok (.iconst 1, 1) := by decide +kernel
theorem dX10_hasBit_10 : decode cX10_hasBit 10 = .ok (.goto 4, 3) := by decide +kernel
theorem dX10_hasBit_13 : decode cX10_hasBit 13 = .ok (.iconst 0, 1) := by decide +kernel
theorem dX10_hasBit_14 : decode cX10_hasBit 14 = .ok (.ireturn, 1) := by decide +kernel
theorem dX10_held_0 : decode cX10_held 0 = .ok (.iload_n 1, 1) := by decide +kernel
theorem dX10_held_1 : decode cX10_held 1 = .ok (.iload_n 2, 1) := by decide +kernel
theorem dX10_held_2 : decode cX10_held 2 = .ok (.iload_n 0, 1) := by decide +kernel
theorem dX10_held_3 : decode cX10_held 3 = .ok (.invokestatic 63, 3) := by decide +kernel
theorem dX10_held_6 : decode cX10_held 6 = .ok (.invokestatic 69, 3) := by decide +kernel
theorem dX10_held_9 : decode cX10_held 9 = .ok (.ireturn, 1) := by decide +kernel
theorem dX10_is_0 : decode cX10_is 0 = .ok (.iload_n 1, 1) := by decide +kernel
theorem dX10_is_1 : decode cX10_is 1 = .ok (.iconst 0, 1) := by decide +kernel
theorem dX10_is_2 : decode cX10_is 2 = .ok (.aload_n 0, 1) := by decide +kernel
theorem dX10_is_3 : decode cX10_is 3 = .ok (.getfield 9, 3) := by decide +kernel
theorem dX10_is_6 : decode cX10_is 6 = .ok (.iload_n 2, 1) := by decide +kernel
theorem dX10_is_7 : decode cX10_is 7 = .ok (.iaload, 1) := by decide +kernel
theorem dX10_is_8 : decode cX10_is 8 = .ok (.iconst 1, 1) := by decide +kernel
theorem dX10_is_9 : decode cX10_is 9 = .ok (.isub, 1) := by decide +kernel
theorem dX10_is_10 : decode cX10_is 10 = .ok (.invokestatic 72, 3) := by decide +kernel
theorem dX10_is_13 : decode cX10_is 13 = .ok (.ireturn, 1) := by decide +kernel
theorem dX10_copy_0 : decode cX10_copy 0 = .ok (.iconst 0, 1) := by decide +kernel
theorem dX10_copy_1 : decode cX10_copy 1 = .ok (.istore_n 2, 1) := by decide +kernel
theorem dX10_copy_2 : decode cX10_copy 2 = .ok (.iload_n 2, 1) := by decide +kernel
theorem dX10_copy_3 : decode cX10_copy 3 = .ok (.sipush 445, 3) := by decide +kernel
theorem dX10_copy_6 : decode cX10_copy 6 = .ok (.if_icmp .ge 15, 3) := by decide +kernel
theorem dX10_copy_9 : decode cX10_copy 9 = .ok (.aload_n 1, 1) := by decide +kernel
theorem dX10_copy_10 : decode cX10_copy 10 = .ok (.iload_n 2, 1) := by decide +kernel
theorem dX10_copy_11 : decode cX10_copy 11 = .ok (.aload_n 0, 1) := by decide +kernel
theorem dX10_copy_12 : decode cX10_copy 12 = .ok (.iload_n 2, 1) := by decide +kernel
theorem dX10_copy_13 : decode cX10_copy 13 = .ok (.iaload, 1) := by decide +kernel
theorem dX10_copy_14 : decode cX10_copy 14 = .ok (.iastore, 1) := by decide +kernel
theorem dX10_copy_15 : decode cX10_copy 15 = .ok (.iinc 2 1, 3) := by decide +kernel
theorem dX10_copy_18 : decode cX10_copy 18 = .ok (.goto (-16), 3) := by decide +kernel
theorem dX10_copy_21 : decode cX10_copy 21 = .ok (.return_, 1) := by decide +kernel
theorem dX10_become_0 : decode cX10_become 0 = .ok (.aload_n 0, 1) := by decide +kernel
theorem dX10_become_1 : decode cX10_become 1 = .ok (.getfield 9, 3) := by decide +kernel
theorem dX10_become_4 : decode cX10_become 4 = .ok (.iload_n 1, 1) := by decide +kernel
theorem dX10_become_5 : decode cX10_become 5 = .ok (.iaload, 1) := by decide +kernel
theorem dX10_become_6 : decode cX10_become 6 = .ok (.istore_n 3, 1) := by decide +kernel
theorem dX10_become_7 : decode cX10_become 7 = .ok (.aload_n 0, 1) := by decide +kernel
theorem dX10_become_8 : decode cX10_become 8 = .ok (.getfield 9, 3) := by decide +kernel
theorem dX10_become_11 : decode cX10_become 11 = .ok (.iload_n 1, 1) := by decide +kernel
theorem dX10_become_12 : decode cX10_become 12 = .ok (.iload_n 2, 1) := by decide +kernel
theorem dX10_become_13 : decode cX10_become 13 = .ok (.iastore, 1) := by decide +kernel
theorem dX10_become_14 : decode cX10_become 14 = .ok (.iload_n 3, 1) := by decide +kernel
theorem dX10_become_15 : decode cX10_become 15 = .ok (.ireturn, 1) := by decide +kernel
theorem dX10_putBack_0 : decode cX10_putBack 0 = .ok (.aload_n 0, 1) := by decide +kernel
theorem dX10_putBack_1 : decode cX10_putBack 1 = .ok (.getfield 16, 3) := by decide +kernel
theorem dX10_putBack_4 : decode cX10_putBack 4 = .ok (.aload_n 0, 1) := by decide +kernel
theorem dX10_putBack_5 : decode cX10_putBack 5 = .ok (.getfield 9, 3) := by decide +kernel
theorem dX10_putBack_8 : decode cX10_putBack 8 = .ok (.invokestatic 76, 3) := by decide +kernel
theorem dX10_putBack_11 : decode cX10_putBack 11 = .ok (.iload_n 1, 1) := by decide +kernel
theorem dX10_putBack_12 : decode cX10_putBack 12 = .ok (.ireturn, 1) := by decide +kernel
theorem dX10_bits_0 : decode cX10_bits 0 = .ok (.iconst 0, 1) := by decide +kernel
theorem dX10_bits_1 : decode cX10_bits 1 = .ok (.istore_n 1, 1) := by decide +kernel
theorem dX10_bits_2 : decode cX10_bits 2 = .ok (.iload_n 0, 1) := by decide +kernel
theorem dX10_bits_3 : decode cX10_bits 3 = .ok (.istore_n 2, 1) := by decide +kernel
theorem dX10_bits_4 : decode cX10_bits 4 = .ok (.iload_n 2, 1) := by decide +kernel
theorem dX10_bits_5 : decode cX10_bits 5 = .ok (.ifCond .eq 15, 3) := by decide +kernel
theorem dX10_bits_8 : decode cX10_bits 8 = .ok (.iinc 1 1, 3) := by decide +kernel
theorem dX10_bits_11 : decode cX10_bits 11 = .ok (.iload_n 2, 1) := by decide +kernel
theorem dX10_bits_12 : decode cX10_bits 12 = .ok (.iload_n 2, 1) := by decide +kernel
theorem dX10_bits_13 : decode cX10_bits 13 = .ok (.iconst 1, 1) := by decide +kernel
theorem dX10_bits_14 : decode cX10_bits 14 = .ok (.isub, 1) := by decide +kernel
theorem dX10_bits_15 : decode cX10_bits 15 = .ok (.iand, 1) := by decide +kernel
theorem dX10_bits_16 : decode cX10_bits 16 = .ok (.istore_n 2, 1) := by decide +kernel
theorem dX10_bits_17 : decode cX10_bits 17 = .ok (.goto (-13), 3) := by decide +kernel
theorem dX10_bits_20 : decode cX10_bits 20 = .ok (.iload_n 1, 1) := by decide +kernel
theorem dX10_bits_21 : decode cX10_bits 21 = .ok (.ireturn, 1) := by decide +kernel
theorem dX10_of_0 : decode cX10_of 0 = .ok (.aload_n 0, 1) := by decide +kernel
theorem dX10_of_1 : decode cX10_of 1 = .ok (.getfield 9, 3) := by decide +kernel
theorem dX10_of_4 : decode cX10_of 4 = .ok (.bipush 7, 2) := by decide +kernel
theorem dX10_of_6 : decode cX10_of 6 = .ok (.bipush 6, 2) := by decide +kernel
theorem dX10_of_8 : decode cX10_of 8 = .ok (.iload_n 1, 1) := by decide +kernel
theorem dX10_of_9 : decode cX10_of 9 = .ok (.imul, 1) := by decide +kernel
theorem dX10_of_10 : decode cX10_of 10 = .ok (.iadd, 1) := by decide +kernel
theorem dX10_of_11 : decode cX10_of 11 = .ok (.iload_n 2, 1) := by decide +kernel
theorem dX10_of_12 : decode cX10_of 12 = .ok (.iadd, 1) := by decide +kernel
theorem dX10_of_13 : decode cX10_of 13 = .ok (.iaload, 1) := by decide +kernel
theorem dX10_of_14 : decode cX10_of 14 = .ok (.ireturn, 1) := by decide +kernel
theorem dX10_heapOf_0 : decode cX10_heapOf 0 = .ok (.aload_n 0, 1) := by decide +kernel
theorem dX10_heapOf_1 : decode cX10_heapOf 1 = .ok (.getfield 9, 3) := by decide +kernel
theorem dX10_heapOf_4 : decode cX10_heapOf 4 = .ok (.sipush 167, 3) := by decide +kernel
theorem dX10_heapOf_7 : decode cX10_heapOf 7 = .ok (.iconst 4, 1) := by decide +kernel
theorem dX10_heapOf_8 : decode cX10_heapOf 8 = .ok (.iload_n 1, 1) := by decide +kernel
theorem dX10_heapOf_9 : decode cX10_heapOf 9 = .ok (.imul, 1) := by decide +kernel
theorem dX10_heapOf_10 : decode cX10_heapOf 10 = .ok (.iadd, 1) := by decide +kernel
theorem dX10_heapOf_11 : decode cX10_heapOf 11 = .ok (.iload_n 2, 1) := by decide +kernel
theorem dX10_heapOf_12 : decode cX10_heapOf 12 = .ok (.iadd, 1) := by decide +kernel
theorem dX10_heapOf_13 : decode cX10_heapOf 13 = .ok (.iaload, 1) := by decide +kernel
theorem dX10_heapOf_14 : decode cX10_heapOf 14 = .ok (.ireturn, 1) := by decide +kernel
theorem dX10_likesOf_0 : decode cX10_likesOf 0 = .ok (.aload_n 0, 1) := by decide +kernel
theorem dX10_likesOf_1 : decode cX10_likesOf 1 = .ok (.getfield 9, 3) := by decide +kernel
theorem dX10_likesOf_4 : decode cX10_likesOf 4 = .ok (.bipush 67, 2) := by decide +kernel
theorem dX10_likesOf_6 : decode cX10_likesOf 6 = .ok (.bipush 10, 2) := by decide +kernel
theorem dX10_likesOf_8 : decode cX10_likesOf 8 = .ok (.iload_n 1, 1) := by decide +kernel
theorem dX10_likesOf_9 : decode cX10_likesOf 9 = .ok (.imul, 1) := by decide +kernel
theorem dX10_likesOf_10 : decode cX10_likesOf 10 = .ok (.iadd, 1) := by decide +kernel
theorem dX10_likesOf_11 : decode cX10_likesOf 11 = .ok (.iload_n 2, 1) := by decide +kernel
theorem dX10_likesOf_12 : decode cX10_likesOf 12 = .ok (.iadd, 1) := by decide +kernel
theorem dX10_likesOf_13 : decode cX10_likesOf 13 = .ok (.iaload, 1) := by decide +kernel
theorem dX10_likesOf_14 : decode cX10_likesOf 14 = .ok (.ireturn, 1) := by decide +kernel
theorem dX10_child_0 : decode cX10_child 0 = .ok (.iload_n 1, 1) := by decide +kernel
theorem dX10_child_1 : decode cX10_child 1 = .ok (.iconst 0, 1) := by decide +kernel
theorem dX10_child_2 : decode cX10_child 2 = .ok (.sipush 699, 3) := by decide +kernel
theorem dX10_child_5 : decode cX10_child 5 = .ok (.invokestatic 72, 3) := by decide +kernel
theorem dX10_child_8 : decode cX10_child 8 = .ok (.ifCond .eq 22, 3) := by decide +kernel
theorem dX10_child_11 : decode cX10_child 11 = .ok (.iload_n 2, 1) := by decide +kernel
theorem dX10_child_12 : decode cX10_child 12 = .ok (.iconst 0, 1) := by decide +kernel
theorem dX10_child_13 : decode cX10_child 13 = .ok (.bipush 99, 2) := by decide +kernel
theorem dX10_child_15 : decode cX10_child 15 = .ok (.invokestatic 72, 3) := by decide +kernel
theorem dX10_child_18 : decode cX10_child 18 = .ok (.ifCond .eq 12, 3) := by decide +kernel
theorem dX10_child_21 : decode cX10_child 21 = .ok (.iload_n 3, 1) := by decide +kernel
theorem dX10_child_22 : decode cX10_child 22 = .ok (.iconst 0, 1) := by decide +kernel
theorem dX10_child_23 : decode cX10_child 23 = .ok (.iconst 1, 1) := by decide +kernel
theorem dX10_child_24 : decode cX10_child 24 = .ok (.invokestatic 72, 3) := by decide +kernel
theorem dX10_child_27 : decode cX10_child 27 = .ok (.ifCond .ne 10, 3) := by decide +kernel
theorem dX10_child_30 : decode cX10_child 30 = .ok (.aload_n 0, 1) := by decide +kernel
theorem dX10_child_31 : decode cX10_child 31 = .ok (.ldc 80, 2) := by decide +kernel
theorem dX10_child_33 : decode cX10_child 33 = .ok (.invokevirtual 81, 3) := by decide +kernel
theorem dX10_child_36 : decode cX10_child 36 = .ok (.ireturn, 1) := by decide +kernel
theorem dX10_child_37 : decode cX10_child 37 = .ok (.aload_n 0, 1) := by decide +kernel
theorem dX10_child_38 : decode cX10_child 38 = .ok (.getfield 9, 3) := by decide +kernel
theorem dX10_child_41 : decode cX10_child 41 = .ok (.iconst 0, 1) := by decide +kernel
theorem dX10_child_42 : decode cX10_child 42 = .ok (.iaload, 1) := by decide +kernel
theorem dX10_child_43 : decode cX10_child 43 = .ok (.istore 4, 2) := by decide +kernel
theorem dX10_child_45 : decode cX10_child 45 = .ok (.iload 4, 2) := by decide +kernel
theorem dX10_child_47 : decode cX10_child 47 = .ok (.bipush 10, 2) := by decide +kernel
theorem dX10_child_49 : decode cX10_child 49 = .ok (.if_icmp .ne 10, 3) := by decide +kernel
theorem dX10_child_52 : decode cX10_child 52 = .ok (.aload_n 0, 1) := by decide +kernel
theorem dX10_child_53 : decode cX10_child 53 = .ok (.ldc 85, 2) := by decide +kernel
theorem dX10_child_55 : decode cX10_child 55 = .ok (.invokevirtual 81, 3) := by decide +kernel
theorem dX10_child_58 : decode cX10_child 58 = .ok (.ireturn, 1) := by decide +kernel
theorem dX10_child_59 : decode cX10_child 59 = .ok (.bipush 7, 2) := by decide +kernel
theorem dX10_child_61 : decode cX10_child 61 = .ok (.bipush 6, 2) := by decide +kernel
theorem dX10_child_63 : decode cX10_child 63 = .ok (.iload 4, 2) := by decide +kernel
theorem dX10_child_65 : decode cX10_child 65 = .ok (.imul, 1) := by decide +kernel
theorem dX10_child_66 : decode cX10_child 66 = .ok (.iadd, 1) := by decide +kernel
theorem dX10_child_67 : decode cX10_child 67 = .ok (.istore 5, 2) := by decide +kernel
theorem dX10_child_69 : decode cX10_child 69 = .ok (.aload_n 0, 1) := by decide +kernel
theorem dX10_child_70 : decode cX10_child 70 = .ok (.getfield 9, 3) := by decide +kernel
theorem dX10_child_73 : decode cX10_child 73 = .ok (.iload 5, 2) := by decide +kernel
theorem dX10_child_75 : decode cX10_child 75 = .ok (.iconst 0, 1) := by decide +kernel
theorem dX10_child_76 : decode cX10_child 76 = .ok (.iadd, 1) := by decide +kernel
theorem dX10_child_77 : decode cX10_child 77 = .ok (.iload_n 1, 1) := by decide +kernel
theorem dX10_child_78 : decode cX10_child 78 = .ok (.bipush 100, 2) := by decide +kernel
theorem dX10_child_80 : decode cX10_child 80 = .ok (.idiv, 1) := by decide +kernel
theorem dX10_child_81 : decode cX10_child 81 = .ok (.iastore, 1) := by decide +kernel
theorem dX10_child_82 : decode cX10_child 82 = .ok (.aload_n 0, 1) := by decide +kernel
theorem dX10_child_83 : decode cX10_child 83 = .ok (.getfield 9, 3) := by decide +kernel
theorem dX10_child_86 : decode cX10_child 86 = .ok (.iload 5, 2) := by decide +kernel
theorem dX10_child_88 : decode cX10_child 88 = .ok (.iconst 1, 1) := by decide +kernel
theorem dX10_child_89 : decode cX10_child 89 = .ok (.iadd, 1) := by decide +kernel
theorem dX10_child_90 : decode cX10_child 90 = .ok (.iload_n 1, 1) := by decide +kernel
theorem dX10_child_91 : decode cX10_child 91 = .ok (.bipush 100, 2) := by decide +kernel
theorem dX10_child_93 : decode cX10_child 93 = .ok (.irem, 1) := by decide +kernel
theorem dX10_child_94 : decode cX10_child 94 = .ok (.iastore, 1) := by decide +kernel
theorem dX10_child_95 : decode cX10_child 95 = .ok (.aload_n 0, 1) := by decide +kernel
theorem dX10_child_96 : decode cX10_child 96 = .ok (.getfield 9, 3) := by decide +kernel
theorem dX10_child_99 : decode cX10_child 99 = .ok (.iload 5, 2) := by decide +kernel
theorem dX10_child_101 : decode cX10_child 101 = .ok (.iconst 2, 1) := by decide +kernel
theorem dX10_child_102 : decode cX10_child 102 = .ok (.iadd, 1) := by decide +kernel
theorem dX10_child_103 : decode cX10_child 103 = .ok (.iload_n 2, 1) := by decide +kernel
theorem dX10_child_104 : decode cX10_child 104 = .ok (.iastore, 1) := by decide +kernel
theorem dX10_child_105 : decode cX10_child 105 = .ok (.aload_n 0, 1) := by decide +kernel
theorem dX10_child_106 : decode cX10_child 106 = .ok (.getfield 9, 3) := by decide +kernel
theorem dX10_child_109 : decode cX10_child 109 = .ok (.iload 5, 2) := by decide +kernel
theorem dX10_child_111 : decode cX10_child 111 = .ok (.iconst 3, 1) := by decide +kernel
theorem dX10_child_112 : decode cX10_child 112 = .ok (.iadd, 1) := by decide +kernel
theorem dX10_child_113 : decode cX10_child 113 = .ok (.iload_n 3, 1) := by decide +kernel
theorem dX10_child_114 : decode cX10_child 114 = .ok (.iastore, 1) := by decide +kernel
theorem dX10_child_115 : decode cX10_child 115 = .ok (.aload_n 0, 1) := by decide +kernel
theorem dX10_child_116 : decode cX10_child 116 = .ok (.getfield 9, 3) := by decide +kernel
theorem dX10_child_119 : decode cX10_child 119 = .ok (.iload 5, 2) := by decide +kernel
theorem dX10_child_121 : decode cX10_child 121 = .ok (.iconst 4, 1) := by decide +kernel
theorem dX10_child_122 : decode cX10_child 122 = .ok (.iadd, 1) := by decide +kernel
theorem dX10_child_123 : decode cX10_child 123 = .ok (.iconst (-1), 1) := by decide +kernel
theorem dX10_child_124 : decode cX10_child 124 = .ok (.iastore, 1) := by decide +kernel
theorem dX10_child_125 : decode cX10_child 125 = .ok (.aload_n 0, 1) := by decide +kernel
theorem dX10_child_126 : decode cX10_child 126 = .ok (.getfield 9, 3) := by decide +kernel
theorem dX10_child_129 : decode cX10_child 129 = .ok (.iload 5, 2) := by decide +kernel
theorem dX10_child_131 : decode cX10_child 131 = .ok (.iconst 5, 1) := by decide +kernel
theorem dX10_child_132 : decode cX10_child 132 = .ok (.iadd, 1) := by decide +kernel
theorem dX10_child_133 : decode cX10_child 133 = .ok (.iconst 0, 1) := by decide +kernel
theorem dX10_child_134 : decode cX10_child 134 = .ok (.iastore, 1) := by decide +kernel
theorem dX10_child_135 : decode cX10_child 135 = .ok (.aload_n 0, 1) := by decide +kernel
theorem dX10_child_136 : decode cX10_child 136 = .ok (.getfield 9, 3) := by decide +kernel
theorem dX10_child_139 : decode cX10_child 139 = .ok (.iconst 0, 1) := by decide +kernel
theorem dX10_child_140 : decode cX10_child 140 = .ok (.dup2, 1) := by decide +kernel
theorem dX10_child_141 : decode cX10_child 141 = .ok (.iaload, 1) := by decide +kernel
theorem dX10_child_142 : decode cX10_child 142 = .ok (.iconst 1, 1) := by decide +kernel
theorem dX10_child_143 : decode cX10_child 143 = .ok (.iadd, 1) := by decide +kernel
theorem dX10_child_144 : decode cX10_child 144 = .ok (.iastore, 1) := by decide +kernel
theorem dX10_child_145 : decode cX10_child 145 = .ok (.iload 4, 2) := by decide +kernel
theorem dX10_child_147 : decode cX10_child 147 = .ok (.ireturn, 1) := by decide +kernel
theorem dX10_childTold_0 : decode cX10_childTold 0 = .ok (.iload_n 2, 1) := by decide +kernel
theorem dX10_childTold_1 : decode cX10_childTold 1 = .ok (.bipush 6, 2) := by decide +kernel
theorem dX10_childTold_3 : decode cX10_childTold 3 = .ok (.if_icmp .ge 12, 3) := by decide +kernel
theorem dX10_childTold_6 : decode cX10_childTold 6 = .ok (.aload_n 0, 1) := by decide +kernel
theorem dX10_childTold_7 : decode cX10_childTold 7 = .ok (.iload_n 1, 1) := by decide +kernel
theorem dX10_childTold_8 : decode cX10_childTold 8 = .ok (.iload_n 2, 1) := by decide +kernel
theorem dX10_childTold_9 : decode cX10_childTold 9 = .ok (.invokevirtual 86, 3) := by decide +kernel
theorem dX10_childTold_12 : decode cX10_childTold 12 = .ok (.goto 22, 3) := by decide +kernel
theorem dX10_childTold_15 : decode cX10_childTold 15 = .ok (.iload_n 2, 1) := by decide +kernel
theorem dX10_childTold_16 : decode cX10_childTold 16 = .ok (.bipush 6, 2) := by decide +kernel
theorem dX10_childTold_18 : decode cX10_childTold 18 = .ok (.if_icmp .ne 11, 3) := by decide +kernel
theorem dX10_childTold_21 : decode cX10_childTold 21 = .ok (.aload_n 0, 1) := by decide +kernel
theorem dX10_childTold_22 : decode cX10_childTold 22 = .ok (.iload_n 1, 1) := by decide +kernel
theorem dX10_childTold_23 : decode cX10_childTold 23 = .ok (.invokevirtual 89, 3) := by decide +kernel
theorem dX10_childTold_26 : decode cX10_childTold 26 = .ok (.goto 8, 3) := by decide +kernel
theorem dX10_childTold_29 : decode cX10_childTold 29 = .ok (.aload_n 0, 1) := by decide +kernel
theorem dX10_childTold_30 : decode cX10_childTold 30 = .ok (.iload_n 1, 1) := by decide +kernel
theorem dX10_childTold_31 : decode cX10_childTold 31 = .ok (.invokevirtual 92, 3) := by decide +kernel
theorem dX10_childTold_34 : decode cX10_childTold 34 = .ok (.ireturn, 1) := by decide +kernel
theorem dX10_childIs_0 : decode cX10_childIs 0 = .ok (.aload_n 0, 1) := by decide +kernel
theorem dX10_childIs_1 : decode cX10_childIs 1 = .ok (.iload_n 1, 1) := by decide +kernel
theorem dX10_childIs_2 : decode cX10_childIs 2 = .ok (.iconst 0, 1) := by decide +kernel
theorem dX10_childIs_3 : decode cX10_childIs 3 = .ok (.invokevirtual 95, 3) := by decide +kernel
theorem dX10_childIs_6 : decode cX10_childIs 6 = .ok (.ifCond .eq 22, 3) := by decide +kernel
theorem dX10_childIs_9 : decode cX10_childIs 9 = .ok (.iload_n 2, 1) := by decide +kernel
theorem dX10_childIs_10 : decode cX10_childIs 10 = .ok (.iconst 0, 1) := by decide +kernel
theorem dX10_childIs_11 : decode cX10_childIs 11 = .ok (.bipush 7, 2) := by decide +kernel
theorem dX10_childIs_13 : decode cX10_childIs 13 = .ok (.invokestatic 72, 3) := by decide +kernel
theorem dX10_childIs_16 : decode cX10_childIs 16 = .ok (.ifCond .eq 12, 3) := by decide +kernel
theorem dX10_childIs_19 : decode cX10_childIs 19 = .ok (.aload_n 0, 1) := by decide +kernel
theorem dX10_childIs_20 : decode cX10_childIs 20 = .ok (.iload_n 1, 1) := by decide +kernel
theorem dX10_childIs_21 : decode cX10_childIs 21 = .ok (.iload_n 2, 1) := by decide +kernel
theorem dX10_childIs_22 : decode cX10_childIs 22 = .ok (.invokevirtual 99, 3) := by decide +kernel
theorem dX10_childIs_25 : decode cX10_childIs 25 = .ok (.goto 9, 3) := by decide +kernel
theorem dX10_childIs_28 : decode cX10_childIs 28 = .ok (.aload_n 0, 1) := by decide +kernel
theorem dX10_childIs_29 : decode cX10_childIs 29 = .ok (.ldc 80, 2) := by decide +kernel
theorem dX10_childIs_31 : decode cX10_childIs 31 = .ok (.invokevirtual 81, 3) := by decide +kernel
theorem dX10_childIs_34 : decode cX10_childIs 34 = .ok (.ireturn, 1) := by decide +kernel
theorem dX10_above_0 : decode cX10_above 0 = .ok (.iload_n 0, 1) := by decide +kernel
theorem dX10_above_1 : decode cX10_above 1 = .ok (.ifCond .ne 7, 3) := by decide +kernel
theorem dX10_above_4 : decode cX10_above 4 = .ok (.iconst (-1), 1) := by decide +kernel
theorem dX10_above_5 : decode cX10_above 5 = .ok (.goto 22, 3) := by decide +kernel
theorem dX10_above_8 : decode cX10_above 8 = .ok (.iload_n 0, 1) := by decide +kernel
theorem dX10_above_9 : decode cX10_above 9 = .ok (.iconst 4, 1) := by decide +kernel
theorem dX10_above_10 : decode cX10_above 10 = .ok (.if_icmp .ne 7, 3) := by decide +kernel
theorem dX10_above_13 : decode cX10_above 13 = .ok (.iconst 1, 1) := by decide +kernel
theorem dX10_above_14 : decode cX10_above 14 = .ok (.goto 13, 3) := by decide +kernel
theorem dX10_above_17 : decode cX10_above 17 = .ok (.iload_n 0, 1) := by decide +kernel
theorem dX10_above_18 : decode cX10_above 18 = .ok (.iconst 5, 1) := by decide +kernel
theorem dX10_above_19 : decode cX10_above 19 = .ok (.if_icmp .ne 7, 3) := by decide +kernel
theorem dX10_above_22 : decode cX10_above 22 = .ok (.iconst 2, 1) := by decide +kernel
theorem dX10_above_23 : decode cX10_above 23 = .ok (.goto 4, 3) := by decide +kernel
theorem dX10_above_26 : decode cX10_above 26 = .ok (.iconst 0, 1) := by decide +kernel
theorem dX10_above_27 : decode cX10_above 27 = .ok (.ireturn, 1) := by decide +kernel
theorem dX10_as_0 : decode cX10_as 0 = .ok (.aload_n 0, 1) := by decide +kernel
theorem dX10_as_1 : decode cX10_as 1 = .ok (.iload_n 1, 1) := by decide +kernel
theorem dX10_as_2 : decode cX10_as 2 = .ok (.iconst 0, 1) := by decide +kernel
theorem dX10_as_3 : decode cX10_as 3 = .ok (.invokevirtual 95, 3) := by decide +kernel
theorem dX10_as_6 : decode cX10_as 6 = .ok (.ifCond .eq 13, 3) := by decide +kernel
theorem dX10_as_9 : decode cX10_as 9 = .ok (.iload_n 2, 1) := by decide +kernel
theorem dX10_as_10 : decode cX10_as 10 = .ok (.iconst 0, 1) := by decide +kernel
theorem dX10_as_11 : decode cX10_as 11 = .ok (.bipush 6, 2) := by decide +kernel
theorem dX10_as_13 : decode cX10_as 13 = .ok (.invokestatic 72, 3) := by decide +kernel
theorem dX10_as_16 : decode cX10_as 16 = .ok (.ifCond .ne 10, 3) := by decide +kernel
theorem dX10_as_19 : decode cX10_as 19 = .ok (.aload_n 0, 1) := by decide +kernel
theorem dX10_as_20 : decode cX10_as 20 = .ok (.ldc 80, 2) := by decide +kernel
theorem dX10_as_22 : decode cX10_as 22 = .ok (.invokevirtual 81, 3) := by decide +kernel
theorem dX10_as_25 : decode cX10_as 25 = .ok (.ireturn, 1) := by decide +kernel
theorem dX10_as_26 : decode cX10_as 26 = .ok (.aload_n 0, 1) := by decide +kernel
theorem dX10_as_27 : decode cX10_as 27 = .ok (.iload_n 1, 1) := by decide +kernel
theorem dX10_as_28 : decode cX10_as 28 = .ok (.iconst 0, 1) := by decide +kernel
theorem dX10_as_29 : decode cX10_as 29 = .ok (.invokevirtual 86, 3) := by decide +kernel
theorem dX10_as_32 : decode cX10_as 32 = .ok (.istore_n 3, 1) := by decide +kernel
theorem dX10_as_33 : decode cX10_as 33 = .ok (.iload_n 3, 1) := by decide +kernel
theorem dX10_as_34 : decode cX10_as 34 = .ok (.ifCond .lt 16, 3) := by decide +kernel
theorem dX10_as_37 : decode cX10_as 37 = .ok (.iload_n 3, 1) := by decide +kernel
theorem dX10_as_38 : decode cX10_as 38 = .ok (.iload_n 2, 1) := by decide +kernel
theorem dX10_as_39 : decode cX10_as 39 = .ok (.if_icmp .eq 11, 3) := by decide +kernel
theorem dX10_as_42 : decode cX10_as 42 = .ok (.iload_n 3, 1) := by decide +kernel
theorem dX10_as_43 : decode cX10_as 43 = .ok (.invokestatic 102, 3) := by decide +kernel
theorem dX10_as_46 : decode cX10_as 46 = .ok (.istore_n 3, 1) := by decide +kernel
theorem dX10_as_47 : decode cX10_as 47 = .ok (.goto (-14), 3) := by decide +kernel
theorem dX10_as_50 : decode cX10_as 50 = .ok (.iload_n 3, 1) := by decide +kernel
theorem dX10_as_51 : decode cX10_as 51 = .ok (.ifCond .ge 12, 3) := by decide +kernel
theorem dX10_as_54 : decode cX10_as 54 = .ok (.aload_n 0, 1) := by decide +kernel
theorem dX10_as_55 : decode cX10_as 55 = .ok (.ldc 105, 2) := by decide +kernel
theorem dX10_as_57 : decode cX10_as 57 = .ok (.invokevirtual 81, 3) := by decide +kernel
theorem dX10_as_60 : decode cX10_as 60 = .ok (.goto 9, 3) := by decide +kernel
theorem dX10_as_63 : decode cX10_as 63 = .ok (.aload_n 0, 1) := by decide +kernel
theorem dX10_as_64 : decode cX10_as 64 = .ok (.iload_n 1, 1) := by decide +kernel
theorem dX10_as_65 : decode cX10_as 65 = .ok (.iconst 1, 1) := by decide +kernel
theorem dX10_as_66 : decode cX10_as 66 = .ok (.invokevirtual 86, 3) := by decide +kernel
theorem dX10_as_69 : decode cX10_as 69 = .ok (.ireturn, 1) := by decide +kernel
theorem dX10_set_0 : decode cX10_set 0 = .ok (.aload_n 0, 1) := by decide +kernel
theorem dX10_set_1 : decode cX10_set 1 = .ok (.iload_n 1, 1) := by decide +kernel
theorem dX10_set_2 : decode cX10_set 2 = .ok (.iconst 0, 1) := by decide +kernel
theorem dX10_set_3 : decode cX10_set 3 = .ok (.invokevirtual 95, 3) := by decide +kernel
theorem dX10_set_6 : decode cX10_set 6 = .ok (.ifCond .eq 44, 3) := by decide +kernel
theorem dX10_set_9 : decode cX10_set 9 = .ok (.iload_n 2, 1) := by decide +kernel
theorem dX10_set_10 : decode cX10_set 10 = .ok (.iconst 0, 1) := by decide +kernel
theorem dX10_set_11 : decode cX10_set 11 = .ok (.iconst 3, 1) := by decide +kernel
theorem dX10_set_12 : decode cX10_set 12 = .ok (.invokestatic 72, 3) := by decide +kernel
theorem dX10_set_15 : decode cX10_set 15 = .ok (.ifCond .eq 35, 3) := by decide +kernel
theorem dX10_set_18 : decode cX10_set 18 = .ok (.iload_n 3, 1) := by decide +kernel
theorem dX10_set_19 : decode cX10_set 19 = .ok (.iconst 0, 1) := by decide +kernel
theorem dX10_set_20 : decode cX10_set 20 = .ok (.iload_n 2, 1) := by decide +kernel
theorem dX10_set_21 : decode cX10_set 21 = .ok (.ifCond .ne 8, 3) := by decide +kernel
theorem dX10_set_24 : decode cX10_set 24 = .ok (.bipush 6, 2) := by decide +kernel
theorem dX10_set_26 : decode cX10_set 26 = .ok (.goto 14, 3) := by decide +kernel
theorem dX10_set_29 : decode cX10_set 29 = .ok (.iload_n 2, 1) := by decide +kernel
theorem dX10_set_30 : decode cX10_set 30 = .ok (.iconst 3, 1) := by decide +kernel
theorem dX10_set_31 : decode cX10_set 31 = .ok (.if_icmp .ne 7, 3) := by decide +kernel
theorem dX10_set_34 : decode cX10_set 34 = .ok (.iconst 1, 1) := by decide +kernel
theorem dX10_set_35 : decode cX10_set 35 = .ok (.goto 5, 3) := by decide +kernel
theorem dX10_set_38 : decode cX10_set 38 = .ok (.bipush 99, 2) := by decide +kernel
theorem dX10_set_40 : decode cX10_set 40 = .ok (.invokestatic 72, 3) := by decide +kernel
theorem dX10_set_43 : decode cX10_set 43 = .ok (.ifCond .eq 7, 3) := by decide +kernel
theorem dX10_set_46 : decode cX10_set 46 = .ok (.iconst 1, 1) := by decide +kernel
theorem dX10_set_47 : decode cX10_set 47 = .ok (.goto 4, 3) := by decide +kernel
theorem dX10_set_50 : decode cX10_set 50 = .ok (.iconst 0, 1) := by decide +kernel
theorem dX10_set_51 : decode cX10_set 51 = .ok (.istore 4, 2) := by decide +kernel
theorem dX10_set_53 : decode cX10_set 53 = .ok (.iload 4, 2) := by decide +kernel
theorem dX10_set_55 : decode cX10_set 55 = .ok (.ifCond .eq 20, 3) := by decide +kernel
theorem dX10_set_58 : decode cX10_set 58 = .ok (.aload_n 0, 1) := by decide +kernel
theorem dX10_set_59 : decode cX10_set 59 = .ok (.bipush 7, 2) := by decide +kernel
theorem dX10_set_61 : decode cX10_set 61 = .ok (.bipush 6, 2) := by decide +kernel
theorem dX10_set_63 : decode cX10_set 63 = .ok (.iload_n 1, 1) := by decide +kernel
theorem dX10_set_64 : decode cX10_set 64 = .ok (.imul, 1) := by decide +kernel
theorem dX10_set_65 : decode cX10_set 65 = .ok (.iadd, 1) := by decide +kernel
theorem dX10_set_66 : decode cX10_set 66 = .ok (.iload_n 2, 1) := by decide +kernel
theorem dX10_set_67 : decode cX10_set 67 = .ok (.iadd, 1) := by decide +kernel
theorem dX10_set_68 : decode cX10_set 68 = .ok (.iload_n 3, 1) := by decide +kernel
theorem dX10_set_69 : decode cX10_set 69 = .ok (.invokevirtual 106, 3) := by decide +kernel
theorem dX10_set_72 : decode cX10_set 72 = .ok (.goto 9, 3) := by decide +kernel
theorem dX10_set_75 : decode cX10_set 75 = .ok (.aload_n 0, 1) := by decide +kernel
theorem dX10_set_76 : decode cX10_set 76 = .ok (.ldc 80, 2) := by decide +kernel
theorem dX10_set_78 : decode cX10_set 78 = .ok (.invokevirtual 81, 3) := by decide +kernel
theorem dX10_set_81 : decode cX10_set 81 = .ok (.ireturn, 1) := by decide +kernel
theorem dX10_likes_0 : decode cX10_likes 0 = .ok (.aload_n 0, 1) := by decide +kernel
theorem dX10_likes_1 : decode cX10_likes 1 = .ok (.iload_n 1, 1) := by decide +kernel
theorem dX10_likes_2 : decode cX10_likes 2 = .ok (.iconst 0, 1) := by decide +kernel
theorem dX10_likes_3 : decode cX10_likes 3 = .ok (.invokevirtual 95, 3) := by decide +kernel
theorem dX10_likes_6 : decode cX10_likes 6 = .ok (.ifCond .eq 31, 3) := by decide +kernel
theorem dX10_likes_9 : decode cX10_likes 9 = .ok (.aload_n 0, 1) := by decide +kernel
theorem dX10_likes_10 : decode cX10_likes 10 = .ok (.iload_n 2, 1) := by decide +kernel
theorem dX10_likes_11 : decode cX10_likes 11 = .ok (.iconst 0, 1) := by decide +kernel
theorem dX10_likes_12 : decode cX10_likes 12 = .ok (.invokevirtual 95, 3) := by decide +kernel
theorem dX10_likes_15 : decode cX10_likes 15 = .ok (.ifCond .eq 22, 3) := by decide +kernel
theorem dX10_likes_18 : decode cX10_likes 18 = .ok (.iload_n 1, 1) := by decide +kernel
theorem dX10_likes_19 : decode cX10_likes 19 = .ok (.iload_n 2, 1) := by decide +kernel
theorem dX10_likes_20 : decode cX10_likes 20 = .ok (.if_icmp .eq 17, 3) := by decide +kernel
theorem dX10_likes_23 : decode cX10_likes 23 = .ok (.iload_n 3, 1) := by decide +kernel
theorem dX10_likes_24 : decode cX10_likes 24 = .ok (.iconst 0, 1) := by decide +kernel
theorem dX10_likes_25 : decode cX10_likes 25 = .ok (.bipush 99, 2) := by decide +kernel
theorem dX10_likes_27 : decode cX10_likes 27 = .ok (.invokestatic 72, 3) := by decide +kernel
theorem dX10_likes_30 : decode cX10_likes 30 = .ok (.ifCond .eq 7, 3) := by decide +kernel
theorem dX10_likes_33 : decode cX10_likes 33 = .ok (.iconst 1, 1) := by decide +kernel
theorem dX10_likes_34 : decode cX10_likes 34 = .ok (.goto 4, 3) := by decide +kernel
theorem dX10_likes_37 : decode cX10_likes 37 = .ok (.iconst 0, 1) := by decide +kernel
theorem dX10_likes_38 : decode cX10_likes 38 = .ok (.istore 4, 2) := by decide +kernel
theorem dX10_likes_40 : decode cX10_likes 40 = .ok (.iload 4, 2) := by decide +kernel
theorem dX10_likes_42 : decode cX10_likes 42 = .ok (.ifCond .eq 20, 3) := by decide +kernel
theorem dX10_likes_45 : decode cX10_likes 45 = .ok (.aload_n 0, 1) := by decide +kernel
theorem dX10_likes_46 : decode cX10_likes 46 = .ok (.bipush 67, 2) := by decide +kernel
theorem dX10_likes_48 : decode cX10_likes 48 = .ok (.bipush 10, 2) := by decide +kernel
theorem dX10_likes_50 : decode cX10_likes 50 = .ok (.iload_n 1, 1) := by decide +kernel
theorem dX10_likes_51 : decode cX10_likes 51 = .ok (.imul, 1) := by decide +kernel
theorem dX10_likes_52 : decode cX10_likes 52 = .ok (.iadd, 1) := by decide +kernel
theorem dX10_likes_53 : decode cX10_likes 53 = .ok (.iload_n 2, 1) := by decide +kernel
theorem dX10_likes_54 : decode cX10_likes 54 = .ok (.iadd, 1) := by decide +kernel
theorem dX10_likes_55 : decode cX10_likes 55 = .ok (.iload_n 3, 1) := by decide +kernel
theorem dX10_likes_56 : decode cX10_likes 56 = .ok (.invokevirtual 106, 3) := by decide +kernel
theorem dX10_likes_59 : decode cX10_likes 59 = .ok (.goto 9, 3) := by decide +kernel
theorem dX10_likes_62 : decode cX10_likes 62 = .ok (.aload_n 0, 1) := by decide +kernel
theorem dX10_likes_63 : decode cX10_likes 63 = .ok (.ldc 80, 2) := by decide +kernel
theorem dX10_likes_65 : decode cX10_likes 65 = .ok (.invokevirtual 81, 3) := by decide +kernel
theorem dX10_likes_68 : decode cX10_likes 68 = .ok (.ireturn, 1) := by decide +kernel
theorem dX10_heap_0 : decode cX10_heap 0 = .ok (.iload_n 1, 1) := by decide +kernel
theorem dX10_heap_1 : decode cX10_heap 1 = .ok (.iconst 1, 1) := by decide +kernel
theorem dX10_heap_2 : decode cX10_heap 2 = .ok (.bipush 10, 2) := by decide +kernel
theorem dX10_heap_4 : decode cX10_heap 4 = .ok (.invokestatic 72, 3) := by decide +kernel
theorem dX10_heap_7 : decode cX10_heap 7 = .ok (.ifCond .eq 13, 3) := by decide +kernel
theorem dX10_heap_10 : decode cX10_heap 10 = .ok (.iload_n 2, 1) := by decide +kernel
theorem dX10_heap_11 : decode cX10_heap 11 = .ok (.iload_n 1, 1) := by decide +kernel
theorem dX10_heap_12 : decode cX10_heap 12 = .ok (.bipush 10, 2) := by decide +kernel
theorem dX10_heap_14 : decode cX10_heap 14 = .ok (.invokestatic 72, 3) := by decide +kernel
theorem dX10_heap_17 : decode cX10_heap 17 = .ok (.ifCond .ne 10, 3) := by decide +kernel
theorem dX10_heap_20 : decode cX10_heap 20 = .ok (.aload_n 0, 1) := by decide +kernel
theorem dX10_heap_21 : decode cX10_heap 21 = .ok (.ldc 80, 2) := by decide +kernel
theorem dX10_heap_23 : decode cX10_heap 23 = .ok (.invokevirtual 81, 3) := by decide +kernel
theorem dX10_heap_26 : decode cX10_heap 26 = .ok (.ireturn, 1) := by decide +kernel
theorem dX10_heap_27 : decode cX10_heap 27 = .ok (.aload_n 0, 1) := by decide +kernel
theorem dX10_heap_28 : decode cX10_heap 28 = .ok (.getfield 9, 3) := by decide +kernel
theorem dX10_heap_31 : decode cX10_heap 31 = .ok (.iconst 1, 1) := by decide +kernel
theorem dX10_heap_32 : decode cX10_heap 32 = .ok (.iaload, 1) := by decide +kernel
theorem dX10_heap_33 : decode cX10_heap 33 = .ok (.istore_n 3, 1) := by decide +kernel
theorem dX10_heap_34 : decode cX10_heap 34 = .ok (.iload_n 3, 1) := by decide +kernel
theorem dX10_heap_35 : decode cX10_heap 35 = .ok (.iconst 5, 1) := by decide +kernel
theorem dX10_heap_36 : decode cX10_heap 36 = .ok (.if_icmp .ne 10, 3) := by decide +kernel
theorem dX10_heap_39 : decode cX10_heap 39 = .ok (.aload_n 0, 1) := by decide +kernel
theorem dX10_heap_40 : decode cX10_heap 40 = .ok (.ldc 85, 2) := by decide +kernel
theorem dX10_heap_42 : decode cX10_heap 42 = .ok (.invokevirtual 81, 3) := by decide +kernel
theorem dX10_heap_45 : decode cX10_heap 45 = .ok (.ireturn, 1) := by decide +kernel
theorem dX10_heap_46 : decode cX10_heap 46 = .ok (.aload_n 0, 1) := by decide +kernel
theorem dX10_heap_47 : decode cX10_heap 47 = .ok (.getfield 9, 3) := by decide +kernel
theorem dX10_heap_50 : decode cX10_heap 50 = .ok (.sipush 167, 3) := by decide +kernel
theorem dX10_heap_53 : decode cX10_heap 53 = .ok (.iconst 4, 1) := by decide +kernel
theorem dX10_heap_54 : decode cX10_heap 54 = .ok (.iload_n 3, 1) := by decide +kernel
theorem dX10_heap_55 : decode cX10_heap 55 = .ok (.imul, 1) := by decide +kernel
theorem dX10_heap_56 : decode cX10_heap 56 = .ok (.iadd, 1) := by decide +kernel
theorem dX10_heap_57 : decode cX10_heap 57 = .ok (.iconst 0, 1) := by decide +kernel
theorem dX10_heap_58 : decode cX10_heap 58 = .ok (.iadd, 1) := by decide +kernel
theorem dX10_heap_59 : decode cX10_heap 59 = .ok (.iload_n 1, 1) := by decide +kernel
theorem dX10_heap_60 : decode cX10_heap 60 = .ok (.iastore, 1) := by decide +kernel
theorem dX10_heap_61 : decode cX10_heap 61 = .ok (.aload_n 0, 1) := by decide +kernel
theorem dX10_heap_62 : decode cX10_heap 62 = .ok (.getfield 9, 3) := by decide +kernel
theorem dX10_heap_65 : decode cX10_heap 65 = .ok (.sipush 167, 3) := by decide +kernel
theorem dX10_heap_68 : decode cX10_heap 68 = .ok (.iconst 4, 1) := by decide +kernel
theorem dX10_heap_69 : decode cX10_heap 69 = .ok (.iload_n 3, 1) := by decide +kernel
theorem dX10_heap_70 : decode cX10_heap 70 = .ok (.imul, 1) := by decide +kernel
theorem dX10_heap_71 : decode cX10_heap 71 = .ok (.iadd, 1) := by decide +kernel
theorem dX10_heap_72 : decode cX10_heap 72 = .ok (.iconst 1, 1) := by decide +kernel
theorem dX10_heap_73 : decode cX10_heap 73 = .ok (.iadd, 1) := by decide +kernel
theorem dX10_heap_74 : decode cX10_heap 74 = .ok (.iload_n 2, 1) := by decide +kernel
theorem dX10_heap_75 : decode cX10_heap 75 = .ok (.iastore, 1) := by decide +kernel
theorem dX10_heap_76 : decode cX10_heap 76 = .ok (.aload_n 0, 1) := by decide +kernel
theorem dX10_heap_77 : decode cX10_heap 77 = .ok (.getfield 9, 3) := by decide +kernel
theorem dX10_heap_80 : decode cX10_heap 80 = .ok (.sipush 167, 3) := by decide +kernel
theorem dX10_heap_83 : decode cX10_heap 83 = .ok (.iconst 4, 1) := by decide +kernel
theorem dX10_heap_84 : decode cX10_heap 84 = .ok (.iload_n 3, 1) := by decide +kernel
theorem dX10_heap_85 : decode cX10_heap 85 = .ok (.imul, 1) := by decide +kernel
theorem dX10_heap_86 : decode cX10_heap 86 = .ok (.iadd, 1) := by decide +kernel
theorem dX10_heap_87 : decode cX10_heap 87 = .ok (.iconst 2, 1) := by decide +kernel
theorem dX10_heap_88 : decode cX10_heap 88 = .ok (.iadd, 1) := by decide +kernel
theorem dX10_heap_89 : decode cX10_heap 89 = .ok (.bipush 30, 2) := by decide +kernel
theorem dX10_heap_91 : decode cX10_heap 91 = .ok (.iastore, 1) := by decide +kernel
theorem dX10_heap_92 : decode cX10_heap 92 = .ok (.aload_n 0, 1) := by decide +kernel
theorem dX10_heap_93 : decode cX10_heap 93 = .ok (.getfield 9, 3) := by decide +kernel
theorem dX10_heap_96 : decode cX10_heap 96 = .ok (.sipush 167, 3) := by decide +kernel
theorem dX10_heap_99 : decode cX10_heap 99 = .ok (.iconst 4, 1) := by decide +kernel
theorem dX10_heap_100 : decode cX10_heap 100 = .ok (.iload_n 3, 1) := by decide +kernel
theorem dX10_heap_101 : decode cX10_heap 101 = .ok (.imul, 1) := by decide +kernel
theorem dX10_heap_102 : decode cX10_heap 102 = .ok (.iadd, 1) := by decide +kernel
theorem dX10_heap_103 : decode cX10_heap 103 = .ok (.iconst 3, 1) := by decide +kernel
theorem dX10_heap_104 : decode cX10_heap 104 = .ok (.iadd, 1) := by decide +kernel
theorem dX10_heap_105 : decode cX10_heap 105 = .ok (.iconst 0, 1) := by decide +kernel
theorem dX10_heap_106 : decode cX10_heap 106 = .ok (.iastore, 1) := by decide +kernel
theorem dX10_heap_107 : decode cX10_heap 107 = .ok (.aload_n 0, 1) := by decide +kernel
theorem dX10_heap_108 : decode cX10_heap 108 = .ok (.getfield 9, 3) := by decide +kernel
theorem dX10_heap_111 : decode cX10_heap 111 = .ok (.iconst 1, 1) := by decide +kernel
theorem dX10_heap_112 : decode cX10_heap 112 = .ok (.dup2, 1) := by decide +kernel
theorem dX10_heap_113 : decode cX10_heap 113 = .ok (.iaload, 1) := by decide +kernel
theorem dX10_heap_114 : decode cX10_heap 114 = .ok (.iconst 1, 1) := by decide +kernel
theorem dX10_heap_115 : decode cX10_heap 115 = .ok (.iadd, 1) := by decide +kernel
theorem dX10_heap_116 : decode cX10_heap 116 = .ok (.iastore, 1) := by decide +kernel
theorem dX10_heap_117 : decode cX10_heap 117 = .ok (.iload_n 3, 1) := by decide +kernel
theorem dX10_heap_118 : decode cX10_heap 118 = .ok (.ireturn, 1) := by decide +kernel
theorem dX10_inHeap_0 : decode cX10_inHeap 0 = .ok (.iconst 0, 1) := by decide +kernel
theorem dX10_inHeap_1 : decode cX10_inHeap 1 = .ok (.istore_n 2, 1) := by decide +kernel
theorem dX10_inHeap_2 : decode cX10_inHeap 2 = .ok (.iconst 0, 1) := by decide +kernel
theorem dX10_inHeap_3 : decode cX10_inHeap 3 = .ok (.istore_n 3, 1) := by decide +kernel
theorem dX10_inHeap_4 : decode cX10_inHeap 4 = .ok (.iload_n 3, 1) := by decide +kernel
theorem dX10_inHeap_5 : decode cX10_inHeap 5 = .ok (.aload_n 0, 1) := by decide +kernel
theorem dX10_inHeap_6 : decode cX10_inHeap 6 = .ok (.getfield 9, 3) := by decide +kernel
theorem dX10_inHeap_9 : decode cX10_inHeap 9 = .ok (.iconst 0, 1) := by decide +kernel
theorem dX10_inHeap_10 : decode cX10_inHeap 10 = .ok (.iaload, 1) := by decide +kernel
theorem dX10_inHeap_11 : decode cX10_inHeap 11 = .ok (.if_icmp .ge 29, 3) := by decide +kernel
theorem dX10_inHeap_14 : decode cX10_inHeap 14 = .ok (.iload_n 2, 1) := by decide +kernel
theorem dX10_inHeap_15 : decode cX10_inHeap 15 = .ok (.aload_n 0, 1) := by decide +kernel
theorem dX10_inHeap_16 : decode cX10_inHeap 16 = .ok (.iload_n 3, 1) := by decide +kernel
theorem dX10_inHeap_17 : decode cX10_inHeap 17 = .ok (.iconst 4, 1) := by decide +kernel
theorem dX10_inHeap_18 : decode cX10_inHeap 18 = .ok (.invokevirtual 86, 3) := by decide +kernel
theorem dX10_inHeap_21 : decode cX10_inHeap 21 = .ok (.iload_n 1, 1) := by decide +kernel
theorem dX10_inHeap_22 : decode cX10_inHeap 22 = .ok (.if_icmp .ne 9, 3) := by decide +kernel
theorem dX10_inHeap_25 : decode cX10_inHeap 25 = .ok (.iconst 1, 1) := by decide +kernel
theorem dX10_inHeap_26 : decode cX10_inHeap 26 = .ok (.iload_n 3, 1) := by decide +kernel
theorem dX10_inHeap_27 : decode cX10_inHeap 27 = .ok (.ishl, 1) := by decide +kernel
theorem dX10_inHeap_28 : decode cX10_inHeap 28 = .ok (.goto 4, 3) := by decide +kernel
theorem dX10_inHeap_31 : decode cX10_inHeap 31 = .ok (.iconst 0, 1) := by decide +kernel
theorem dX10_inHeap_32 : decode cX10_inHeap 32 = .ok (.ior, 1) := by decide +kernel
theorem dX10_inHeap_33 : decode cX10_inHeap 33 = .ok (.istore_n 2, 1) := by decide +kernel
theorem dX10_inHeap_34 : decode cX10_inHeap 34 = .ok (.iinc 3 1, 3) := by decide +kernel
theorem dX10_inHeap_37 : decode cX10_inHeap 37 = .ok (.goto (-33), 3) := by decide +kernel
theorem dX10_inHeap_40 : decode cX10_inHeap 40 = .ok (.iload_n 2, 1) := by decide +kernel
theorem dX10_inHeap_41 : decode cX10_inHeap 41 = .ok (.ireturn, 1) := by decide +kernel
theorem dX10_heapIs_0 : decode cX10_heapIs 0 = .ok (.aload_n 0, 1) := by decide +kernel
theorem dX10_heapIs_1 : decode cX10_heapIs 1 = .ok (.iload_n 1, 1) := by decide +kernel
theorem dX10_heapIs_2 : decode cX10_heapIs 2 = .ok (.iconst 1, 1) := by decide +kernel
theorem dX10_heapIs_3 : decode cX10_heapIs 3 = .ok (.invokevirtual 95, 3) := by decide +kernel
theorem dX10_heapIs_6 : decode cX10_heapIs 6 = .ok (.ifCond .eq 12, 3) := by decide +kernel
theorem dX10_heapIs_9 : decode cX10_heapIs 9 = .ok (.iload_n 2, 1) := by decide +kernel
theorem dX10_heapIs_10 : decode cX10_heapIs 10 = .ok (.iconst 0, 1) := by decide +kernel
theorem dX10_heapIs_11 : decode cX10_heapIs 11 = .ok (.iconst 4, 1) := by decide +kernel
theorem dX10_heapIs_12 : decode cX10_heapIs 12 = .ok (.invokestatic 72, 3) := by decide +kernel
theorem dX10_heapIs_15 : decode cX10_heapIs 15 = .ok (.ifCond .ne 10, 3) := by decide +kernel
theorem dX10_heapIs_18 : decode cX10_heapIs 18 = .ok (.aload_n 0, 1) := by decide +kernel
theorem dX10_heapIs_19 : decode cX10_heapIs 19 = .ok (.ldc 80, 2) := by decide +kernel
theorem dX10_heapIs_21 : decode cX10_heapIs 21 = .ok (.invokevirtual 81, 3) := by decide +kernel
theorem dX10_heapIs_24 : decode cX10_heapIs 24 = .ok (.ireturn, 1) := by decide +kernel
theorem dX10_heapIs_25 : decode cX10_heapIs 25 = .ok (.iload_n 2, 1) := by decide +kernel
theorem dX10_heapIs_26 : decode cX10_heapIs 26 = .ok (.iconst 3, 1) := by decide +kernel
theorem dX10_heapIs_27 : decode cX10_heapIs 27 = .ok (.if_icmp .ge 12, 3) := by decide +kernel
theorem dX10_heapIs_30 : decode cX10_heapIs 30 = .ok (.aload_n 0, 1) := by decide +kernel
theorem dX10_heapIs_31 : decode cX10_heapIs 31 = .ok (.iload_n 1, 1) := by decide +kernel
theorem dX10_heapIs_32 : decode cX10_heapIs 32 = .ok (.iload_n 2, 1) := by decide +kernel
theorem dX10_heapIs_33 : decode cX10_heapIs 33 = .ok (.invokevirtual 109, 3) := by decide +kernel
theorem dX10_heapIs_36 : decode cX10_heapIs 36 = .ok (.goto 22, 3) := by decide +kernel
theorem dX10_heapIs_39 : decode cX10_heapIs 39 = .ok (.iload_n 2, 1) := by decide +kernel
theorem dX10_heapIs_40 : decode cX10_heapIs 40 = .ok (.iconst 3, 1) := by decide +kernel
theorem dX10_heapIs_41 : decode cX10_heapIs 41 = .ok (.if_icmp .ne 11, 3) := by decide +kernel
theorem dX10_heapIs_44 : decode cX10_heapIs 44 = .ok (.aload_n 0, 1) := by decide +kernel
theorem dX10_heapIs_45 : decode cX10_heapIs 45 = .ok (.iload_n 1, 1) := by decide +kernel
theorem dX10_heapIs_46 : decode cX10_heapIs 46 = .ok (.invokevirtual 112, 3) := by decide +kernel
theorem dX10_heapIs_49 : decode cX10_heapIs 49 = .ok (.goto 9, 3) := by decide +kernel
theorem dX10_heapIs_52 : decode cX10_heapIs 52 = .ok (.aload_n 0, 1) := by decide +kernel
theorem dX10_heapIs_53 : decode cX10_heapIs 53 = .ok (.iload_n 1, 1) := by decide +kernel
theorem dX10_heapIs_54 : decode cX10_heapIs 54 = .ok (.iconst 3, 1) := by decide +kernel
theorem dX10_heapIs_55 : decode cX10_heapIs 55 = .ok (.invokevirtual 109, 3) := by decide +kernel
theorem dX10_heapIs_58 : decode cX10_heapIs 58 = .ok (.ireturn, 1) := by decide +kernel
theorem dX10_rule_0 : decode cX10_rule 0 = .ok (.aload_n 0, 1) := by decide +kernel
theorem dX10_rule_1 : decode cX10_rule 1 = .ok (.iload_n 1, 1) := by decide +kernel
theorem dX10_rule_2 : decode cX10_rule 2 = .ok (.iconst 1, 1) := by decide +kernel
theorem dX10_rule_3 : decode cX10_rule 3 = .ok (.invokevirtual 95, 3) := by decide +kernel
theorem dX10_rule_6 : decode cX10_rule 6 = .ok (.ifCond .eq 30, 3) := by decide +kernel
theorem dX10_rule_9 : decode cX10_rule 9 = .ok (.iload_n 2, 1) := by decide +kernel
theorem dX10_rule_10 : decode cX10_rule 10 = .ok (.iconst 0, 1) := by decide +kernel
theorem dX10_rule_11 : decode cX10_rule 11 = .ok (.bipush 99, 2) := by decide +kernel
theorem dX10_rule_13 : decode cX10_rule 13 = .ok (.invokestatic 72, 3) := by decide +kernel
theorem dX10_rule_16 : decode cX10_rule 16 = .ok (.ifCond .eq 20, 3) := by decide +kernel
theorem dX10_rule_19 : decode cX10_rule 19 = .ok (.aload_n 0, 1) := by decide +kernel
theorem dX10_rule_20 : decode cX10_rule 20 = .ok (.sipush 167, 3) := by decide +kernel
theorem dX10_rule_23 : decode cX10_rule 23 = .ok (.iconst 4, 1) := by decide +kernel
theorem dX10_rule_24 : decode cX10_rule 24 = .ok (.iload_n 1, 1) := by decide +kernel
theorem dX10_rule_25 : decode cX10_rule 25 = .ok (.imul, 1) := by decide +kernel
theorem dX10_rule_26 : decode cX10_rule 26 = .ok (.iadd, 1) := by decide +kernel
theorem dX10_rule_27 : decode cX10_rule 27 = .ok (.iconst 2, 1) := by decide +kernel
theorem dX10_rule_28 : decode cX10_rule 28 = .ok (.iadd, 1) := by decide +kernel
theorem dX10_rule_29 : decode cX10_rule 29 = .ok (.iload_n 2, 1) := by decide +kernel
theorem dX10_rule_30 : decode cX10_rule 30 = .ok (.invokevirtual 106, 3) := by decide +kernel
theorem dX10_rule_33 : decode cX10_rule 33 = .ok (.goto 9, 3) := by decide +kernel
theorem dX10_rule_36 : decode cX10_rule 36 = .ok (.aload_n 0, 1) := by decide +kernel
theorem dX10_rule_37 : decode cX10_rule 37 = .ok (.ldc 80, 2) := by decide +kernel
theorem dX10_rule_39 : decode cX10_rule 39 = .ok (.invokevirtual 81, 3) := by decide +kernel
theorem dX10_rule_42 : decode cX10_rule 42 = .ok (.ireturn, 1) := by decide +kernel
theorem dX10_isFew_0 : decode cX10_isFew 0 = .ok (.aload_n 0, 1) := by decide +kernel
theorem dX10_isFew_1 : decode cX10_isFew 1 = .ok (.iload_n 1, 1) := by decide +kernel
theorem dX10_isFew_2 : decode cX10_isFew 2 = .ok (.invokevirtual 112, 3) := by decide +kernel
theorem dX10_isFew_5 : decode cX10_isFew 5 = .ok (.invokestatic 115, 3) := by decide +kernel
theorem dX10_isFew_8 : decode cX10_isFew 8 = .ok (.istore_n 2, 1) := by decide +kernel
theorem dX10_isFew_9 : decode cX10_isFew 9 = .ok (.iload_n 2, 1) := by decide +kernel
theorem dX10_isFew_10 : decode cX10_isFew 10 = .ok (.ifCond .le 17, 3) := by decide +kernel
theorem dX10_isFew_13 : decode cX10_isFew 13 = .ok (.iload_n 2, 1) := by decide +kernel
theorem dX10_isFew_14 : decode cX10_isFew 14 = .ok (.aload_n 0, 1) := by decide +kernel
theorem dX10_isFew_15 : decode cX10_isFew 15 = .ok (.iload_n 1, 1) := by decide +kernel
theorem dX10_isFew_16 : decode cX10_isFew 16 = .ok (.iconst 0, 1) := by decide +kernel
theorem dX10_isFew_17 : decode cX10_isFew 17 = .ok (.invokevirtual 109, 3) := by decide +kernel
theorem dX10_isFew_20 : decode cX10_isFew 20 = .ok (.if_icmp .ge 7, 3) := by decide +kernel
theorem dX10_isFew_23 : decode cX10_isFew 23 = .ok (.iconst 1, 1) := by decide +kernel
theorem dX10_isFew_24 : decode cX10_isFew 24 = .ok (.goto 4, 3) := by decide +kernel
theorem dX10_isFew_27 : decode cX10_isFew 27 = .ok (.iconst 0, 1) := by decide +kernel
theorem dX10_isFew_28 : decode cX10_isFew 28 = .ok (.ireturn, 1) := by decide +kernel
theorem dX10_goesTo_0 : decode cX10_goesTo 0 = .ok (.aload_n 0, 1) := by decide +kernel
theorem dX10_goesTo_1 : decode cX10_goesTo 1 = .ok (.getfield 9, 3) := by decide +kernel
theorem dX10_goesTo_4 : decode cX10_goesTo 4 = .ok (.bipush 7, 2) := by decide +kernel
theorem dX10_goesTo_6 : decode cX10_goesTo 6 = .ok (.bipush 6, 2) := by decide +kernel
theorem dX10_goesTo_8 : decode cX10_goesTo 8 = .ok (.iload_n 1, 1) := by decide +kernel
theorem dX10_goesTo_9 : decode cX10_goesTo 9 = .ok (.imul, 1) := by decide +kernel
theorem dX10_goesTo_10 : decode cX10_goesTo 10 = .ok (.iadd, 1) := by decide +kernel
theorem dX10_goesTo_11 : decode cX10_goesTo 11 = .ok (.iconst 4, 1) := by decide +kernel
theorem dX10_goesTo_12 : decode cX10_goesTo 12 = .ok (.iadd, 1) := by decide +kernel
theorem dX10_goesTo_13 : decode cX10_goesTo 13 = .ok (.iload_n 2, 1) := by decide +kernel
theorem dX10_goesTo_14 : decode cX10_goesTo 14 = .ok (.iastore, 1) := by decide +kernel
theorem dX10_goesTo_15 : decode cX10_goesTo 15 = .ok (.iconst 0, 1) := by decide +kernel
theorem dX10_goesTo_16 : decode cX10_goesTo 16 = .ok (.istore_n 3, 1) := by decide +kernel
theorem dX10_goesTo_17 : decode cX10_goesTo 17 = .ok (.iload_n 3, 1) := by decide +kernel
theorem dX10_goesTo_18 : decode cX10_goesTo 18 = .ok (.iconst 5, 1) := by decide +kernel
theorem dX10_goesTo_19 : decode cX10_goesTo 19 = .ok (.if_icmp .ge 24, 3) := by decide +kernel
theorem dX10_goesTo_22 : decode cX10_goesTo 22 = .ok (.aload_n 0, 1) := by decide +kernel
theorem dX10_goesTo_23 : decode cX10_goesTo 23 = .ok (.getfield 9, 3) := by decide +kernel
theorem dX10_goesTo_26 : decode cX10_goesTo 26 = .ok (.sipush 187, 3) := by decide +kernel
theorem dX10_goesTo_29 : decode cX10_goesTo 29 = .ok (.iconst 5, 1) := by decide +kernel
theorem dX10_goesTo_30 : decode cX10_goesTo 30 = .ok (.iload_n 1, 1) := by decide +kernel
theorem dX10_goesTo_31 : decode cX10_goesTo 31 = .ok (.imul, 1) := by decide +kernel
theorem dX10_goesTo_32 : decode cX10_goesTo 32 = .ok (.iadd, 1) := by decide +kernel
theorem dX10_goesTo_33 : decode cX10_goesTo 33 = .ok (.iload_n 3, 1) := by decide +kernel
theorem dX10_goesTo_34 : decode cX10_goesTo 34 = .ok (.iadd, 1) := by decide +kernel
theorem dX10_goesTo_35 : decode cX10_goesTo 35 = .ok (.iconst 0, 1) := by decide +kernel
theorem dX10_goesTo_36 : decode cX10_goesTo 36 = .ok (.iastore, 1) := by decide +kernel
theorem dX10_goesTo_37 : decode cX10_goesTo 37 = .ok (.iinc 3 1, 3) := by decide +kernel
theorem dX10_goesTo_40 : decode cX10_goesTo 40 = .ok (.goto (-23), 3) := by decide +kernel
theorem dX10_goesTo_43 : decode cX10_goesTo 43 = .ok (.iconst 0, 1) := by decide +kernel
theorem dX10_goesTo_44 : decode cX10_goesTo 44 = .ok (.istore_n 3, 1) := by decide +kernel
theorem dX10_goesTo_45 : decode cX10_goesTo 45 = .ok (.iload_n 3, 1) := by decide +kernel
theorem dX10_goesTo_46 : decode cX10_goesTo 46 = .ok (.aload_n 0, 1) := by decide +kernel
theorem dX10_goesTo_47 : decode cX10_goesTo 47 = .ok (.getfield 9, 3) := by decide +kernel
theorem dX10_goesTo_50 : decode cX10_goesTo 50 = .ok (.iconst 1, 1) := by decide +kernel
theorem dX10_goesTo_51 : decode cX10_goesTo 51 = .ok (.iaload, 1) := by decide +kernel
theorem dX10_goesTo_52 : decode cX10_goesTo 52 = .ok (.if_icmp .ge 41, 3) := by decide +kernel
theorem dX10_goesTo_55 : decode cX10_goesTo 55 = .ok (.aload_n 0, 1) := by decide +kernel
theorem dX10_goesTo_56 : decode cX10_goesTo 56 = .ok (.getfield 9, 3) := by decide +kernel
theorem dX10_goesTo_59 : decode cX10_goesTo 59 = .ok (.sipush 167, 3) := by decide +kernel
theorem dX10_goesTo_62 : decode cX10_goesTo 62 = .ok (.iconst 4, 1) := by decide +kernel
theorem dX10_goesTo_63 : decode cX10_goesTo 63 = .ok (.iload_n 3, 1) := by decide +kernel
theorem dX10_goesTo_64 : decode cX10_goesTo 64 = .ok (.imul, 1) := by decide +kernel
theorem dX10_goesTo_65 : decode cX10_goesTo 65 = .ok (.iadd, 1) := by decide +kernel
theorem dX10_goesTo_66 : decode cX10_goesTo 66 = .ok (.iconst 3, 1) := by decide +kernel
theorem dX10_goesTo_67 : decode cX10_goesTo 67 = .ok (.iadd, 1) := by decide +kernel
theorem dX10_goesTo_68 : decode cX10_goesTo 68 = .ok (.aload_n 0, 1) := by decide +kernel
theorem dX10_goesTo_69 : decode cX10_goesTo 69 = .ok (.iload_n 3, 1) := by decide +kernel
theorem dX10_goesTo_70 : decode cX10_goesTo 70 = .ok (.invokevirtual 118, 3) := by decide +kernel
theorem dX10_goesTo_73 : decode cX10_goesTo 73 = .ok (.ifCond .eq 12, 3) := by decide +kernel
theorem dX10_goesTo_76 : decode cX10_goesTo 76 = .ok (.aload_n 0, 1) := by decide +kernel
theorem dX10_goesTo_77 : decode cX10_goesTo 77 = .ok (.iload_n 3, 1) := by decide +kernel
theorem dX10_goesTo_78 : decode cX10_goesTo 78 = .ok (.iconst 3, 1) := by decide +kernel
theorem dX10_goesTo_79 : decode cX10_goesTo 79 = .ok (.invokevirtual 109, 3) := by decide +kernel
theorem dX10_goesTo_82 : decode cX10_goesTo 82 = .ok (.goto 4, 3) := by decide +kernel
theorem dX10_goesTo_85 : decode cX10_goesTo 85 = .ok (.iconst 0, 1) := by decide +kernel
theorem dX10_goesTo_86 : decode cX10_goesTo 86 = .ok (.iastore, 1) := by decide +kernel
theorem dX10_goesTo_87 : decode cX10_goesTo 87 = .ok (.iinc 3 1, 3) := by decide +kernel
theorem dX10_goesTo_90 : decode cX10_goesTo 90 = .ok (.goto (-45), 3) := by decide +kernel
theorem dX10_goesTo_93 : decode cX10_goesTo 93 = .ok (.return_, 1) := by decide +kernel
theorem dX10_join_0 : decode cX10_join 0 = .ok (.aload_n 0, 1) := by decide +kernel
theorem dX10_join_1 : decode cX10_join 1 = .ok (.iload_n 1, 1) := by decide +kernel
theorem dX10_join_2 : decode cX10_join 2 = .ok (.iconst 0, 1) := by decide +kernel
theorem dX10_join_3 : decode cX10_join 3 = .ok (.invokevirtual 95, 3) := by decide +kernel
theorem dX10_join_6 : decode cX10_join 6 = .ok (.ifCond .eq 12, 3) := by decide +kernel
theorem dX10_join_9 : decode cX10_join 9 = .ok (.aload_n 0, 1) := by decide +kernel
theorem dX10_join_10 : decode cX10_join 10 = .ok (.iload_n 2, 1) := by decide +kernel
theorem dX10_join_11 : decode cX10_join 11 = .ok (.iconst 1, 1) := by decide +kernel
theorem dX10_join_12 : decode cX10_join 12 = .ok (.invokevirtual 95, 3) := by decide +kernel
theorem dX10_join_15 : decode cX10_join 15 = .ok (.ifCond .ne 10, 3) := by decide +kernel
theorem dX10_join_18 : decode cX10_join 18 = .ok (.aload_n 0, 1) := by decide +kernel
theorem dX10_join_19 : decode cX10_join 19 = .ok (.ldc 80, 2) := by decide +kernel
theorem dX10_join_21 : decode cX10_join 21 = .ok (.invokevirtual 81, 3) := by decide +kernel
theorem dX10_join_24 : decode cX10_join 24 = .ok (.ireturn, 1) := by decide +kernel
theorem dX10_join_25 : decode cX10_join 25 = .ok (.aload_n 0, 1) := by decide +kernel
theorem dX10_join_26 : decode cX10_join 26 = .ok (.iload_n 1, 1) := by decide +kernel
theorem dX10_join_27 : decode cX10_join 27 = .ok (.iconst 4, 1) := by decide +kernel
theorem dX10_join_28 : decode cX10_join 28 = .ok (.invokevirtual 86, 3) := by decide +kernel
theorem dX10_join_31 : decode cX10_join 31 = .ok (.iload_n 2, 1) := by decide +kernel
theorem dX10_join_32 : decode cX10_join 32 = .ok (.if_icmp .ne 10, 3) := by decide +kernel
theorem dX10_join_35 : decode cX10_join 35 = .ok (.aload_n 0, 1) := by decide +kernel
theorem dX10_join_36 : decode cX10_join 36 = .ok (.ldc 122, 2) := by decide +kernel
theorem dX10_join_38 : decode cX10_join 38 = .ok (.invokevirtual 81, 3) := by decide +kernel
theorem dX10_join_41 : decode cX10_join 41 = .ok (.ireturn, 1) := by decide +kernel
theorem dX10_join_42 : decode cX10_join 42 = .ok (.aload_n 0, 1) := by decide +kernel
theorem dX10_join_43 : decode cX10_join 43 = .ok (.iload_n 1, 1) := by decide +kernel
theorem dX10_join_44 : decode cX10_join 44 = .ok (.iload_n 2, 1) := by decide +kernel
theorem dX10_join_45 : decode cX10_join 45 = .ok (.invokevirtual 123, 3) := by decide +kernel
end
section
theorem dX10_join_48 : decode cX10_join 48 = .ok (.aload_n 0, 1) := by decide +kernel
theorem dX10_join_49 : decode cX10_join 49 = .ok (.iload_n 2, 1) := by decide +kernel
theorem dX10_join_50 : decode cX10_join 50 = .ok (.invokevirtual 112, 3) := by decide +kernel
theorem dX10_join_53 : decode cX10_join 53 = .ok (.invokestatic 115, 3) := by decide +kernel
theorem dX10_join_56 : decode cX10_join 56 = .ok (.ireturn, 1) := by decide +kernel
theorem dX10_leave_0 : decode cX10_leave 0 = .ok (.aload_n 0, 1) := by decide +kernel
theorem dX10_leave_1 : decode cX10_leave 1 = .ok (.iload_n 1, 1) := by decide +kernel
theorem dX10_leave_2 : decode cX10_leave 2 = .ok (.iconst 0, 1) := by decide +kernel
theorem dX10_leave_3 : decode cX10_leave 3 = .ok (.invokevirtual 95, 3) := by decide +kernel
theorem dX10_leave_6 : decode cX10_leave 6 = .ok (.ifCond .ne 10, 3) := by decide +kernel
theorem dX10_leave_9 : decode cX10_leave 9 = .ok (.aload_n 0, 1) := by decide +kernel
theorem dX10_leave_10 : decode cX10_leave 10 = .ok (.ldc 80, 2) := by decide +kernel
theorem dX10_leave_12 : decode cX10_leave 12 = .ok (.invokevirtual 81, 3) := by decide +kernel
theorem dX10_leave_15 : decode cX10_leave 15 = .ok (.ireturn, 1) := by decide +kernel
theorem dX10_leave_16 : decode cX10_leave 16 = .ok (.aload_n 0, 1) := by decide +kernel
theorem dX10_leave_17 : decode cX10_leave 17 = .ok (.iload_n 1, 1) := by decide +kernel
theorem dX10_leave_18 : decode cX10_leave 18 = .ok (.iconst 4, 1) := by decide +kernel
theorem dX10_leave_19 : decode cX10_leave 19 = .ok (.invokevirtual 86, 3) := by decide +kernel
theorem dX10_leave_22 : decode cX10_leave 22 = .ok (.istore_n 2, 1) := by decide +kernel
theorem dX10_leave_23 : decode cX10_leave 23 = .ok (.iload_n 2, 1) := by decide +kernel
theorem dX10_leave_24 : decode cX10_leave 24 = .ok (.ifCond .ge 10, 3) := by decide +kernel
theorem dX10_leave_27 : decode cX10_leave 27 = .ok (.aload_n 0, 1) := by decide +kernel
theorem dX10_leave_28 : decode cX10_leave 28 = .ok (.ldc 122, 2) := by decide +kernel
theorem dX10_leave_30 : decode cX10_leave 30 = .ok (.invokevirtual 81, 3) := by decide +kernel
theorem dX10_leave_33 : decode cX10_leave 33 = .ok (.ireturn, 1) := by decide +kernel
theorem dX10_leave_34 : decode cX10_leave 34 = .ok (.aload_n 0, 1) := by decide +kernel
theorem dX10_leave_35 : decode cX10_leave 35 = .ok (.iload_n 1, 1) := by decide +kernel
theorem dX10_leave_36 : decode cX10_leave 36 = .ok (.iconst (-1), 1) := by decide +kernel
theorem dX10_leave_37 : decode cX10_leave 37 = .ok (.invokevirtual 123, 3) := by decide +kernel
theorem dX10_leave_40 : decode cX10_leave 40 = .ok (.iload_n 2, 1) := by decide +kernel
theorem dX10_leave_41 : decode cX10_leave 41 = .ok (.ireturn, 1) := by decide +kernel
theorem dX10_warmth_0 : decode cX10_warmth 0 = .ok (.aload_n 0, 1) := by decide +kernel
theorem dX10_warmth_1 : decode cX10_warmth 1 = .ok (.iload_n 2, 1) := by decide +kernel
theorem dX10_warmth_2 : decode cX10_warmth 2 = .ok (.invokevirtual 112, 3) := by decide +kernel
theorem dX10_warmth_5 : decode cX10_warmth 5 = .ok (.iconst 1, 1) := by decide +kernel
theorem dX10_warmth_6 : decode cX10_warmth 6 = .ok (.iload_n 1, 1) := by decide +kernel
theorem dX10_warmth_7 : decode cX10_warmth 7 = .ok (.ishl, 1) := by decide +kernel
theorem dX10_warmth_8 : decode cX10_warmth 8 = .ok (.iconst (-1), 1) := by decide +kernel
theorem dX10_warmth_9 : decode cX10_warmth 9 = .ok (.ixor, 1) := by decide +kernel
theorem dX10_warmth_10 : decode cX10_warmth 10 = .ok (.iand, 1) := by decide +kernel
theorem dX10_warmth_11 : decode cX10_warmth 11 = .ok (.istore_n 3, 1) := by decide +kernel
theorem dX10_warmth_12 : decode cX10_warmth 12 = .ok (.iconst 0, 1) := by decide +kernel
theorem dX10_warmth_13 : decode cX10_warmth 13 = .ok (.istore 4, 2) := by decide +kernel
theorem dX10_warmth_15 : decode cX10_warmth 15 = .ok (.iconst 0, 1) := by decide +kernel
theorem dX10_warmth_16 : decode cX10_warmth 16 = .ok (.istore 5, 2) := by decide +kernel
theorem dX10_warmth_18 : decode cX10_warmth 18 = .ok (.iload 5, 2) := by decide +kernel
theorem dX10_warmth_20 : decode cX10_warmth 20 = .ok (.aload_n 0, 1) := by decide +kernel
theorem dX10_warmth_21 : decode cX10_warmth 21 = .ok (.getfield 9, 3) := by decide +kernel
theorem dX10_warmth_24 : decode cX10_warmth 24 = .ok (.iconst 0, 1) := by decide +kernel
theorem dX10_warmth_25 : decode cX10_warmth 25 = .ok (.iaload, 1) := by decide +kernel
theorem dX10_warmth_26 : decode cX10_warmth 26 = .ok (.if_icmp .ge 34, 3) := by decide +kernel
theorem dX10_warmth_29 : decode cX10_warmth 29 = .ok (.iload 4, 2) := by decide +kernel
theorem dX10_warmth_31 : decode cX10_warmth 31 = .ok (.iload_n 3, 1) := by decide +kernel
theorem dX10_warmth_32 : decode cX10_warmth 32 = .ok (.iload 5, 2) := by decide +kernel
theorem dX10_warmth_34 : decode cX10_warmth 34 = .ok (.invokestatic 127, 3) := by decide +kernel
theorem dX10_warmth_37 : decode cX10_warmth 37 = .ok (.ifCond .eq 13, 3) := by decide +kernel
theorem dX10_warmth_40 : decode cX10_warmth 40 = .ok (.aload_n 0, 1) := by decide +kernel
theorem dX10_warmth_41 : decode cX10_warmth 41 = .ok (.iload 5, 2) := by decide +kernel
theorem dX10_warmth_43 : decode cX10_warmth 43 = .ok (.iload_n 1, 1) := by decide +kernel
theorem dX10_warmth_44 : decode cX10_warmth 44 = .ok (.invokevirtual 130, 3) := by decide +kernel
theorem dX10_warmth_47 : decode cX10_warmth 47 = .ok (.goto 4, 3) := by decide +kernel
theorem dX10_warmth_50 : decode cX10_warmth 50 = .ok (.iconst 0, 1) := by decide +kernel
theorem dX10_warmth_51 : decode cX10_warmth 51 = .ok (.iadd, 1) := by decide +kernel
theorem dX10_warmth_52 : decode cX10_warmth 52 = .ok (.istore 4, 2) := by decide +kernel
theorem dX10_warmth_54 : decode cX10_warmth 54 = .ok (.iinc 5 1, 3) := by decide +kernel
theorem dX10_warmth_57 : decode cX10_warmth 57 = .ok (.goto (-39), 3) := by decide +kernel
theorem dX10_warmth_60 : decode cX10_warmth 60 = .ok (.iload_n 3, 1) := by decide +kernel
theorem dX10_warmth_61 : decode cX10_warmth 61 = .ok (.ifCond .ne 7, 3) := by decide +kernel
theorem dX10_warmth_64 : decode cX10_warmth 64 = .ok (.iconst 0, 1) := by decide +kernel
theorem dX10_warmth_65 : decode cX10_warmth 65 = .ok (.goto 10, 3) := by decide +kernel
theorem dX10_warmth_68 : decode cX10_warmth 68 = .ok (.iload 4, 2) := by decide +kernel
theorem dX10_warmth_70 : decode cX10_warmth 70 = .ok (.iload_n 3, 1) := by decide +kernel
theorem dX10_warmth_71 : decode cX10_warmth 71 = .ok (.invokestatic 115, 3) := by decide +kernel
theorem dX10_warmth_74 : decode cX10_warmth 74 = .ok (.idiv, 1) := by decide +kernel
theorem dX10_warmth_75 : decode cX10_warmth 75 = .ok (.ireturn, 1) := by decide +kernel
theorem dX10_fondest_0 : decode cX10_fondest 0 = .ok (.iconst 0, 1) := by decide +kernel
theorem dX10_fondest_1 : decode cX10_fondest 1 = .ok (.istore_n 3, 1) := by decide +kernel
theorem dX10_fondest_2 : decode cX10_fondest 2 = .ok (.iconst 0, 1) := by decide +kernel
theorem dX10_fondest_3 : decode cX10_fondest 3 = .ok (.istore 4, 2) := by decide +kernel
theorem dX10_fondest_5 : decode cX10_fondest 5 = .ok (.iload 4, 2) := by decide +kernel
theorem dX10_fondest_7 : decode cX10_fondest 7 = .ok (.aload_n 0, 1) := by decide +kernel
theorem dX10_fondest_8 : decode cX10_fondest 8 = .ok (.getfield 9, 3) := by decide +kernel
theorem dX10_fondest_11 : decode cX10_fondest 11 = .ok (.iconst 0, 1) := by decide +kernel
theorem dX10_fondest_12 : decode cX10_fondest 12 = .ok (.iaload, 1) := by decide +kernel
theorem dX10_fondest_13 : decode cX10_fondest 13 = .ok (.if_icmp .ge 42, 3) := by decide +kernel
theorem dX10_fondest_16 : decode cX10_fondest 16 = .ok (.iload 4, 2) := by decide +kernel
theorem dX10_fondest_18 : decode cX10_fondest 18 = .ok (.iload_n 1, 1) := by decide +kernel
theorem dX10_fondest_19 : decode cX10_fondest 19 = .ok (.if_icmp .eq 28, 3) := by decide +kernel
theorem dX10_fondest_22 : decode cX10_fondest 22 = .ok (.aload_n 0, 1) := by decide +kernel
theorem dX10_fondest_23 : decode cX10_fondest 23 = .ok (.iload 4, 2) := by decide +kernel
theorem dX10_fondest_25 : decode cX10_fondest 25 = .ok (.iconst 4, 1) := by decide +kernel
theorem dX10_fondest_26 : decode cX10_fondest 26 = .ok (.invokevirtual 86, 3) := by decide +kernel
theorem dX10_fondest_29 : decode cX10_fondest 29 = .ok (.iload_n 2, 1) := by decide +kernel
theorem dX10_fondest_30 : decode cX10_fondest 30 = .ok (.if_icmp .ne 17, 3) := by decide +kernel
theorem dX10_fondest_33 : decode cX10_fondest 33 = .ok (.iload_n 3, 1) := by decide +kernel
theorem dX10_fondest_34 : decode cX10_fondest 34 = .ok (.aload_n 0, 1) := by decide +kernel
theorem dX10_fondest_35 : decode cX10_fondest 35 = .ok (.iload 4, 2) := by decide +kernel
theorem dX10_fondest_37 : decode cX10_fondest 37 = .ok (.iload_n 1, 1) := by decide +kernel
theorem dX10_fondest_38 : decode cX10_fondest 38 = .ok (.invokevirtual 130, 3) := by decide +kernel
theorem dX10_fondest_41 : decode cX10_fondest 41 = .ok (.invokestatic 69, 3) := by decide +kernel
theorem dX10_fondest_44 : decode cX10_fondest 44 = .ok (.goto 4, 3) := by decide +kernel
theorem dX10_fondest_47 : decode cX10_fondest 47 = .ok (.iload_n 3, 1) := by decide +kernel
theorem dX10_fondest_48 : decode cX10_fondest 48 = .ok (.istore_n 3, 1) := by decide +kernel
theorem dX10_fondest_49 : decode cX10_fondest 49 = .ok (.iinc 4 1, 3) := by decide +kernel
theorem dX10_fondest_52 : decode cX10_fondest 52 = .ok (.goto (-47), 3) := by decide +kernel
theorem dX10_fondest_55 : decode cX10_fondest 55 = .ok (.iload_n 3, 1) := by decide +kernel
theorem dX10_fondest_56 : decode cX10_fondest 56 = .ok (.ireturn, 1) := by decide +kernel
theorem dX10_likesNobody_0 : decode cX10_likesNobody 0 = .ok (.iconst 1, 1) := by decide +kernel
theorem dX10_likesNobody_1 : decode cX10_likesNobody 1 = .ok (.istore_n 3, 1) := by decide +kernel
theorem dX10_likesNobody_2 : decode cX10_likesNobody 2 = .ok (.iconst 0, 1) := by decide +kernel
theorem dX10_likesNobody_3 : decode cX10_likesNobody 3 = .ok (.istore 4, 2) := by decide +kernel
theorem dX10_likesNobody_5 : decode cX10_likesNobody 5 = .ok (.iload 4, 2) := by decide +kernel
theorem dX10_likesNobody_7 : decode cX10_likesNobody 7 = .ok (.aload_n 0, 1) := by decide +kernel
theorem dX10_likesNobody_8 : decode cX10_likesNobody 8 = .ok (.getfield 9, 3) := by decide +kernel
theorem dX10_likesNobody_11 : decode cX10_likesNobody 11 = .ok (.iconst 0, 1) := by decide +kernel
theorem dX10_likesNobody_12 : decode cX10_likesNobody 12 = .ok (.iaload, 1) := by decide +kernel
theorem dX10_likesNobody_13 : decode cX10_likesNobody 13 = .ok (.if_icmp .ge 48, 3) := by decide +kernel
theorem dX10_likesNobody_16 : decode cX10_likesNobody 16 = .ok (.iload_n 3, 1) := by decide +kernel
theorem dX10_likesNobody_17 : decode cX10_likesNobody 17 = .ok (.ifCond .eq 36, 3) := by decide +kernel
theorem dX10_likesNobody_20 : decode cX10_likesNobody 20 = .ok (.iload 4, 2) := by decide +kernel
theorem dX10_likesNobody_22 : decode cX10_likesNobody 22 = .ok (.iload_n 1, 1) := by decide +kernel
theorem dX10_likesNobody_23 : decode cX10_likesNobody 23 = .ok (.if_icmp .eq 26, 3) := by decide +kernel
theorem dX10_likesNobody_26 : decode cX10_likesNobody 26 = .ok (.aload_n 0, 1) := by decide +kernel
theorem dX10_likesNobody_27 : decode cX10_likesNobody 27 = .ok (.iload 4, 2) := by decide +kernel
theorem dX10_likesNobody_29 : decode cX10_likesNobody 29 = .ok (.iconst 4, 1) := by decide +kernel
theorem dX10_likesNobody_30 : decode cX10_likesNobody 30 = .ok (.invokevirtual 86, 3) := by decide +kernel
theorem dX10_likesNobody_33 : decode cX10_likesNobody 33 = .ok (.iload_n 2, 1) := by decide +kernel
theorem dX10_likesNobody_34 : decode cX10_likesNobody 34 = .ok (.if_icmp .ne 15, 3) := by decide +kernel
theorem dX10_likesNobody_37 : decode cX10_likesNobody 37 = .ok (.aload_n 0, 1) := by decide +kernel
theorem dX10_likesNobody_38 : decode cX10_likesNobody 38 = .ok (.iload_n 1, 1) := by decide +kernel
theorem dX10_likesNobody_39 : decode cX10_likesNobody 39 = .ok (.iload 4, 2) := by decide +kernel
theorem dX10_likesNobody_41 : decode cX10_likesNobody 41 = .ok (.invokevirtual 130, 3) := by decide +kernel
theorem dX10_likesNobody_44 : decode cX10_likesNobody 44 = .ok (.bipush 50, 2) := by decide +kernel
theorem dX10_likesNobody_46 : decode cX10_likesNobody 46 = .ok (.if_icmp .ge 7, 3) := by decide +kernel
theorem dX10_likesNobody_49 : decode cX10_likesNobody 49 = .ok (.iconst 1, 1) := by decide +kernel
theorem dX10_likesNobody_50 : decode cX10_likesNobody 50 = .ok (.goto 4, 3) := by decide +kernel
theorem dX10_likesNobody_53 : decode cX10_likesNobody 53 = .ok (.iconst 0, 1) := by decide +kernel
theorem dX10_likesNobody_54 : decode cX10_likesNobody 54 = .ok (.istore_n 3, 1) := by decide +kernel
theorem dX10_likesNobody_55 : decode cX10_likesNobody 55 = .ok (.iinc 4 1, 3) := by decide +kernel
theorem dX10_likesNobody_58 : decode cX10_likesNobody 58 = .ok (.goto (-53), 3) := by decide +kernel
theorem dX10_likesNobody_61 : decode cX10_likesNobody 61 = .ok (.iload_n 3, 1) := by decide +kernel
theorem dX10_likesNobody_62 : decode cX10_likesNobody 62 = .ok (.ireturn, 1) := by decide +kernel
theorem dX10_watching_0 : decode cX10_watching 0 = .ok (.aload_n 0, 1) := by decide +kernel
theorem dX10_watching_1 : decode cX10_watching 1 = .ok (.getfield 9, 3) := by decide +kernel
theorem dX10_watching_4 : decode cX10_watching 4 = .ok (.sipush 187, 3) := by decide +kernel
theorem dX10_watching_7 : decode cX10_watching 7 = .ok (.iconst 5, 1) := by decide +kernel
theorem dX10_watching_8 : decode cX10_watching 8 = .ok (.iload_n 1, 1) := by decide +kernel
theorem dX10_watching_9 : decode cX10_watching 9 = .ok (.imul, 1) := by decide +kernel
theorem dX10_watching_10 : decode cX10_watching 10 = .ok (.iadd, 1) := by decide +kernel
theorem dX10_watching_11 : decode cX10_watching 11 = .ok (.iload_n 2, 1) := by decide +kernel
theorem dX10_watching_12 : decode cX10_watching 12 = .ok (.iadd, 1) := by decide +kernel
theorem dX10_watching_13 : decode cX10_watching 13 = .ok (.iaload, 1) := by decide +kernel
theorem dX10_watching_14 : decode cX10_watching 14 = .ok (.ireturn, 1) := by decide +kernel
theorem dX10_agesApart_0 : decode cX10_agesApart 0 = .ok (.iconst 0, 1) := by decide +kernel
theorem dX10_agesApart_1 : decode cX10_agesApart 1 = .ok (.istore_n 3, 1) := by decide +kernel
theorem dX10_agesApart_2 : decode cX10_agesApart 2 = .ok (.iload_n 3, 1) := by decide +kernel
theorem dX10_agesApart_3 : decode cX10_agesApart 3 = .ok (.aload_n 0, 1) := by decide +kernel
theorem dX10_agesApart_4 : decode cX10_agesApart 4 = .ok (.getfield 9, 3) := by decide +kernel
theorem dX10_agesApart_7 : decode cX10_agesApart 7 = .ok (.iconst 0, 1) := by decide +kernel
theorem dX10_agesApart_8 : decode cX10_agesApart 8 = .ok (.iaload, 1) := by decide +kernel
theorem dX10_agesApart_9 : decode cX10_agesApart 9 = .ok (.if_icmp .ge 36, 3) := by decide +kernel
theorem dX10_agesApart_12 : decode cX10_agesApart 12 = .ok (.aload_n 0, 1) := by decide +kernel
theorem dX10_agesApart_13 : decode cX10_agesApart 13 = .ok (.iload_n 3, 1) := by decide +kernel
theorem dX10_agesApart_14 : decode cX10_agesApart 14 = .ok (.iconst 4, 1) := by decide +kernel
theorem dX10_agesApart_15 : decode cX10_agesApart 15 = .ok (.invokevirtual 86, 3) := by decide +kernel
theorem dX10_agesApart_18 : decode cX10_agesApart 18 = .ok (.iload_n 2, 1) := by decide +kernel
theorem dX10_agesApart_19 : decode cX10_agesApart 19 = .ok (.if_icmp .ne 20, 3) := by decide +kernel
theorem dX10_agesApart_22 : decode cX10_agesApart 22 = .ok (.aload_n 0, 1) := by decide +kernel
theorem dX10_agesApart_23 : decode cX10_agesApart 23 = .ok (.iload_n 3, 1) := by decide +kernel
theorem dX10_agesApart_24 : decode cX10_agesApart 24 = .ok (.iconst 2, 1) := by decide +kernel
theorem dX10_agesApart_25 : decode cX10_agesApart 25 = .ok (.invokevirtual 86, 3) := by decide +kernel
theorem dX10_agesApart_28 : decode cX10_agesApart 28 = .ok (.aload_n 0, 1) := by decide +kernel
theorem dX10_agesApart_29 : decode cX10_agesApart 29 = .ok (.iload_n 1, 1) := by decide +kernel
theorem dX10_agesApart_30 : decode cX10_agesApart 30 = .ok (.iconst 2, 1) := by decide +kernel
theorem dX10_agesApart_31 : decode cX10_agesApart 31 = .ok (.invokevirtual 86, 3) := by decide +kernel
theorem dX10_agesApart_34 : decode cX10_agesApart 34 = .ok (.isub, 1) := by decide +kernel
theorem dX10_agesApart_35 : decode cX10_agesApart 35 = .ok (.invokestatic 133, 3) := by decide +kernel
theorem dX10_agesApart_38 : decode cX10_agesApart 38 = .ok (.ireturn, 1) := by decide +kernel
theorem dX10_agesApart_39 : decode cX10_agesApart 39 = .ok (.iinc 3 1, 3) := by decide +kernel
theorem dX10_agesApart_42 : decode cX10_agesApart 42 = .ok (.goto (-40), 3) := by decide +kernel
theorem dX10_agesApart_45 : decode cX10_agesApart 45 = .ok (.iconst 0, 1) := by decide +kernel
theorem dX10_agesApart_46 : decode cX10_agesApart 46 = .ok (.ireturn, 1) := by decide +kernel
theorem dX10_plainChance_0 : decode cX10_plainChance 0 = .ok (.aload_n 0, 1) := by decide +kernel
theorem dX10_plainChance_1 : decode cX10_plainChance 1 = .ok (.iload_n 2, 1) := by decide +kernel
theorem dX10_plainChance_2 : decode cX10_plainChance 2 = .ok (.invokevirtual 112, 3) := by decide +kernel
theorem dX10_plainChance_5 : decode cX10_plainChance 5 = .ok (.invokestatic 115, 3) := by decide +kernel
theorem dX10_plainChance_8 : decode cX10_plainChance 8 = .ok (.istore_n 3, 1) := by decide +kernel
theorem dX10_plainChance_9 : decode cX10_plainChance 9 = .ok (.aload_n 0, 1) := by decide +kernel
theorem dX10_plainChance_10 : decode cX10_plainChance 10 = .ok (.iload_n 1, 1) := by decide +kernel
theorem dX10_plainChance_11 : decode cX10_plainChance 11 = .ok (.iconst 1, 1) := by decide +kernel
theorem dX10_plainChance_12 : decode cX10_plainChance 12 = .ok (.invokevirtual 86, 3) := by decide +kernel
theorem dX10_plainChance_15 : decode cX10_plainChance 15 = .ok (.istore 4, 2) := by decide +kernel
theorem dX10_plainChance_17 : decode cX10_plainChance 17 = .ok (.aload_n 0, 1) := by decide +kernel
theorem dX10_plainChance_18 : decode cX10_plainChance 18 = .ok (.iload_n 1, 1) := by decide +kernel
theorem dX10_plainChance_19 : decode cX10_plainChance 19 = .ok (.iload_n 2, 1) := by decide +kernel
theorem dX10_plainChance_20 : decode cX10_plainChance 20 = .ok (.invokevirtual 136, 3) := by decide +kernel
theorem dX10_plainChance_23 : decode cX10_plainChance 23 = .ok (.aload_n 0, 1) := by decide +kernel
theorem dX10_plainChance_24 : decode cX10_plainChance 24 = .ok (.iload_n 2, 1) := by decide +kernel
theorem dX10_plainChance_25 : decode cX10_plainChance 25 = .ok (.iconst 2, 1) := by decide +kernel
theorem dX10_plainChance_26 : decode cX10_plainChance 26 = .ok (.invokevirtual 109, 3) := by decide +kernel
theorem dX10_plainChance_29 : decode cX10_plainChance 29 = .ok (.isub, 1) := by decide +kernel
theorem dX10_plainChance_30 : decode cX10_plainChance 30 = .ok (.bipush 50, 2) := by decide +kernel
theorem dX10_plainChance_32 : decode cX10_plainChance 32 = .ok (.iadd, 1) := by decide +kernel
theorem dX10_plainChance_33 : decode cX10_plainChance 33 = .ok (.istore 5, 2) := by decide +kernel
theorem dX10_plainChance_35 : decode cX10_plainChance 35 = .ok (.iload 5, 2) := by decide +kernel
theorem dX10_plainChance_37 : decode cX10_plainChance 37 = .ok (.iload 4, 2) := by decide +kernel
theorem dX10_plainChance_39 : decode cX10_plainChance 39 = .ok (.aload_n 0, 1) := by decide +kernel
theorem dX10_plainChance_40 : decode cX10_plainChance 40 = .ok (.iload_n 1, 1) := by decide +kernel
theorem dX10_plainChance_41 : decode cX10_plainChance 41 = .ok (.iload_n 2, 1) := by decide +kernel
theorem dX10_plainChance_42 : decode cX10_plainChance 42 = .ok (.invokevirtual 139, 3) := by decide +kernel
theorem dX10_plainChance_45 : decode cX10_plainChance 45 = .ok (.imul, 1) := by decide +kernel
theorem dX10_plainChance_46 : decode cX10_plainChance 46 = .ok (.iadd, 1) := by decide +kernel
theorem dX10_plainChance_47 : decode cX10_plainChance 47 = .ok (.istore 6, 2) := by decide +kernel
theorem dX10_plainChance_49 : decode cX10_plainChance 49 = .ok (.aload_n 0, 1) := by decide +kernel
theorem dX10_plainChance_50 : decode cX10_plainChance 50 = .ok (.iload_n 1, 1) := by decide +kernel
theorem dX10_plainChance_51 : decode cX10_plainChance 51 = .ok (.iconst 0, 1) := by decide +kernel
theorem dX10_plainChance_52 : decode cX10_plainChance 52 = .ok (.invokevirtual 86, 3) := by decide +kernel
theorem dX10_plainChance_55 : decode cX10_plainChance 55 = .ok (.tableswitch 120 1 6 #[37, 43, 46, 58, 66, 85], 37) := by decide +kernel
theorem dX10_plainChance_92 : decode cX10_plainChance 92 = .ok (.iload 5, 2) := by decide +kernel
theorem dX10_plainChance_94 : decode cX10_plainChance 94 = .ok (.iload 4, 2) := by decide +kernel
theorem dX10_plainChance_96 : decode cX10_plainChance 96 = .ok (.isub, 1) := by decide +kernel
theorem dX10_plainChance_97 : decode cX10_plainChance 97 = .ok (.ireturn, 1) := by decide +kernel
theorem dX10_plainChance_98 : decode cX10_plainChance 98 = .ok (.iload 6, 2) := by decide +kernel
theorem dX10_plainChance_100 : decode cX10_plainChance 100 = .ok (.ireturn, 1) := by decide +kernel
theorem dX10_plainChance_101 : decode cX10_plainChance 101 = .ok (.iload 5, 2) := by decide +kernel
theorem dX10_plainChance_103 : decode cX10_plainChance 103 = .ok (.aload_n 0, 1) := by decide +kernel
theorem dX10_plainChance_104 : decode cX10_plainChance 104 = .ok (.iload_n 1, 1) := by decide +kernel
theorem dX10_plainChance_105 : decode cX10_plainChance 105 = .ok (.iload_n 2, 1) := by decide +kernel
theorem dX10_plainChance_106 : decode cX10_plainChance 106 = .ok (.invokevirtual 142, 3) := by decide +kernel
theorem dX10_plainChance_109 : decode cX10_plainChance 109 = .ok (.iconst 2, 1) := by decide +kernel
theorem dX10_plainChance_110 : decode cX10_plainChance 110 = .ok (.idiv, 1) := by decide +kernel
theorem dX10_plainChance_111 : decode cX10_plainChance 111 = .ok (.iadd, 1) := by decide +kernel
theorem dX10_plainChance_112 : decode cX10_plainChance 112 = .ok (.ireturn, 1) := by decide +kernel
theorem dX10_plainChance_113 : decode cX10_plainChance 113 = .ok (.iload 5, 2) := by decide +kernel
theorem dX10_plainChance_115 : decode cX10_plainChance 115 = .ok (.iload 4, 2) := by decide +kernel
theorem dX10_plainChance_117 : decode cX10_plainChance 117 = .ok (.isub, 1) := by decide +kernel
theorem dX10_plainChance_118 : decode cX10_plainChance 118 = .ok (.iconst 2, 1) := by decide +kernel
theorem dX10_plainChance_119 : decode cX10_plainChance 119 = .ok (.idiv, 1) := by decide +kernel
theorem dX10_plainChance_120 : decode cX10_plainChance 120 = .ok (.ireturn, 1) := by decide +kernel
theorem dX10_plainChance_121 : decode cX10_plainChance 121 = .ok (.iload 6, 2) := by decide +kernel
theorem dX10_plainChance_123 : decode cX10_plainChance 123 = .ok (.aload_n 0, 1) := by decide +kernel
theorem dX10_plainChance_124 : decode cX10_plainChance 124 = .ok (.iload_n 1, 1) := by decide +kernel
theorem dX10_plainChance_125 : decode cX10_plainChance 125 = .ok (.iload_n 2, 1) := by decide +kernel
theorem dX10_plainChance_126 : decode cX10_plainChance 126 = .ok (.invokevirtual 145, 3) := by decide +kernel
theorem dX10_plainChance_129 : decode cX10_plainChance 129 = .ok (.ifCond .eq 8, 3) := by decide +kernel
theorem dX10_plainChance_132 : decode cX10_plainChance 132 = .ok (.bipush 10, 2) := by decide +kernel
theorem dX10_plainChance_134 : decode cX10_plainChance 134 = .ok (.goto 4, 3) := by decide +kernel
theorem dX10_plainChance_137 : decode cX10_plainChance 137 = .ok (.iconst 0, 1) := by decide +kernel
theorem dX10_plainChance_138 : decode cX10_plainChance 138 = .ok (.iadd, 1) := by decide +kernel
theorem dX10_plainChance_139 : decode cX10_plainChance 139 = .ok (.ireturn, 1) := by decide +kernel
theorem dX10_plainChance_140 : decode cX10_plainChance 140 = .ok (.iload_n 3, 1) := by decide +kernel
theorem dX10_plainChance_141 : decode cX10_plainChance 141 = .ok (.iconst 1, 1) := by decide +kernel
theorem dX10_plainChance_142 : decode cX10_plainChance 142 = .ok (.iadd, 1) := by decide +kernel
theorem dX10_plainChance_143 : decode cX10_plainChance 143 = .ok (.aload_n 0, 1) := by decide +kernel
theorem dX10_plainChance_144 : decode cX10_plainChance 144 = .ok (.iload_n 2, 1) := by decide +kernel
theorem dX10_plainChance_145 : decode cX10_plainChance 145 = .ok (.iconst 0, 1) := by decide +kernel
theorem dX10_plainChance_146 : decode cX10_plainChance 146 = .ok (.invokevirtual 109, 3) := by decide +kernel
theorem dX10_plainChance_149 : decode cX10_plainChance 149 = .ok (.if_icmp .eq 15, 3) := by decide +kernel
theorem dX10_plainChance_152 : decode cX10_plainChance 152 = .ok (.iload_n 3, 1) := by decide +kernel
theorem dX10_plainChance_153 : decode cX10_plainChance 153 = .ok (.iconst 1, 1) := by decide +kernel
theorem dX10_plainChance_154 : decode cX10_plainChance 154 = .ok (.iadd, 1) := by decide +kernel
theorem dX10_plainChance_155 : decode cX10_plainChance 155 = .ok (.aload_n 0, 1) := by decide +kernel
theorem dX10_plainChance_156 : decode cX10_plainChance 156 = .ok (.iload_n 2, 1) := by decide +kernel
theorem dX10_plainChance_157 : decode cX10_plainChance 157 = .ok (.iconst 1, 1) := by decide +kernel
theorem dX10_plainChance_158 : decode cX10_plainChance 158 = .ok (.invokevirtual 109, 3) := by decide +kernel
theorem dX10_plainChance_161 : decode cX10_plainChance 161 = .ok (.if_icmp .ne 8, 3) := by decide +kernel
theorem dX10_plainChance_164 : decode cX10_plainChance 164 = .ok (.bipush 100, 2) := by decide +kernel
theorem dX10_plainChance_166 : decode cX10_plainChance 166 = .ok (.goto 8, 3) := by decide +kernel
theorem dX10_plainChance_169 : decode cX10_plainChance 169 = .ok (.iload 5, 2) := by decide +kernel
theorem dX10_plainChance_171 : decode cX10_plainChance 171 = .ok (.iload 4, 2) := by decide +kernel
theorem dX10_plainChance_173 : decode cX10_plainChance 173 = .ok (.isub, 1) := by decide +kernel
theorem dX10_plainChance_174 : decode cX10_plainChance 174 = .ok (.ireturn, 1) := by decide +kernel
theorem dX10_plainChance_175 : decode cX10_plainChance 175 = .ok (.iload 5, 2) := by decide +kernel
theorem dX10_plainChance_177 : decode cX10_plainChance 177 = .ok (.ireturn, 1) := by decide +kernel
theorem dX10_chance_0 : decode cX10_chance 0 = .ok (.aload_n 0, 1) := by decide +kernel
theorem dX10_chance_1 : decode cX10_chance 1 = .ok (.iload_n 2, 1) := by decide +kernel
theorem dX10_chance_2 : decode cX10_chance 2 = .ok (.invokevirtual 112, 3) := by decide +kernel
theorem dX10_chance_5 : decode cX10_chance 5 = .ok (.invokestatic 115, 3) := by decide +kernel
theorem dX10_chance_8 : decode cX10_chance 8 = .ok (.istore_n 3, 1) := by decide +kernel
theorem dX10_chance_9 : decode cX10_chance 9 = .ok (.iload_n 3, 1) := by decide +kernel
theorem dX10_chance_10 : decode cX10_chance 10 = .ok (.aload_n 0, 1) := by decide +kernel
theorem dX10_chance_11 : decode cX10_chance 11 = .ok (.iload_n 2, 1) := by decide +kernel
theorem dX10_chance_12 : decode cX10_chance 12 = .ok (.iconst 1, 1) := by decide +kernel
theorem dX10_chance_13 : decode cX10_chance 13 = .ok (.invokevirtual 109, 3) := by decide +kernel
theorem dX10_chance_16 : decode cX10_chance 16 = .ok (.if_icmp .lt 5, 3) := by decide +kernel
theorem dX10_chance_19 : decode cX10_chance 19 = .ok (.iconst 0, 1) := by decide +kernel
theorem dX10_chance_20 : decode cX10_chance 20 = .ok (.ireturn, 1) := by decide +kernel
theorem dX10_chance_21 : decode cX10_chance 21 = .ok (.aload_n 0, 1) := by decide +kernel
theorem dX10_chance_22 : decode cX10_chance 22 = .ok (.iconst 0, 1) := by decide +kernel
theorem dX10_chance_23 : decode cX10_chance 23 = .ok (.invokevirtual 148, 3) := by decide +kernel
theorem dX10_chance_26 : decode cX10_chance 26 = .ok (.ifCond .eq 43, 3) := by decide +kernel
theorem dX10_chance_29 : decode cX10_chance 29 = .ok (.aload_n 0, 1) := by decide +kernel
theorem dX10_chance_30 : decode cX10_chance 30 = .ok (.iconst 0, 1) := by decide +kernel
theorem dX10_chance_31 : decode cX10_chance 31 = .ok (.aload_n 0, 1) := by decide +kernel
theorem dX10_chance_32 : decode cX10_chance 32 = .ok (.iload_n 1, 1) := by decide +kernel
theorem dX10_chance_33 : decode cX10_chance 33 = .ok (.iload_n 2, 1) := by decide +kernel
theorem dX10_chance_34 : decode cX10_chance 34 = .ok (.invokevirtual 136, 3) := by decide +kernel
theorem dX10_chance_37 : decode cX10_chance 37 = .ok (.aload_n 0, 1) := by decide +kernel
theorem dX10_chance_38 : decode cX10_chance 38 = .ok (.iload_n 2, 1) := by decide +kernel
theorem dX10_chance_39 : decode cX10_chance 39 = .ok (.iconst 2, 1) := by decide +kernel
theorem dX10_chance_40 : decode cX10_chance 40 = .ok (.invokevirtual 109, 3) := by decide +kernel
theorem dX10_chance_43 : decode cX10_chance 43 = .ok (.iload_n 3, 1) := by decide +kernel
theorem dX10_chance_44 : decode cX10_chance 44 = .ok (.aload_n 0, 1) := by decide +kernel
theorem dX10_chance_45 : decode cX10_chance 45 = .ok (.iload_n 1, 1) := by decide +kernel
theorem dX10_chance_46 : decode cX10_chance 46 = .ok (.iload_n 2, 1) := by decide +kernel
theorem dX10_chance_47 : decode cX10_chance 47 = .ok (.invokevirtual 139, 3) := by decide +kernel
theorem dX10_chance_50 : decode cX10_chance 50 = .ok (.aload_n 0, 1) := by decide +kernel
theorem dX10_chance_51 : decode cX10_chance 51 = .ok (.iload_n 1, 1) := by decide +kernel
theorem dX10_chance_52 : decode cX10_chance 52 = .ok (.iload_n 2, 1) := by decide +kernel
theorem dX10_chance_53 : decode cX10_chance 53 = .ok (.invokevirtual 151, 3) := by decide +kernel
theorem dX10_chance_56 : decode cX10_chance 56 = .ok (.invokevirtual 154, 3) := by decide +kernel
theorem dX10_chance_59 : decode cX10_chance 59 = .ok (.bipush (-100), 2) := by decide +kernel
theorem dX10_chance_61 : decode cX10_chance 61 = .ok (.bipush 100, 2) := by decide +kernel
theorem dX10_chance_63 : decode cX10_chance 63 = .ok (.invokestatic 158, 3) := by decide +kernel
theorem dX10_chance_66 : decode cX10_chance 66 = .ok (.goto 4, 3) := by decide +kernel
theorem dX10_chance_69 : decode cX10_chance 69 = .ok (.iconst 0, 1) := by decide +kernel
theorem dX10_chance_70 : decode cX10_chance 70 = .ok (.istore 4, 2) := by decide +kernel
theorem dX10_chance_72 : decode cX10_chance 72 = .ok (.aload_n 0, 1) := by decide +kernel
theorem dX10_chance_73 : decode cX10_chance 73 = .ok (.iload_n 1, 1) := by decide +kernel
theorem dX10_chance_74 : decode cX10_chance 74 = .ok (.iload_n 2, 1) := by decide +kernel
theorem dX10_chance_75 : decode cX10_chance 75 = .ok (.invokevirtual 162, 3) := by decide +kernel
theorem dX10_chance_78 : decode cX10_chance 78 = .ok (.iload 4, 2) := by decide +kernel
theorem dX10_chance_80 : decode cX10_chance 80 = .ok (.iadd, 1) := by decide +kernel
theorem dX10_chance_81 : decode cX10_chance 81 = .ok (.iconst 0, 1) := by decide +kernel
theorem dX10_chance_82 : decode cX10_chance 82 = .ok (.bipush 100, 2) := by decide +kernel
theorem dX10_chance_84 : decode cX10_chance 84 = .ok (.invokestatic 158, 3) := by decide +kernel
theorem dX10_chance_87 : decode cX10_chance 87 = .ok (.ireturn, 1) := by decide +kernel
theorem dX10_between_0 : decode cX10_between 0 = .ok (.aload_n 0, 1) := by decide +kernel
theorem dX10_between_1 : decode cX10_between 1 = .ok (.iload_n 1, 1) := by decide +kernel
theorem dX10_between_2 : decode cX10_between 2 = .ok (.iconst 0, 1) := by decide +kernel
theorem dX10_between_3 : decode cX10_between 3 = .ok (.invokevirtual 95, 3) := by decide +kernel
theorem dX10_between_6 : decode cX10_between 6 = .ok (.ifCond .eq 21, 3) := by decide +kernel
theorem dX10_between_9 : decode cX10_between 9 = .ok (.aload_n 0, 1) := by decide +kernel
theorem dX10_between_10 : decode cX10_between 10 = .ok (.iload_n 2, 1) := by decide +kernel
theorem dX10_between_11 : decode cX10_between 11 = .ok (.iconst 1, 1) := by decide +kernel
theorem dX10_between_12 : decode cX10_between 12 = .ok (.invokevirtual 95, 3) := by decide +kernel
theorem dX10_between_15 : decode cX10_between 15 = .ok (.ifCond .eq 12, 3) := by decide +kernel
theorem dX10_between_18 : decode cX10_between 18 = .ok (.iload_n 3, 1) := by decide +kernel
theorem dX10_between_19 : decode cX10_between 19 = .ok (.iconst 0, 1) := by decide +kernel
theorem dX10_between_20 : decode cX10_between 20 = .ok (.iconst 2, 1) := by decide +kernel
theorem dX10_between_21 : decode cX10_between 21 = .ok (.invokestatic 72, 3) := by decide +kernel
theorem dX10_between_24 : decode cX10_between 24 = .ok (.ifCond .ne 10, 3) := by decide +kernel
theorem dX10_between_27 : decode cX10_between 27 = .ok (.aload_n 0, 1) := by decide +kernel
theorem dX10_between_28 : decode cX10_between 28 = .ok (.ldc 80, 2) := by decide +kernel
theorem dX10_between_30 : decode cX10_between 30 = .ok (.invokevirtual 81, 3) := by decide +kernel
theorem dX10_between_33 : decode cX10_between 33 = .ok (.ireturn, 1) := by decide +kernel
theorem dX10_between_34 : decode cX10_between 34 = .ok (.iload_n 3, 1) := by decide +kernel
theorem dX10_between_35 : decode cX10_between 35 = .ok (.ifCond .ne 12, 3) := by decide +kernel
theorem dX10_between_38 : decode cX10_between 38 = .ok (.aload_n 0, 1) := by decide +kernel
theorem dX10_between_39 : decode cX10_between 39 = .ok (.iload_n 1, 1) := by decide +kernel
theorem dX10_between_40 : decode cX10_between 40 = .ok (.iload_n 2, 1) := by decide +kernel
theorem dX10_between_41 : decode cX10_between 41 = .ok (.invokevirtual 136, 3) := by decide +kernel
theorem dX10_between_44 : decode cX10_between 44 = .ok (.goto 23, 3) := by decide +kernel
theorem dX10_between_47 : decode cX10_between 47 = .ok (.iload_n 3, 1) := by decide +kernel
theorem dX10_between_48 : decode cX10_between 48 = .ok (.iconst 1, 1) := by decide +kernel
theorem dX10_between_49 : decode cX10_between 49 = .ok (.if_icmp .ne 12, 3) := by decide +kernel
theorem dX10_between_52 : decode cX10_between 52 = .ok (.aload_n 0, 1) := by decide +kernel
theorem dX10_between_53 : decode cX10_between 53 = .ok (.iload_n 1, 1) := by decide +kernel
theorem dX10_between_54 : decode cX10_between 54 = .ok (.iload_n 2, 1) := by decide +kernel
theorem dX10_between_55 : decode cX10_between 55 = .ok (.invokevirtual 165, 3) := by decide +kernel
theorem dX10_between_58 : decode cX10_between 58 = .ok (.goto 9, 3) := by decide +kernel
theorem dX10_between_61 : decode cX10_between 61 = .ok (.aload_n 0, 1) := by decide +kernel
theorem dX10_between_62 : decode cX10_between 62 = .ok (.iload_n 1, 1) := by decide +kernel
theorem dX10_between_63 : decode cX10_between 63 = .ok (.iload_n 2, 1) := by decide +kernel
theorem dX10_between_64 : decode cX10_between 64 = .ok (.invokevirtual 139, 3) := by decide +kernel
theorem dX10_between_67 : decode cX10_between 67 = .ok (.ireturn, 1) := by decide +kernel
theorem dX10_feed_0 : decode cX10_feed 0 = .ok (.iload_n 3, 1) := by decide +kernel
theorem dX10_feed_1 : decode cX10_feed 1 = .ok (.iconst 1, 1) := by decide +kernel
theorem dX10_feed_2 : decode cX10_feed 2 = .ok (.bipush 8, 2) := by decide +kernel
theorem dX10_feed_4 : decode cX10_feed 4 = .ok (.invokestatic 72, 3) := by decide +kernel
theorem dX10_feed_7 : decode cX10_feed 7 = .ok (.ifCond .ne 10, 3) := by decide +kernel
theorem dX10_feed_10 : decode cX10_feed 10 = .ok (.aload_n 0, 1) := by decide +kernel
theorem dX10_feed_11 : decode cX10_feed 11 = .ok (.ldc 80, 2) := by decide +kernel
theorem dX10_feed_13 : decode cX10_feed 13 = .ok (.invokevirtual 81, 3) := by decide +kernel
theorem dX10_feed_16 : decode cX10_feed 16 = .ok (.ireturn, 1) := by decide +kernel
theorem dX10_feed_17 : decode cX10_feed 17 = .ok (.aload_n 0, 1) := by decide +kernel
theorem dX10_feed_18 : decode cX10_feed 18 = .ok (.getfield 9, 3) := by decide +kernel
theorem dX10_feed_21 : decode cX10_feed 21 = .ok (.iconst 4, 1) := by decide +kernel
theorem dX10_feed_22 : decode cX10_feed 22 = .ok (.iaload, 1) := by decide +kernel
theorem dX10_feed_23 : decode cX10_feed 23 = .ok (.iload_n 3, 1) := by decide +kernel
theorem dX10_feed_24 : decode cX10_feed 24 = .ok (.iadd, 1) := by decide +kernel
theorem dX10_feed_25 : decode cX10_feed 25 = .ok (.bipush 60, 2) := by decide +kernel
theorem dX10_feed_27 : decode cX10_feed 27 = .ok (.if_icmp .le 10, 3) := by decide +kernel
theorem dX10_feed_30 : decode cX10_feed 30 = .ok (.aload_n 0, 1) := by decide +kernel
theorem dX10_feed_31 : decode cX10_feed 31 = .ok (.ldc 85, 2) := by decide +kernel
theorem dX10_feed_33 : decode cX10_feed 33 = .ok (.invokevirtual 81, 3) := by decide +kernel
theorem dX10_feed_36 : decode cX10_feed 36 = .ok (.ireturn, 1) := by decide +kernel
theorem dX10_feed_37 : decode cX10_feed 37 = .ok (.iconst 0, 1) := by decide +kernel
theorem dX10_feed_38 : decode cX10_feed 38 = .ok (.istore 4, 2) := by decide +kernel
theorem dX10_feed_40 : decode cX10_feed 40 = .ok (.iload 4, 2) := by decide +kernel
theorem dX10_feed_42 : decode cX10_feed 42 = .ok (.iload_n 3, 1) := by decide +kernel
theorem dX10_feed_43 : decode cX10_feed 43 = .ok (.if_icmp .ge 46, 3) := by decide +kernel
theorem dX10_feed_46 : decode cX10_feed 46 = .ok (.aload_n 0, 1) := by decide +kernel
theorem dX10_feed_47 : decode cX10_feed 47 = .ok (.getfield 9, 3) := by decide +kernel
theorem dX10_feed_50 : decode cX10_feed 50 = .ok (.sipush 237, 3) := by decide +kernel
theorem dX10_feed_53 : decode cX10_feed 53 = .ok (.aload_n 0, 1) := by decide +kernel
theorem dX10_feed_54 : decode cX10_feed 54 = .ok (.getfield 9, 3) := by decide +kernel
theorem dX10_feed_57 : decode cX10_feed 57 = .ok (.iconst 4, 1) := by decide +kernel
theorem dX10_feed_58 : decode cX10_feed 58 = .ok (.iaload, 1) := by decide +kernel
theorem dX10_feed_59 : decode cX10_feed 59 = .ok (.iadd, 1) := by decide +kernel
theorem dX10_feed_60 : decode cX10_feed 60 = .ok (.lload_n 1, 1) := by decide +kernel
theorem dX10_feed_61 : decode cX10_feed 61 = .ok (.bipush 8, 2) := by decide +kernel
theorem dX10_feed_63 : decode cX10_feed 63 = .ok (.iload 4, 2) := by decide +kernel
theorem dX10_feed_65 : decode cX10_feed 65 = .ok (.imul, 1) := by decide +kernel
theorem dX10_feed_66 : decode cX10_feed 66 = .ok (.lshr, 1) := by decide +kernel
theorem dX10_feed_67 : decode cX10_feed 67 = .ok (.ldc2_w 168, 3) := by decide +kernel
theorem dX10_feed_70 : decode cX10_feed 70 = .ok (.land, 1) := by decide +kernel
theorem dX10_feed_71 : decode cX10_feed 71 = .ok (.l2i, 1) := by decide +kernel
theorem dX10_feed_72 : decode cX10_feed 72 = .ok (.iastore, 1) := by decide +kernel
theorem dX10_feed_73 : decode cX10_feed 73 = .ok (.aload_n 0, 1) := by decide +kernel
theorem dX10_feed_74 : decode cX10_feed 74 = .ok (.getfield 9, 3) := by decide +kernel
theorem dX10_feed_77 : decode cX10_feed 77 = .ok (.iconst 4, 1) := by decide +kernel
theorem dX10_feed_78 : decode cX10_feed 78 = .ok (.dup2, 1) := by decide +kernel
theorem dX10_feed_79 : decode cX10_feed 79 = .ok (.iaload, 1) := by decide +kernel
theorem dX10_feed_80 : decode cX10_feed 80 = .ok (.iconst 1, 1) := by decide +kernel
theorem dX10_feed_81 : decode cX10_feed 81 = .ok (.iadd, 1) := by decide +kernel
theorem dX10_feed_82 : decode cX10_feed 82 = .ok (.iastore, 1) := by decide +kernel
theorem dX10_feed_83 : decode cX10_feed 83 = .ok (.iinc 4 1, 3) := by decide +kernel
theorem dX10_feed_86 : decode cX10_feed 86 = .ok (.goto (-46), 3) := by decide +kernel
theorem dX10_feed_89 : decode cX10_feed 89 = .ok (.aload_n 0, 1) := by decide +kernel
theorem dX10_feed_90 : decode cX10_feed 90 = .ok (.getfield 9, 3) := by decide +kernel
theorem dX10_feed_93 : decode cX10_feed 93 = .ok (.iconst 4, 1) := by decide +kernel
theorem dX10_feed_94 : decode cX10_feed 94 = .ok (.iaload, 1) := by decide +kernel
theorem dX10_feed_95 : decode cX10_feed 95 = .ok (.ireturn, 1) := by decide +kernel
theorem dX10_here_0 : decode cX10_here 0 = .ok (.aload_n 0, 1) := by decide +kernel
theorem dX10_here_1 : decode cX10_here 1 = .ok (.getfield 170, 3) := by decide +kernel
theorem dX10_here_4 : decode cX10_here 4 = .ok (.ifCond .ne 32, 3) := by decide +kernel
theorem dX10_here_7 : decode cX10_here 7 = .ok (.aload_n 0, 1) := by decide +kernel
theorem dX10_here_8 : decode cX10_here 8 = .ok (.getfield 174, 3) := by decide +kernel
theorem dX10_here_11 : decode cX10_here 11 = .ok (.aload_n 0, 1) := by decide +kernel
theorem dX10_here_12 : decode cX10_here 12 = .ok (.getfield 9, 3) := by decide +kernel
theorem dX10_here_15 : decode cX10_here 15 = .ok (.iconst 4, 1) := by decide +kernel
theorem dX10_here_16 : decode cX10_here 16 = .ok (.iaload, 1) := by decide +kernel
theorem dX10_here_17 : decode cX10_here 17 = .ok (.if_icmp .ge 19, 3) := by decide +kernel
theorem dX10_here_20 : decode cX10_here 20 = .ok (.aload_n 0, 1) := by decide +kernel
theorem dX10_here_21 : decode cX10_here 21 = .ok (.getfield 9, 3) := by decide +kernel
theorem dX10_here_24 : decode cX10_here 24 = .ok (.sipush 237, 3) := by decide +kernel
theorem dX10_here_27 : decode cX10_here 27 = .ok (.aload_n 0, 1) := by decide +kernel
theorem dX10_here_28 : decode cX10_here 28 = .ok (.getfield 174, 3) := by decide +kernel
theorem dX10_here_31 : decode cX10_here 31 = .ok (.iadd, 1) := by decide +kernel
theorem dX10_here_32 : decode cX10_here 32 = .ok (.iaload, 1) := by decide +kernel
theorem dX10_here_33 : decode cX10_here 33 = .ok (.goto 4, 3) := by decide +kernel
theorem dX10_here_36 : decode cX10_here 36 = .ok (.iconst (-1), 1) := by decide +kernel
theorem dX10_here_37 : decode cX10_here 37 = .ok (.ireturn, 1) := by decide +kernel
theorem dX10_takes_0 : decode cX10_takes 0 = .ok (.aload_n 0, 1) := by decide +kernel
theorem dX10_takes_1 : decode cX10_takes 1 = .ok (.invokevirtual 178, 3) := by decide +kernel
theorem dX10_takes_4 : decode cX10_takes 4 = .ok (.iload_n 1, 1) := by decide +kernel
theorem dX10_takes_5 : decode cX10_takes 5 = .ok (.if_icmp .ne 7, 3) := by decide +kernel
theorem dX10_takes_8 : decode cX10_takes 8 = .ok (.iconst 1, 1) := by decide +kernel
theorem dX10_takes_9 : decode cX10_takes 9 = .ok (.goto 4, 3) := by decide +kernel
theorem dX10_takes_12 : decode cX10_takes 12 = .ok (.iconst 0, 1) := by decide +kernel
theorem dX10_takes_13 : decode cX10_takes 13 = .ok (.istore_n 2, 1) := by decide +kernel
theorem dX10_takes_14 : decode cX10_takes 14 = .ok (.aload_n 0, 1) := by decide +kernel
theorem dX10_takes_15 : decode cX10_takes 15 = .ok (.dup, 1) := by decide +kernel
theorem dX10_takes_16 : decode cX10_takes 16 = .ok (.getfield 174, 3) := by decide +kernel
theorem dX10_takes_19 : decode cX10_takes 19 = .ok (.iload_n 2, 1) := by decide +kernel
theorem dX10_takes_20 : decode cX10_takes 20 = .ok (.ifCond .eq 7, 3) := by decide +kernel
theorem dX10_takes_23 : decode cX10_takes 23 = .ok (.iconst 1, 1) := by decide +kernel
theorem dX10_takes_24 : decode cX10_takes 24 = .ok (.goto 4, 3) := by decide +kernel
theorem dX10_takes_27 : decode cX10_takes 27 = .ok (.iconst 0, 1) := by decide +kernel
theorem dX10_takes_28 : decode cX10_takes 28 = .ok (.iadd, 1) := by decide +kernel
theorem dX10_takes_29 : decode cX10_takes 29 = .ok (.putfield 174, 3) := by decide +kernel
theorem dX10_takes_32 : decode cX10_takes 32 = .ok (.iload_n 2, 1) := by decide +kernel
theorem dX10_takes_33 : decode cX10_takes 33 = .ok (.ireturn, 1) := by decide +kernel
theorem dX10_codes_0 : decode cX10_codes 0 = .ok (.aload_n 0, 1) := by decide +kernel
theorem dX10_codes_1 : decode cX10_codes 1 = .ok (.getfield 170, 3) := by decide +kernel
theorem dX10_codes_4 : decode cX10_codes 4 = .ok (.ifCond .ne 23, 3) := by decide +kernel
theorem dX10_codes_7 : decode cX10_codes 7 = .ok (.aload_n 0, 1) := by decide +kernel
theorem dX10_codes_8 : decode cX10_codes 8 = .ok (.getfield 32, 3) := by decide +kernel
theorem dX10_codes_11 : decode cX10_codes 11 = .ok (.aload_n 0, 1) := by decide +kernel
theorem dX10_codes_12 : decode cX10_codes 12 = .ok (.getfield 182, 3) := by decide +kernel
theorem dX10_codes_15 : decode cX10_codes 15 = .ok (.iload_n 1, 1) := by decide +kernel
theorem dX10_codes_16 : decode cX10_codes 16 = .ok (.iastore, 1) := by decide +kernel
theorem dX10_codes_17 : decode cX10_codes 17 = .ok (.aload_n 0, 1) := by decide +kernel
theorem dX10_codes_18 : decode cX10_codes 18 = .ok (.dup, 1) := by decide +kernel
theorem dX10_codes_19 : decode cX10_codes 19 = .ok (.getfield 182, 3) := by decide +kernel
theorem dX10_codes_22 : decode cX10_codes 22 = .ok (.iconst 1, 1) := by decide +kernel
theorem dX10_codes_23 : decode cX10_codes 23 = .ok (.iadd, 1) := by decide +kernel
theorem dX10_codes_24 : decode cX10_codes 24 = .ok (.putfield 182, 3) := by decide +kernel
theorem dX10_codes_27 : decode cX10_codes 27 = .ok (.return_, 1) := by decide +kernel
theorem dX10_either_0 : decode cX10_either 0 = .ok (.aload_n 0, 1) := by decide +kernel
theorem dX10_either_1 : decode cX10_either 1 = .ok (.invokevirtual 185, 3) := by decide +kernel
theorem dX10_either_4 : decode cX10_either 4 = .ok (.aload_n 0, 1) := by decide +kernel
theorem dX10_either_5 : decode cX10_either 5 = .ok (.bipush 124, 2) := by decide +kernel
theorem dX10_either_7 : decode cX10_either 7 = .ok (.invokevirtual 188, 3) := by decide +kernel
theorem dX10_either_10 : decode cX10_either 10 = .ok (.ifCond .eq 17, 3) := by decide +kernel
theorem dX10_either_13 : decode cX10_either 13 = .ok (.aload_n 0, 1) := by decide +kernel
theorem dX10_either_14 : decode cX10_either 14 = .ok (.invokevirtual 185, 3) := by decide +kernel
theorem dX10_either_17 : decode cX10_either 17 = .ok (.aload_n 0, 1) := by decide +kernel
theorem dX10_either_18 : decode cX10_either 18 = .ok (.sipush 20000, 3) := by decide +kernel
theorem dX10_either_21 : decode cX10_either 21 = .ok (.invokevirtual 191, 3) := by decide +kernel
theorem dX10_either_24 : decode cX10_either 24 = .ok (.goto (-20), 3) := by decide +kernel
theorem dX10_either_27 : decode cX10_either 27 = .ok (.return_, 1) := by decide +kernel
theorem dX10_both_0 : decode cX10_both 0 = .ok (.aload_n 0, 1) := by decide +kernel
theorem dX10_both_1 : decode cX10_both 1 = .ok (.invokevirtual 195, 3) := by decide +kernel
theorem dX10_both_4 : decode cX10_both 4 = .ok (.aload_n 0, 1) := by decide +kernel
theorem dX10_both_5 : decode cX10_both 5 = .ok (.bipush 38, 2) := by decide +kernel
theorem dX10_both_7 : decode cX10_both 7 = .ok (.invokevirtual 188, 3) := by decide +kernel
theorem dX10_both_10 : decode cX10_both 10 = .ok (.ifCond .eq 17, 3) := by decide +kernel
theorem dX10_both_13 : decode cX10_both 13 = .ok (.aload_n 0, 1) := by decide +kernel
theorem dX10_both_14 : decode cX10_both 14 = .ok (.invokevirtual 195, 3) := by decide +kernel
theorem dX10_both_17 : decode cX10_both 17 = .ok (.aload_n 0, 1) := by decide +kernel
theorem dX10_both_18 : decode cX10_both 18 = .ok (.sipush 20001, 3) := by decide +kernel
theorem dX10_both_21 : decode cX10_both 21 = .ok (.invokevirtual 191, 3) := by decide +kernel
theorem dX10_both_24 : decode cX10_both 24 = .ok (.goto (-20), 3) := by decide +kernel
theorem dX10_both_27 : decode cX10_both 27 = .ok (.return_, 1) := by decide +kernel
theorem dX10_compared_0 : decode cX10_compared 0 = .ok (.aload_n 0, 1) := by decide +kernel
theorem dX10_compared_1 : decode cX10_compared 1 = .ok (.invokevirtual 198, 3) := by decide +kernel
theorem dX10_compared_4 : decode cX10_compared 4 = .ok (.aload_n 0, 1) := by decide +kernel
theorem dX10_compared_5 : decode cX10_compared 5 = .ok (.bipush 60, 2) := by decide +kernel
theorem dX10_compared_7 : decode cX10_compared 7 = .ok (.invokevirtual 188, 3) := by decide +kernel
theorem dX10_compared_10 : decode cX10_compared 10 = .ok (.ifCond .eq 9, 3) := by decide +kernel
theorem dX10_compared_13 : decode cX10_compared 13 = .ok (.sipush 20002, 3) := by decide +kernel
theorem dX10_compared_16 : decode cX10_compared 16 = .ok (.goto 34, 3) := by decide +kernel
theorem dX10_compared_19 : decode cX10_compared 19 = .ok (.aload_n 0, 1) := by decide +kernel
theorem dX10_compared_20 : decode cX10_compared 20 = .ok (.bipush 61, 2) := by decide +kernel
theorem dX10_compared_22 : decode cX10_compared 22 = .ok (.invokevirtual 188, 3) := by decide +kernel
theorem dX10_compared_25 : decode cX10_compared 25 = .ok (.ifCond .eq 9, 3) := by decide +kernel
theorem dX10_compared_28 : decode cX10_compared 28 = .ok (.sipush 20003, 3) := by decide +kernel
theorem dX10_compared_31 : decode cX10_compared 31 = .ok (.goto 19, 3) := by decide +kernel
theorem dX10_compared_34 : decode cX10_compared 34 = .ok (.aload_n 0, 1) := by decide +kernel
theorem dX10_compared_35 : decode cX10_compared 35 = .ok (.bipush 62, 2) := by decide +kernel
theorem dX10_compared_37 : decode cX10_compared 37 = .ok (.invokevirtual 188, 3) := by decide +kernel
theorem dX10_compared_40 : decode cX10_compared 40 = .ok (.ifCond .eq 9, 3) := by decide +kernel
theorem dX10_compared_43 : decode cX10_compared 43 = .ok (.sipush 20004, 3) := by decide +kernel
theorem dX10_compared_46 : decode cX10_compared 46 = .ok (.goto 4, 3) := by decide +kernel
theorem dX10_compared_49 : decode cX10_compared 49 = .ok (.iconst 0, 1) := by decide +kernel
theorem dX10_compared_50 : decode cX10_compared 50 = .ok (.istore_n 1, 1) := by decide +kernel
theorem dX10_compared_51 : decode cX10_compared 51 = .ok (.iload_n 1, 1) := by decide +kernel
theorem dX10_compared_52 : decode cX10_compared 52 = .ok (.ifCond .le 12, 3) := by decide +kernel
theorem dX10_compared_55 : decode cX10_compared 55 = .ok (.aload_n 0, 1) := by decide +kernel
theorem dX10_compared_56 : decode cX10_compared 56 = .ok (.invokevirtual 198, 3) := by decide +kernel
theorem dX10_compared_59 : decode cX10_compared 59 = .ok (.aload_n 0, 1) := by decide +kernel
theorem dX10_compared_60 : decode cX10_compared 60 = .ok (.iload_n 1, 1) := by decide +kernel
theorem dX10_compared_61 : decode cX10_compared 61 = .ok (.invokevirtual 191, 3) := by decide +kernel
theorem dX10_compared_64 : decode cX10_compared 64 = .ok (.return_, 1) := by decide +kernel
theorem dX10_sum_0 : decode cX10_sum 0 = .ok (.aload_n 0, 1) := by decide +kernel
theorem dX10_sum_1 : decode cX10_sum 1 = .ok (.invokevirtual 201, 3) := by decide +kernel
theorem dX10_sum_4 : decode cX10_sum 4 = .ok (.aload_n 0, 1) := by decide +kernel
theorem dX10_sum_5 : decode cX10_sum 5 = .ok (.bipush 43, 2) := by decide +kernel
theorem dX10_sum_7 : decode cX10_sum 7 = .ok (.invokevirtual 188, 3) := by decide +kernel
theorem dX10_sum_10 : decode cX10_sum 10 = .ok (.ifCond .eq 9, 3) := by decide +kernel
theorem dX10_sum_13 : decode cX10_sum 13 = .ok (.sipush 20005, 3) := by decide +kernel
theorem dX10_sum_16 : decode cX10_sum 16 = .ok (.goto 19, 3) := by decide +kernel
theorem dX10_sum_19 : decode cX10_sum 19 = .ok (.aload_n 0, 1) := by decide +kernel
theorem dX10_sum_20 : decode cX10_sum 20 = .ok (.bipush 45, 2) := by decide +kernel
theorem dX10_sum_22 : decode cX10_sum 22 = .ok (.invokevirtual 188, 3) := by decide +kernel
theorem dX10_sum_25 : decode cX10_sum 25 = .ok (.ifCond .eq 9, 3) := by decide +kernel
theorem dX10_sum_28 : decode cX10_sum 28 = .ok (.sipush 20006, 3) := by decide +kernel
theorem dX10_sum_31 : decode cX10_sum 31 = .ok (.goto 4, 3) := by decide +kernel
theorem dX10_sum_34 : decode cX10_sum 34 = .ok (.iconst 0, 1) := by decide +kernel
theorem dX10_sum_35 : decode cX10_sum 35 = .ok (.istore_n 1, 1) := by decide +kernel
theorem dX10_sum_36 : decode cX10_sum 36 = .ok (.iload_n 1, 1) := by decide +kernel
theorem dX10_sum_37 : decode cX10_sum 37 = .ok (.ifCond .le 47, 3) := by decide +kernel
theorem dX10_sum_40 : decode cX10_sum 40 = .ok (.aload_n 0, 1) := by decide +kernel
theorem dX10_sum_41 : decode cX10_sum 41 = .ok (.invokevirtual 201, 3) := by decide +kernel
theorem dX10_sum_44 : decode cX10_sum 44 = .ok (.aload_n 0, 1) := by decide +kernel
theorem dX10_sum_45 : decode cX10_sum 45 = .ok (.iload_n 1, 1) := by decide +kernel
theorem dX10_sum_46 : decode cX10_sum 46 = .ok (.invokevirtual 191, 3) := by decide +kernel
theorem dX10_sum_49 : decode cX10_sum 49 = .ok (.aload_n 0, 1) := by decide +kernel
theorem dX10_sum_50 : decode cX10_sum 50 = .ok (.bipush 43, 2) := by decide +kernel
theorem dX10_sum_52 : decode cX10_sum 52 = .ok (.invokevirtual 188, 3) := by decide +kernel
theorem dX10_sum_55 : decode cX10_sum 55 = .ok (.ifCond .eq 9, 3) := by decide +kernel
theorem dX10_sum_58 : decode cX10_sum 58 = .ok (.sipush 20005, 3) := by decide +kernel
theorem dX10_sum_61 : decode cX10_sum 61 = .ok (.goto 19, 3) := by decide +kernel
theorem dX10_sum_64 : decode cX10_sum 64 = .ok (.aload_n 0, 1) := by decide +kernel
theorem dX10_sum_65 : decode cX10_sum 65 = .ok (.bipush 45, 2) := by decide +kernel
theorem dX10_sum_67 : decode cX10_sum 67 = .ok (.invokevirtual 188, 3) := by decide +kernel
theorem dX10_sum_70 : decode cX10_sum 70 = .ok (.ifCond .eq 9, 3) := by decide +kernel
theorem dX10_sum_73 : decode cX10_sum 73 = .ok (.sipush 20006, 3) := by decide +kernel
theorem dX10_sum_76 : decode cX10_sum 76 = .ok (.goto 4, 3) := by decide +kernel
theorem dX10_sum_79 : decode cX10_sum 79 = .ok (.iconst 0, 1) := by decide +kernel
theorem dX10_sum_80 : decode cX10_sum 80 = .ok (.istore_n 1, 1) := by decide +kernel
theorem dX10_sum_81 : decode cX10_sum 81 = .ok (.goto (-45), 3) := by decide +kernel
theorem dX10_sum_84 : decode cX10_sum 84 = .ok (.return_, 1) := by decide +kernel
theorem dX10_product_0 : decode cX10_product 0 = .ok (.aload_n 0, 1) := by decide +kernel
theorem dX10_product_1 : decode cX10_product 1 = .ok (.invokevirtual 204, 3) := by decide +kernel
theorem dX10_product_4 : decode cX10_product 4 = .ok (.aload_n 0, 1) := by decide +kernel
theorem dX10_product_5 : decode cX10_product 5 = .ok (.bipush 42, 2) := by decide +kernel
theorem dX10_product_7 : decode cX10_product 7 = .ok (.invokevirtual 188, 3) := by decide +kernel
theorem dX10_product_10 : decode cX10_product 10 = .ok (.ifCond .eq 9, 3) := by decide +kernel
theorem dX10_product_13 : decode cX10_product 13 = .ok (.sipush 20007, 3) := by decide +kernel
theorem dX10_product_16 : decode cX10_product 16 = .ok (.goto 34, 3) := by decide +kernel
theorem dX10_product_19 : decode cX10_product 19 = .ok (.aload_n 0, 1) := by decide +kernel
theorem dX10_product_20 : decode cX10_product 20 = .ok (.bipush 47, 2) := by decide +kernel
theorem dX10_product_22 : decode cX10_product 22 = .ok (.invokevirtual 188, 3) := by decide +kernel
theorem dX10_product_25 : decode cX10_product 25 = .ok (.ifCond .eq 9, 3) := by decide +kernel
theorem dX10_product_28 : decode cX10_product 28 = .ok (.sipush 20008, 3) := by decide +kernel
theorem dX10_product_31 : decode cX10_product 31 = .ok (.goto 19, 3) := by decide +kernel
theorem dX10_product_34 : decode cX10_product 34 = .ok (.aload_n 0, 1) := by decide +kernel
theorem dX10_product_35 : decode cX10_product 35 = .ok (.bipush 37, 2) := by decide +kernel
theorem dX10_product_37 : decode cX10_product 37 = .ok (.invokevirtual 188, 3) := by decide +kernel
theorem dX10_product_40 : decode cX10_product 40 = .ok (.ifCond .eq 9, 3) := by decide +kernel
theorem dX10_product_43 : decode cX10_product 43 = .ok (.sipush 20009, 3) := by decide +kernel
theorem dX10_product_46 : decode cX10_product 46 = .ok (.goto 4, 3) := by decide +kernel
theorem dX10_product_49 : decode cX10_product 49 = .ok (.iconst 0, 1) := by decide +kernel
theorem dX10_product_50 : decode cX10_product 50 = .ok (.istore_n 1, 1) := by decide +kernel
theorem dX10_product_51 : decode cX10_product 51 = .ok (.iload_n 1, 1) := by decide +kernel
theorem dX10_product_52 : decode cX10_product 52 = .ok (.ifCond .le 62, 3) := by decide +kernel
theorem dX10_product_55 : decode cX10_product 55 = .ok (.aload_n 0, 1) := by decide +kernel
theorem dX10_product_56 : decode cX10_product 56 = .ok (.invokevirtual 204, 3) := by decide +kernel
theorem dX10_product_59 : decode cX10_product 59 = .ok (.aload_n 0, 1) := by decide +kernel
theorem dX10_product_60 : decode cX10_product 60 = .ok (.iload_n 1, 1) := by decide +kernel
theorem dX10_product_61 : decode cX10_product 61 = .ok (.invokevirtual 191, 3) := by decide +kernel
theorem dX10_product_64 : decode cX10_product 64 = .ok (.aload_n 0, 1) := by decide +kernel
theorem dX10_product_65 : decode cX10_product 65 = .ok (.bipush 42, 2) := by decide +kernel
theorem dX10_product_67 : decode cX10_product 67 = .ok (.invokevirtual 188, 3) := by decide +kernel
theorem dX10_product_70 : decode cX10_product 70 = .ok (.ifCond .eq 9, 3) := by decide +kernel
theorem dX10_product_73 : decode cX10_product 73 = .ok (.sipush 20007, 3) := by decide +kernel
theorem dX10_product_76 : decode cX10_product 76 = .ok (.goto 34, 3) := by decide +kernel
theorem dX10_product_79 : decode cX10_product 79 = .ok (.aload_n 0, 1) := by decide +kernel
theorem dX10_product_80 : decode cX10_product 80 = .ok (.bipush 47, 2) := by decide +kernel
theorem dX10_product_82 : decode cX10_product 82 = .ok (.invokevirtual 188, 3) := by decide +kernel
theorem dX10_product_85 : decode cX10_product 85 = .ok (.ifCond .eq 9, 3) := by decide +kernel
theorem dX10_product_88 : decode cX10_product 88 = .ok (.sipush 20008, 3) := by decide +kernel
theorem dX10_product_91 : decode cX10_product 91 = .ok (.goto 19, 3) := by decide +kernel
theorem dX10_product_94 : decode cX10_product 94 = .ok (.aload_n 0, 1) := by decide +kernel
theorem dX10_product_95 : decode cX10_product 95 = .ok (.bipush 37, 2) := by decide +kernel
theorem dX10_product_97 : decode cX10_product 97 = .ok (.invokevirtual 188, 3) := by decide +kernel
theorem dX10_product_100 : decode cX10_product 100 = .ok (.ifCond .eq 9, 3) := by decide +kernel
theorem dX10_product_103 : decode cX10_product 103 = .ok (.sipush 20009, 3) := by decide +kernel
theorem dX10_product_106 : decode cX10_product 106 = .ok (.goto 4, 3) := by decide +kernel
theorem dX10_product_109 : decode cX10_product 109 = .ok (.iconst 0, 1) := by decide +kernel
theorem dX10_product_110 : decode cX10_product 110 = .ok (.istore_n 1, 1) := by decide +kernel
theorem dX10_product_111 : decode cX10_product 111 = .ok (.goto (-60), 3) := by decide +kernel
theorem dX10_product_114 : decode cX10_product 114 = .ok (.return_, 1) := by decide +kernel
theorem dX10_nameOf_0 : decode cX10_nameOf 0 = .ok (.iconst (-1), 1) := by decide +kernel
theorem dX10_nameOf_1 : decode cX10_nameOf 1 = .ok (.istore_n 2, 1) := by decide +kernel
theorem dX10_nameOf_2 : decode cX10_nameOf 2 = .ok (.iconst 0, 1) := by decide +kernel
theorem dX10_nameOf_3 : decode cX10_nameOf 3 = .ok (.istore_n 3, 1) := by decide +kernel
theorem dX10_nameOf_4 : decode cX10_nameOf 4 = .ok (.iload_n 3, 1) := by decide +kernel
theorem dX10_nameOf_5 : decode cX10_nameOf 5 = .ok (.aload_n 0, 1) := by decide +kernel
theorem dX10_nameOf_6 : decode cX10_nameOf 6 = .ok (.getfield 28, 3) := by decide +kernel
theorem dX10_nameOf_9 : decode cX10_nameOf 9 = .ok (.aload_n 0, 1) := by decide +kernel
theorem dX10_nameOf_10 : decode cX10_nameOf 10 = .ok (.getfield 207, 3) := by decide +kernel
theorem dX10_nameOf_13 : decode cX10_nameOf 13 = .ok (.aaload, 1) := by decide +kernel
theorem dX10_nameOf_14 : decode cX10_nameOf 14 = .ok (.invokevirtual 210, 3) := by decide +kernel
theorem dX10_nameOf_17 : decode cX10_nameOf 17 = .ok (.if_icmp .ge 32, 3) := by decide +kernel
theorem dX10_nameOf_20 : decode cX10_nameOf 20 = .ok (.aload_n 0, 1) := by decide +kernel
theorem dX10_nameOf_21 : decode cX10_nameOf 21 = .ok (.getfield 28, 3) := by decide +kernel
theorem dX10_nameOf_24 : decode cX10_nameOf 24 = .ok (.aload_n 0, 1) := by decide +kernel
theorem dX10_nameOf_25 : decode cX10_nameOf 25 = .ok (.getfield 207, 3) := by decide +kernel
theorem dX10_nameOf_28 : decode cX10_nameOf 28 = .ok (.aaload, 1) := by decide +kernel
theorem dX10_nameOf_29 : decode cX10_nameOf 29 = .ok (.iload_n 3, 1) := by decide +kernel
theorem dX10_nameOf_30 : decode cX10_nameOf 30 = .ok (.invokevirtual 213, 3) := by decide +kernel
theorem dX10_nameOf_33 : decode cX10_nameOf 33 = .ok (.iload_n 1, 1) := by decide +kernel
theorem dX10_nameOf_34 : decode cX10_nameOf 34 = .ok (.if_icmp .ne 7, 3) := by decide +kernel
theorem dX10_nameOf_37 : decode cX10_nameOf 37 = .ok (.iload_n 3, 1) := by decide +kernel
theorem dX10_nameOf_38 : decode cX10_nameOf 38 = .ok (.goto 4, 3) := by decide +kernel
theorem dX10_nameOf_41 : decode cX10_nameOf 41 = .ok (.iload_n 2, 1) := by decide +kernel
theorem dX10_nameOf_42 : decode cX10_nameOf 42 = .ok (.istore_n 2, 1) := by decide +kernel
theorem dX10_nameOf_43 : decode cX10_nameOf 43 = .ok (.iinc 3 1, 3) := by decide +kernel
theorem dX10_nameOf_46 : decode cX10_nameOf 46 = .ok (.goto (-42), 3) := by decide +kernel
theorem dX10_nameOf_49 : decode cX10_nameOf 49 = .ok (.iload_n 2, 1) := by decide +kernel
theorem dX10_nameOf_50 : decode cX10_nameOf 50 = .ok (.ireturn, 1) := by decide +kernel
theorem dX10_one_0 : decode cX10_one 0 = .ok (.aload_n 0, 1) := by decide +kernel
theorem dX10_one_1 : decode cX10_one 1 = .ok (.invokevirtual 178, 3) := by decide +kernel
theorem dX10_one_4 : decode cX10_one 4 = .ok (.istore_n 1, 1) := by decide +kernel
theorem dX10_one_5 : decode cX10_one 5 = .ok (.iload_n 1, 1) := by decide +kernel
theorem dX10_one_6 : decode cX10_one 6 = .ok (.bipush 33, 2) := by decide +kernel
theorem dX10_one_8 : decode cX10_one 8 = .ok (.if_icmp .eq 9, 3) := by decide +kernel
theorem dX10_one_11 : decode cX10_one 11 = .ok (.iload_n 1, 1) := by decide +kernel
theorem dX10_one_12 : decode cX10_one 12 = .ok (.bipush 40, 2) := by decide +kernel
theorem dX10_one_14 : decode cX10_one 14 = .ok (.if_icmp .ne 102, 3) := by decide +kernel
theorem dX10_one_17 : decode cX10_one 17 = .ok (.aload_n 0, 1) := by decide +kernel
theorem dX10_one_18 : decode cX10_one 18 = .ok (.aload_n 0, 1) := by decide +kernel
theorem dX10_one_19 : decode cX10_one 19 = .ok (.getfield 217, 3) := by decide +kernel
theorem dX10_one_22 : decode cX10_one 22 = .ok (.iconst 5, 1) := by decide +kernel
theorem dX10_one_23 : decode cX10_one 23 = .ok (.if_icmp .ne 7, 3) := by decide +kernel
theorem dX10_one_26 : decode cX10_one 26 = .ok (.iconst 1, 1) := by decide +kernel
theorem dX10_one_27 : decode cX10_one 27 = .ok (.goto 4, 3) := by decide +kernel
theorem dX10_one_30 : decode cX10_one 30 = .ok (.iconst 0, 1) := by decide +kernel
theorem dX10_one_31 : decode cX10_one 31 = .ok (.putfield 170, 3) := by decide +kernel
theorem dX10_one_34 : decode cX10_one 34 = .ok (.aload_n 0, 1) := by decide +kernel
theorem dX10_one_35 : decode cX10_one 35 = .ok (.getfield 170, 3) := by decide +kernel
theorem dX10_one_38 : decode cX10_one 38 = .ok (.ifCond .ne 209, 3) := by decide +kernel
theorem dX10_one_41 : decode cX10_one 41 = .ok (.aload_n 0, 1) := by decide +kernel
theorem dX10_one_42 : decode cX10_one 42 = .ok (.dup, 1) := by decide +kernel
theorem dX10_one_43 : decode cX10_one 43 = .ok (.getfield 217, 3) := by decide +kernel
theorem dX10_one_46 : decode cX10_one 46 = .ok (.iconst 1, 1) := by decide +kernel
theorem dX10_one_47 : decode cX10_one 47 = .ok (.iadd, 1) := by decide +kernel
theorem dX10_one_48 : decode cX10_one 48 = .ok (.putfield 217, 3) := by decide +kernel
theorem dX10_one_51 : decode cX10_one 51 = .ok (.aload_n 0, 1) := by decide +kernel
theorem dX10_one_52 : decode cX10_one 52 = .ok (.dup, 1) := by decide +kernel
theorem dX10_one_53 : decode cX10_one 53 = .ok (.getfield 174, 3) := by decide +kernel
theorem dX10_one_56 : decode cX10_one 56 = .ok (.iconst 1, 1) := by decide +kernel
theorem dX10_one_57 : decode cX10_one 57 = .ok (.iadd, 1) := by decide +kernel
theorem dX10_one_58 : decode cX10_one 58 = .ok (.putfield 174, 3) := by decide +kernel
theorem dX10_one_61 : decode cX10_one 61 = .ok (.iload_n 1, 1) := by decide +kernel
theorem dX10_one_62 : decode cX10_one 62 = .ok (.bipush 33, 2) := by decide +kernel
theorem dX10_one_64 : decode cX10_one 64 = .ok (.if_icmp .ne 17, 3) := by decide +kernel
theorem dX10_one_67 : decode cX10_one 67 = .ok (.aload_n 0, 1) := by decide +kernel
theorem dX10_one_68 : decode cX10_one 68 = .ok (.invokevirtual 204, 3) := by decide +kernel
theorem dX10_one_71 : decode cX10_one 71 = .ok (.aload_n 0, 1) := by decide +kernel
theorem dX10_one_72 : decode cX10_one 72 = .ok (.sipush 20010, 3) := by decide +kernel
theorem dX10_one_75 : decode cX10_one 75 = .ok (.invokevirtual 191, 3) := by decide +kernel
theorem dX10_one_78 : decode cX10_one 78 = .ok (.goto 25, 3) := by decide +kernel
theorem dX10_one_81 : decode cX10_one 81 = .ok (.aload_n 0, 1) := by decide +kernel
theorem dX10_one_82 : decode cX10_one 82 = .ok (.invokevirtual 220, 3) := by decide +kernel
theorem dX10_one_85 : decode cX10_one 85 = .ok (.aload_n 0, 1) := by decide +kernel
theorem dX10_one_86 : decode cX10_one 86 = .ok (.aload_n 0, 1) := by decide +kernel
theorem dX10_one_87 : decode cX10_one 87 = .ok (.bipush 41, 2) := by decide +kernel
theorem dX10_one_89 : decode cX10_one 89 = .ok (.invokevirtual 188, 3) := by decide +kernel
theorem dX10_one_92 : decode cX10_one 92 = .ok (.ifCond .ne 7, 3) := by decide +kernel
theorem dX10_one_95 : decode cX10_one 95 = .ok (.iconst 1, 1) := by decide +kernel
theorem dX10_one_96 : decode cX10_one 96 = .ok (.goto 4, 3) := by decide +kernel
theorem dX10_one_99 : decode cX10_one 99 = .ok (.iconst 0, 1) := by decide +kernel
theorem dX10_one_100 : decode cX10_one 100 = .ok (.putfield 170, 3) := by decide +kernel
theorem dX10_one_103 : decode cX10_one 103 = .ok (.aload_n 0, 1) := by decide +kernel
theorem dX10_one_104 : decode cX10_one 104 = .ok (.dup, 1) := by decide +kernel
theorem dX10_one_105 : decode cX10_one 105 = .ok (.getfield 217, 3) := by decide +kernel
theorem dX10_one_108 : decode cX10_one 108 = .ok (.iconst 1, 1) := by decide +kernel
theorem dX10_one_109 : decode cX10_one 109 = .ok (.isub, 1) := by decide +kernel
theorem dX10_one_110 : decode cX10_one 110 = .ok (.putfield 217, 3) := by decide +kernel
theorem dX10_one_113 : decode cX10_one 113 = .ok (.goto 134, 3) := by decide +kernel
theorem dX10_one_116 : decode cX10_one 116 = .ok (.iload_n 1, 1) := by decide +kernel
theorem dX10_one_117 : decode cX10_one 117 = .ok (.bipush 48, 2) := by decide +kernel
theorem dX10_one_119 : decode cX10_one 119 = .ok (.bipush 57, 2) := by decide +kernel
theorem dX10_one_121 : decode cX10_one 121 = .ok (.invokestatic 72, 3) := by decide +kernel
theorem dX10_one_124 : decode cX10_one 124 = .ok (.ifCond .eq 63, 3) := by decide +kernel
theorem dX10_one_127 : decode cX10_one 127 = .ok (.iconst 0, 1) := by decide +kernel
theorem dX10_one_128 : decode cX10_one 128 = .ok (.istore_n 2, 1) := by decide +kernel
theorem dX10_one_129 : decode cX10_one 129 = .ok (.iconst 0, 1) := by decide +kernel
theorem dX10_one_130 : decode cX10_one 130 = .ok (.istore_n 3, 1) := by decide +kernel
theorem dX10_one_131 : decode cX10_one 131 = .ok (.iload_n 3, 1) := by decide +kernel
theorem dX10_one_132 : decode cX10_one 132 = .ok (.iconst 4, 1) := by decide +kernel
theorem dX10_one_133 : decode cX10_one 133 = .ok (.if_icmp .ge 46, 3) := by decide +kernel
theorem dX10_one_136 : decode cX10_one 136 = .ok (.aload_n 0, 1) := by decide +kernel
theorem dX10_one_137 : decode cX10_one 137 = .ok (.invokevirtual 178, 3) := by decide +kernel
theorem dX10_one_140 : decode cX10_one 140 = .ok (.bipush 48, 2) := by decide +kernel
theorem dX10_one_142 : decode cX10_one 142 = .ok (.bipush 57, 2) := by decide +kernel
theorem dX10_one_144 : decode cX10_one 144 = .ok (.invokestatic 72, 3) := by decide +kernel
theorem dX10_one_147 : decode cX10_one 147 = .ok (.ifCond .eq 32, 3) := by decide +kernel
theorem dX10_one_150 : decode cX10_one 150 = .ok (.bipush 10, 2) := by decide +kernel
theorem dX10_one_152 : decode cX10_one 152 = .ok (.iload_n 2, 1) := by decide +kernel
theorem dX10_one_153 : decode cX10_one 153 = .ok (.imul, 1) := by decide +kernel
theorem dX10_one_154 : decode cX10_one 154 = .ok (.aload_n 0, 1) := by decide +kernel
theorem dX10_one_155 : decode cX10_one 155 = .ok (.invokevirtual 178, 3) := by decide +kernel
theorem dX10_one_158 : decode cX10_one 158 = .ok (.iadd, 1) := by decide +kernel
theorem dX10_one_159 : decode cX10_one 159 = .ok (.bipush 48, 2) := by decide +kernel
theorem dX10_one_161 : decode cX10_one 161 = .ok (.isub, 1) := by decide +kernel
theorem dX10_one_162 : decode cX10_one 162 = .ok (.istore_n 2, 1) := by decide +kernel
theorem dX10_one_163 : decode cX10_one 163 = .ok (.aload_n 0, 1) := by decide +kernel
theorem dX10_one_164 : decode cX10_one 164 = .ok (.dup, 1) := by decide +kernel
theorem dX10_one_165 : decode cX10_one 165 = .ok (.getfield 174, 3) := by decide +kernel
theorem dX10_one_168 : decode cX10_one 168 = .ok (.iconst 1, 1) := by decide +kernel
theorem dX10_one_169 : decode cX10_one 169 = .ok (.iadd, 1) := by decide +kernel
theorem dX10_one_170 : decode cX10_one 170 = .ok (.putfield 174, 3) := by decide +kernel
theorem dX10_one_173 : decode cX10_one 173 = .ok (.iinc 3 1, 3) := by decide +kernel
theorem dX10_one_176 : decode cX10_one 176 = .ok (.goto (-45), 3) := by decide +kernel
theorem dX10_one_179 : decode cX10_one 179 = .ok (.aload_n 0, 1) := by decide +kernel
theorem dX10_one_180 : decode cX10_one 180 = .ok (.iload_n 2, 1) := by decide +kernel
theorem dX10_one_181 : decode cX10_one 181 = .ok (.invokevirtual 191, 3) := by decide +kernel
theorem dX10_one_184 : decode cX10_one 184 = .ok (.goto 63, 3) := by decide +kernel
theorem dX10_one_187 : decode cX10_one 187 = .ok (.iload_n 1, 1) := by decide +kernel
theorem dX10_one_188 : decode cX10_one 188 = .ok (.ifCond .ge 7, 3) := by decide +kernel
theorem dX10_one_191 : decode cX10_one 191 = .ok (.iconst (-1), 1) := by decide +kernel
theorem dX10_one_192 : decode cX10_one 192 = .ok (.goto 8, 3) := by decide +kernel
theorem dX10_one_195 : decode cX10_one 195 = .ok (.aload_n 0, 1) := by decide +kernel
theorem dX10_one_196 : decode cX10_one 196 = .ok (.iload_n 1, 1) := by decide +kernel
theorem dX10_one_197 : decode cX10_one 197 = .ok (.invokevirtual 223, 3) := by decide +kernel
theorem dX10_one_200 : decode cX10_one 200 = .ok (.istore_n 2, 1) := by decide +kernel
theorem dX10_one_201 : decode cX10_one 201 = .ok (.aload_n 0, 1) := by decide +kernel
theorem dX10_one_202 : decode cX10_one 202 = .ok (.aload_n 0, 1) := by decide +kernel
theorem dX10_one_203 : decode cX10_one 203 = .ok (.getfield 170, 3) := by decide +kernel
theorem dX10_one_206 : decode cX10_one 206 = .ok (.ifCond .ne 7, 3) := by decide +kernel
theorem dX10_one_209 : decode cX10_one 209 = .ok (.iload_n 2, 1) := by decide +kernel
theorem dX10_one_210 : decode cX10_one 210 = .ok (.ifCond .ge 7, 3) := by decide +kernel
theorem dX10_one_213 : decode cX10_one 213 = .ok (.iconst 1, 1) := by decide +kernel
theorem dX10_one_214 : decode cX10_one 214 = .ok (.goto 4, 3) := by decide +kernel
theorem dX10_one_217 : decode cX10_one 217 = .ok (.iconst 0, 1) := by decide +kernel
theorem dX10_one_218 : decode cX10_one 218 = .ok (.putfield 170, 3) := by decide +kernel
theorem dX10_one_221 : decode cX10_one 221 = .ok (.aload_n 0, 1) := by decide +kernel
theorem dX10_one_222 : decode cX10_one 222 = .ok (.getfield 170, 3) := by decide +kernel
theorem dX10_one_225 : decode cX10_one 225 = .ok (.ifCond .ne 22, 3) := by decide +kernel
theorem dX10_one_228 : decode cX10_one 228 = .ok (.aload_n 0, 1) := by decide +kernel
theorem dX10_one_229 : decode cX10_one 229 = .ok (.sipush 10000, 3) := by decide +kernel
theorem dX10_one_232 : decode cX10_one 232 = .ok (.iload_n 2, 1) := by decide +kernel
theorem dX10_one_233 : decode cX10_one 233 = .ok (.iadd, 1) := by decide +kernel
theorem dX10_one_234 : decode cX10_one 234 = .ok (.invokevirtual 191, 3) := by decide +kernel
theorem dX10_one_237 : decode cX10_one 237 = .ok (.aload_n 0, 1) := by decide +kernel
theorem dX10_one_238 : decode cX10_one 238 = .ok (.dup, 1) := by decide +kernel
theorem dX10_one_239 : decode cX10_one 239 = .ok (.getfield 174, 3) := by decide +kernel
theorem dX10_one_242 : decode cX10_one 242 = .ok (.iconst 1, 1) := by decide +kernel
theorem dX10_one_243 : decode cX10_one 243 = .ok (.iadd, 1) := by decide +kernel
theorem dX10_one_244 : decode cX10_one 244 = .ok (.putfield 174, 3) := by decide +kernel
theorem dX10_one_247 : decode cX10_one 247 = .ok (.return_, 1) := by decide +kernel
theorem dX10_text_0 : decode cX10_text 0 = .ok (.iload_n 1, 1) := by decide +kernel
theorem dX10_text_1 : decode cX10_text 1 = .ok (.iconst 0, 1) := by decide +kernel
theorem dX10_text_2 : decode cX10_text 2 = .ok (.iconst 1, 1) := by decide +kernel
theorem dX10_text_3 : decode cX10_text 3 = .ok (.invokestatic 72, 3) := by decide +kernel
theorem dX10_text_6 : decode cX10_text 6 = .ok (.ifCond .ne 10, 3) := by decide +kernel
theorem dX10_text_9 : decode cX10_text 9 = .ok (.aload_n 0, 1) := by decide +kernel
theorem dX10_text_10 : decode cX10_text 10 = .ok (.ldc 80, 2) := by decide +kernel
theorem dX10_text_12 : decode cX10_text 12 = .ok (.invokevirtual 81, 3) := by decide +kernel
theorem dX10_text_15 : decode cX10_text 15 = .ok (.ireturn, 1) := by decide +kernel
theorem dX10_text_16 : decode cX10_text 16 = .ok (.aload_n 0, 1) := by decide +kernel
theorem dX10_text_17 : decode cX10_text 17 = .ok (.iload_n 1, 1) := by decide +kernel
theorem dX10_text_18 : decode cX10_text 18 = .ok (.putfield 207, 3) := by decide +kernel
theorem dX10_text_21 : decode cX10_text 21 = .ok (.aload_n 0, 1) := by decide +kernel
theorem dX10_text_22 : decode cX10_text 22 = .ok (.iconst 0, 1) := by decide +kernel
theorem dX10_text_23 : decode cX10_text 23 = .ok (.putfield 174, 3) := by decide +kernel
theorem dX10_text_26 : decode cX10_text 26 = .ok (.aload_n 0, 1) := by decide +kernel
theorem dX10_text_27 : decode cX10_text 27 = .ok (.iconst 0, 1) := by decide +kernel
theorem dX10_text_28 : decode cX10_text 28 = .ok (.putfield 217, 3) := by decide +kernel
theorem dX10_text_31 : decode cX10_text 31 = .ok (.aload_n 0, 1) := by decide +kernel
theorem dX10_text_32 : decode cX10_text 32 = .ok (.iconst 0, 1) := by decide +kernel
theorem dX10_text_33 : decode cX10_text 33 = .ok (.putfield 170, 3) := by decide +kernel
theorem dX10_text_36 : decode cX10_text 36 = .ok (.aload_n 0, 1) := by decide +kernel
theorem dX10_text_37 : decode cX10_text 37 = .ok (.iconst 0, 1) := by decide +kernel
theorem dX10_text_38 : decode cX10_text 38 = .ok (.putfield 182, 3) := by decide +kernel
theorem dX10_text_41 : decode cX10_text 41 = .ok (.aload_n 0, 1) := by decide +kernel
theorem dX10_text_42 : decode cX10_text 42 = .ok (.invokevirtual 220, 3) := by decide +kernel
theorem dX10_text_45 : decode cX10_text 45 = .ok (.aload_n 0, 1) := by decide +kernel
theorem dX10_text_46 : decode cX10_text 46 = .ok (.aload_n 0, 1) := by decide +kernel
theorem dX10_text_47 : decode cX10_text 47 = .ok (.getfield 170, 3) := by decide +kernel
theorem dX10_text_50 : decode cX10_text 50 = .ok (.ifCond .ne 16, 3) := by decide +kernel
theorem dX10_text_53 : decode cX10_text 53 = .ok (.aload_n 0, 1) := by decide +kernel
theorem dX10_text_54 : decode cX10_text 54 = .ok (.getfield 174, 3) := by decide +kernel
theorem dX10_text_57 : decode cX10_text 57 = .ok (.aload_n 0, 1) := by decide +kernel
theorem dX10_text_58 : decode cX10_text 58 = .ok (.getfield 9, 3) := by decide +kernel
theorem dX10_text_61 : decode cX10_text 61 = .ok (.iconst 4, 1) := by decide +kernel
theorem dX10_text_62 : decode cX10_text 62 = .ok (.iaload, 1) := by decide +kernel
theorem dX10_text_63 : decode cX10_text 63 = .ok (.if_icmp .ge 7, 3) := by decide +kernel
theorem dX10_text_66 : decode cX10_text 66 = .ok (.iconst 1, 1) := by decide +kernel
theorem dX10_text_67 : decode cX10_text 67 = .ok (.goto 4, 3) := by decide +kernel
theorem dX10_text_70 : decode cX10_text 70 = .ok (.iconst 0, 1) := by decide +kernel
theorem dX10_text_71 : decode cX10_text 71 = .ok (.putfield 170, 3) := by decide +kernel
theorem dX10_text_74 : decode cX10_text 74 = .ok (.aload_n 0, 1) := by decide +kernel
theorem dX10_text_75 : decode cX10_text 75 = .ok (.getfield 9, 3) := by decide +kernel
theorem dX10_text_78 : decode cX10_text 78 = .ok (.iconst 4, 1) := by decide +kernel
theorem dX10_text_79 : decode cX10_text 79 = .ok (.iconst 0, 1) := by decide +kernel
theorem dX10_text_80 : decode cX10_text 80 = .ok (.iastore, 1) := by decide +kernel
theorem dX10_text_81 : decode cX10_text 81 = .ok (.aload_n 0, 1) := by decide +kernel
theorem dX10_text_82 : decode cX10_text 82 = .ok (.getfield 170, 3) := by decide +kernel
theorem dX10_text_85 : decode cX10_text 85 = .ok (.ifCond .eq 11, 3) := by decide +kernel
theorem dX10_text_88 : decode cX10_text 88 = .ok (.bipush (-10), 2) := by decide +kernel
theorem dX10_text_90 : decode cX10_text 90 = .ok (.aload_n 0, 1) := by decide +kernel
theorem dX10_text_91 : decode cX10_text 91 = .ok (.getfield 174, 3) := by decide +kernel
theorem dX10_text_94 : decode cX10_text 94 = .ok (.isub, 1) := by decide +kernel
theorem dX10_text_95 : decode cX10_text 95 = .ok (.ireturn, 1) := by decide +kernel
theorem dX10_text_96 : decode cX10_text 96 = .ok (.aload_n 0, 1) := by decide +kernel
theorem dX10_text_97 : decode cX10_text 97 = .ok (.getfield 9, 3) := by decide +kernel
theorem dX10_text_100 : decode cX10_text 100 = .ok (.sipush 321, 3) := by decide +kernel
theorem dX10_text_103 : decode cX10_text 103 = .ok (.bipush 62, 2) := by decide +kernel
theorem dX10_text_105 : decode cX10_text 105 = .ok (.aload_n 0, 1) := by decide +kernel
theorem dX10_text_106 : decode cX10_text 106 = .ok (.getfield 207, 3) := by decide +kernel
theorem dX10_text_109 : decode cX10_text 109 = .ok (.imul, 1) := by decide +kernel
theorem dX10_text_110 : decode cX10_text 110 = .ok (.iadd, 1) := by decide +kernel
theorem dX10_text_111 : decode cX10_text 111 = .ok (.aload_n 0, 1) := by decide +kernel
theorem dX10_text_112 : decode cX10_text 112 = .ok (.getfield 182, 3) := by decide +kernel
theorem dX10_text_115 : decode cX10_text 115 = .ok (.iastore, 1) := by decide +kernel
theorem dX10_text_116 : decode cX10_text 116 = .ok (.iconst 0, 1) := by decide +kernel
theorem dX10_text_117 : decode cX10_text 117 = .ok (.istore_n 2, 1) := by decide +kernel
theorem dX10_text_118 : decode cX10_text 118 = .ok (.iload_n 2, 1) := by decide +kernel
theorem dX10_text_119 : decode cX10_text 119 = .ok (.aload_n 0, 1) := by decide +kernel
theorem dX10_text_120 : decode cX10_text 120 = .ok (.getfield 182, 3) := by decide +kernel
theorem dX10_text_123 : decode cX10_text 123 = .ok (.if_icmp .ge 35, 3) := by decide +kernel
theorem dX10_text_126 : decode cX10_text 126 = .ok (.aload_n 0, 1) := by decide +kernel
theorem dX10_text_127 : decode cX10_text 127 = .ok (.getfield 9, 3) := by decide +kernel
theorem dX10_text_130 : decode cX10_text 130 = .ok (.sipush 321, 3) := by decide +kernel
theorem dX10_text_133 : decode cX10_text 133 = .ok (.bipush 62, 2) := by decide +kernel
theorem dX10_text_135 : decode cX10_text 135 = .ok (.aload_n 0, 1) := by decide +kernel
theorem dX10_text_136 : decode cX10_text 136 = .ok (.getfield 207, 3) := by decide +kernel
theorem dX10_text_139 : decode cX10_text 139 = .ok (.imul, 1) := by decide +kernel
theorem dX10_text_140 : decode cX10_text 140 = .ok (.iadd, 1) := by decide +kernel
theorem dX10_text_141 : decode cX10_text 141 = .ok (.iconst 1, 1) := by decide +kernel
theorem dX10_text_142 : decode cX10_text 142 = .ok (.iadd, 1) := by decide +kernel
theorem dX10_text_143 : decode cX10_text 143 = .ok (.iload_n 2, 1) := by decide +kernel
theorem dX10_text_144 : decode cX10_text 144 = .ok (.iadd, 1) := by decide +kernel
theorem dX10_text_145 : decode cX10_text 145 = .ok (.aload_n 0, 1) := by decide +kernel
theorem dX10_text_146 : decode cX10_text 146 = .ok (.getfield 32, 3) := by decide +kernel
theorem dX10_text_149 : decode cX10_text 149 = .ok (.iload_n 2, 1) := by decide +kernel
theorem dX10_text_150 : decode cX10_text 150 = .ok (.iaload, 1) := by decide +kernel
theorem dX10_text_151 : decode cX10_text 151 = .ok (.iastore, 1) := by decide +kernel
theorem dX10_text_152 : decode cX10_text 152 = .ok (.iinc 2 1, 3) := by decide +kernel
theorem dX10_text_155 : decode cX10_text 155 = .ok (.goto (-37), 3) := by decide +kernel
theorem dX10_text_158 : decode cX10_text 158 = .ok (.iconst 1, 1) := by decide +kernel
theorem dX10_text_159 : decode cX10_text 159 = .ok (.ireturn, 1) := by decide +kernel
theorem dX10_untell_0 : decode cX10_untell 0 = .ok (.iload_n 1, 1) := by decide +kernel
theorem dX10_untell_1 : decode cX10_untell 1 = .ok (.iconst 0, 1) := by decide +kernel
theorem dX10_untell_2 : decode cX10_untell 2 = .ok (.iconst 1, 1) := by decide +kernel
theorem dX10_untell_3 : decode cX10_untell 3 = .ok (.invokestatic 72, 3) := by decide +kernel
theorem dX10_untell_6 : decode cX10_untell 6 = .ok (.ifCond .eq 27, 3) := by decide +kernel
theorem dX10_untell_9 : decode cX10_untell 9 = .ok (.aload_n 0, 1) := by decide +kernel
theorem dX10_untell_10 : decode cX10_untell 10 = .ok (.sipush 321, 3) := by decide +kernel
theorem dX10_untell_13 : decode cX10_untell 13 = .ok (.bipush 62, 2) := by decide +kernel
theorem dX10_untell_15 : decode cX10_untell 15 = .ok (.iload_n 1, 1) := by decide +kernel
theorem dX10_untell_16 : decode cX10_untell 16 = .ok (.imul, 1) := by decide +kernel
theorem dX10_untell_17 : decode cX10_untell 17 = .ok (.iadd, 1) := by decide +kernel
theorem dX10_untell_18 : decode cX10_untell 18 = .ok (.iconst 0, 1) := by decide +kernel
theorem dX10_untell_19 : decode cX10_untell 19 = .ok (.invokevirtual 106, 3) := by decide +kernel
theorem dX10_untell_22 : decode cX10_untell 22 = .ok (.ifCond .le 7, 3) := by decide +kernel
theorem dX10_untell_25 : decode cX10_untell 25 = .ok (.iconst 1, 1) := by decide +kernel
theorem dX10_untell_26 : decode cX10_untell 26 = .ok (.goto 13, 3) := by decide +kernel
theorem dX10_untell_29 : decode cX10_untell 29 = .ok (.iconst 0, 1) := by decide +kernel
theorem dX10_untell_30 : decode cX10_untell 30 = .ok (.goto 9, 3) := by decide +kernel
theorem dX10_untell_33 : decode cX10_untell 33 = .ok (.aload_n 0, 1) := by decide +kernel
theorem dX10_untell_34 : decode cX10_untell 34 = .ok (.ldc 80, 2) := by decide +kernel
theorem dX10_untell_36 : decode cX10_untell 36 = .ok (.invokevirtual 81, 3) := by decide +kernel
theorem dX10_untell_39 : decode cX10_untell 39 = .ok (.ireturn, 1) := by decide +kernel
theorem dX10_done_0 : decode cX10_done 0 = .ok (.iload_n 0, 1) := by decide +kernel
theorem dX10_done_1 : decode cX10_done 1 = .ok (.tableswitch 136 20000 20008 #[51, 65, 79, 90, 101, 112, 116, 120, 124], 51) := by decide +kernel
theorem dX10_done_52 : decode cX10_done 52 = .ok (.iload_n 1, 1) := by decide +kernel
theorem dX10_done_53 : decode cX10_done 53 = .ok (.ifCond .ne 7, 3) := by decide +kernel
theorem dX10_done_56 : decode cX10_done 56 = .ok (.iload_n 2, 1) := by decide +kernel
theorem dX10_done_57 : decode cX10_done 57 = .ok (.ifCond .eq 7, 3) := by decide +kernel
theorem dX10_done_60 : decode cX10_done 60 = .ok (.iconst 1, 1) := by decide +kernel
theorem dX10_done_61 : decode cX10_done 61 = .ok (.goto 4, 3) := by decide +kernel
theorem dX10_done_64 : decode cX10_done 64 = .ok (.iconst 0, 1) := by decide +kernel
theorem dX10_done_65 : decode cX10_done 65 = .ok (.ireturn, 1) := by decide +kernel
theorem dX10_done_66 : decode cX10_done 66 = .ok (.iload_n 1, 1) := by decide +kernel
theorem dX10_done_67 : decode cX10_done 67 = .ok (.ifCond .eq 11, 3) := by decide +kernel
theorem dX10_done_70 : decode cX10_done 70 = .ok (.iload_n 2, 1) := by decide +kernel
theorem dX10_done_71 : decode cX10_done 71 = .ok (.ifCond .eq 7, 3) := by decide +kernel
theorem dX10_done_74 : decode cX10_done 74 = .ok (.iconst 1, 1) := by decide +kernel
theorem dX10_done_75 : decode cX10_done 75 = .ok (.goto 4, 3) := by decide +kernel
theorem dX10_done_78 : decode cX10_done 78 = .ok (.iconst 0, 1) := by decide +kernel
theorem dX10_done_79 : decode cX10_done 79 = .ok (.ireturn, 1) := by decide +kernel
theorem dX10_done_80 : decode cX10_done 80 = .ok (.iload_n 1, 1) := by decide +kernel
theorem dX10_done_81 : decode cX10_done 81 = .ok (.iload_n 2, 1) := by decide +kernel
theorem dX10_done_82 : decode cX10_done 82 = .ok (.if_icmp .ge 7, 3) := by decide +kernel
theorem dX10_done_85 : decode cX10_done 85 = .ok (.iconst 1, 1) := by decide +kernel
theorem dX10_done_86 : decode cX10_done 86 = .ok (.goto 4, 3) := by decide +kernel
theorem dX10_done_89 : decode cX10_done 89 = .ok (.iconst 0, 1) := by decide +kernel
theorem dX10_done_90 : decode cX10_done 90 = .ok (.ireturn, 1) := by decide +kernel
theorem dX10_done_91 : decode cX10_done 91 = .ok (.iload_n 1, 1) := by decide +kernel
theorem dX10_done_92 : decode cX10_done 92 = .ok (.iload_n 2, 1) := by decide +kernel
theorem dX10_done_93 : decode cX10_done 93 = .ok (.if_icmp .ne 7, 3) := by decide +kernel
theorem dX10_done_96 : decode cX10_done 96 = .ok (.iconst 1, 1) := by decide +kernel
theorem dX10_done_97 : decode cX10_done 97 = .ok (.goto 4, 3) := by decide +kernel
theorem dX10_done_100 : decode cX10_done 100 = .ok (.iconst 0, 1) := by decide +kernel
theorem dX10_done_101 : decode cX10_done 101 = .ok (.ireturn, 1) := by decide +kernel
theorem dX10_done_102 : decode cX10_done 102 = .ok (.iload_n 1, 1) := by decide +kernel
theorem dX10_done_103 : decode cX10_done 103 = .ok (.iload_n 2, 1) := by decide +kernel
theorem dX10_done_104 : decode cX10_done 104 = .ok (.if_icmp .le 7, 3) := by decide +kernel
theorem dX10_done_107 : decode cX10_done 107 = .ok (.iconst 1, 1) := by decide +kernel
theorem dX10_done_108 : decode cX10_done 108 = .ok (.goto 4, 3) := by decide +kernel
theorem dX10_done_111 : decode cX10_done 111 = .ok (.iconst 0, 1) := by decide +kernel
theorem dX10_done_112 : decode cX10_done 112 = .ok (.ireturn, 1) := by decide +kernel
theorem dX10_done_113 : decode cX10_done 113 = .ok (.iload_n 1, 1) := by decide +kernel
theorem dX10_done_114 : decode cX10_done 114 = .ok (.iload_n 2, 1) := by decide +kernel
theorem dX10_done_115 : decode cX10_done 115 = .ok (.iadd, 1) := by decide +kernel
theorem dX10_done_116 : decode cX10_done 116 = .ok (.ireturn, 1) := by decide +kernel
theorem dX10_done_117 : decode cX10_done 117 = .ok (.iload_n 1, 1) := by decide +kernel
theorem dX10_done_118 : decode cX10_done 118 = .ok (.iload_n 2, 1) := by decide +kernel
theorem dX10_done_119 : decode cX10_done 119 = .ok (.isub, 1) := by decide +kernel
theorem dX10_done_120 : decode cX10_done 120 = .ok (.ireturn, 1) := by decide +kernel
theorem dX10_done_121 : decode cX10_done 121 = .ok (.iload_n 1, 1) := by decide +kernel
theorem dX10_done_122 : decode cX10_done 122 = .ok (.iload_n 2, 1) := by decide +kernel
theorem dX10_done_123 : decode cX10_done 123 = .ok (.imul, 1) := by decide +kernel
theorem dX10_done_124 : decode cX10_done 124 = .ok (.ireturn, 1) := by decide +kernel
theorem dX10_done_125 : decode cX10_done 125 = .ok (.iload_n 2, 1) := by decide +kernel
theorem dX10_done_126 : decode cX10_done 126 = .ok (.ifCond .ne 7, 3) := by decide +kernel
theorem dX10_done_129 : decode cX10_done 129 = .ok (.iconst 0, 1) := by decide +kernel
theorem dX10_done_130 : decode cX10_done 130 = .ok (.goto 6, 3) := by decide +kernel
theorem dX10_done_133 : decode cX10_done 133 = .ok (.iload_n 1, 1) := by decide +kernel
theorem dX10_done_134 : decode cX10_done 134 = .ok (.iload_n 2, 1) := by decide +kernel
theorem dX10_done_135 : decode cX10_done 135 = .ok (.idiv, 1) := by decide +kernel
theorem dX10_done_136 : decode cX10_done 136 = .ok (.ireturn, 1) := by decide +kernel
theorem dX10_done_137 : decode cX10_done 137 = .ok (.iload_n 2, 1) := by decide +kernel
theorem dX10_done_138 : decode cX10_done 138 = .ok (.ifCond .ne 7, 3) := by decide +kernel
theorem dX10_done_141 : decode cX10_done 141 = .ok (.iconst 0, 1) := by decide +kernel
theorem dX10_done_142 : decode cX10_done 142 = .ok (.goto 6, 3) := by decide +kernel
theorem dX10_done_145 : decode cX10_done 145 = .ok (.iload_n 1, 1) := by decide +kernel
theorem dX10_done_146 : decode cX10_done 146 = .ok (.iload_n 2, 1) := by decide +kernel
theorem dX10_done_147 : decode cX10_done 147 = .ok (.irem, 1) := by decide +kernel
theorem dX10_done_148 : decode cX10_done 148 = .ok (.ireturn, 1) := by decide +kernel
theorem dX10_worked_0 : decode cX10_worked 0 = .ok (.iconst 0, 1) := by decide +kernel
theorem dX10_worked_1 : decode cX10_worked 1 = .ok (.istore_n 2, 1) := by decide +kernel
theorem dX10_worked_2 : decode cX10_worked 2 = .ok (.iload_n 1, 1) := by decide +kernel
theorem dX10_worked_3 : decode cX10_worked 3 = .ok (.istore_n 3, 1) := by decide +kernel
theorem dX10_worked_4 : decode cX10_worked 4 = .ok (.iload_n 3, 1) := by decide +kernel
theorem dX10_worked_5 : decode cX10_worked 5 = .ok (.iload_n 1, 1) := by decide +kernel
theorem dX10_worked_6 : decode cX10_worked 6 = .ok (.aload_n 0, 1) := by decide +kernel
theorem dX10_worked_7 : decode cX10_worked 7 = .ok (.getfield 9, 3) := by decide +kernel
theorem dX10_worked_10 : decode cX10_worked 10 = .ok (.iload_n 1, 1) := by decide +kernel
theorem dX10_worked_11 : decode cX10_worked 11 = .ok (.iconst 1, 1) := by decide +kernel
theorem dX10_worked_12 : decode cX10_worked 12 = .ok (.isub, 1) := by decide +kernel
theorem dX10_worked_13 : decode cX10_worked 13 = .ok (.iaload, 1) := by decide +kernel
theorem dX10_worked_14 : decode cX10_worked 14 = .ok (.iadd, 1) := by decide +kernel
theorem dX10_worked_15 : decode cX10_worked 15 = .ok (.if_icmp .ge 126, 3) := by decide +kernel
theorem dX10_worked_18 : decode cX10_worked 18 = .ok (.aload_n 0, 1) := by decide +kernel
theorem dX10_worked_19 : decode cX10_worked 19 = .ok (.getfield 9, 3) := by decide +kernel
theorem dX10_worked_22 : decode cX10_worked 22 = .ok (.iload_n 3, 1) := by decide +kernel
theorem dX10_worked_23 : decode cX10_worked 23 = .ok (.iaload, 1) := by decide +kernel
theorem dX10_worked_24 : decode cX10_worked 24 = .ok (.istore 4, 2) := by decide +kernel
theorem dX10_worked_26 : decode cX10_worked 26 = .ok (.iload 4, 2) := by decide +kernel
theorem dX10_worked_28 : decode cX10_worked 28 = .ok (.sipush 20000, 3) := by decide +kernel
theorem dX10_worked_31 : decode cX10_worked 31 = .ok (.if_icmp .ge 39, 3) := by decide +kernel
theorem dX10_worked_34 : decode cX10_worked 34 = .ok (.aload_n 0, 1) := by decide +kernel
theorem dX10_worked_35 : decode cX10_worked 35 = .ok (.getfield 38, 3) := by decide +kernel
theorem dX10_worked_38 : decode cX10_worked 38 = .ok (.iload_n 2, 1) := by decide +kernel
theorem dX10_worked_39 : decode cX10_worked 39 = .ok (.iload 4, 2) := by decide +kernel
theorem dX10_worked_41 : decode cX10_worked 41 = .ok (.sipush 10000, 3) := by decide +kernel
theorem dX10_worked_44 : decode cX10_worked 44 = .ok (.if_icmp .ge 8, 3) := by decide +kernel
theorem dX10_worked_47 : decode cX10_worked 47 = .ok (.iload 4, 2) := by decide +kernel
theorem dX10_worked_49 : decode cX10_worked 49 = .ok (.goto 14, 3) := by decide +kernel
theorem dX10_worked_52 : decode cX10_worked 52 = .ok (.aload_n 0, 1) := by decide +kernel
theorem dX10_worked_53 : decode cX10_worked 53 = .ok (.getfield 35, 3) := by decide +kernel
theorem dX10_worked_56 : decode cX10_worked 56 = .ok (.iload 4, 2) := by decide +kernel
theorem dX10_worked_58 : decode cX10_worked 58 = .ok (.sipush 10000, 3) := by decide +kernel
theorem dX10_worked_61 : decode cX10_worked 61 = .ok (.isub, 1) := by decide +kernel
theorem dX10_worked_62 : decode cX10_worked 62 = .ok (.iaload, 1) := by decide +kernel
theorem dX10_worked_63 : decode cX10_worked 63 = .ok (.iastore, 1) := by decide +kernel
theorem dX10_worked_64 : decode cX10_worked 64 = .ok (.iinc 2 1, 3) := by decide +kernel
theorem dX10_worked_67 : decode cX10_worked 67 = .ok (.goto 68, 3) := by decide +kernel
theorem dX10_worked_70 : decode cX10_worked 70 = .ok (.iload 4, 2) := by decide +kernel
theorem dX10_worked_72 : decode cX10_worked 72 = .ok (.sipush 20010, 3) := by decide +kernel
theorem dX10_worked_75 : decode cX10_worked 75 = .ok (.if_icmp .ne 30, 3) := by decide +kernel
theorem dX10_worked_78 : decode cX10_worked 78 = .ok (.aload_n 0, 1) := by decide +kernel
theorem dX10_worked_79 : decode cX10_worked 79 = .ok (.getfield 38, 3) := by decide +kernel
theorem dX10_worked_82 : decode cX10_worked 82 = .ok (.iload_n 2, 1) := by decide +kernel
theorem dX10_worked_83 : decode cX10_worked 83 = .ok (.iconst 1, 1) := by decide +kernel
theorem dX10_worked_84 : decode cX10_worked 84 = .ok (.isub, 1) := by decide +kernel
theorem dX10_worked_85 : decode cX10_worked 85 = .ok (.aload_n 0, 1) := by decide +kernel
theorem dX10_worked_86 : decode cX10_worked 86 = .ok (.getfield 38, 3) := by decide +kernel
theorem dX10_worked_89 : decode cX10_worked 89 = .ok (.iload_n 2, 1) := by decide +kernel
theorem dX10_worked_90 : decode cX10_worked 90 = .ok (.iconst 1, 1) := by decide +kernel
theorem dX10_worked_91 : decode cX10_worked 91 = .ok (.isub, 1) := by decide +kernel
theorem dX10_worked_92 : decode cX10_worked 92 = .ok (.iaload, 1) := by decide +kernel
theorem dX10_worked_93 : decode cX10_worked 93 = .ok (.ifCond .ne 7, 3) := by decide +kernel
theorem dX10_worked_96 : decode cX10_worked 96 = .ok (.iconst 1, 1) := by decide +kernel
theorem dX10_worked_97 : decode cX10_worked 97 = .ok (.goto 4, 3) := by decide +kernel
theorem dX10_worked_100 : decode cX10_worked 100 = .ok (.iconst 0, 1) := by decide +kernel
theorem dX10_worked_101 : decode cX10_worked 101 = .ok (.iastore, 1) := by decide +kernel
theorem dX10_worked_102 : decode cX10_worked 102 = .ok (.goto 33, 3) := by decide +kernel
theorem dX10_worked_105 : decode cX10_worked 105 = .ok (.iinc 2 (-1), 3) := by decide +kernel
theorem dX10_worked_108 : decode cX10_worked 108 = .ok (.aload_n 0, 1) := by decide +kernel
theorem dX10_worked_109 : decode cX10_worked 109 = .ok (.getfield 38, 3) := by decide +kernel
theorem dX10_worked_112 : decode cX10_worked 112 = .ok (.iload_n 2, 1) := by decide +kernel
theorem dX10_worked_113 : decode cX10_worked 113 = .ok (.iconst 1, 1) := by decide +kernel
theorem dX10_worked_114 : decode cX10_worked 114 = .ok (.isub, 1) := by decide +kernel
theorem dX10_worked_115 : decode cX10_worked 115 = .ok (.iload 4, 2) := by decide +kernel
theorem dX10_worked_117 : decode cX10_worked 117 = .ok (.aload_n 0, 1) := by decide +kernel
theorem dX10_worked_118 : decode cX10_worked 118 = .ok (.getfield 38, 3) := by decide +kernel
theorem dX10_worked_121 : decode cX10_worked 121 = .ok (.iload_n 2, 1) := by decide +kernel
theorem dX10_worked_122 : decode cX10_worked 122 = .ok (.iconst 1, 1) := by decide +kernel
theorem dX10_worked_123 : decode cX10_worked 123 = .ok (.isub, 1) := by decide +kernel
theorem dX10_worked_124 : decode cX10_worked 124 = .ok (.iaload, 1) := by decide +kernel
theorem dX10_worked_125 : decode cX10_worked 125 = .ok (.aload_n 0, 1) := by decide +kernel
theorem dX10_worked_126 : decode cX10_worked 126 = .ok (.getfield 38, 3) := by decide +kernel
theorem dX10_worked_129 : decode cX10_worked 129 = .ok (.iload_n 2, 1) := by decide +kernel
theorem dX10_worked_130 : decode cX10_worked 130 = .ok (.iaload, 1) := by decide +kernel
theorem dX10_worked_131 : decode cX10_worked 131 = .ok (.invokestatic 226, 3) := by decide +kernel
theorem dX10_worked_134 : decode cX10_worked 134 = .ok (.iastore, 1) := by decide +kernel
theorem dX10_worked_135 : decode cX10_worked 135 = .ok (.iinc 3 1, 3) := by decide +kernel
theorem dX10_worked_138 : decode cX10_worked 138 = .ok (.goto (-134), 3) := by decide +kernel
theorem dX10_worked_141 : decode cX10_worked 141 = .ok (.aload_n 0, 1) := by decide +kernel
theorem dX10_worked_142 : decode cX10_worked 142 = .ok (.getfield 38, 3) := by decide +kernel
theorem dX10_worked_145 : decode cX10_worked 145 = .ok (.iconst 0, 1) := by decide +kernel
theorem dX10_worked_146 : decode cX10_worked 146 = .ok (.iaload, 1) := by decide +kernel
theorem dX10_worked_147 : decode cX10_worked 147 = .ok (.ireturn, 1) := by decide +kernel
theorem dX10_hasText_0 : decode cX10_hasText 0 = .ok (.aload_n 0, 1) := by decide +kernel
theorem dX10_hasText_1 : decode cX10_hasText 1 = .ok (.getfield 9, 3) := by decide +kernel
theorem dX10_hasText_4 : decode cX10_hasText 4 = .ok (.sipush 321, 3) := by decide +kernel
theorem dX10_hasText_7 : decode cX10_hasText 7 = .ok (.bipush 62, 2) := by decide +kernel
theorem dX10_hasText_9 : decode cX10_hasText 9 = .ok (.iload_n 1, 1) := by decide +kernel
theorem dX10_hasText_10 : decode cX10_hasText 10 = .ok (.imul, 1) := by decide +kernel
theorem dX10_hasText_11 : decode cX10_hasText 11 = .ok (.iadd, 1) := by decide +kernel
theorem dX10_hasText_12 : decode cX10_hasText 12 = .ok (.iaload, 1) := by decide +kernel
theorem dX10_hasText_13 : decode cX10_hasText 13 = .ok (.ifCond .le 7, 3) := by decide +kernel
theorem dX10_hasText_16 : decode cX10_hasText 16 = .ok (.iconst 1, 1) := by decide +kernel
theorem dX10_hasText_17 : decode cX10_hasText 17 = .ok (.goto 4, 3) := by decide +kernel
theorem dX10_hasText_20 : decode cX10_hasText 20 = .ok (.iconst 0, 1) := by decide +kernel
theorem dX10_hasText_21 : decode cX10_hasText 21 = .ok (.ireturn, 1) := by decide +kernel
theorem dX10_given_0 : decode cX10_given 0 = .ok (.aload_n 0, 1) := by decide +kernel
theorem dX10_given_1 : decode cX10_given 1 = .ok (.getfield 35, 3) := by decide +kernel
theorem dX10_given_4 : decode cX10_given 4 = .ok (.iconst 0, 1) := by decide +kernel
theorem dX10_given_5 : decode cX10_given 5 = .ok (.iload_n 2, 1) := by decide +kernel
theorem dX10_given_6 : decode cX10_given 6 = .ok (.iastore, 1) := by decide +kernel
theorem dX10_given_7 : decode cX10_given 7 = .ok (.aload_n 0, 1) := by decide +kernel
theorem dX10_given_8 : decode cX10_given 8 = .ok (.getfield 35, 3) := by decide +kernel
theorem dX10_given_11 : decode cX10_given 11 = .ok (.iconst 1, 1) := by decide +kernel
theorem dX10_given_12 : decode cX10_given 12 = .ok (.iload_n 3, 1) := by decide +kernel
theorem dX10_given_13 : decode cX10_given 13 = .ok (.iastore, 1) := by decide +kernel
theorem dX10_given_14 : decode cX10_given 14 = .ok (.aload_n 0, 1) := by decide +kernel
theorem dX10_given_15 : decode cX10_given 15 = .ok (.getfield 35, 3) := by decide +kernel
theorem dX10_given_18 : decode cX10_given 18 = .ok (.iconst 2, 1) := by decide +kernel
theorem dX10_given_19 : decode cX10_given 19 = .ok (.iload 4, 2) := by decide +kernel
theorem dX10_given_21 : decode cX10_given 21 = .ok (.iastore, 1) := by decide +kernel
theorem dX10_given_22 : decode cX10_given 22 = .ok (.aload_n 0, 1) := by decide +kernel
theorem dX10_given_23 : decode cX10_given 23 = .ok (.getfield 35, 3) := by decide +kernel
theorem dX10_given_26 : decode cX10_given 26 = .ok (.iconst 3, 1) := by decide +kernel
theorem dX10_given_27 : decode cX10_given 27 = .ok (.iload 5, 2) := by decide +kernel
theorem dX10_given_29 : decode cX10_given 29 = .ok (.iastore, 1) := by decide +kernel
theorem dX10_given_30 : decode cX10_given 30 = .ok (.aload_n 0, 1) := by decide +kernel
theorem dX10_given_31 : decode cX10_given 31 = .ok (.getfield 35, 3) := by decide +kernel
theorem dX10_given_34 : decode cX10_given 34 = .ok (.iconst 4, 1) := by decide +kernel
theorem dX10_given_35 : decode cX10_given 35 = .ok (.iload 6, 2) := by decide +kernel
theorem dX10_given_37 : decode cX10_given 37 = .ok (.iastore, 1) := by decide +kernel
theorem dX10_given_38 : decode cX10_given 38 = .ok (.aload_n 0, 1) := by decide +kernel
theorem dX10_given_39 : decode cX10_given 39 = .ok (.sipush 321, 3) := by decide +kernel
theorem dX10_given_42 : decode cX10_given 42 = .ok (.bipush 62, 2) := by decide +kernel
theorem dX10_given_44 : decode cX10_given 44 = .ok (.iload_n 1, 1) := by decide +kernel
theorem dX10_given_45 : decode cX10_given 45 = .ok (.imul, 1) := by decide +kernel
theorem dX10_given_46 : decode cX10_given 46 = .ok (.iadd, 1) := by decide +kernel
theorem dX10_given_47 : decode cX10_given 47 = .ok (.iconst 1, 1) := by decide +kernel
theorem dX10_given_48 : decode cX10_given 48 = .ok (.iadd, 1) := by decide +kernel
theorem dX10_given_49 : decode cX10_given 49 = .ok (.invokevirtual 229, 3) := by decide +kernel
theorem dX10_given_52 : decode cX10_given 52 = .ok (.ireturn, 1) := by decide +kernel
theorem dX10_bestHeap_0 : decode cX10_bestHeap 0 = .ok (.iconst (-1), 1) := by decide +kernel
theorem dX10_bestHeap_1 : decode cX10_bestHeap 1 = .ok (.istore_n 2, 1) := by decide +kernel
theorem dX10_bestHeap_2 : decode cX10_bestHeap 2 = .ok (.iconst (-1), 1) := by decide +kernel
theorem dX10_bestHeap_3 : decode cX10_bestHeap 3 = .ok (.istore_n 3, 1) := by decide +kernel
theorem dX10_bestHeap_4 : decode cX10_bestHeap 4 = .ok (.iconst 0, 1) := by decide +kernel
theorem dX10_bestHeap_5 : decode cX10_bestHeap 5 = .ok (.istore 4, 2) := by decide +kernel
theorem dX10_bestHeap_7 : decode cX10_bestHeap 7 = .ok (.iload 4, 2) := by decide +kernel
theorem dX10_bestHeap_9 : decode cX10_bestHeap 9 = .ok (.aload_n 0, 1) := by decide +kernel
theorem dX10_bestHeap_10 : decode cX10_bestHeap 10 = .ok (.getfield 9, 3) := by decide +kernel
theorem dX10_bestHeap_13 : decode cX10_bestHeap 13 = .ok (.iconst 1, 1) := by decide +kernel
theorem dX10_bestHeap_14 : decode cX10_bestHeap 14 = .ok (.iaload, 1) := by decide +kernel
theorem dX10_bestHeap_15 : decode cX10_bestHeap 15 = .ok (.if_icmp .ge 30, 3) := by decide +kernel
theorem dX10_bestHeap_18 : decode cX10_bestHeap 18 = .ok (.aload_n 0, 1) := by decide +kernel
theorem dX10_bestHeap_19 : decode cX10_bestHeap 19 = .ok (.iload_n 1, 1) := by decide +kernel
theorem dX10_bestHeap_20 : decode cX10_bestHeap 20 = .ok (.iload 4, 2) := by decide +kernel
theorem dX10_bestHeap_22 : decode cX10_bestHeap 22 = .ok (.invokevirtual 165, 3) := by decide +kernel
theorem dX10_bestHeap_25 : decode cX10_bestHeap 25 = .ok (.istore 5, 2) := by decide +kernel
theorem dX10_bestHeap_27 : decode cX10_bestHeap 27 = .ok (.iload 5, 2) := by decide +kernel
theorem dX10_bestHeap_29 : decode cX10_bestHeap 29 = .ok (.iload_n 3, 1) := by decide +kernel
theorem dX10_bestHeap_30 : decode cX10_bestHeap 30 = .ok (.if_icmp .le 9, 3) := by decide +kernel
theorem dX10_bestHeap_33 : decode cX10_bestHeap 33 = .ok (.iload 5, 2) := by decide +kernel
theorem dX10_bestHeap_35 : decode cX10_bestHeap 35 = .ok (.istore_n 3, 1) := by decide +kernel
theorem dX10_bestHeap_36 : decode cX10_bestHeap 36 = .ok (.iload 4, 2) := by decide +kernel
theorem dX10_bestHeap_38 : decode cX10_bestHeap 38 = .ok (.istore_n 2, 1) := by decide +kernel
theorem dX10_bestHeap_39 : decode cX10_bestHeap 39 = .ok (.iinc 4 1, 3) := by decide +kernel
theorem dX10_bestHeap_42 : decode cX10_bestHeap 42 = .ok (.goto (-35), 3) := by decide +kernel
theorem dX10_bestHeap_45 : decode cX10_bestHeap 45 = .ok (.iload_n 2, 1) := by decide +kernel
theorem dX10_bestHeap_46 : decode cX10_bestHeap 46 = .ok (.ireturn, 1) := by decide +kernel
theorem dX10_drawn_0 : decode cX10_drawn 0 = .ok (.aload_n 0, 1) := by decide +kernel
theorem dX10_drawn_1 : decode cX10_drawn 1 = .ok (.getfield 9, 3) := by decide +kernel
theorem dX10_drawn_4 : decode cX10_drawn 4 = .ok (.bipush 6, 2) := by decide +kernel
theorem dX10_drawn_6 : decode cX10_drawn 6 = .ok (.aload_n 0, 1) := by decide +kernel
theorem dX10_drawn_7 : decode cX10_drawn 7 = .ok (.getfield 9, 3) := by decide +kernel
theorem dX10_drawn_10 : decode cX10_drawn 10 = .ok (.bipush 6, 2) := by decide +kernel
theorem dX10_drawn_12 : decode cX10_drawn 12 = .ok (.iaload, 1) := by decide +kernel
theorem dX10_drawn_13 : decode cX10_drawn 13 = .ok (.ldc 232, 2) := by decide +kernel
theorem dX10_drawn_15 : decode cX10_drawn 15 = .ok (.imul, 1) := by decide +kernel
theorem dX10_drawn_16 : decode cX10_drawn 16 = .ok (.sipush 12345, 3) := by decide +kernel
theorem dX10_drawn_19 : decode cX10_drawn 19 = .ok (.iadd, 1) := by decide +kernel
theorem dX10_drawn_20 : decode cX10_drawn 20 = .ok (.iastore, 1) := by decide +kernel
theorem dX10_drawn_21 : decode cX10_drawn 21 = .ok (.aload_n 0, 1) := by decide +kernel
theorem dX10_drawn_22 : decode cX10_drawn 22 = .ok (.getfield 9, 3) := by decide +kernel
theorem dX10_drawn_25 : decode cX10_drawn 25 = .ok (.bipush 6, 2) := by decide +kernel
theorem dX10_drawn_27 : decode cX10_drawn 27 = .ok (.iaload, 1) := by decide +kernel
theorem dX10_drawn_28 : decode cX10_drawn 28 = .ok (.bipush 8, 2) := by decide +kernel
theorem dX10_drawn_30 : decode cX10_drawn 30 = .ok (.iushr, 1) := by decide +kernel
theorem dX10_drawn_31 : decode cX10_drawn 31 = .ok (.iload_n 1, 1) := by decide +kernel
theorem dX10_drawn_32 : decode cX10_drawn 32 = .ok (.irem, 1) := by decide +kernel
theorem dX10_drawn_33 : decode cX10_drawn 33 = .ok (.ireturn, 1) := by decide +kernel
theorem dX10_isLetIn_0 : decode cX10_isLetIn 0 = .ok (.aload_n 0, 1) := by decide +kernel
theorem dX10_isLetIn_1 : decode cX10_isLetIn 1 = .ok (.iload_n 1, 1) := by decide +kernel
theorem dX10_isLetIn_2 : decode cX10_isLetIn 2 = .ok (.invokevirtual 233, 3) := by decide +kernel
theorem dX10_isLetIn_5 : decode cX10_isLetIn 5 = .ok (.istore_n 2, 1) := by decide +kernel
theorem dX10_isLetIn_6 : decode cX10_isLetIn 6 = .ok (.iload_n 2, 1) := by decide +kernel
theorem dX10_isLetIn_7 : decode cX10_isLetIn 7 = .ok (.ifCond .ge 5, 3) := by decide +kernel
theorem dX10_isLetIn_10 : decode cX10_isLetIn 10 = .ok (.iconst 0, 1) := by decide +kernel
theorem dX10_isLetIn_11 : decode cX10_isLetIn 11 = .ok (.ireturn, 1) := by decide +kernel
theorem dX10_isLetIn_12 : decode cX10_isLetIn 12 = .ok (.sipush 187, 3) := by decide +kernel
theorem dX10_isLetIn_15 : decode cX10_isLetIn 15 = .ok (.iconst 5, 1) := by decide +kernel
theorem dX10_isLetIn_16 : decode cX10_isLetIn 16 = .ok (.iload_n 1, 1) := by decide +kernel
theorem dX10_isLetIn_17 : decode cX10_isLetIn 17 = .ok (.imul, 1) := by decide +kernel
theorem dX10_isLetIn_18 : decode cX10_isLetIn 18 = .ok (.iadd, 1) := by decide +kernel
theorem dX10_isLetIn_19 : decode cX10_isLetIn 19 = .ok (.iload_n 2, 1) := by decide +kernel
theorem dX10_isLetIn_20 : decode cX10_isLetIn 20 = .ok (.iadd, 1) := by decide +kernel
theorem dX10_isLetIn_21 : decode cX10_isLetIn 21 = .ok (.istore_n 3, 1) := by decide +kernel
theorem dX10_isLetIn_22 : decode cX10_isLetIn 22 = .ok (.aload_n 0, 1) := by decide +kernel
theorem dX10_isLetIn_23 : decode cX10_isLetIn 23 = .ok (.getfield 9, 3) := by decide +kernel
theorem dX10_isLetIn_26 : decode cX10_isLetIn 26 = .ok (.iload_n 3, 1) := by decide +kernel
theorem dX10_isLetIn_27 : decode cX10_isLetIn 27 = .ok (.bipush 99, 2) := by decide +kernel
theorem dX10_isLetIn_29 : decode cX10_isLetIn 29 = .ok (.aload_n 0, 1) := by decide +kernel
theorem dX10_isLetIn_30 : decode cX10_isLetIn 30 = .ok (.getfield 9, 3) := by decide +kernel
theorem dX10_isLetIn_33 : decode cX10_isLetIn 33 = .ok (.iload_n 3, 1) := by decide +kernel
theorem dX10_isLetIn_34 : decode cX10_isLetIn 34 = .ok (.iaload, 1) := by decide +kernel
theorem dX10_isLetIn_35 : decode cX10_isLetIn 35 = .ok (.iconst 1, 1) := by decide +kernel
theorem dX10_isLetIn_36 : decode cX10_isLetIn 36 = .ok (.iadd, 1) := by decide +kernel
theorem dX10_isLetIn_37 : decode cX10_isLetIn 37 = .ok (.invokestatic 63, 3) := by decide +kernel
theorem dX10_isLetIn_40 : decode cX10_isLetIn 40 = .ok (.iastore, 1) := by decide +kernel
theorem dX10_isLetIn_41 : decode cX10_isLetIn 41 = .ok (.aload_n 0, 1) := by decide +kernel
theorem dX10_isLetIn_42 : decode cX10_isLetIn 42 = .ok (.bipush 100, 2) := by decide +kernel
theorem dX10_isLetIn_44 : decode cX10_isLetIn 44 = .ok (.invokevirtual 236, 3) := by decide +kernel
theorem dX10_isLetIn_47 : decode cX10_isLetIn 47 = .ok (.aload_n 0, 1) := by decide +kernel
theorem dX10_isLetIn_48 : decode cX10_isLetIn 48 = .ok (.iload_n 1, 1) := by decide +kernel
theorem dX10_isLetIn_49 : decode cX10_isLetIn 49 = .ok (.iload_n 2, 1) := by decide +kernel
theorem dX10_isLetIn_50 : decode cX10_isLetIn 50 = .ok (.invokevirtual 165, 3) := by decide +kernel
theorem dX10_isLetIn_53 : decode cX10_isLetIn 53 = .ok (.if_icmp .lt 5, 3) := by decide +kernel
theorem dX10_isLetIn_56 : decode cX10_isLetIn 56 = .ok (.iconst 0, 1) := by decide +kernel
theorem dX10_isLetIn_57 : decode cX10_isLetIn 57 = .ok (.ireturn, 1) := by decide +kernel
theorem dX10_isLetIn_58 : decode cX10_isLetIn 58 = .ok (.aload_n 0, 1) := by decide +kernel
theorem dX10_isLetIn_59 : decode cX10_isLetIn 59 = .ok (.iload_n 1, 1) := by decide +kernel
theorem dX10_isLetIn_60 : decode cX10_isLetIn 60 = .ok (.iload_n 2, 1) := by decide +kernel
theorem dX10_isLetIn_61 : decode cX10_isLetIn 61 = .ok (.invokevirtual 123, 3) := by decide +kernel
theorem dX10_isLetIn_64 : decode cX10_isLetIn 64 = .ok (.iconst 1, 1) := by decide +kernel
theorem dX10_isLetIn_65 : decode cX10_isLetIn 65 = .ok (.ireturn, 1) := by decide +kernel
theorem dX10_fallsApart_0 : decode cX10_fallsApart 0 = .ok (.aload_n 0, 1) := by decide +kernel
theorem dX10_fallsApart_1 : decode cX10_fallsApart 1 = .ok (.iload_n 1, 1) := by decide +kernel
theorem dX10_fallsApart_2 : decode cX10_fallsApart 2 = .ok (.invokevirtual 112, 3) := by decide +kernel
theorem dX10_fallsApart_5 : decode cX10_fallsApart 5 = .ok (.istore_n 2, 1) := by decide +kernel
theorem dX10_fallsApart_6 : decode cX10_fallsApart 6 = .ok (.iconst 0, 1) := by decide +kernel
theorem dX10_fallsApart_7 : decode cX10_fallsApart 7 = .ok (.istore_n 3, 1) := by decide +kernel
theorem dX10_fallsApart_8 : decode cX10_fallsApart 8 = .ok (.iload_n 3, 1) := by decide +kernel
theorem dX10_fallsApart_9 : decode cX10_fallsApart 9 = .ok (.aload_n 0, 1) := by decide +kernel
theorem dX10_fallsApart_10 : decode cX10_fallsApart 10 = .ok (.getfield 9, 3) := by decide +kernel
theorem dX10_fallsApart_13 : decode cX10_fallsApart 13 = .ok (.iconst 0, 1) := by decide +kernel
theorem dX10_fallsApart_14 : decode cX10_fallsApart 14 = .ok (.iaload, 1) := by decide +kernel
theorem dX10_fallsApart_15 : decode cX10_fallsApart 15 = .ok (.if_icmp .ge 23, 3) := by decide +kernel
theorem dX10_fallsApart_18 : decode cX10_fallsApart 18 = .ok (.iload_n 2, 1) := by decide +kernel
theorem dX10_fallsApart_19 : decode cX10_fallsApart 19 = .ok (.iload_n 3, 1) := by decide +kernel
theorem dX10_fallsApart_20 : decode cX10_fallsApart 20 = .ok (.invokestatic 127, 3) := by decide +kernel
theorem dX10_fallsApart_23 : decode cX10_fallsApart 23 = .ok (.ifCond .eq 9, 3) := by decide +kernel
theorem dX10_fallsApart_26 : decode cX10_fallsApart 26 = .ok (.aload_n 0, 1) := by decide +kernel
theorem dX10_fallsApart_27 : decode cX10_fallsApart 27 = .ok (.iload_n 3, 1) := by decide +kernel
theorem dX10_fallsApart_28 : decode cX10_fallsApart 28 = .ok (.iconst (-1), 1) := by decide +kernel
theorem dX10_fallsApart_29 : decode cX10_fallsApart 29 = .ok (.invokevirtual 123, 3) := by decide +kernel
theorem dX10_fallsApart_32 : decode cX10_fallsApart 32 = .ok (.iinc 3 1, 3) := by decide +kernel
theorem dX10_fallsApart_35 : decode cX10_fallsApart 35 = .ok (.goto (-27), 3) := by decide +kernel
theorem dX10_fallsApart_38 : decode cX10_fallsApart 38 = .ok (.aload_n 0, 1) := by decide +kernel
theorem dX10_fallsApart_39 : decode cX10_fallsApart 39 = .ok (.getfield 9, 3) := by decide +kernel
theorem dX10_fallsApart_42 : decode cX10_fallsApart 42 = .ok (.sipush 167, 3) := by decide +kernel
theorem dX10_fallsApart_45 : decode cX10_fallsApart 45 = .ok (.iconst 4, 1) := by decide +kernel
theorem dX10_fallsApart_46 : decode cX10_fallsApart 46 = .ok (.iload_n 1, 1) := by decide +kernel
theorem dX10_fallsApart_47 : decode cX10_fallsApart 47 = .ok (.imul, 1) := by decide +kernel
theorem dX10_fallsApart_48 : decode cX10_fallsApart 48 = .ok (.iadd, 1) := by decide +kernel
theorem dX10_fallsApart_49 : decode cX10_fallsApart 49 = .ok (.iconst 3, 1) := by decide +kernel
theorem dX10_fallsApart_50 : decode cX10_fallsApart 50 = .ok (.iadd, 1) := by decide +kernel
theorem dX10_fallsApart_51 : decode cX10_fallsApart 51 = .ok (.iconst 0, 1) := by decide +kernel
theorem dX10_fallsApart_52 : decode cX10_fallsApart 52 = .ok (.iastore, 1) := by decide +kernel
theorem dX10_fallsApart_53 : decode cX10_fallsApart 53 = .ok (.return_, 1) := by decide +kernel
theorem dX10_minute_0 : decode cX10_minute 0 = .ok (.iconst 0, 1) := by decide +kernel
theorem dX10_minute_1 : decode cX10_minute 1 = .ok (.istore_n 1, 1) := by decide +kernel
theorem dX10_minute_2 : decode cX10_minute 2 = .ok (.iload_n 1, 1) := by decide +kernel
theorem dX10_minute_3 : decode cX10_minute 3 = .ok (.aload_n 0, 1) := by decide +kernel
theorem dX10_minute_4 : decode cX10_minute 4 = .ok (.getfield 9, 3) := by decide +kernel
theorem dX10_minute_7 : decode cX10_minute 7 = .ok (.iconst 0, 1) := by decide +kernel
theorem dX10_minute_8 : decode cX10_minute 8 = .ok (.iaload, 1) := by decide +kernel
theorem dX10_minute_9 : decode cX10_minute 9 = .ok (.if_icmp .ge 53, 3) := by decide +kernel
theorem dX10_minute_12 : decode cX10_minute 12 = .ok (.aload_n 0, 1) := by decide +kernel
theorem dX10_minute_13 : decode cX10_minute 13 = .ok (.iload_n 1, 1) := by decide +kernel
theorem dX10_minute_14 : decode cX10_minute 14 = .ok (.iconst 4, 1) := by decide +kernel
theorem dX10_minute_15 : decode cX10_minute 15 = .ok (.invokevirtual 86, 3) := by decide +kernel
theorem dX10_minute_18 : decode cX10_minute 18 = .ok (.ifCond .ge 38, 3) := by decide +kernel
theorem dX10_minute_21 : decode cX10_minute 21 = .ok (.aload_n 0, 1) := by decide +kernel
theorem dX10_minute_22 : decode cX10_minute 22 = .ok (.iload_n 1, 1) := by decide +kernel
theorem dX10_minute_23 : decode cX10_minute 23 = .ok (.invokevirtual 239, 3) := by decide +kernel
theorem dX10_minute_26 : decode cX10_minute 26 = .ok (.ifCond .ne 30, 3) := by decide +kernel
theorem dX10_minute_29 : decode cX10_minute 29 = .ok (.aload_n 0, 1) := by decide +kernel
theorem dX10_minute_30 : decode cX10_minute 30 = .ok (.getfield 9, 3) := by decide +kernel
theorem dX10_minute_33 : decode cX10_minute 33 = .ok (.bipush 7, 2) := by decide +kernel
theorem dX10_minute_35 : decode cX10_minute 35 = .ok (.bipush 6, 2) := by decide +kernel
theorem dX10_minute_37 : decode cX10_minute 37 = .ok (.iload_n 1, 1) := by decide +kernel
theorem dX10_minute_38 : decode cX10_minute 38 = .ok (.imul, 1) := by decide +kernel
theorem dX10_minute_39 : decode cX10_minute 39 = .ok (.iadd, 1) := by decide +kernel
theorem dX10_minute_40 : decode cX10_minute 40 = .ok (.iconst 5, 1) := by decide +kernel
theorem dX10_minute_41 : decode cX10_minute 41 = .ok (.iadd, 1) := by decide +kernel
theorem dX10_minute_42 : decode cX10_minute 42 = .ok (.ldc 242, 2) := by decide +kernel
theorem dX10_minute_44 : decode cX10_minute 44 = .ok (.aload_n 0, 1) := by decide +kernel
theorem dX10_minute_45 : decode cX10_minute 45 = .ok (.iload_n 1, 1) := by decide +kernel
theorem dX10_minute_46 : decode cX10_minute 46 = .ok (.iconst 5, 1) := by decide +kernel
theorem dX10_minute_47 : decode cX10_minute 47 = .ok (.invokevirtual 86, 3) := by decide +kernel
theorem dX10_minute_50 : decode cX10_minute 50 = .ok (.iconst 1, 1) := by decide +kernel
theorem dX10_minute_51 : decode cX10_minute 51 = .ok (.iadd, 1) := by decide +kernel
theorem dX10_minute_52 : decode cX10_minute 52 = .ok (.invokestatic 63, 3) := by decide +kernel
theorem dX10_minute_55 : decode cX10_minute 55 = .ok (.iastore, 1) := by decide +kernel
theorem dX10_minute_56 : decode cX10_minute 56 = .ok (.iinc 1 1, 3) := by decide +kernel
theorem dX10_minute_59 : decode cX10_minute 59 = .ok (.goto (-57), 3) := by decide +kernel
theorem dX10_minute_62 : decode cX10_minute 62 = .ok (.iconst 0, 1) := by decide +kernel
theorem dX10_minute_63 : decode cX10_minute 63 = .ok (.istore_n 1, 1) := by decide +kernel
theorem dX10_minute_64 : decode cX10_minute 64 = .ok (.iload_n 1, 1) := by decide +kernel
theorem dX10_minute_65 : decode cX10_minute 65 = .ok (.aload_n 0, 1) := by decide +kernel
theorem dX10_minute_66 : decode cX10_minute 66 = .ok (.getfield 9, 3) := by decide +kernel
theorem dX10_minute_69 : decode cX10_minute 69 = .ok (.iconst 1, 1) := by decide +kernel
theorem dX10_minute_70 : decode cX10_minute 70 = .ok (.iaload, 1) := by decide +kernel
theorem dX10_minute_71 : decode cX10_minute 71 = .ok (.if_icmp .ge 60, 3) := by decide +kernel
theorem dX10_minute_74 : decode cX10_minute 74 = .ok (.sipush 167, 3) := by decide +kernel
theorem dX10_minute_77 : decode cX10_minute 77 = .ok (.iconst 4, 1) := by decide +kernel
theorem dX10_minute_78 : decode cX10_minute 78 = .ok (.iload_n 1, 1) := by decide +kernel
theorem dX10_minute_79 : decode cX10_minute 79 = .ok (.imul, 1) := by decide +kernel
theorem dX10_minute_80 : decode cX10_minute 80 = .ok (.iadd, 1) := by decide +kernel
theorem dX10_minute_81 : decode cX10_minute 81 = .ok (.iconst 3, 1) := by decide +kernel
theorem dX10_minute_82 : decode cX10_minute 82 = .ok (.iadd, 1) := by decide +kernel
theorem dX10_minute_83 : decode cX10_minute 83 = .ok (.istore_n 2, 1) := by decide +kernel
theorem dX10_minute_84 : decode cX10_minute 84 = .ok (.aload_n 0, 1) := by decide +kernel
theorem dX10_minute_85 : decode cX10_minute 85 = .ok (.getfield 9, 3) := by decide +kernel
theorem dX10_minute_88 : decode cX10_minute 88 = .ok (.iload_n 2, 1) := by decide +kernel
theorem dX10_minute_89 : decode cX10_minute 89 = .ok (.aload_n 0, 1) := by decide +kernel
theorem dX10_minute_90 : decode cX10_minute 90 = .ok (.iload_n 1, 1) := by decide +kernel
theorem dX10_minute_91 : decode cX10_minute 91 = .ok (.invokevirtual 118, 3) := by decide +kernel
theorem dX10_minute_94 : decode cX10_minute 94 = .ok (.ifCond .eq 14, 3) := by decide +kernel
theorem dX10_minute_97 : decode cX10_minute 97 = .ok (.aload_n 0, 1) := by decide +kernel
theorem dX10_minute_98 : decode cX10_minute 98 = .ok (.getfield 9, 3) := by decide +kernel
theorem dX10_minute_101 : decode cX10_minute 101 = .ok (.iload_n 2, 1) := by decide +kernel
theorem dX10_minute_102 : decode cX10_minute 102 = .ok (.iaload, 1) := by decide +kernel
theorem dX10_minute_103 : decode cX10_minute 103 = .ok (.iconst 1, 1) := by decide +kernel
theorem dX10_minute_104 : decode cX10_minute 104 = .ok (.iadd, 1) := by decide +kernel
theorem dX10_minute_105 : decode cX10_minute 105 = .ok (.goto 4, 3) := by decide +kernel
theorem dX10_minute_108 : decode cX10_minute 108 = .ok (.iconst 0, 1) := by decide +kernel
theorem dX10_minute_109 : decode cX10_minute 109 = .ok (.iastore, 1) := by decide +kernel
theorem dX10_minute_110 : decode cX10_minute 110 = .ok (.aload_n 0, 1) := by decide +kernel
theorem dX10_minute_111 : decode cX10_minute 111 = .ok (.getfield 9, 3) := by decide +kernel
theorem dX10_minute_114 : decode cX10_minute 114 = .ok (.iload_n 2, 1) := by decide +kernel
theorem dX10_minute_115 : decode cX10_minute 115 = .ok (.iaload, 1) := by decide +kernel
theorem dX10_minute_116 : decode cX10_minute 116 = .ok (.iconst 5, 1) := by decide +kernel
theorem dX10_minute_117 : decode cX10_minute 117 = .ok (.if_icmp .ne 8, 3) := by decide +kernel
theorem dX10_minute_120 : decode cX10_minute 120 = .ok (.aload_n 0, 1) := by decide +kernel
theorem dX10_minute_121 : decode cX10_minute 121 = .ok (.iload_n 1, 1) := by decide +kernel
theorem dX10_minute_122 : decode cX10_minute 122 = .ok (.invokevirtual 243, 3) := by decide +kernel
theorem dX10_minute_125 : decode cX10_minute 125 = .ok (.iinc 1 1, 3) := by decide +kernel
theorem dX10_minute_128 : decode cX10_minute 128 = .ok (.goto (-64), 3) := by decide +kernel
theorem dX10_minute_131 : decode cX10_minute 131 = .ok (.aload_n 0, 1) := by decide +kernel
theorem dX10_minute_132 : decode cX10_minute 132 = .ok (.getfield 9, 3) := by decide +kernel
theorem dX10_minute_135 : decode cX10_minute 135 = .ok (.iconst 2, 1) := by decide +kernel
theorem dX10_minute_136 : decode cX10_minute 136 = .ok (.dup2, 1) := by decide +kernel
theorem dX10_minute_137 : decode cX10_minute 137 = .ok (.iaload, 1) := by decide +kernel
theorem dX10_minute_138 : decode cX10_minute 138 = .ok (.iconst 1, 1) := by decide +kernel
theorem dX10_minute_139 : decode cX10_minute 139 = .ok (.iadd, 1) := by decide +kernel
theorem dX10_minute_140 : decode cX10_minute 140 = .ok (.iastore, 1) := by decide +kernel
theorem dX10_minute_141 : decode cX10_minute 141 = .ok (.return_, 1) := by decide +kernel
theorem dX10_minutesGo_0 : decode cX10_minutesGo 0 = .ok (.iconst 0, 1) := by decide +kernel
theorem dX10_minutesGo_1 : decode cX10_minutesGo 1 = .ok (.istore_n 2, 1) := by decide +kernel
theorem dX10_minutesGo_2 : decode cX10_minutesGo 2 = .ok (.iload_n 2, 1) := by decide +kernel
theorem dX10_minutesGo_3 : decode cX10_minutesGo 3 = .ok (.iload_n 1, 1) := by decide +kernel
theorem dX10_minutesGo_4 : decode cX10_minutesGo 4 = .ok (.if_icmp .ge 13, 3) := by decide +kernel
theorem dX10_minutesGo_7 : decode cX10_minutesGo 7 = .ok (.aload_n 0, 1) := by decide +kernel
theorem dX10_minutesGo_8 : decode cX10_minutesGo 8 = .ok (.invokevirtual 246, 3) := by decide +kernel
theorem dX10_minutesGo_11 : decode cX10_minutesGo 11 = .ok (.iinc 2 1, 3) := by decide +kernel
theorem dX10_minutesGo_14 : decode cX10_minutesGo 14 = .ok (.goto (-12), 3) := by decide +kernel
theorem dX10_minutesGo_17 : decode cX10_minutesGo 17 = .ok (.return_, 1) := by decide +kernel
theorem dX10_sorrowNow_0 : decode cX10_sorrowNow 0 = .ok (.iconst 0, 1) := by decide +kernel
theorem dX10_sorrowNow_1 : decode cX10_sorrowNow 1 = .ok (.istore_n 1, 1) := by decide +kernel
theorem dX10_sorrowNow_2 : decode cX10_sorrowNow 2 = .ok (.iconst 0, 1) := by decide +kernel
theorem dX10_sorrowNow_3 : decode cX10_sorrowNow 3 = .ok (.istore_n 2, 1) := by decide +kernel
theorem dX10_sorrowNow_4 : decode cX10_sorrowNow 4 = .ok (.iload_n 2, 1) := by decide +kernel
theorem dX10_sorrowNow_5 : decode cX10_sorrowNow 5 = .ok (.aload_n 0, 1) := by decide +kernel
theorem dX10_sorrowNow_6 : decode cX10_sorrowNow 6 = .ok (.getfield 9, 3) := by decide +kernel
theorem dX10_sorrowNow_9 : decode cX10_sorrowNow 9 = .ok (.iconst 0, 1) := by decide +kernel
theorem dX10_sorrowNow_10 : decode cX10_sorrowNow 10 = .ok (.iaload, 1) := by decide +kernel
theorem dX10_sorrowNow_11 : decode cX10_sorrowNow 11 = .ok (.if_icmp .ge 32, 3) := by decide +kernel
theorem dX10_sorrowNow_14 : decode cX10_sorrowNow 14 = .ok (.iload_n 1, 1) := by decide +kernel
theorem dX10_sorrowNow_15 : decode cX10_sorrowNow 15 = .ok (.aload_n 0, 1) := by decide +kernel
theorem dX10_sorrowNow_16 : decode cX10_sorrowNow 16 = .ok (.iload_n 2, 1) := by decide +kernel
theorem dX10_sorrowNow_17 : decode cX10_sorrowNow 17 = .ok (.iconst 3, 1) := by decide +kernel
theorem dX10_sorrowNow_18 : decode cX10_sorrowNow 18 = .ok (.invokevirtual 86, 3) := by decide +kernel
theorem dX10_sorrowNow_21 : decode cX10_sorrowNow 21 = .ok (.iconst 1, 1) := by decide +kernel
theorem dX10_sorrowNow_22 : decode cX10_sorrowNow 22 = .ok (.if_icmp .ne 12, 3) := by decide +kernel
theorem dX10_sorrowNow_25 : decode cX10_sorrowNow 25 = .ok (.aload_n 0, 1) := by decide +kernel
theorem dX10_sorrowNow_26 : decode cX10_sorrowNow 26 = .ok (.iload_n 2, 1) := by decide +kernel
theorem dX10_sorrowNow_27 : decode cX10_sorrowNow 27 = .ok (.iconst 5, 1) := by decide +kernel
theorem dX10_sorrowNow_28 : decode cX10_sorrowNow 28 = .ok (.invokevirtual 86, 3) := by decide +kernel
theorem dX10_sorrowNow_31 : decode cX10_sorrowNow 31 = .ok (.goto 4, 3) := by decide +kernel
theorem dX10_sorrowNow_34 : decode cX10_sorrowNow 34 = .ok (.iconst 0, 1) := by decide +kernel
theorem dX10_sorrowNow_35 : decode cX10_sorrowNow 35 = .ok (.iadd, 1) := by decide +kernel
theorem dX10_sorrowNow_36 : decode cX10_sorrowNow 36 = .ok (.istore_n 1, 1) := by decide +kernel
theorem dX10_sorrowNow_37 : decode cX10_sorrowNow 37 = .ok (.iinc 2 1, 3) := by decide +kernel
theorem dX10_sorrowNow_40 : decode cX10_sorrowNow 40 = .ok (.goto (-36), 3) := by decide +kernel
theorem dX10_sorrowNow_43 : decode cX10_sorrowNow 43 = .ok (.iload_n 1, 1) := by decide +kernel
theorem dX10_sorrowNow_44 : decode cX10_sorrowNow 44 = .ok (.ireturn, 1) := by decide +kernel
theorem dX10_minutes_0 : decode cX10_minutes 0 = .ok (.iload_n 1, 1) := by decide +kernel
theorem dX10_minutes_1 : decode cX10_minutes 1 = .ok (.iconst 1, 1) := by decide +kernel
theorem dX10_minutes_2 : decode cX10_minutes 2 = .ok (.bipush 60, 2) := by decide +kernel
theorem dX10_minutes_4 : decode cX10_minutes 4 = .ok (.invokestatic 72, 3) := by decide +kernel
theorem dX10_minutes_7 : decode cX10_minutes 7 = .ok (.ifCond .ne 10, 3) := by decide +kernel
theorem dX10_minutes_10 : decode cX10_minutes 10 = .ok (.aload_n 0, 1) := by decide +kernel
theorem dX10_minutes_11 : decode cX10_minutes 11 = .ok (.ldc 80, 2) := by decide +kernel
theorem dX10_minutes_13 : decode cX10_minutes 13 = .ok (.invokevirtual 81, 3) := by decide +kernel
theorem dX10_minutes_16 : decode cX10_minutes 16 = .ok (.ireturn, 1) := by decide +kernel
theorem dX10_minutes_17 : decode cX10_minutes 17 = .ok (.aload_n 0, 1) := by decide +kernel
theorem dX10_minutes_18 : decode cX10_minutes 18 = .ok (.getfield 9, 3) := by decide +kernel
theorem dX10_minutes_21 : decode cX10_minutes 21 = .ok (.iconst 2, 1) := by decide +kernel
theorem dX10_minutes_22 : decode cX10_minutes 22 = .ok (.iaload, 1) := by decide +kernel
theorem dX10_minutes_23 : decode cX10_minutes 23 = .ok (.iload_n 1, 1) := by decide +kernel
theorem dX10_minutes_24 : decode cX10_minutes 24 = .ok (.iadd, 1) := by decide +kernel
theorem dX10_minutes_25 : decode cX10_minutes 25 = .ok (.ldc 242, 2) := by decide +kernel
theorem dX10_minutes_27 : decode cX10_minutes 27 = .ok (.if_icmp .le 10, 3) := by decide +kernel
theorem dX10_minutes_30 : decode cX10_minutes 30 = .ok (.aload_n 0, 1) := by decide +kernel
theorem dX10_minutes_31 : decode cX10_minutes 31 = .ok (.ldc 122, 2) := by decide +kernel
theorem dX10_minutes_33 : decode cX10_minutes 33 = .ok (.invokevirtual 81, 3) := by decide +kernel
theorem dX10_minutes_36 : decode cX10_minutes 36 = .ok (.ireturn, 1) := by decide +kernel
theorem dX10_minutes_37 : decode cX10_minutes 37 = .ok (.aload_n 0, 1) := by decide +kernel
theorem dX10_minutes_38 : decode cX10_minutes 38 = .ok (.iload_n 1, 1) := by decide +kernel
theorem dX10_minutes_39 : decode cX10_minutes 39 = .ok (.invokevirtual 249, 3) := by decide +kernel
theorem dX10_minutes_42 : decode cX10_minutes 42 = .ok (.aload_n 0, 1) := by decide +kernel
theorem dX10_minutes_43 : decode cX10_minutes 43 = .ok (.invokevirtual 252, 3) := by decide +kernel
theorem dX10_minutes_46 : decode cX10_minutes 46 = .ok (.ireturn, 1) := by decide +kernel
theorem dX10_movesTo_0 : decode cX10_movesTo 0 = .ok (.aload_n 0, 1) := by decide +kernel
theorem dX10_movesTo_1 : decode cX10_movesTo 1 = .ok (.iload_n 1, 1) := by decide +kernel
theorem dX10_movesTo_2 : decode cX10_movesTo 2 = .ok (.iload_n 2, 1) := by decide +kernel
theorem dX10_movesTo_3 : decode cX10_movesTo 3 = .ok (.invokevirtual 130, 3) := by decide +kernel
theorem dX10_movesTo_6 : decode cX10_movesTo 6 = .ok (.istore_n 3, 1) := by decide +kernel
theorem dX10_movesTo_7 : decode cX10_movesTo 7 = .ok (.aload_n 0, 1) := by decide +kernel
theorem dX10_movesTo_8 : decode cX10_movesTo 8 = .ok (.iload_n 2, 1) := by decide +kernel
theorem dX10_movesTo_9 : decode cX10_movesTo 9 = .ok (.iload_n 1, 1) := by decide +kernel
theorem dX10_movesTo_10 : decode cX10_movesTo 10 = .ok (.invokevirtual 130, 3) := by decide +kernel
theorem dX10_movesTo_13 : decode cX10_movesTo 13 = .ok (.istore 4, 2) := by decide +kernel
theorem dX10_movesTo_15 : decode cX10_movesTo 15 = .ok (.iconst 0, 1) := by decide +kernel
theorem dX10_movesTo_16 : decode cX10_movesTo 16 = .ok (.istore 5, 2) := by decide +kernel
theorem dX10_movesTo_18 : decode cX10_movesTo 18 = .ok (.iconst 0, 1) := by decide +kernel
theorem dX10_movesTo_19 : decode cX10_movesTo 19 = .ok (.istore 6, 2) := by decide +kernel
theorem dX10_movesTo_21 : decode cX10_movesTo 21 = .ok (.iload 6, 2) := by decide +kernel
theorem dX10_movesTo_23 : decode cX10_movesTo 23 = .ok (.aload_n 0, 1) := by decide +kernel
theorem dX10_movesTo_24 : decode cX10_movesTo 24 = .ok (.getfield 9, 3) := by decide +kernel
theorem dX10_movesTo_27 : decode cX10_movesTo 27 = .ok (.iconst 0, 1) := by decide +kernel
theorem dX10_movesTo_28 : decode cX10_movesTo 28 = .ok (.iaload, 1) := by decide +kernel
theorem dX10_movesTo_29 : decode cX10_movesTo 29 = .ok (.if_icmp .ge 55, 3) := by decide +kernel
theorem dX10_movesTo_32 : decode cX10_movesTo 32 = .ok (.iload 5, 2) := by decide +kernel
theorem dX10_movesTo_34 : decode cX10_movesTo 34 = .ok (.iload 6, 2) := by decide +kernel
theorem dX10_movesTo_36 : decode cX10_movesTo 36 = .ok (.iload_n 1, 1) := by decide +kernel
theorem dX10_movesTo_37 : decode cX10_movesTo 37 = .ok (.if_icmp .eq 37, 3) := by decide +kernel
theorem dX10_movesTo_40 : decode cX10_movesTo 40 = .ok (.iload 6, 2) := by decide +kernel
theorem dX10_movesTo_42 : decode cX10_movesTo 42 = .ok (.iload_n 2, 1) := by decide +kernel
theorem dX10_movesTo_43 : decode cX10_movesTo 43 = .ok (.if_icmp .eq 31, 3) := by decide +kernel
theorem dX10_movesTo_46 : decode cX10_movesTo 46 = .ok (.aload_n 0, 1) := by decide +kernel
theorem dX10_movesTo_47 : decode cX10_movesTo 47 = .ok (.iload_n 1, 1) := by decide +kernel
theorem dX10_movesTo_48 : decode cX10_movesTo 48 = .ok (.iload 6, 2) := by decide +kernel
theorem dX10_movesTo_50 : decode cX10_movesTo 50 = .ok (.invokevirtual 130, 3) := by decide +kernel
theorem dX10_movesTo_53 : decode cX10_movesTo 53 = .ok (.bipush 50, 2) := by decide +kernel
theorem dX10_movesTo_55 : decode cX10_movesTo 55 = .ok (.if_icmp .lt 19, 3) := by decide +kernel
theorem dX10_movesTo_58 : decode cX10_movesTo 58 = .ok (.aload_n 0, 1) := by decide +kernel
theorem dX10_movesTo_59 : decode cX10_movesTo 59 = .ok (.iload_n 2, 1) := by decide +kernel
theorem dX10_movesTo_60 : decode cX10_movesTo 60 = .ok (.iload 6, 2) := by decide +kernel
theorem dX10_movesTo_62 : decode cX10_movesTo 62 = .ok (.invokevirtual 130, 3) := by decide +kernel
theorem dX10_movesTo_65 : decode cX10_movesTo 65 = .ok (.bipush 50, 2) := by decide +kernel
theorem dX10_movesTo_67 : decode cX10_movesTo 67 = .ok (.if_icmp .lt 7, 3) := by decide +kernel
theorem dX10_movesTo_70 : decode cX10_movesTo 70 = .ok (.iconst 1, 1) := by decide +kernel
theorem dX10_movesTo_71 : decode cX10_movesTo 71 = .ok (.goto 4, 3) := by decide +kernel
theorem dX10_movesTo_74 : decode cX10_movesTo 74 = .ok (.iconst 0, 1) := by decide +kernel
theorem dX10_movesTo_75 : decode cX10_movesTo 75 = .ok (.iadd, 1) := by decide +kernel
theorem dX10_movesTo_76 : decode cX10_movesTo 76 = .ok (.istore 5, 2) := by decide +kernel
theorem dX10_movesTo_78 : decode cX10_movesTo 78 = .ok (.iinc 6 1, 3) := by decide +kernel
theorem dX10_movesTo_81 : decode cX10_movesTo 81 = .ok (.goto (-60), 3) := by decide +kernel
theorem dX10_movesTo_84 : decode cX10_movesTo 84 = .ok (.aload_n 0, 1) := by decide +kernel
theorem dX10_movesTo_85 : decode cX10_movesTo 85 = .ok (.iload_n 1, 1) := by decide +kernel
theorem dX10_movesTo_86 : decode cX10_movesTo 86 = .ok (.iconst 4, 1) := by decide +kernel
theorem dX10_movesTo_87 : decode cX10_movesTo 87 = .ok (.invokevirtual 86, 3) := by decide +kernel
theorem dX10_movesTo_90 : decode cX10_movesTo 90 = .ok (.ifCond .lt 22, 3) := by decide +kernel
theorem dX10_movesTo_93 : decode cX10_movesTo 93 = .ok (.aload_n 0, 1) := by decide +kernel
theorem dX10_movesTo_94 : decode cX10_movesTo 94 = .ok (.iload_n 1, 1) := by decide +kernel
theorem dX10_movesTo_95 : decode cX10_movesTo 95 = .ok (.iconst 4, 1) := by decide +kernel
theorem dX10_movesTo_96 : decode cX10_movesTo 96 = .ok (.invokevirtual 86, 3) := by decide +kernel
theorem dX10_movesTo_99 : decode cX10_movesTo 99 = .ok (.aload_n 0, 1) := by decide +kernel
theorem dX10_movesTo_100 : decode cX10_movesTo 100 = .ok (.iload_n 2, 1) := by decide +kernel
theorem dX10_movesTo_101 : decode cX10_movesTo 101 = .ok (.iconst 4, 1) := by decide +kernel
theorem dX10_movesTo_102 : decode cX10_movesTo 102 = .ok (.invokevirtual 86, 3) := by decide +kernel
theorem dX10_movesTo_105 : decode cX10_movesTo 105 = .ok (.if_icmp .ne 7, 3) := by decide +kernel
theorem dX10_movesTo_108 : decode cX10_movesTo 108 = .ok (.iconst 1, 1) := by decide +kernel
theorem dX10_movesTo_109 : decode cX10_movesTo 109 = .ok (.goto 4, 3) := by decide +kernel
theorem dX10_movesTo_112 : decode cX10_movesTo 112 = .ok (.iconst 0, 1) := by decide +kernel
theorem dX10_movesTo_113 : decode cX10_movesTo 113 = .ok (.istore 6, 2) := by decide +kernel
theorem dX10_movesTo_115 : decode cX10_movesTo 115 = .ok (.iload_n 3, 1) := by decide +kernel
theorem dX10_movesTo_116 : decode cX10_movesTo 116 = .ok (.iload 4, 2) := by decide +kernel
theorem dX10_movesTo_118 : decode cX10_movesTo 118 = .ok (.iload_n 3, 1) := by decide +kernel
theorem dX10_movesTo_119 : decode cX10_movesTo 119 = .ok (.if_icmp .le 7, 3) := by decide +kernel
theorem dX10_movesTo_122 : decode cX10_movesTo 122 = .ok (.iconst 1, 1) := by decide +kernel
theorem dX10_movesTo_123 : decode cX10_movesTo 123 = .ok (.goto 4, 3) := by decide +kernel
theorem dX10_movesTo_126 : decode cX10_movesTo 126 = .ok (.iconst 0, 1) := by decide +kernel
theorem dX10_movesTo_127 : decode cX10_movesTo 127 = .ok (.iadd, 1) := by decide +kernel
theorem dX10_movesTo_128 : decode cX10_movesTo 128 = .ok (.iload 4, 2) := by decide +kernel
theorem dX10_movesTo_130 : decode cX10_movesTo 130 = .ok (.iload_n 3, 1) := by decide +kernel
theorem dX10_movesTo_131 : decode cX10_movesTo 131 = .ok (.if_icmp .ge 7, 3) := by decide +kernel
theorem dX10_movesTo_134 : decode cX10_movesTo 134 = .ok (.iconst 1, 1) := by decide +kernel
theorem dX10_movesTo_135 : decode cX10_movesTo 135 = .ok (.goto 4, 3) := by decide +kernel
theorem dX10_movesTo_138 : decode cX10_movesTo 138 = .ok (.iconst 0, 1) := by decide +kernel
theorem dX10_movesTo_139 : decode cX10_movesTo 139 = .ok (.isub, 1) := by decide +kernel
theorem dX10_movesTo_140 : decode cX10_movesTo 140 = .ok (.iload 6, 2) := by decide +kernel
theorem dX10_movesTo_142 : decode cX10_movesTo 142 = .ok (.iadd, 1) := by decide +kernel
theorem dX10_movesTo_143 : decode cX10_movesTo 143 = .ok (.istore 7, 2) := by decide +kernel
theorem dX10_movesTo_145 : decode cX10_movesTo 145 = .ok (.aload_n 0, 1) := by decide +kernel
theorem dX10_movesTo_146 : decode cX10_movesTo 146 = .ok (.iconst 1, 1) := by decide +kernel
theorem dX10_movesTo_147 : decode cX10_movesTo 147 = .ok (.invokevirtual 148, 3) := by decide +kernel
theorem dX10_movesTo_150 : decode cX10_movesTo 150 = .ok (.ifCond .eq 19, 3) := by decide +kernel
theorem dX10_movesTo_153 : decode cX10_movesTo 153 = .ok (.aload_n 0, 1) := by decide +kernel
theorem dX10_movesTo_154 : decode cX10_movesTo 154 = .ok (.iconst 1, 1) := by decide +kernel
theorem dX10_movesTo_155 : decode cX10_movesTo 155 = .ok (.iload_n 3, 1) := by decide +kernel
theorem dX10_movesTo_156 : decode cX10_movesTo 156 = .ok (.iload 4, 2) := by decide +kernel
theorem dX10_movesTo_158 : decode cX10_movesTo 158 = .ok (.iload 5, 2) := by decide +kernel
theorem dX10_movesTo_160 : decode cX10_movesTo 160 = .ok (.iload 6, 2) := by decide +kernel
theorem dX10_movesTo_162 : decode cX10_movesTo 162 = .ok (.iconst 0, 1) := by decide +kernel
theorem dX10_movesTo_163 : decode cX10_movesTo 163 = .ok (.invokevirtual 154, 3) := by decide +kernel
theorem dX10_movesTo_166 : decode cX10_movesTo 166 = .ok (.goto 5, 3) := by decide +kernel
theorem dX10_movesTo_169 : decode cX10_movesTo 169 = .ok (.iload 7, 2) := by decide +kernel
theorem dX10_movesTo_171 : decode cX10_movesTo 171 = .ok (.iconst 0, 1) := by decide +kernel
theorem dX10_movesTo_172 : decode cX10_movesTo 172 = .ok (.bipush 99, 2) := by decide +kernel
theorem dX10_movesTo_174 : decode cX10_movesTo 174 = .ok (.invokestatic 158, 3) := by decide +kernel
theorem dX10_movesTo_177 : decode cX10_movesTo 177 = .ok (.ireturn, 1) := by decide +kernel
theorem dX10_term_0 : decode cX10_term 0 = .ok (.aload_n 0, 1) := by decide +kernel
theorem dX10_term_1 : decode cX10_term 1 = .ok (.getfield 9, 3) := by decide +kernel
theorem dX10_term_4 : decode cX10_term 4 = .ok (.iconst 0, 1) := by decide +kernel
theorem dX10_term_5 : decode cX10_term 5 = .ok (.iaload, 1) := by decide +kernel
theorem dX10_term_6 : decode cX10_term 6 = .ok (.istore_n 1, 1) := by decide +kernel
theorem dX10_term_7 : decode cX10_term 7 = .ok (.iconst 0, 1) := by decide +kernel
theorem dX10_term_8 : decode cX10_term 8 = .ok (.istore_n 2, 1) := by decide +kernel
theorem dX10_term_9 : decode cX10_term 9 = .ok (.iload_n 2, 1) := by decide +kernel
theorem dX10_term_10 : decode cX10_term 10 = .ok (.iload_n 1, 1) := by decide +kernel
theorem dX10_term_11 : decode cX10_term 11 = .ok (.iload_n 1, 1) := by decide +kernel
theorem dX10_term_12 : decode cX10_term 12 = .ok (.imul, 1) := by decide +kernel
theorem dX10_term_13 : decode cX10_term 13 = .ok (.if_icmp .ge 38, 3) := by decide +kernel
theorem dX10_term_16 : decode cX10_term 16 = .ok (.aload_n 0, 1) := by decide +kernel
theorem dX10_term_17 : decode cX10_term 17 = .ok (.getfield 41, 3) := by decide +kernel
theorem dX10_term_20 : decode cX10_term 20 = .ok (.iload_n 2, 1) := by decide +kernel
theorem dX10_term_21 : decode cX10_term 21 = .ok (.iload_n 2, 1) := by decide +kernel
theorem dX10_term_22 : decode cX10_term 22 = .ok (.iload_n 1, 1) := by decide +kernel
theorem dX10_term_23 : decode cX10_term 23 = .ok (.idiv, 1) := by decide +kernel
theorem dX10_term_24 : decode cX10_term 24 = .ok (.iload_n 2, 1) := by decide +kernel
theorem dX10_term_25 : decode cX10_term 25 = .ok (.iload_n 1, 1) := by decide +kernel
theorem dX10_term_26 : decode cX10_term 26 = .ok (.irem, 1) := by decide +kernel
theorem dX10_term_27 : decode cX10_term 27 = .ok (.if_icmp .ne 7, 3) := by decide +kernel
theorem dX10_term_30 : decode cX10_term 30 = .ok (.iconst 0, 1) := by decide +kernel
theorem dX10_term_31 : decode cX10_term 31 = .ok (.goto 13, 3) := by decide +kernel
theorem dX10_term_34 : decode cX10_term 34 = .ok (.aload_n 0, 1) := by decide +kernel
theorem dX10_term_35 : decode cX10_term 35 = .ok (.iload_n 2, 1) := by decide +kernel
theorem dX10_term_36 : decode cX10_term 36 = .ok (.iload_n 1, 1) := by decide +kernel
theorem dX10_term_37 : decode cX10_term 37 = .ok (.idiv, 1) := by decide +kernel
theorem dX10_term_38 : decode cX10_term 38 = .ok (.iload_n 2, 1) := by decide +kernel
theorem dX10_term_39 : decode cX10_term 39 = .ok (.iload_n 1, 1) := by decide +kernel
theorem dX10_term_40 : decode cX10_term 40 = .ok (.irem, 1) := by decide +kernel
theorem dX10_term_41 : decode cX10_term 41 = .ok (.invokevirtual 255, 3) := by decide +kernel
theorem dX10_term_44 : decode cX10_term 44 = .ok (.iastore, 1) := by decide +kernel
theorem dX10_term_45 : decode cX10_term 45 = .ok (.iinc 2 1, 3) := by decide +kernel
theorem dX10_term_48 : decode cX10_term 48 = .ok (.goto (-39), 3) := by decide +kernel
theorem dX10_term_51 : decode cX10_term 51 = .ok (.iconst 0, 1) := by decide +kernel
theorem dX10_term_52 : decode cX10_term 52 = .ok (.istore_n 2, 1) := by decide +kernel
theorem dX10_term_53 : decode cX10_term 53 = .ok (.iload_n 2, 1) := by decide +kernel
theorem dX10_term_54 : decode cX10_term 54 = .ok (.iload_n 1, 1) := by decide +kernel
theorem dX10_term_55 : decode cX10_term 55 = .ok (.iload_n 1, 1) := by decide +kernel
theorem dX10_term_56 : decode cX10_term 56 = .ok (.imul, 1) := by decide +kernel
theorem dX10_term_57 : decode cX10_term 57 = .ok (.if_icmp .ge 33, 3) := by decide +kernel
theorem dX10_term_60 : decode cX10_term 60 = .ok (.aload_n 0, 1) := by decide +kernel
theorem dX10_term_61 : decode cX10_term 61 = .ok (.getfield 9, 3) := by decide +kernel
theorem dX10_term_64 : decode cX10_term 64 = .ok (.bipush 67, 2) := by decide +kernel
theorem dX10_term_66 : decode cX10_term 66 = .ok (.bipush 10, 2) := by decide +kernel
theorem dX10_term_68 : decode cX10_term 68 = .ok (.iload_n 2, 1) := by decide +kernel
theorem dX10_term_69 : decode cX10_term 69 = .ok (.iload_n 1, 1) := by decide +kernel
theorem dX10_term_70 : decode cX10_term 70 = .ok (.idiv, 1) := by decide +kernel
theorem dX10_term_71 : decode cX10_term 71 = .ok (.imul, 1) := by decide +kernel
theorem dX10_term_72 : decode cX10_term 72 = .ok (.iadd, 1) := by decide +kernel
theorem dX10_term_73 : decode cX10_term 73 = .ok (.iload_n 2, 1) := by decide +kernel
theorem dX10_term_74 : decode cX10_term 74 = .ok (.iload_n 1, 1) := by decide +kernel
theorem dX10_term_75 : decode cX10_term 75 = .ok (.irem, 1) := by decide +kernel
theorem dX10_term_76 : decode cX10_term 76 = .ok (.iadd, 1) := by decide +kernel
theorem dX10_term_77 : decode cX10_term 77 = .ok (.aload_n 0, 1) := by decide +kernel
theorem dX10_term_78 : decode cX10_term 78 = .ok (.getfield 41, 3) := by decide +kernel
theorem dX10_term_81 : decode cX10_term 81 = .ok (.iload_n 2, 1) := by decide +kernel
theorem dX10_term_82 : decode cX10_term 82 = .ok (.iaload, 1) := by decide +kernel
theorem dX10_term_83 : decode cX10_term 83 = .ok (.iastore, 1) := by decide +kernel
theorem dX10_term_84 : decode cX10_term 84 = .ok (.iinc 2 1, 3) := by decide +kernel
theorem dX10_term_87 : decode cX10_term 87 = .ok (.goto (-34), 3) := by decide +kernel
theorem dX10_term_90 : decode cX10_term 90 = .ok (.aload_n 0, 1) := by decide +kernel
theorem dX10_term_91 : decode cX10_term 91 = .ok (.getfield 9, 3) := by decide +kernel
theorem dX10_term_94 : decode cX10_term 94 = .ok (.iconst 3, 1) := by decide +kernel
theorem dX10_term_95 : decode cX10_term 95 = .ok (.dup2, 1) := by decide +kernel
theorem dX10_term_96 : decode cX10_term 96 = .ok (.iaload, 1) := by decide +kernel
theorem dX10_term_97 : decode cX10_term 97 = .ok (.iconst 1, 1) := by decide +kernel
theorem dX10_term_98 : decode cX10_term 98 = .ok (.iadd, 1) := by decide +kernel
theorem dX10_term_99 : decode cX10_term 99 = .ok (.iastore, 1) := by decide +kernel
theorem dX10_term_100 : decode cX10_term 100 = .ok (.return_, 1) := by decide +kernel
theorem dX10_terms_0 : decode cX10_terms 0 = .ok (.iload_n 1, 1) := by decide +kernel
theorem dX10_terms_1 : decode cX10_terms 1 = .ok (.iconst 1, 1) := by decide +kernel
theorem dX10_terms_2 : decode cX10_terms 2 = .ok (.bipush 20, 2) := by decide +kernel
theorem dX10_terms_4 : decode cX10_terms 4 = .ok (.invokestatic 72, 3) := by decide +kernel
theorem dX10_terms_7 : decode cX10_terms 7 = .ok (.ifCond .ne 10, 3) := by decide +kernel
theorem dX10_terms_10 : decode cX10_terms 10 = .ok (.aload_n 0, 1) := by decide +kernel
theorem dX10_terms_11 : decode cX10_terms 11 = .ok (.ldc 80, 2) := by decide +kernel
theorem dX10_terms_13 : decode cX10_terms 13 = .ok (.invokevirtual 81, 3) := by decide +kernel
theorem dX10_terms_16 : decode cX10_terms 16 = .ok (.ireturn, 1) := by decide +kernel
theorem dX10_terms_17 : decode cX10_terms 17 = .ok (.aload_n 0, 1) := by decide +kernel
theorem dX10_terms_18 : decode cX10_terms 18 = .ok (.getfield 9, 3) := by decide +kernel
theorem dX10_terms_21 : decode cX10_terms 21 = .ok (.iconst 3, 1) := by decide +kernel
theorem dX10_terms_22 : decode cX10_terms 22 = .ok (.iaload, 1) := by decide +kernel
theorem dX10_terms_23 : decode cX10_terms 23 = .ok (.iload_n 1, 1) := by decide +kernel
theorem dX10_terms_24 : decode cX10_terms 24 = .ok (.iadd, 1) := by decide +kernel
theorem dX10_terms_25 : decode cX10_terms 25 = .ok (.sipush 999, 3) := by decide +kernel
theorem dX10_terms_28 : decode cX10_terms 28 = .ok (.if_icmp .le 10, 3) := by decide +kernel
theorem dX10_terms_31 : decode cX10_terms 31 = .ok (.aload_n 0, 1) := by decide +kernel
theorem dX10_terms_32 : decode cX10_terms 32 = .ok (.ldc 122, 2) := by decide +kernel
theorem dX10_terms_34 : decode cX10_terms 34 = .ok (.invokevirtual 81, 3) := by decide +kernel
theorem dX10_terms_37 : decode cX10_terms 37 = .ok (.ireturn, 1) := by decide +kernel
theorem dX10_terms_38 : decode cX10_terms 38 = .ok (.iconst 0, 1) := by decide +kernel
theorem dX10_terms_39 : decode cX10_terms 39 = .ok (.istore_n 2, 1) := by decide +kernel
theorem dX10_terms_40 : decode cX10_terms 40 = .ok (.iload_n 2, 1) := by decide +kernel
theorem dX10_terms_41 : decode cX10_terms 41 = .ok (.iload_n 1, 1) := by decide +kernel
theorem dX10_terms_42 : decode cX10_terms 42 = .ok (.if_icmp .ge 13, 3) := by decide +kernel
theorem dX10_terms_45 : decode cX10_terms 45 = .ok (.aload_n 0, 1) := by decide +kernel
theorem dX10_terms_46 : decode cX10_terms 46 = .ok (.invokevirtual 258, 3) := by decide +kernel
theorem dX10_terms_49 : decode cX10_terms 49 = .ok (.iinc 2 1, 3) := by decide +kernel
theorem dX10_terms_52 : decode cX10_terms 52 = .ok (.goto (-12), 3) := by decide +kernel
theorem dX10_terms_55 : decode cX10_terms 55 = .ok (.aload_n 0, 1) := by decide +kernel
theorem dX10_terms_56 : decode cX10_terms 56 = .ok (.getfield 9, 3) := by decide +kernel
theorem dX10_terms_59 : decode cX10_terms 59 = .ok (.iconst 3, 1) := by decide +kernel
theorem dX10_terms_60 : decode cX10_terms 60 = .ok (.iaload, 1) := by decide +kernel
theorem dX10_terms_61 : decode cX10_terms 61 = .ok (.ireturn, 1) := by decide +kernel
theorem dX10_seed_0 : decode cX10_seed 0 = .ok (.aload_n 0, 1) := by decide +kernel
theorem dX10_seed_1 : decode cX10_seed 1 = .ok (.bipush 6, 2) := by decide +kernel
theorem dX10_seed_3 : decode cX10_seed 3 = .ok (.iload_n 1, 1) := by decide +kernel
theorem dX10_seed_4 : decode cX10_seed 4 = .ok (.invokevirtual 106, 3) := by decide +kernel
theorem dX10_seed_7 : decode cX10_seed 7 = .ok (.ireturn, 1) := by decide +kernel
theorem dX10_slipOf_0 : decode cX10_slipOf 0 = .ok (.iconst 0, 1) := by decide +kernel
theorem dX10_slipOf_1 : decode cX10_slipOf 1 = .ok (.istore_n 2, 1) := by decide +kernel
theorem dX10_slipOf_2 : decode cX10_slipOf 2 = .ok (.iconst 0, 1) := by decide +kernel
theorem dX10_slipOf_3 : decode cX10_slipOf 3 = .ok (.istore_n 3, 1) := by decide +kernel
theorem dX10_slipOf_4 : decode cX10_slipOf 4 = .ok (.iload_n 3, 1) := by decide +kernel
theorem dX10_slipOf_5 : decode cX10_slipOf 5 = .ok (.iconst 3, 1) := by decide +kernel
theorem dX10_slipOf_6 : decode cX10_slipOf 6 = .ok (.if_icmp .ge 116, 3) := by decide +kernel
theorem dX10_slipOf_9 : decode cX10_slipOf 9 = .ok (.iconst (-1), 1) := by decide +kernel
theorem dX10_slipOf_10 : decode cX10_slipOf 10 = .ok (.istore 4, 2) := by decide +kernel
theorem dX10_slipOf_12 : decode cX10_slipOf 12 = .ok (.iconst 0, 1) := by decide +kernel
theorem dX10_slipOf_13 : decode cX10_slipOf 13 = .ok (.istore 5, 2) := by decide +kernel
theorem dX10_slipOf_15 : decode cX10_slipOf 15 = .ok (.iload 5, 2) := by decide +kernel
theorem dX10_slipOf_17 : decode cX10_slipOf 17 = .ok (.aload_n 0, 1) := by decide +kernel
theorem dX10_slipOf_18 : decode cX10_slipOf 18 = .ok (.getfield 9, 3) := by decide +kernel
theorem dX10_slipOf_21 : decode cX10_slipOf 21 = .ok (.iconst 0, 1) := by decide +kernel
theorem dX10_slipOf_22 : decode cX10_slipOf 22 = .ok (.iaload, 1) := by decide +kernel
theorem dX10_slipOf_23 : decode cX10_slipOf 23 = .ok (.if_icmp .ge 77, 3) := by decide +kernel
theorem dX10_slipOf_26 : decode cX10_slipOf 26 = .ok (.iload 5, 2) := by decide +kernel
theorem dX10_slipOf_28 : decode cX10_slipOf 28 = .ok (.iload_n 1, 1) := by decide +kernel
theorem dX10_slipOf_29 : decode cX10_slipOf 29 = .ok (.if_icmp .eq 26, 3) := by decide +kernel
theorem dX10_slipOf_32 : decode cX10_slipOf 32 = .ok (.iload_n 2, 1) := by decide +kernel
theorem dX10_slipOf_33 : decode cX10_slipOf 33 = .ok (.iload 5, 2) := by decide +kernel
theorem dX10_slipOf_35 : decode cX10_slipOf 35 = .ok (.invokestatic 127, 3) := by decide +kernel
theorem dX10_slipOf_38 : decode cX10_slipOf 38 = .ok (.ifCond .ne 17, 3) := by decide +kernel
theorem dX10_slipOf_41 : decode cX10_slipOf 41 = .ok (.aload_n 0, 1) := by decide +kernel
theorem dX10_slipOf_42 : decode cX10_slipOf 42 = .ok (.iload_n 1, 1) := by decide +kernel
theorem dX10_slipOf_43 : decode cX10_slipOf 43 = .ok (.iload 5, 2) := by decide +kernel
theorem dX10_slipOf_45 : decode cX10_slipOf 45 = .ok (.invokevirtual 130, 3) := by decide +kernel
theorem dX10_slipOf_48 : decode cX10_slipOf 48 = .ok (.ifCond .le 7, 3) := by decide +kernel
theorem dX10_slipOf_51 : decode cX10_slipOf 51 = .ok (.iconst 1, 1) := by decide +kernel
theorem dX10_slipOf_52 : decode cX10_slipOf 52 = .ok (.goto 4, 3) := by decide +kernel
theorem dX10_slipOf_55 : decode cX10_slipOf 55 = .ok (.iconst 0, 1) := by decide +kernel
theorem dX10_slipOf_56 : decode cX10_slipOf 56 = .ok (.istore 6, 2) := by decide +kernel
theorem dX10_slipOf_58 : decode cX10_slipOf 58 = .ok (.iload 6, 2) := by decide +kernel
theorem dX10_slipOf_60 : decode cX10_slipOf 60 = .ok (.ifCond .eq 30, 3) := by decide +kernel
theorem dX10_slipOf_63 : decode cX10_slipOf 63 = .ok (.iload 4, 2) := by decide +kernel
theorem dX10_slipOf_65 : decode cX10_slipOf 65 = .ok (.ifCond .lt 20, 3) := by decide +kernel
theorem dX10_slipOf_68 : decode cX10_slipOf 68 = .ok (.aload_n 0, 1) := by decide +kernel
theorem dX10_slipOf_69 : decode cX10_slipOf 69 = .ok (.iload_n 1, 1) := by decide +kernel
theorem dX10_slipOf_70 : decode cX10_slipOf 70 = .ok (.iload 5, 2) := by decide +kernel
theorem dX10_slipOf_72 : decode cX10_slipOf 72 = .ok (.invokevirtual 130, 3) := by decide +kernel
theorem dX10_slipOf_75 : decode cX10_slipOf 75 = .ok (.aload_n 0, 1) := by decide +kernel
theorem dX10_slipOf_76 : decode cX10_slipOf 76 = .ok (.iload_n 1, 1) := by decide +kernel
theorem dX10_slipOf_77 : decode cX10_slipOf 77 = .ok (.iload 4, 2) := by decide +kernel
theorem dX10_slipOf_79 : decode cX10_slipOf 79 = .ok (.invokevirtual 130, 3) := by decide +kernel
theorem dX10_slipOf_82 : decode cX10_slipOf 82 = .ok (.if_icmp .le 8, 3) := by decide +kernel
theorem dX10_slipOf_85 : decode cX10_slipOf 85 = .ok (.iload 5, 2) := by decide +kernel
theorem dX10_slipOf_87 : decode cX10_slipOf 87 = .ok (.goto 5, 3) := by decide +kernel
theorem dX10_slipOf_90 : decode cX10_slipOf 90 = .ok (.iload 4, 2) := by decide +kernel
theorem dX10_slipOf_92 : decode cX10_slipOf 92 = .ok (.istore 4, 2) := by decide +kernel
theorem dX10_slipOf_94 : decode cX10_slipOf 94 = .ok (.iinc 5 1, 3) := by decide +kernel
theorem dX10_slipOf_97 : decode cX10_slipOf 97 = .ok (.goto (-82), 3) := by decide +kernel
theorem dX10_slipOf_100 : decode cX10_slipOf 100 = .ok (.iload_n 2, 1) := by decide +kernel
theorem dX10_slipOf_101 : decode cX10_slipOf 101 = .ok (.iload 4, 2) := by decide +kernel
theorem dX10_slipOf_103 : decode cX10_slipOf 103 = .ok (.ifCond .ge 7, 3) := by decide +kernel
theorem dX10_slipOf_106 : decode cX10_slipOf 106 = .ok (.iconst 0, 1) := by decide +kernel
theorem dX10_slipOf_107 : decode cX10_slipOf 107 = .ok (.goto 7, 3) := by decide +kernel
theorem dX10_slipOf_110 : decode cX10_slipOf 110 = .ok (.iconst 1, 1) := by decide +kernel
theorem dX10_slipOf_111 : decode cX10_slipOf 111 = .ok (.iload 4, 2) := by decide +kernel
theorem dX10_slipOf_113 : decode cX10_slipOf 113 = .ok (.ishl, 1) := by decide +kernel
theorem dX10_slipOf_114 : decode cX10_slipOf 114 = .ok (.ior, 1) := by decide +kernel
theorem dX10_slipOf_115 : decode cX10_slipOf 115 = .ok (.istore_n 2, 1) := by decide +kernel
theorem dX10_slipOf_116 : decode cX10_slipOf 116 = .ok (.iinc 3 1, 3) := by decide +kernel
theorem dX10_slipOf_119 : decode cX10_slipOf 119 = .ok (.goto (-115), 3) := by decide +kernel
theorem dX10_slipOf_122 : decode cX10_slipOf 122 = .ok (.iload_n 2, 1) := by decide +kernel
theorem dX10_slipOf_123 : decode cX10_slipOf 123 = .ok (.ireturn, 1) := by decide +kernel
theorem dX10_namedOf_0 : decode cX10_namedOf 0 = .ok (.iconst 0, 1) := by decide +kernel
theorem dX10_namedOf_1 : decode cX10_namedOf 1 = .ok (.istore_n 2, 1) := by decide +kernel
theorem dX10_namedOf_2 : decode cX10_namedOf 2 = .ok (.iconst 0, 1) := by decide +kernel
theorem dX10_namedOf_3 : decode cX10_namedOf 3 = .ok (.istore_n 3, 1) := by decide +kernel
theorem dX10_namedOf_4 : decode cX10_namedOf 4 = .ok (.iload_n 3, 1) := by decide +kernel
theorem dX10_namedOf_5 : decode cX10_namedOf 5 = .ok (.aload_n 0, 1) := by decide +kernel
theorem dX10_namedOf_6 : decode cX10_namedOf 6 = .ok (.getfield 9, 3) := by decide +kernel
theorem dX10_namedOf_9 : decode cX10_namedOf 9 = .ok (.iconst 0, 1) := by decide +kernel
theorem dX10_namedOf_10 : decode cX10_namedOf 10 = .ok (.iaload, 1) := by decide +kernel
theorem dX10_namedOf_11 : decode cX10_namedOf 11 = .ok (.if_icmp .ge 29, 3) := by decide +kernel
theorem dX10_namedOf_14 : decode cX10_namedOf 14 = .ok (.iload_n 2, 1) := by decide +kernel
theorem dX10_namedOf_15 : decode cX10_namedOf 15 = .ok (.aload_n 0, 1) := by decide +kernel
theorem dX10_namedOf_16 : decode cX10_namedOf 16 = .ok (.iload_n 3, 1) := by decide +kernel
theorem dX10_namedOf_17 : decode cX10_namedOf 17 = .ok (.invokevirtual 89, 3) := by decide +kernel
theorem dX10_namedOf_20 : decode cX10_namedOf 20 = .ok (.iload_n 1, 1) := by decide +kernel
theorem dX10_namedOf_21 : decode cX10_namedOf 21 = .ok (.invokestatic 127, 3) := by decide +kernel
theorem dX10_namedOf_24 : decode cX10_namedOf 24 = .ok (.ifCond .eq 7, 3) := by decide +kernel
theorem dX10_namedOf_27 : decode cX10_namedOf 27 = .ok (.iconst 1, 1) := by decide +kernel
theorem dX10_namedOf_28 : decode cX10_namedOf 28 = .ok (.goto 4, 3) := by decide +kernel
theorem dX10_namedOf_31 : decode cX10_namedOf 31 = .ok (.iconst 0, 1) := by decide +kernel
theorem dX10_namedOf_32 : decode cX10_namedOf 32 = .ok (.iadd, 1) := by decide +kernel
theorem dX10_namedOf_33 : decode cX10_namedOf 33 = .ok (.istore_n 2, 1) := by decide +kernel
theorem dX10_namedOf_34 : decode cX10_namedOf 34 = .ok (.iinc 3 1, 3) := by decide +kernel
theorem dX10_namedOf_37 : decode cX10_namedOf 37 = .ok (.goto (-33), 3) := by decide +kernel
theorem dX10_namedOf_40 : decode cX10_namedOf 40 = .ok (.iload_n 2, 1) := by decide +kernel
theorem dX10_namedOf_41 : decode cX10_namedOf 41 = .ok (.ireturn, 1) := by decide +kernel
theorem dX10_findSlips_0 : decode cX10_findSlips 0 = .ok (.iconst 0, 1) := by decide +kernel
theorem dX10_findSlips_1 : decode cX10_findSlips 1 = .ok (.istore_n 1, 1) := by decide +kernel
theorem dX10_findSlips_2 : decode cX10_findSlips 2 = .ok (.iload_n 1, 1) := by decide +kernel
theorem dX10_findSlips_3 : decode cX10_findSlips 3 = .ok (.aload_n 0, 1) := by decide +kernel
theorem dX10_findSlips_4 : decode cX10_findSlips 4 = .ok (.getfield 9, 3) := by decide +kernel
theorem dX10_findSlips_7 : decode cX10_findSlips 7 = .ok (.iconst 0, 1) := by decide +kernel
theorem dX10_findSlips_8 : decode cX10_findSlips 8 = .ok (.iaload, 1) := by decide +kernel
theorem dX10_findSlips_9 : decode cX10_findSlips 9 = .ok (.if_icmp .ge 20, 3) := by decide +kernel
theorem dX10_findSlips_12 : decode cX10_findSlips 12 = .ok (.aload_n 0, 1) := by decide +kernel
theorem dX10_findSlips_13 : decode cX10_findSlips 13 = .ok (.getfield 44, 3) := by decide +kernel
theorem dX10_findSlips_16 : decode cX10_findSlips 16 = .ok (.iload_n 1, 1) := by decide +kernel
theorem dX10_findSlips_17 : decode cX10_findSlips 17 = .ok (.aload_n 0, 1) := by decide +kernel
theorem dX10_findSlips_18 : decode cX10_findSlips 18 = .ok (.iload_n 1, 1) := by decide +kernel
theorem dX10_findSlips_19 : decode cX10_findSlips 19 = .ok (.invokevirtual 89, 3) := by decide +kernel
theorem dX10_findSlips_22 : decode cX10_findSlips 22 = .ok (.iastore, 1) := by decide +kernel
theorem dX10_findSlips_23 : decode cX10_findSlips 23 = .ok (.iinc 1 1, 3) := by decide +kernel
theorem dX10_findSlips_26 : decode cX10_findSlips 26 = .ok (.goto (-24), 3) := by decide +kernel
theorem dX10_findSlips_29 : decode cX10_findSlips 29 = .ok (.return_, 1) := by decide +kernel
theorem dX10_bothOf_0 : decode cX10_bothOf 0 = .ok (.iconst 0, 1) := by decide +kernel
theorem dX10_bothOf_1 : decode cX10_bothOf 1 = .ok (.istore_n 2, 1) := by decide +kernel
theorem dX10_bothOf_2 : decode cX10_bothOf 2 = .ok (.iconst 0, 1) := by decide +kernel
theorem dX10_bothOf_3 : decode cX10_bothOf 3 = .ok (.istore_n 3, 1) := by decide +kernel
theorem dX10_bothOf_4 : decode cX10_bothOf 4 = .ok (.iload_n 3, 1) := by decide +kernel
theorem dX10_bothOf_5 : decode cX10_bothOf 5 = .ok (.aload_n 0, 1) := by decide +kernel
theorem dX10_bothOf_6 : decode cX10_bothOf 6 = .ok (.getfield 9, 3) := by decide +kernel
theorem dX10_bothOf_9 : decode cX10_bothOf 9 = .ok (.iconst 0, 1) := by decide +kernel
theorem dX10_bothOf_10 : decode cX10_bothOf 10 = .ok (.iaload, 1) := by decide +kernel
theorem dX10_bothOf_11 : decode cX10_bothOf 11 = .ok (.if_icmp .ge 45, 3) := by decide +kernel
theorem dX10_bothOf_14 : decode cX10_bothOf 14 = .ok (.iload_n 2, 1) := by decide +kernel
theorem dX10_bothOf_15 : decode cX10_bothOf 15 = .ok (.aload_n 0, 1) := by decide +kernel
theorem dX10_bothOf_16 : decode cX10_bothOf 16 = .ok (.getfield 44, 3) := by decide +kernel
theorem dX10_bothOf_19 : decode cX10_bothOf 19 = .ok (.iload_n 1, 1) := by decide +kernel
theorem dX10_bothOf_20 : decode cX10_bothOf 20 = .ok (.iaload, 1) := by decide +kernel
theorem dX10_bothOf_21 : decode cX10_bothOf 21 = .ok (.iload_n 3, 1) := by decide +kernel
theorem dX10_bothOf_22 : decode cX10_bothOf 22 = .ok (.invokestatic 127, 3) := by decide +kernel
theorem dX10_bothOf_25 : decode cX10_bothOf 25 = .ok (.ifCond .eq 22, 3) := by decide +kernel
theorem dX10_bothOf_28 : decode cX10_bothOf 28 = .ok (.aload_n 0, 1) := by decide +kernel
theorem dX10_bothOf_29 : decode cX10_bothOf 29 = .ok (.getfield 44, 3) := by decide +kernel
theorem dX10_bothOf_32 : decode cX10_bothOf 32 = .ok (.iload_n 3, 1) := by decide +kernel
theorem dX10_bothOf_33 : decode cX10_bothOf 33 = .ok (.iaload, 1) := by decide +kernel
theorem dX10_bothOf_34 : decode cX10_bothOf 34 = .ok (.iload_n 1, 1) := by decide +kernel
theorem dX10_bothOf_35 : decode cX10_bothOf 35 = .ok (.invokestatic 127, 3) := by decide +kernel
theorem dX10_bothOf_38 : decode cX10_bothOf 38 = .ok (.ifCond .eq 9, 3) := by decide +kernel
theorem dX10_bothOf_41 : decode cX10_bothOf 41 = .ok (.iconst 1, 1) := by decide +kernel
theorem dX10_bothOf_42 : decode cX10_bothOf 42 = .ok (.iload_n 3, 1) := by decide +kernel
theorem dX10_bothOf_43 : decode cX10_bothOf 43 = .ok (.ishl, 1) := by decide +kernel
theorem dX10_bothOf_44 : decode cX10_bothOf 44 = .ok (.goto 4, 3) := by decide +kernel
theorem dX10_bothOf_47 : decode cX10_bothOf 47 = .ok (.iconst 0, 1) := by decide +kernel
theorem dX10_bothOf_48 : decode cX10_bothOf 48 = .ok (.ior, 1) := by decide +kernel
theorem dX10_bothOf_49 : decode cX10_bothOf 49 = .ok (.istore_n 2, 1) := by decide +kernel
theorem dX10_bothOf_50 : decode cX10_bothOf 50 = .ok (.iinc 3 1, 3) := by decide +kernel
theorem dX10_bothOf_53 : decode cX10_bothOf 53 = .ok (.goto (-49), 3) := by decide +kernel
theorem dX10_bothOf_56 : decode cX10_bothOf 56 = .ok (.iload_n 2, 1) := by decide +kernel
theorem dX10_bothOf_57 : decode cX10_bothOf 57 = .ok (.ireturn, 1) := by decide +kernel
theorem dX10_both__0 : decode cX10_both_ 0 = .ok (.aload_n 0, 1) := by decide +kernel
theorem dX10_both__1 : decode cX10_both_ 1 = .ok (.iload_n 1, 1) := by decide +kernel
theorem dX10_both__2 : decode cX10_both_ 2 = .ok (.iconst 0, 1) := by decide +kernel
theorem dX10_both__3 : decode cX10_both_ 3 = .ok (.invokevirtual 95, 3) := by decide +kernel
theorem dX10_both__6 : decode cX10_both_ 6 = .ok (.ifCond .ne 10, 3) := by decide +kernel
theorem dX10_both__9 : decode cX10_both_ 9 = .ok (.aload_n 0, 1) := by decide +kernel
theorem dX10_both__10 : decode cX10_both_ 10 = .ok (.ldc 80, 2) := by decide +kernel
theorem dX10_both__12 : decode cX10_both_ 12 = .ok (.invokevirtual 81, 3) := by decide +kernel
theorem dX10_both__15 : decode cX10_both_ 15 = .ok (.ireturn, 1) := by decide +kernel
theorem dX10_both__16 : decode cX10_both_ 16 = .ok (.aload_n 0, 1) := by decide +kernel
theorem dX10_both__17 : decode cX10_both_ 17 = .ok (.invokevirtual 261, 3) := by decide +kernel
theorem dX10_both__20 : decode cX10_both_ 20 = .ok (.aload_n 0, 1) := by decide +kernel
theorem dX10_both__21 : decode cX10_both_ 21 = .ok (.iload_n 1, 1) := by decide +kernel
theorem dX10_both__22 : decode cX10_both_ 22 = .ok (.invokevirtual 264, 3) := by decide +kernel
theorem dX10_both__25 : decode cX10_both_ 25 = .ok (.ireturn, 1) := by decide +kernel
theorem dX10_ringOf_0 : decode cX10_ringOf 0 = .ok (.iconst 1, 1) := by decide +kernel
theorem dX10_ringOf_1 : decode cX10_ringOf 1 = .ok (.iload_n 1, 1) := by decide +kernel
theorem dX10_ringOf_2 : decode cX10_ringOf 2 = .ok (.ishl, 1) := by decide +kernel
theorem dX10_ringOf_3 : decode cX10_ringOf 3 = .ok (.istore_n 2, 1) := by decide +kernel
theorem dX10_ringOf_4 : decode cX10_ringOf 4 = .ok (.iconst 0, 1) := by decide +kernel
theorem dX10_ringOf_5 : decode cX10_ringOf 5 = .ok (.istore_n 3, 1) := by decide +kernel
theorem dX10_ringOf_6 : decode cX10_ringOf 6 = .ok (.iload_n 2, 1) := by decide +kernel
theorem dX10_ringOf_7 : decode cX10_ringOf 7 = .ok (.iload_n 3, 1) := by decide +kernel
theorem dX10_ringOf_8 : decode cX10_ringOf 8 = .ok (.if_icmp .eq 50, 3) := by decide +kernel
theorem dX10_ringOf_11 : decode cX10_ringOf 11 = .ok (.iload_n 2, 1) := by decide +kernel
theorem dX10_ringOf_12 : decode cX10_ringOf 12 = .ok (.istore_n 3, 1) := by decide +kernel
theorem dX10_ringOf_13 : decode cX10_ringOf 13 = .ok (.iconst 0, 1) := by decide +kernel
theorem dX10_ringOf_14 : decode cX10_ringOf 14 = .ok (.istore 4, 2) := by decide +kernel
theorem dX10_ringOf_16 : decode cX10_ringOf 16 = .ok (.iload 4, 2) := by decide +kernel
theorem dX10_ringOf_18 : decode cX10_ringOf 18 = .ok (.aload_n 0, 1) := by decide +kernel
theorem dX10_ringOf_19 : decode cX10_ringOf 19 = .ok (.getfield 9, 3) := by decide +kernel
theorem dX10_ringOf_22 : decode cX10_ringOf 22 = .ok (.iconst 0, 1) := by decide +kernel
theorem dX10_ringOf_23 : decode cX10_ringOf 23 = .ok (.iaload, 1) := by decide +kernel
theorem dX10_ringOf_24 : decode cX10_ringOf 24 = .ok (.if_icmp .ge 31, 3) := by decide +kernel
theorem dX10_ringOf_27 : decode cX10_ringOf 27 = .ok (.iload_n 2, 1) := by decide +kernel
theorem dX10_ringOf_28 : decode cX10_ringOf 28 = .ok (.iload_n 3, 1) := by decide +kernel
theorem dX10_ringOf_29 : decode cX10_ringOf 29 = .ok (.iload 4, 2) := by decide +kernel
theorem dX10_ringOf_31 : decode cX10_ringOf 31 = .ok (.invokestatic 127, 3) := by decide +kernel
theorem dX10_ringOf_34 : decode cX10_ringOf 34 = .ok (.ifCond .eq 12, 3) := by decide +kernel
theorem dX10_ringOf_37 : decode cX10_ringOf 37 = .ok (.aload_n 0, 1) := by decide +kernel
theorem dX10_ringOf_38 : decode cX10_ringOf 38 = .ok (.iload 4, 2) := by decide +kernel
theorem dX10_ringOf_40 : decode cX10_ringOf 40 = .ok (.invokevirtual 264, 3) := by decide +kernel
theorem dX10_ringOf_43 : decode cX10_ringOf 43 = .ok (.goto 4, 3) := by decide +kernel
theorem dX10_ringOf_46 : decode cX10_ringOf 46 = .ok (.iconst 0, 1) := by decide +kernel
theorem dX10_ringOf_47 : decode cX10_ringOf 47 = .ok (.ior, 1) := by decide +kernel
theorem dX10_ringOf_48 : decode cX10_ringOf 48 = .ok (.istore_n 2, 1) := by decide +kernel
theorem dX10_ringOf_49 : decode cX10_ringOf 49 = .ok (.iinc 4 1, 3) := by decide +kernel
theorem dX10_ringOf_52 : decode cX10_ringOf 52 = .ok (.goto (-36), 3) := by decide +kernel
theorem dX10_ringOf_55 : decode cX10_ringOf 55 = .ok (.goto (-49), 3) := by decide +kernel
theorem dX10_ringOf_58 : decode cX10_ringOf 58 = .ok (.iload_n 2, 1) := by decide +kernel
theorem dX10_ringOf_59 : decode cX10_ringOf 59 = .ok (.ireturn, 1) := by decide +kernel
theorem dX10_ring_0 : decode cX10_ring 0 = .ok (.aload_n 0, 1) := by decide +kernel
theorem dX10_ring_1 : decode cX10_ring 1 = .ok (.iload_n 1, 1) := by decide +kernel
theorem dX10_ring_2 : decode cX10_ring 2 = .ok (.iconst 0, 1) := by decide +kernel
theorem dX10_ring_3 : decode cX10_ring 3 = .ok (.invokevirtual 95, 3) := by decide +kernel
theorem dX10_ring_6 : decode cX10_ring 6 = .ok (.ifCond .ne 10, 3) := by decide +kernel
theorem dX10_ring_9 : decode cX10_ring 9 = .ok (.aload_n 0, 1) := by decide +kernel
theorem dX10_ring_10 : decode cX10_ring 10 = .ok (.ldc 80, 2) := by decide +kernel
theorem dX10_ring_12 : decode cX10_ring 12 = .ok (.invokevirtual 81, 3) := by decide +kernel
theorem dX10_ring_15 : decode cX10_ring 15 = .ok (.ireturn, 1) := by decide +kernel
theorem dX10_ring_16 : decode cX10_ring 16 = .ok (.aload_n 0, 1) := by decide +kernel
theorem dX10_ring_17 : decode cX10_ring 17 = .ok (.invokevirtual 261, 3) := by decide +kernel
theorem dX10_ring_20 : decode cX10_ring 20 = .ok (.aload_n 0, 1) := by decide +kernel
theorem dX10_ring_21 : decode cX10_ring 21 = .ok (.iload_n 1, 1) := by decide +kernel
theorem dX10_ring_22 : decode cX10_ring 22 = .ok (.invokevirtual 267, 3) := by decide +kernel
theorem dX10_ring_25 : decode cX10_ring 25 = .ok (.ireturn, 1) := by decide +kernel
theorem dX10_net_0 : decode cX10_net 0 = .ok (.iload_n 1, 1) := by decide +kernel
theorem dX10_net_1 : decode cX10_net 1 = .ok (.iconst 0, 1) := by decide +kernel
theorem dX10_net_2 : decode cX10_net 2 = .ok (.iconst 3, 1) := by decide +kernel
theorem dX10_net_3 : decode cX10_net 3 = .ok (.invokestatic 72, 3) := by decide +kernel
theorem dX10_net_6 : decode cX10_net 6 = .ok (.ifCond .ne 10, 3) := by decide +kernel
theorem dX10_net_9 : decode cX10_net 9 = .ok (.aload_n 0, 1) := by decide +kernel
theorem dX10_net_10 : decode cX10_net 10 = .ok (.ldc 80, 2) := by decide +kernel
theorem dX10_net_12 : decode cX10_net 12 = .ok (.invokevirtual 81, 3) := by decide +kernel
theorem dX10_net_15 : decode cX10_net 15 = .ok (.ireturn, 1) := by decide +kernel
theorem dX10_net_16 : decode cX10_net 16 = .ok (.aload_n 0, 1) := by decide +kernel
theorem dX10_net_17 : decode cX10_net 17 = .ok (.invokevirtual 261, 3) := by decide +kernel
theorem dX10_net_20 : decode cX10_net 20 = .ok (.iconst 0, 1) := by decide +kernel
theorem dX10_net_21 : decode cX10_net 21 = .ok (.istore_n 2, 1) := by decide +kernel
theorem dX10_net_22 : decode cX10_net 22 = .ok (.iconst 0, 1) := by decide +kernel
theorem dX10_net_23 : decode cX10_net 23 = .ok (.istore_n 3, 1) := by decide +kernel
theorem dX10_net_24 : decode cX10_net 24 = .ok (.iconst 0, 1) := by decide +kernel
theorem dX10_net_25 : decode cX10_net 25 = .ok (.istore 4, 2) := by decide +kernel
theorem dX10_net_27 : decode cX10_net 27 = .ok (.iconst 0, 1) := by decide +kernel
theorem dX10_net_28 : decode cX10_net 28 = .ok (.istore 5, 2) := by decide +kernel
theorem dX10_net_30 : decode cX10_net 30 = .ok (.iconst 0, 1) := by decide +kernel
theorem dX10_net_31 : decode cX10_net 31 = .ok (.istore 6, 2) := by decide +kernel
theorem dX10_net_33 : decode cX10_net 33 = .ok (.iload 6, 2) := by decide +kernel
theorem dX10_net_35 : decode cX10_net 35 = .ok (.aload_n 0, 1) := by decide +kernel
theorem dX10_net_36 : decode cX10_net 36 = .ok (.getfield 9, 3) := by decide +kernel
theorem dX10_net_39 : decode cX10_net 39 = .ok (.iconst 0, 1) := by decide +kernel
theorem dX10_net_40 : decode cX10_net 40 = .ok (.iaload, 1) := by decide +kernel
theorem dX10_net_41 : decode cX10_net 41 = .ok (.if_icmp .ge 91, 3) := by decide +kernel
theorem dX10_net_44 : decode cX10_net 44 = .ok (.aload_n 0, 1) := by decide +kernel
theorem dX10_net_45 : decode cX10_net 45 = .ok (.iload 6, 2) := by decide +kernel
theorem dX10_net_47 : decode cX10_net 47 = .ok (.invokevirtual 92, 3) := by decide +kernel
theorem dX10_net_50 : decode cX10_net 50 = .ok (.istore 7, 2) := by decide +kernel
theorem dX10_net_52 : decode cX10_net 52 = .ok (.iload_n 2, 1) := by decide +kernel
theorem dX10_net_53 : decode cX10_net 53 = .ok (.aload_n 0, 1) := by decide +kernel
theorem dX10_net_54 : decode cX10_net 54 = .ok (.iload 6, 2) := by decide +kernel
theorem dX10_net_56 : decode cX10_net 56 = .ok (.invokevirtual 267, 3) := by decide +kernel
theorem dX10_net_59 : decode cX10_net 59 = .ok (.iconst 1, 1) := by decide +kernel
theorem dX10_net_60 : decode cX10_net 60 = .ok (.iload 6, 2) := by decide +kernel
theorem dX10_net_62 : decode cX10_net 62 = .ok (.ishl, 1) := by decide +kernel
theorem dX10_net_63 : decode cX10_net 63 = .ok (.iconst 1, 1) := by decide +kernel
theorem dX10_net_64 : decode cX10_net 64 = .ok (.isub, 1) := by decide +kernel
theorem dX10_net_65 : decode cX10_net 65 = .ok (.iand, 1) := by decide +kernel
theorem dX10_net_66 : decode cX10_net 66 = .ok (.ifCond .ne 7, 3) := by decide +kernel
theorem dX10_net_69 : decode cX10_net 69 = .ok (.iconst 1, 1) := by decide +kernel
theorem dX10_net_70 : decode cX10_net 70 = .ok (.goto 4, 3) := by decide +kernel
theorem dX10_net_73 : decode cX10_net 73 = .ok (.iconst 0, 1) := by decide +kernel
theorem dX10_net_74 : decode cX10_net 74 = .ok (.iadd, 1) := by decide +kernel
theorem dX10_net_75 : decode cX10_net 75 = .ok (.istore_n 2, 1) := by decide +kernel
theorem dX10_net_76 : decode cX10_net 76 = .ok (.iload_n 3, 1) := by decide +kernel
theorem dX10_net_77 : decode cX10_net 77 = .ok (.aload_n 0, 1) := by decide +kernel
theorem dX10_net_78 : decode cX10_net 78 = .ok (.iload 6, 2) := by decide +kernel
theorem dX10_net_80 : decode cX10_net 80 = .ok (.invokevirtual 264, 3) := by decide +kernel
theorem dX10_net_83 : decode cX10_net 83 = .ok (.invokestatic 115, 3) := by decide +kernel
theorem dX10_net_86 : decode cX10_net 86 = .ok (.iadd, 1) := by decide +kernel
theorem dX10_net_87 : decode cX10_net 87 = .ok (.istore_n 3, 1) := by decide +kernel
theorem dX10_net_88 : decode cX10_net 88 = .ok (.iload 4, 2) := by decide +kernel
theorem dX10_net_90 : decode cX10_net 90 = .ok (.iload 7, 2) := by decide +kernel
theorem dX10_net_92 : decode cX10_net 92 = .ok (.invokestatic 69, 3) := by decide +kernel
theorem dX10_net_95 : decode cX10_net 95 = .ok (.istore 4, 2) := by decide +kernel
theorem dX10_net_97 : decode cX10_net 97 = .ok (.iload 5, 2) := by decide +kernel
theorem dX10_net_99 : decode cX10_net 99 = .ok (.iload 7, 2) := by decide +kernel
theorem dX10_net_101 : decode cX10_net 101 = .ok (.ifCond .ne 21, 3) := by decide +kernel
theorem dX10_net_104 : decode cX10_net 104 = .ok (.aload_n 0, 1) := by decide +kernel
theorem dX10_net_105 : decode cX10_net 105 = .ok (.iload 6, 2) := by decide +kernel
theorem dX10_net_107 : decode cX10_net 107 = .ok (.iconst 3, 1) := by decide +kernel
theorem dX10_net_108 : decode cX10_net 108 = .ok (.invokevirtual 86, 3) := by decide +kernel
theorem dX10_net_111 : decode cX10_net 111 = .ok (.iconst 1, 1) := by decide +kernel
theorem dX10_net_112 : decode cX10_net 112 = .ok (.if_icmp .ne 10, 3) := by decide +kernel
theorem dX10_net_115 : decode cX10_net 115 = .ok (.iconst 1, 1) := by decide +kernel
theorem dX10_net_116 : decode cX10_net 116 = .ok (.iload 6, 2) := by decide +kernel
theorem dX10_net_118 : decode cX10_net 118 = .ok (.ishl, 1) := by decide +kernel
theorem dX10_net_119 : decode cX10_net 119 = .ok (.goto 4, 3) := by decide +kernel
theorem dX10_net_122 : decode cX10_net 122 = .ok (.iconst 0, 1) := by decide +kernel
theorem dX10_net_123 : decode cX10_net 123 = .ok (.ior, 1) := by decide +kernel
theorem dX10_net_124 : decode cX10_net 124 = .ok (.istore 5, 2) := by decide +kernel
theorem dX10_net_126 : decode cX10_net 126 = .ok (.iinc 6 1, 3) := by decide +kernel
theorem dX10_net_129 : decode cX10_net 129 = .ok (.goto (-96), 3) := by decide +kernel
theorem dX10_net_132 : decode cX10_net 132 = .ok (.iload_n 1, 1) := by decide +kernel
theorem dX10_net_133 : decode cX10_net 133 = .ok (.ifCond .ne 7, 3) := by decide +kernel
theorem dX10_net_136 : decode cX10_net 136 = .ok (.iload_n 2, 1) := by decide +kernel
theorem dX10_net_137 : decode cX10_net 137 = .ok (.goto 26, 3) := by decide +kernel
theorem dX10_net_140 : decode cX10_net 140 = .ok (.iload_n 1, 1) := by decide +kernel
theorem dX10_net_141 : decode cX10_net 141 = .ok (.iconst 1, 1) := by decide +kernel
theorem dX10_net_142 : decode cX10_net 142 = .ok (.if_icmp .ne 9, 3) := by decide +kernel
theorem dX10_net_145 : decode cX10_net 145 = .ok (.iload_n 3, 1) := by decide +kernel
theorem dX10_net_146 : decode cX10_net 146 = .ok (.iconst 2, 1) := by decide +kernel
theorem dX10_net_147 : decode cX10_net 147 = .ok (.idiv, 1) := by decide +kernel
theorem dX10_net_148 : decode cX10_net 148 = .ok (.goto 15, 3) := by decide +kernel
theorem dX10_net_151 : decode cX10_net 151 = .ok (.iload_n 1, 1) := by decide +kernel
theorem dX10_net_152 : decode cX10_net 152 = .ok (.iconst 2, 1) := by decide +kernel
theorem dX10_net_153 : decode cX10_net 153 = .ok (.if_icmp .ne 8, 3) := by decide +kernel
theorem dX10_net_156 : decode cX10_net 156 = .ok (.iload 4, 2) := by decide +kernel
theorem dX10_net_158 : decode cX10_net 158 = .ok (.goto 5, 3) := by decide +kernel
theorem dX10_net_161 : decode cX10_net 161 = .ok (.iload 5, 2) := by decide +kernel
theorem dX10_net_163 : decode cX10_net 163 = .ok (.ireturn, 1) := by decide +kernel
theorem dX10_isAhead_0 : decode cX10_isAhead 0 = .ok (.iload_n 0, 1) := by decide +kernel
theorem dX10_isAhead_1 : decode cX10_isAhead 1 = .ok (.iconst 0, 1) := by decide +kernel
theorem dX10_isAhead_2 : decode cX10_isAhead 2 = .ok (.bipush 60, 2) := by decide +kernel
theorem dX10_isAhead_4 : decode cX10_isAhead 4 = .ok (.invokestatic 72, 3) := by decide +kernel
theorem dX10_isAhead_7 : decode cX10_isAhead 7 = .ok (.ireturn, 1) := by decide +kernel
theorem dX10_then_0 : decode cX10_then 0 = .ok (.iload_n 1, 1) := by decide +kernel
theorem dX10_then_1 : decode cX10_then 1 = .ok (.invokestatic 270, 3) := by decide +kernel
theorem dX10_then_4 : decode cX10_then 4 = .ok (.ifCond .eq 22, 3) := by decide +kernel
theorem dX10_then_7 : decode cX10_then 7 = .ok (.aload_n 0, 1) := by decide +kernel
theorem dX10_then_8 : decode cX10_then 8 = .ok (.iload_n 2, 1) := by decide +kernel
theorem dX10_then_9 : decode cX10_then 9 = .ok (.iconst 0, 1) := by decide +kernel
theorem dX10_then_10 : decode cX10_then 10 = .ok (.invokevirtual 95, 3) := by decide +kernel
theorem dX10_then_13 : decode cX10_then 13 = .ok (.ifCond .eq 13, 3) := by decide +kernel
theorem dX10_then_16 : decode cX10_then 16 = .ok (.iload_n 3, 1) := by decide +kernel
theorem dX10_then_17 : decode cX10_then 17 = .ok (.iconst 0, 1) := by decide +kernel
theorem dX10_then_18 : decode cX10_then 18 = .ok (.bipush 7, 2) := by decide +kernel
theorem dX10_then_20 : decode cX10_then 20 = .ok (.invokestatic 72, 3) := by decide +kernel
theorem dX10_then_23 : decode cX10_then 23 = .ok (.ifCond .ne 10, 3) := by decide +kernel
theorem dX10_then_26 : decode cX10_then 26 = .ok (.aload_n 0, 1) := by decide +kernel
theorem dX10_then_27 : decode cX10_then 27 = .ok (.ldc 80, 2) := by decide +kernel
theorem dX10_then_29 : decode cX10_then 29 = .ok (.invokevirtual 81, 3) := by decide +kernel
theorem dX10_then_32 : decode cX10_then 32 = .ok (.ireturn, 1) := by decide +kernel
theorem dX10_then_33 : decode cX10_then 33 = .ok (.aload_n 0, 1) := by decide +kernel
theorem dX10_then_34 : decode cX10_then 34 = .ok (.getfield 9, 3) := by decide +kernel
theorem dX10_then_37 : decode cX10_then 37 = .ok (.aload_n 0, 1) := by decide +kernel
theorem dX10_then_38 : decode cX10_then 38 = .ok (.getfield 16, 3) := by decide +kernel
theorem dX10_then_41 : decode cX10_then 41 = .ok (.invokestatic 76, 3) := by decide +kernel
theorem dX10_then_44 : decode cX10_then 44 = .ok (.aload_n 0, 1) := by decide +kernel
theorem dX10_then_45 : decode cX10_then 45 = .ok (.iload_n 1, 1) := by decide +kernel
theorem dX10_then_46 : decode cX10_then 46 = .ok (.invokevirtual 249, 3) := by decide +kernel
theorem dX10_then_49 : decode cX10_then 49 = .ok (.aload_n 0, 1) := by decide +kernel
theorem dX10_then_50 : decode cX10_then 50 = .ok (.aload_n 0, 1) := by decide +kernel
theorem dX10_then_51 : decode cX10_then 51 = .ok (.iload_n 2, 1) := by decide +kernel
theorem dX10_then_52 : decode cX10_then 52 = .ok (.iload_n 3, 1) := by decide +kernel
theorem dX10_then_53 : decode cX10_then 53 = .ok (.invokevirtual 99, 3) := by decide +kernel
theorem dX10_then_56 : decode cX10_then 56 = .ok (.invokevirtual 273, 3) := by decide +kernel
theorem dX10_then_59 : decode cX10_then 59 = .ok (.ireturn, 1) := by decide +kernel
theorem dX10_sorrow_0 : decode cX10_sorrow 0 = .ok (.iload_n 1, 1) := by decide +kernel
theorem dX10_sorrow_1 : decode cX10_sorrow 1 = .ok (.invokestatic 270, 3) := by decide +kernel
theorem dX10_sorrow_4 : decode cX10_sorrow 4 = .ok (.ifCond .ne 10, 3) := by decide +kernel
theorem dX10_sorrow_7 : decode cX10_sorrow 7 = .ok (.aload_n 0, 1) := by decide +kernel
theorem dX10_sorrow_8 : decode cX10_sorrow 8 = .ok (.ldc 80, 2) := by decide +kernel
theorem dX10_sorrow_10 : decode cX10_sorrow 10 = .ok (.invokevirtual 81, 3) := by decide +kernel
theorem dX10_sorrow_13 : decode cX10_sorrow 13 = .ok (.ireturn, 1) := by decide +kernel
theorem dX10_sorrow_14 : decode cX10_sorrow 14 = .ok (.aload_n 0, 1) := by decide +kernel
theorem dX10_sorrow_15 : decode cX10_sorrow 15 = .ok (.getfield 9, 3) := by decide +kernel
theorem dX10_sorrow_18 : decode cX10_sorrow 18 = .ok (.aload_n 0, 1) := by decide +kernel
theorem dX10_sorrow_19 : decode cX10_sorrow 19 = .ok (.getfield 16, 3) := by decide +kernel
theorem dX10_sorrow_22 : decode cX10_sorrow 22 = .ok (.invokestatic 76, 3) := by decide +kernel
theorem dX10_sorrow_25 : decode cX10_sorrow 25 = .ok (.aload_n 0, 1) := by decide +kernel
theorem dX10_sorrow_26 : decode cX10_sorrow 26 = .ok (.iload_n 1, 1) := by decide +kernel
theorem dX10_sorrow_27 : decode cX10_sorrow 27 = .ok (.invokevirtual 249, 3) := by decide +kernel
theorem dX10_sorrow_30 : decode cX10_sorrow 30 = .ok (.aload_n 0, 1) := by decide +kernel
theorem dX10_sorrow_31 : decode cX10_sorrow 31 = .ok (.aload_n 0, 1) := by decide +kernel
theorem dX10_sorrow_32 : decode cX10_sorrow 32 = .ok (.invokevirtual 252, 3) := by decide +kernel
theorem dX10_sorrow_35 : decode cX10_sorrow 35 = .ok (.invokevirtual 273, 3) := by decide +kernel
theorem dX10_sorrow_38 : decode cX10_sorrow 38 = .ok (.ireturn, 1) := by decide +kernel
theorem dX10_word_0 : decode cX10_word 0 = .ok (.aload_n 0, 1) := by decide +kernel
theorem dX10_word_1 : decode cX10_word 1 = .ok (.iload_n 1, 1) := by decide +kernel
theorem dX10_word_2 : decode cX10_word 2 = .ok (.iconst 0, 1) := by decide +kernel
theorem dX10_word_3 : decode cX10_word 3 = .ok (.invokevirtual 95, 3) := by decide +kernel
theorem dX10_word_6 : decode cX10_word 6 = .ok (.ifCond .eq 10, 3) := by decide +kernel
theorem dX10_word_9 : decode cX10_word 9 = .ok (.iload_n 2, 1) := by decide +kernel
theorem dX10_word_10 : decode cX10_word 10 = .ok (.invokestatic 270, 3) := by decide +kernel
theorem dX10_word_13 : decode cX10_word 13 = .ok (.ifCond .ne 10, 3) := by decide +kernel
theorem dX10_word_16 : decode cX10_word 16 = .ok (.aload_n 0, 1) := by decide +kernel
theorem dX10_word_17 : decode cX10_word 17 = .ok (.ldc 80, 2) := by decide +kernel
theorem dX10_word_19 : decode cX10_word 19 = .ok (.invokevirtual 81, 3) := by decide +kernel
theorem dX10_word_22 : decode cX10_word 22 = .ok (.ireturn, 1) := by decide +kernel
theorem dX10_word_23 : decode cX10_word 23 = .ok (.aload_n 0, 1) := by decide +kernel
theorem dX10_word_24 : decode cX10_word 24 = .ok (.iload_n 1, 1) := by decide +kernel
theorem dX10_word_25 : decode cX10_word 25 = .ok (.iconst 4, 1) := by decide +kernel
theorem dX10_word_26 : decode cX10_word 26 = .ok (.invokevirtual 86, 3) := by decide +kernel
theorem dX10_word_29 : decode cX10_word 29 = .ok (.ifCond .lt 10, 3) := by decide +kernel
theorem dX10_word_32 : decode cX10_word 32 = .ok (.aload_n 0, 1) := by decide +kernel
theorem dX10_word_33 : decode cX10_word 33 = .ok (.ldc 122, 2) := by decide +kernel
theorem dX10_word_35 : decode cX10_word 35 = .ok (.invokevirtual 81, 3) := by decide +kernel
theorem dX10_word_38 : decode cX10_word 38 = .ok (.ireturn, 1) := by decide +kernel
theorem dX10_word_39 : decode cX10_word 39 = .ok (.aload_n 0, 1) := by decide +kernel
theorem dX10_word_40 : decode cX10_word 40 = .ok (.getfield 9, 3) := by decide +kernel
theorem dX10_word_43 : decode cX10_word 43 = .ok (.aload_n 0, 1) := by decide +kernel
theorem dX10_word_44 : decode cX10_word 44 = .ok (.getfield 16, 3) := by decide +kernel
theorem dX10_word_47 : decode cX10_word 47 = .ok (.invokestatic 76, 3) := by decide +kernel
theorem dX10_word_50 : decode cX10_word 50 = .ok (.iconst (-1), 1) := by decide +kernel
theorem dX10_word_51 : decode cX10_word 51 = .ok (.istore_n 3, 1) := by decide +kernel
theorem dX10_word_52 : decode cX10_word 52 = .ok (.iconst 0, 1) := by decide +kernel
theorem dX10_word_53 : decode cX10_word 53 = .ok (.istore 4, 2) := by decide +kernel
theorem dX10_word_55 : decode cX10_word 55 = .ok (.iconst 0, 1) := by decide +kernel
theorem dX10_word_56 : decode cX10_word 56 = .ok (.istore 5, 2) := by decide +kernel
theorem dX10_word_58 : decode cX10_word 58 = .ok (.iload 5, 2) := by decide +kernel
theorem dX10_word_60 : decode cX10_word 60 = .ok (.aload_n 0, 1) := by decide +kernel
theorem dX10_word_61 : decode cX10_word 61 = .ok (.getfield 9, 3) := by decide +kernel
theorem dX10_word_64 : decode cX10_word 64 = .ok (.iconst 0, 1) := by decide +kernel
theorem dX10_word_65 : decode cX10_word 65 = .ok (.iaload, 1) := by decide +kernel
theorem dX10_word_66 : decode cX10_word 66 = .ok (.if_icmp .ge 63, 3) := by decide +kernel
theorem dX10_word_69 : decode cX10_word 69 = .ok (.aload_n 0, 1) := by decide +kernel
theorem dX10_word_70 : decode cX10_word 70 = .ok (.iload 5, 2) := by decide +kernel
theorem dX10_word_72 : decode cX10_word 72 = .ok (.iconst 4, 1) := by decide +kernel
theorem dX10_word_73 : decode cX10_word 73 = .ok (.invokevirtual 86, 3) := by decide +kernel
theorem dX10_word_76 : decode cX10_word 76 = .ok (.istore 6, 2) := by decide +kernel
theorem dX10_word_78 : decode cX10_word 78 = .ok (.iload 6, 2) := by decide +kernel
theorem dX10_word_80 : decode cX10_word 80 = .ok (.ifCond .lt 43, 3) := by decide +kernel
theorem dX10_word_83 : decode cX10_word 83 = .ok (.aload_n 0, 1) := by decide +kernel
theorem dX10_word_84 : decode cX10_word 84 = .ok (.iload_n 1, 1) := by decide +kernel
theorem dX10_word_85 : decode cX10_word 85 = .ok (.iload 6, 2) := by decide +kernel
theorem dX10_word_87 : decode cX10_word 87 = .ok (.invokevirtual 123, 3) := by decide +kernel
theorem dX10_word_90 : decode cX10_word 90 = .ok (.aload_n 0, 1) := by decide +kernel
theorem dX10_word_91 : decode cX10_word 91 = .ok (.iload_n 2, 1) := by decide +kernel
theorem dX10_word_92 : decode cX10_word 92 = .ok (.invokevirtual 249, 3) := by decide +kernel
theorem dX10_word_95 : decode cX10_word 95 = .ok (.aload_n 0, 1) := by decide +kernel
theorem dX10_word_96 : decode cX10_word 96 = .ok (.aload_n 0, 1) := by decide +kernel
theorem dX10_word_97 : decode cX10_word 97 = .ok (.invokevirtual 252, 3) := by decide +kernel
theorem dX10_word_100 : decode cX10_word 100 = .ok (.invokevirtual 273, 3) := by decide +kernel
theorem dX10_word_103 : decode cX10_word 103 = .ok (.istore 7, 2) := by decide +kernel
theorem dX10_word_105 : decode cX10_word 105 = .ok (.iload_n 3, 1) := by decide +kernel
theorem dX10_word_106 : decode cX10_word 106 = .ok (.ifCond .lt 10, 3) := by decide +kernel
theorem dX10_word_109 : decode cX10_word 109 = .ok (.iload 7, 2) := by decide +kernel
theorem dX10_word_111 : decode cX10_word 111 = .ok (.iload 4, 2) := by decide +kernel
theorem dX10_word_113 : decode cX10_word 113 = .ok (.if_icmp .ge 10, 3) := by decide +kernel
theorem dX10_word_116 : decode cX10_word 116 = .ok (.iload 5, 2) := by decide +kernel
theorem dX10_word_118 : decode cX10_word 118 = .ok (.istore_n 3, 1) := by decide +kernel
theorem dX10_word_119 : decode cX10_word 119 = .ok (.iload 7, 2) := by decide +kernel
theorem dX10_word_121 : decode cX10_word 121 = .ok (.istore 4, 2) := by decide +kernel
theorem dX10_word_123 : decode cX10_word 123 = .ok (.iinc 5 1, 3) := by decide +kernel
theorem dX10_word_126 : decode cX10_word 126 = .ok (.goto (-68), 3) := by decide +kernel
theorem dX10_word_129 : decode cX10_word 129 = .ok (.iload_n 3, 1) := by decide +kernel
theorem dX10_word_130 : decode cX10_word 130 = .ok (.ifCond .ge 13, 3) := by decide +kernel
theorem dX10_word_133 : decode cX10_word 133 = .ok (.aload_n 0, 1) := by decide +kernel
theorem dX10_word_134 : decode cX10_word 134 = .ok (.ldc_w 276, 3) := by decide +kernel
theorem dX10_word_137 : decode cX10_word 137 = .ok (.invokevirtual 81, 3) := by decide +kernel
theorem dX10_word_140 : decode cX10_word 140 = .ok (.goto 4, 3) := by decide +kernel
theorem dX10_word_143 : decode cX10_word 143 = .ok (.iload_n 3, 1) := by decide +kernel
theorem dX10_word_144 : decode cX10_word 144 = .ok (.ireturn, 1) := by decide +kernel
theorem dX10_teach_0 : decode cX10_teach 0 = .ok (.aload_n 0, 1) := by decide +kernel
theorem dX10_teach_1 : decode cX10_teach 1 = .ok (.iload_n 1, 1) := by decide +kernel
theorem dX10_teach_2 : decode cX10_teach 2 = .ok (.iconst 0, 1) := by decide +kernel
theorem dX10_teach_3 : decode cX10_teach 3 = .ok (.invokevirtual 95, 3) := by decide +kernel
theorem dX10_teach_6 : decode cX10_teach 6 = .ok (.ifCond .eq 10, 3) := by decide +kernel
theorem dX10_teach_9 : decode cX10_teach 9 = .ok (.iload_n 2, 1) := by decide +kernel
theorem dX10_teach_10 : decode cX10_teach 10 = .ok (.invokestatic 270, 3) := by decide +kernel
theorem dX10_teach_13 : decode cX10_teach 13 = .ok (.ifCond .ne 10, 3) := by decide +kernel
theorem dX10_teach_16 : decode cX10_teach 16 = .ok (.aload_n 0, 1) := by decide +kernel
theorem dX10_teach_17 : decode cX10_teach 17 = .ok (.ldc 80, 2) := by decide +kernel
theorem dX10_teach_19 : decode cX10_teach 19 = .ok (.invokevirtual 81, 3) := by decide +kernel
theorem dX10_teach_22 : decode cX10_teach 22 = .ok (.ireturn, 1) := by decide +kernel
theorem dX10_teach_23 : decode cX10_teach 23 = .ok (.aload_n 0, 1) := by decide +kernel
theorem dX10_teach_24 : decode cX10_teach 24 = .ok (.getfield 9, 3) := by decide +kernel
theorem dX10_teach_27 : decode cX10_teach 27 = .ok (.aload_n 0, 1) := by decide +kernel
theorem dX10_teach_28 : decode cX10_teach 28 = .ok (.getfield 16, 3) := by decide +kernel
theorem dX10_teach_31 : decode cX10_teach 31 = .ok (.invokestatic 76, 3) := by decide +kernel
theorem dX10_teach_34 : decode cX10_teach 34 = .ok (.iconst (-1), 1) := by decide +kernel
theorem dX10_teach_35 : decode cX10_teach 35 = .ok (.istore_n 3, 1) := by decide +kernel
theorem dX10_teach_36 : decode cX10_teach 36 = .ok (.iconst 0, 1) := by decide +kernel
theorem dX10_teach_37 : decode cX10_teach 37 = .ok (.istore 4, 2) := by decide +kernel
theorem dX10_teach_39 : decode cX10_teach 39 = .ok (.iconst 0, 1) := by decide +kernel
theorem dX10_teach_40 : decode cX10_teach 40 = .ok (.istore 5, 2) := by decide +kernel
theorem dX10_teach_42 : decode cX10_teach 42 = .ok (.iload 5, 2) := by decide +kernel
theorem dX10_teach_44 : decode cX10_teach 44 = .ok (.bipush 6, 2) := by decide +kernel
theorem dX10_teach_46 : decode cX10_teach 46 = .ok (.if_icmp .gt 60, 3) := by decide +kernel
theorem dX10_teach_49 : decode cX10_teach 49 = .ok (.aload_n 0, 1) := by decide +kernel
theorem dX10_teach_50 : decode cX10_teach 50 = .ok (.getfield 9, 3) := by decide +kernel
theorem dX10_teach_53 : decode cX10_teach 53 = .ok (.bipush 7, 2) := by decide +kernel
theorem dX10_teach_55 : decode cX10_teach 55 = .ok (.bipush 6, 2) := by decide +kernel
theorem dX10_teach_57 : decode cX10_teach 57 = .ok (.iload_n 1, 1) := by decide +kernel
theorem dX10_teach_58 : decode cX10_teach 58 = .ok (.imul, 1) := by decide +kernel
theorem dX10_teach_59 : decode cX10_teach 59 = .ok (.iadd, 1) := by decide +kernel
theorem dX10_teach_60 : decode cX10_teach 60 = .ok (.iconst 0, 1) := by decide +kernel
theorem dX10_teach_61 : decode cX10_teach 61 = .ok (.iadd, 1) := by decide +kernel
theorem dX10_teach_62 : decode cX10_teach 62 = .ok (.iload 5, 2) := by decide +kernel
theorem dX10_teach_64 : decode cX10_teach 64 = .ok (.iastore, 1) := by decide +kernel
theorem dX10_teach_65 : decode cX10_teach 65 = .ok (.aload_n 0, 1) := by decide +kernel
theorem dX10_teach_66 : decode cX10_teach 66 = .ok (.iload_n 2, 1) := by decide +kernel
theorem dX10_teach_67 : decode cX10_teach 67 = .ok (.invokevirtual 249, 3) := by decide +kernel
theorem dX10_teach_70 : decode cX10_teach 70 = .ok (.aload_n 0, 1) := by decide +kernel
theorem dX10_teach_71 : decode cX10_teach 71 = .ok (.aload_n 0, 1) := by decide +kernel
theorem dX10_teach_72 : decode cX10_teach 72 = .ok (.iload_n 1, 1) := by decide +kernel
theorem dX10_teach_73 : decode cX10_teach 73 = .ok (.iconst 5, 1) := by decide +kernel
theorem dX10_teach_74 : decode cX10_teach 74 = .ok (.invokevirtual 86, 3) := by decide +kernel
theorem dX10_teach_77 : decode cX10_teach 77 = .ok (.invokevirtual 273, 3) := by decide +kernel
theorem dX10_teach_80 : decode cX10_teach 80 = .ok (.istore 6, 2) := by decide +kernel
theorem dX10_teach_82 : decode cX10_teach 82 = .ok (.iload_n 3, 1) := by decide +kernel
theorem dX10_teach_83 : decode cX10_teach 83 = .ok (.ifCond .lt 10, 3) := by decide +kernel
theorem dX10_teach_86 : decode cX10_teach 86 = .ok (.iload 6, 2) := by decide +kernel
theorem dX10_teach_88 : decode cX10_teach 88 = .ok (.iload 4, 2) := by decide +kernel
theorem dX10_teach_90 : decode cX10_teach 90 = .ok (.if_icmp .ge 10, 3) := by decide +kernel
theorem dX10_teach_93 : decode cX10_teach 93 = .ok (.iload 5, 2) := by decide +kernel
theorem dX10_teach_95 : decode cX10_teach 95 = .ok (.istore_n 3, 1) := by decide +kernel
theorem dX10_teach_96 : decode cX10_teach 96 = .ok (.iload 6, 2) := by decide +kernel
theorem dX10_teach_98 : decode cX10_teach 98 = .ok (.istore 4, 2) := by decide +kernel
theorem dX10_teach_100 : decode cX10_teach 100 = .ok (.iinc 5 1, 3) := by decide +kernel
theorem dX10_teach_103 : decode cX10_teach 103 = .ok (.goto (-61), 3) := by decide +kernel
theorem dX10_teach_106 : decode cX10_teach 106 = .ok (.iload_n 3, 1) := by decide +kernel
theorem dX10_teach_107 : decode cX10_teach 107 = .ok (.ireturn, 1) := by decide +kernel
theorem dX10_nobodyIn_0 : decode cX10_nobodyIn 0 = .ok (.iconst 0, 1) := by decide +kernel
theorem dX10_nobodyIn_1 : decode cX10_nobodyIn 1 = .ok (.istore_n 2, 1) := by decide +kernel
theorem dX10_nobodyIn_2 : decode cX10_nobodyIn 2 = .ok (.iconst 0, 1) := by decide +kernel
theorem dX10_nobodyIn_3 : decode cX10_nobodyIn 3 = .ok (.istore_n 3, 1) := by decide +kernel
theorem dX10_nobodyIn_4 : decode cX10_nobodyIn 4 = .ok (.iload_n 3, 1) := by decide +kernel
theorem dX10_nobodyIn_5 : decode cX10_nobodyIn 5 = .ok (.aload_n 0, 1) := by decide +kernel
theorem dX10_nobodyIn_6 : decode cX10_nobodyIn 6 = .ok (.getfield 9, 3) := by decide +kernel
theorem dX10_nobodyIn_9 : decode cX10_nobodyIn 9 = .ok (.iconst 0, 1) := by decide +kernel
theorem dX10_nobodyIn_10 : decode cX10_nobodyIn 10 = .ok (.iaload, 1) := by decide +kernel
theorem dX10_nobodyIn_11 : decode cX10_nobodyIn 11 = .ok (.if_icmp .ge 55, 3) := by decide +kernel
theorem dX10_nobodyIn_14 : decode cX10_nobodyIn 14 = .ok (.iload_n 1, 1) := by decide +kernel
theorem dX10_nobodyIn_15 : decode cX10_nobodyIn 15 = .ok (.iload_n 3, 1) := by decide +kernel
theorem dX10_nobodyIn_16 : decode cX10_nobodyIn 16 = .ok (.invokestatic 127, 3) := by decide +kernel
theorem dX10_nobodyIn_19 : decode cX10_nobodyIn 19 = .ok (.ifCond .eq 7, 3) := by decide +kernel
theorem dX10_nobodyIn_22 : decode cX10_nobodyIn 22 = .ok (.iload_n 1, 1) := by decide +kernel
theorem dX10_nobodyIn_23 : decode cX10_nobodyIn 23 = .ok (.goto 6, 3) := by decide +kernel
theorem dX10_nobodyIn_26 : decode cX10_nobodyIn 26 = .ok (.iload_n 1, 1) := by decide +kernel
theorem dX10_nobodyIn_27 : decode cX10_nobodyIn 27 = .ok (.iconst (-1), 1) := by decide +kernel
theorem dX10_nobodyIn_28 : decode cX10_nobodyIn 28 = .ok (.ixor, 1) := by decide +kernel
theorem dX10_nobodyIn_29 : decode cX10_nobodyIn 29 = .ok (.istore 4, 2) := by decide +kernel
theorem dX10_nobodyIn_31 : decode cX10_nobodyIn 31 = .ok (.iload_n 2, 1) := by decide +kernel
theorem dX10_nobodyIn_32 : decode cX10_nobodyIn 32 = .ok (.aload_n 0, 1) := by decide +kernel
theorem dX10_nobodyIn_33 : decode cX10_nobodyIn 33 = .ok (.iload_n 3, 1) := by decide +kernel
theorem dX10_nobodyIn_34 : decode cX10_nobodyIn 34 = .ok (.iconst 3, 1) := by decide +kernel
theorem dX10_nobodyIn_35 : decode cX10_nobodyIn 35 = .ok (.invokevirtual 86, 3) := by decide +kernel
theorem dX10_nobodyIn_38 : decode cX10_nobodyIn 38 = .ok (.iconst 1, 1) := by decide +kernel
theorem dX10_nobodyIn_39 : decode cX10_nobodyIn 39 = .ok (.if_icmp .ne 18, 3) := by decide +kernel
theorem dX10_nobodyIn_42 : decode cX10_nobodyIn 42 = .ok (.aload_n 0, 1) := by decide +kernel
theorem dX10_nobodyIn_43 : decode cX10_nobodyIn 43 = .ok (.iload_n 3, 1) := by decide +kernel
theorem dX10_nobodyIn_44 : decode cX10_nobodyIn 44 = .ok (.invokevirtual 264, 3) := by decide +kernel
theorem dX10_nobodyIn_47 : decode cX10_nobodyIn 47 = .ok (.iload 4, 2) := by decide +kernel
theorem dX10_nobodyIn_49 : decode cX10_nobodyIn 49 = .ok (.iand, 1) := by decide +kernel
theorem dX10_nobodyIn_50 : decode cX10_nobodyIn 50 = .ok (.ifCond .ne 7, 3) := by decide +kernel
theorem dX10_nobodyIn_53 : decode cX10_nobodyIn 53 = .ok (.iconst 1, 1) := by decide +kernel
theorem dX10_nobodyIn_54 : decode cX10_nobodyIn 54 = .ok (.goto 4, 3) := by decide +kernel
theorem dX10_nobodyIn_57 : decode cX10_nobodyIn 57 = .ok (.iconst 0, 1) := by decide +kernel
theorem dX10_nobodyIn_58 : decode cX10_nobodyIn 58 = .ok (.iadd, 1) := by decide +kernel
theorem dX10_nobodyIn_59 : decode cX10_nobodyIn 59 = .ok (.istore_n 2, 1) := by decide +kernel
theorem dX10_nobodyIn_60 : decode cX10_nobodyIn 60 = .ok (.iinc 3 1, 3) := by decide +kernel
theorem dX10_nobodyIn_63 : decode cX10_nobodyIn 63 = .ok (.goto (-59), 3) := by decide +kernel
theorem dX10_nobodyIn_66 : decode cX10_nobodyIn 66 = .ok (.iload_n 2, 1) := by decide +kernel
theorem dX10_nobodyIn_67 : decode cX10_nobodyIn 67 = .ok (.ireturn, 1) := by decide +kernel
theorem dX10_classes_0 : decode cX10_classes 0 = .ok (.iload_n 1, 1) := by decide +kernel
theorem dX10_classes_1 : decode cX10_classes 1 = .ok (.iconst 0, 1) := by decide +kernel
theorem dX10_classes_2 : decode cX10_classes 2 = .ok (.iconst 1, 1) := by decide +kernel
theorem dX10_classes_3 : decode cX10_classes 3 = .ok (.invokestatic 72, 3) := by decide +kernel
theorem dX10_classes_6 : decode cX10_classes 6 = .ok (.ifCond .ne 10, 3) := by decide +kernel
theorem dX10_classes_9 : decode cX10_classes 9 = .ok (.aload_n 0, 1) := by decide +kernel
theorem dX10_classes_10 : decode cX10_classes 10 = .ok (.ldc 80, 2) := by decide +kernel
theorem dX10_classes_12 : decode cX10_classes 12 = .ok (.invokevirtual 81, 3) := by decide +kernel
theorem dX10_classes_15 : decode cX10_classes 15 = .ok (.ireturn, 1) := by decide +kernel
theorem dX10_classes_16 : decode cX10_classes 16 = .ok (.aload_n 0, 1) := by decide +kernel
theorem dX10_classes_17 : decode cX10_classes 17 = .ok (.getfield 9, 3) := by decide +kernel
theorem dX10_classes_20 : decode cX10_classes 20 = .ok (.iconst 0, 1) := by decide +kernel
theorem dX10_classes_21 : decode cX10_classes 21 = .ok (.iaload, 1) := by decide +kernel
theorem dX10_classes_22 : decode cX10_classes 22 = .ok (.istore_n 2, 1) := by decide +kernel
theorem dX10_classes_23 : decode cX10_classes 23 = .ok (.iload_n 2, 1) := by decide +kernel
theorem dX10_classes_24 : decode cX10_classes 24 = .ok (.iconst 2, 1) := by decide +kernel
theorem dX10_classes_25 : decode cX10_classes 25 = .ok (.if_icmp .ge 11, 3) := by decide +kernel
theorem dX10_classes_28 : decode cX10_classes 28 = .ok (.aload_n 0, 1) := by decide +kernel
theorem dX10_classes_29 : decode cX10_classes 29 = .ok (.ldc_w 276, 3) := by decide +kernel
theorem dX10_classes_32 : decode cX10_classes 32 = .ok (.invokevirtual 81, 3) := by decide +kernel
theorem dX10_classes_35 : decode cX10_classes 35 = .ok (.ireturn, 1) := by decide +kernel
theorem dX10_classes_36 : decode cX10_classes 36 = .ok (.aload_n 0, 1) := by decide +kernel
theorem dX10_classes_37 : decode cX10_classes 37 = .ok (.invokevirtual 261, 3) := by decide +kernel
theorem dX10_classes_40 : decode cX10_classes 40 = .ok (.iconst (-1), 1) := by decide +kernel
theorem dX10_classes_41 : decode cX10_classes 41 = .ok (.istore_n 3, 1) := by decide +kernel
theorem dX10_classes_42 : decode cX10_classes 42 = .ok (.iconst 0, 1) := by decide +kernel
theorem dX10_classes_43 : decode cX10_classes 43 = .ok (.istore 4, 2) := by decide +kernel
theorem dX10_classes_45 : decode cX10_classes 45 = .ok (.iconst 0, 1) := by decide +kernel
theorem dX10_classes_46 : decode cX10_classes 46 = .ok (.istore 5, 2) := by decide +kernel
theorem dX10_classes_48 : decode cX10_classes 48 = .ok (.iload 5, 2) := by decide +kernel
theorem dX10_classes_50 : decode cX10_classes 50 = .ok (.iconst 1, 1) := by decide +kernel
theorem dX10_classes_51 : decode cX10_classes 51 = .ok (.iload_n 2, 1) := by decide +kernel
theorem dX10_classes_52 : decode cX10_classes 52 = .ok (.ishl, 1) := by decide +kernel
theorem dX10_classes_53 : decode cX10_classes 53 = .ok (.if_icmp .ge 81, 3) := by decide +kernel
theorem dX10_classes_56 : decode cX10_classes 56 = .ok (.iload 5, 2) := by decide +kernel
theorem dX10_classes_58 : decode cX10_classes 58 = .ok (.invokestatic 115, 3) := by decide +kernel
theorem dX10_classes_61 : decode cX10_classes 61 = .ok (.istore 6, 2) := by decide +kernel
theorem dX10_classes_63 : decode cX10_classes 63 = .ok (.iload 6, 2) := by decide +kernel
theorem dX10_classes_65 : decode cX10_classes 65 = .ok (.iload_n 2, 1) := by decide +kernel
theorem dX10_classes_66 : decode cX10_classes 66 = .ok (.iconst 2, 1) := by decide +kernel
theorem dX10_classes_67 : decode cX10_classes 67 = .ok (.idiv, 1) := by decide +kernel
theorem dX10_classes_68 : decode cX10_classes 68 = .ok (.if_icmp .lt 17, 3) := by decide +kernel
theorem dX10_classes_71 : decode cX10_classes 71 = .ok (.iload_n 2, 1) := by decide +kernel
theorem dX10_classes_72 : decode cX10_classes 72 = .ok (.iload 6, 2) := by decide +kernel
theorem dX10_classes_74 : decode cX10_classes 74 = .ok (.isub, 1) := by decide +kernel
theorem dX10_classes_75 : decode cX10_classes 75 = .ok (.iload_n 2, 1) := by decide +kernel
theorem dX10_classes_76 : decode cX10_classes 76 = .ok (.iconst 2, 1) := by decide +kernel
theorem dX10_classes_77 : decode cX10_classes 77 = .ok (.idiv, 1) := by decide +kernel
theorem dX10_classes_78 : decode cX10_classes 78 = .ok (.if_icmp .lt 7, 3) := by decide +kernel
theorem dX10_classes_81 : decode cX10_classes 81 = .ok (.iconst 1, 1) := by decide +kernel
theorem dX10_classes_82 : decode cX10_classes 82 = .ok (.goto 4, 3) := by decide +kernel
theorem dX10_classes_85 : decode cX10_classes 85 = .ok (.iconst 0, 1) := by decide +kernel
theorem dX10_classes_86 : decode cX10_classes 86 = .ok (.istore 7, 2) := by decide +kernel
theorem dX10_classes_88 : decode cX10_classes 88 = .ok (.iload 7, 2) := by decide +kernel
theorem dX10_classes_90 : decode cX10_classes 90 = .ok (.ifCond .eq 12, 3) := by decide +kernel
theorem dX10_classes_93 : decode cX10_classes 93 = .ok (.aload_n 0, 1) := by decide +kernel
theorem dX10_classes_94 : decode cX10_classes 94 = .ok (.iload 5, 2) := by decide +kernel
theorem dX10_classes_96 : decode cX10_classes 96 = .ok (.invokevirtual 277, 3) := by decide +kernel
theorem dX10_classes_99 : decode cX10_classes 99 = .ok (.goto 4, 3) := by decide +kernel
theorem dX10_classes_102 : decode cX10_classes 102 = .ok (.iconst 0, 1) := by decide +kernel
theorem dX10_classes_103 : decode cX10_classes 103 = .ok (.istore 8, 2) := by decide +kernel
theorem dX10_classes_105 : decode cX10_classes 105 = .ok (.iload 7, 2) := by decide +kernel
theorem dX10_classes_107 : decode cX10_classes 107 = .ok (.ifCond .eq 21, 3) := by decide +kernel
theorem dX10_classes_110 : decode cX10_classes 110 = .ok (.iload_n 3, 1) := by decide +kernel
theorem dX10_classes_111 : decode cX10_classes 111 = .ok (.ifCond .lt 10, 3) := by decide +kernel
theorem dX10_classes_114 : decode cX10_classes 114 = .ok (.iload 8, 2) := by decide +kernel
theorem dX10_classes_116 : decode cX10_classes 116 = .ok (.iload 4, 2) := by decide +kernel
theorem dX10_classes_118 : decode cX10_classes 118 = .ok (.if_icmp .ge 10, 3) := by decide +kernel
theorem dX10_classes_121 : decode cX10_classes 121 = .ok (.iload 5, 2) := by decide +kernel
theorem dX10_classes_123 : decode cX10_classes 123 = .ok (.istore_n 3, 1) := by decide +kernel
theorem dX10_classes_124 : decode cX10_classes 124 = .ok (.iload 8, 2) := by decide +kernel
theorem dX10_classes_126 : decode cX10_classes 126 = .ok (.istore 4, 2) := by decide +kernel
theorem dX10_classes_128 : decode cX10_classes 128 = .ok (.iinc 5 2, 3) := by decide +kernel
theorem dX10_classes_131 : decode cX10_classes 131 = .ok (.goto (-83), 3) := by decide +kernel
theorem dX10_classes_134 : decode cX10_classes 134 = .ok (.iload_n 1, 1) := by decide +kernel
theorem dX10_classes_135 : decode cX10_classes 135 = .ok (.ifCond .ne 7, 3) := by decide +kernel
theorem dX10_classes_138 : decode cX10_classes 138 = .ok (.iload_n 3, 1) := by decide +kernel
theorem dX10_classes_139 : decode cX10_classes 139 = .ok (.goto 5, 3) := by decide +kernel
theorem dX10_classes_142 : decode cX10_classes 142 = .ok (.iload 4, 2) := by decide +kernel
theorem dX10_classes_144 : decode cX10_classes 144 = .ok (.ireturn, 1) := by decide +kernel
theorem dX10_best_0 : decode cX10_best 0 = .ok (.aload_n 0, 1) := by decide +kernel
theorem dX10_best_1 : decode cX10_best 1 = .ok (.iload_n 1, 1) := by decide +kernel
theorem dX10_best_2 : decode cX10_best 2 = .ok (.iconst 0, 1) := by decide +kernel
theorem dX10_best_3 : decode cX10_best 3 = .ok (.invokevirtual 95, 3) := by decide +kernel
theorem dX10_best_6 : decode cX10_best 6 = .ok (.ifCond .ne 10, 3) := by decide +kernel
theorem dX10_best_9 : decode cX10_best 9 = .ok (.aload_n 0, 1) := by decide +kernel
theorem dX10_best_10 : decode cX10_best 10 = .ok (.ldc 80, 2) := by decide +kernel
theorem dX10_best_12 : decode cX10_best 12 = .ok (.invokevirtual 81, 3) := by decide +kernel
theorem dX10_best_15 : decode cX10_best 15 = .ok (.ireturn, 1) := by decide +kernel
theorem dX10_best_16 : decode cX10_best 16 = .ok (.aload_n 0, 1) := by decide +kernel
theorem dX10_best_17 : decode cX10_best 17 = .ok (.iload_n 1, 1) := by decide +kernel
theorem dX10_best_18 : decode cX10_best 18 = .ok (.invokevirtual 233, 3) := by decide +kernel
theorem dX10_best_21 : decode cX10_best 21 = .ok (.istore_n 2, 1) := by decide +kernel
theorem dX10_best_22 : decode cX10_best 22 = .ok (.iload_n 2, 1) := by decide +kernel
theorem dX10_best_23 : decode cX10_best 23 = .ok (.ifCond .ge 13, 3) := by decide +kernel
theorem dX10_best_26 : decode cX10_best 26 = .ok (.aload_n 0, 1) := by decide +kernel
theorem dX10_best_27 : decode cX10_best 27 = .ok (.ldc_w 276, 3) := by decide +kernel
theorem dX10_best_30 : decode cX10_best 30 = .ok (.invokevirtual 81, 3) := by decide +kernel
theorem dX10_best_33 : decode cX10_best 33 = .ok (.goto 4, 3) := by decide +kernel
theorem dX10_best_36 : decode cX10_best 36 = .ok (.iload_n 2, 1) := by decide +kernel
theorem dX10_best_37 : decode cX10_best 37 = .ok (.ireturn, 1) := by decide +kernel
theorem dX10_began_0 : decode cX10_began 0 = .ok (.aload_n 0, 1) := by decide +kernel
theorem dX10_began_1 : decode cX10_began 1 = .ok (.getfield 280, 3) := by decide +kernel
theorem dX10_began_4 : decode cX10_began 4 = .ok (.bipush 30, 2) := by decide +kernel
theorem dX10_began_6 : decode cX10_began 6 = .ok (.if_icmp .ge 23, 3) := by decide +kernel
theorem dX10_began_9 : decode cX10_began 9 = .ok (.aload_n 0, 1) := by decide +kernel
theorem dX10_began_10 : decode cX10_began 10 = .ok (.getfield 47, 3) := by decide +kernel
theorem dX10_began_13 : decode cX10_began 13 = .ok (.aload_n 0, 1) := by decide +kernel
theorem dX10_began_14 : decode cX10_began 14 = .ok (.getfield 280, 3) := by decide +kernel
theorem dX10_began_17 : decode cX10_began 17 = .ok (.iload_n 1, 1) := by decide +kernel
theorem dX10_began_18 : decode cX10_began 18 = .ok (.iastore, 1) := by decide +kernel
theorem dX10_began_19 : decode cX10_began 19 = .ok (.aload_n 0, 1) := by decide +kernel
theorem dX10_began_20 : decode cX10_began 20 = .ok (.dup, 1) := by decide +kernel
theorem dX10_began_21 : decode cX10_began 21 = .ok (.getfield 280, 3) := by decide +kernel
theorem dX10_began_24 : decode cX10_began 24 = .ok (.iconst 1, 1) := by decide +kernel
theorem dX10_began_25 : decode cX10_began 25 = .ok (.iadd, 1) := by decide +kernel
theorem dX10_began_26 : decode cX10_began 26 = .ok (.putfield 280, 3) := by decide +kernel
theorem dX10_began_29 : decode cX10_began 29 = .ok (.return_, 1) := by decide +kernel
theorem dX10_hasOwn_0 : decode cX10_hasOwn 0 = .ok (.iload_n 0, 1) := by decide +kernel
theorem dX10_hasOwn_1 : decode cX10_hasOwn 1 = .ok (.tableswitch 93 0 5 #[39, 41, 56, 67, 78, 56], 39) := by decide +kernel
theorem dX10_hasOwn_40 : decode cX10_hasOwn 40 = .ok (.iconst 1, 1) := by decide +kernel
theorem dX10_hasOwn_41 : decode cX10_hasOwn 41 = .ok (.ireturn, 1) := by decide +kernel
theorem dX10_hasOwn_42 : decode cX10_hasOwn 42 = .ok (.iload_n 1, 1) := by decide +kernel
theorem dX10_hasOwn_43 : decode cX10_hasOwn 43 = .ok (.ifCond .eq 8, 3) := by decide +kernel
theorem dX10_hasOwn_46 : decode cX10_hasOwn 46 = .ok (.iload_n 1, 1) := by decide +kernel
theorem dX10_hasOwn_47 : decode cX10_hasOwn 47 = .ok (.iconst 3, 1) := by decide +kernel
theorem dX10_hasOwn_48 : decode cX10_hasOwn 48 = .ok (.if_icmp .ne 7, 3) := by decide +kernel
theorem dX10_hasOwn_51 : decode cX10_hasOwn 51 = .ok (.iconst 1, 1) := by decide +kernel
theorem dX10_hasOwn_52 : decode cX10_hasOwn 52 = .ok (.goto 4, 3) := by decide +kernel
theorem dX10_hasOwn_55 : decode cX10_hasOwn 55 = .ok (.iconst 0, 1) := by decide +kernel
theorem dX10_hasOwn_56 : decode cX10_hasOwn 56 = .ok (.ireturn, 1) := by decide +kernel
theorem dX10_hasOwn_57 : decode cX10_hasOwn 57 = .ok (.iload_n 1, 1) := by decide +kernel
theorem dX10_hasOwn_58 : decode cX10_hasOwn 58 = .ok (.iconst 1, 1) := by decide +kernel
theorem dX10_hasOwn_59 : decode cX10_hasOwn 59 = .ok (.if_icmp .ne 7, 3) := by decide +kernel
theorem dX10_hasOwn_62 : decode cX10_hasOwn 62 = .ok (.iconst 1, 1) := by decide +kernel
theorem dX10_hasOwn_63 : decode cX10_hasOwn 63 = .ok (.goto 4, 3) := by decide +kernel
theorem dX10_hasOwn_66 : decode cX10_hasOwn 66 = .ok (.iconst 0, 1) := by decide +kernel
theorem dX10_hasOwn_67 : decode cX10_hasOwn 67 = .ok (.ireturn, 1) := by decide +kernel
theorem dX10_hasOwn_68 : decode cX10_hasOwn 68 = .ok (.iload_n 1, 1) := by decide +kernel
theorem dX10_hasOwn_69 : decode cX10_hasOwn 69 = .ok (.iconst 2, 1) := by decide +kernel
theorem dX10_hasOwn_70 : decode cX10_hasOwn 70 = .ok (.if_icmp .ne 7, 3) := by decide +kernel
theorem dX10_hasOwn_73 : decode cX10_hasOwn 73 = .ok (.iconst 1, 1) := by decide +kernel
theorem dX10_hasOwn_74 : decode cX10_hasOwn 74 = .ok (.goto 4, 3) := by decide +kernel
theorem dX10_hasOwn_77 : decode cX10_hasOwn 77 = .ok (.iconst 0, 1) := by decide +kernel
theorem dX10_hasOwn_78 : decode cX10_hasOwn 78 = .ok (.ireturn, 1) := by decide +kernel
theorem dX10_hasOwn_79 : decode cX10_hasOwn 79 = .ok (.iload_n 1, 1) := by decide +kernel
theorem dX10_hasOwn_80 : decode cX10_hasOwn 80 = .ok (.ifCond .eq 8, 3) := by decide +kernel
theorem dX10_hasOwn_83 : decode cX10_hasOwn 83 = .ok (.iload_n 1, 1) := by decide +kernel
theorem dX10_hasOwn_84 : decode cX10_hasOwn 84 = .ok (.iconst 2, 1) := by decide +kernel
theorem dX10_hasOwn_85 : decode cX10_hasOwn 85 = .ok (.if_icmp .ne 7, 3) := by decide +kernel
theorem dX10_hasOwn_88 : decode cX10_hasOwn 88 = .ok (.iconst 1, 1) := by decide +kernel
theorem dX10_hasOwn_89 : decode cX10_hasOwn 89 = .ok (.goto 4, 3) := by decide +kernel
theorem dX10_hasOwn_92 : decode cX10_hasOwn 92 = .ok (.iconst 0, 1) := by decide +kernel
theorem dX10_hasOwn_93 : decode cX10_hasOwn 93 = .ok (.ireturn, 1) := by decide +kernel
theorem dX10_hasOwn_94 : decode cX10_hasOwn 94 = .ok (.iload_n 1, 1) := by decide +kernel
theorem dX10_hasOwn_95 : decode cX10_hasOwn 95 = .ok (.iconst 2, 1) := by decide +kernel
theorem dX10_hasOwn_96 : decode cX10_hasOwn 96 = .ok (.if_icmp .ge 7, 3) := by decide +kernel
theorem dX10_hasOwn_99 : decode cX10_hasOwn 99 = .ok (.iconst 1, 1) := by decide +kernel
theorem dX10_hasOwn_100 : decode cX10_hasOwn 100 = .ok (.goto 4, 3) := by decide +kernel
theorem dX10_hasOwn_103 : decode cX10_hasOwn 103 = .ok (.iconst 0, 1) := by decide +kernel
end
section
theorem dX10_hasOwn_104 : decode cX10_hasOwn 104 = .ok (.ireturn, 1) := by decide +kernel
theorem dX10_voiced_0 : decode cX10_voiced 0 = .ok (.aload_n 0, 1) := by decide +kernel
theorem dX10_voiced_1 : decode cX10_voiced 1 = .ok (.aload_n 0, 1) := by decide +kernel
theorem dX10_voiced_2 : decode cX10_voiced 2 = .ok (.aload_n 0, 1) := by decide +kernel
theorem dX10_voiced_3 : decode cX10_voiced 3 = .ok (.getfield 283, 3) := by decide +kernel
theorem dX10_voiced_6 : decode cX10_voiced 6 = .ok (.iconst 0, 1) := by decide +kernel
theorem dX10_voiced_7 : decode cX10_voiced 7 = .ok (.invokevirtual 86, 3) := by decide +kernel
theorem dX10_voiced_10 : decode cX10_voiced 10 = .ok (.iload_n 1, 1) := by decide +kernel
theorem dX10_voiced_11 : decode cX10_voiced 11 = .ok (.iload_n 2, 1) := by decide +kernel
theorem dX10_voiced_12 : decode cX10_voiced 12 = .ok (.invokevirtual 286, 3) := by decide +kernel
theorem dX10_voiced_15 : decode cX10_voiced 15 = .ok (.ireturn, 1) := by decide +kernel
theorem dX10_bodyFrom_0 : decode cX10_bodyFrom 0 = .ok (.iload_n 1, 1) := by decide +kernel
theorem dX10_bodyFrom_1 : decode cX10_bodyFrom 1 = .ok (.istore 4, 2) := by decide +kernel
theorem dX10_bodyFrom_3 : decode cX10_bodyFrom 3 = .ok (.iload 4, 2) := by decide +kernel
theorem dX10_bodyFrom_5 : decode cX10_bodyFrom 5 = .ok (.iload_n 2, 1) := by decide +kernel
theorem dX10_bodyFrom_6 : decode cX10_bodyFrom 6 = .ok (.invokestatic 289, 3) := by decide +kernel
theorem dX10_bodyFrom_9 : decode cX10_bodyFrom 9 = .ok (.ifCond .ne 13, 3) := by decide +kernel
theorem dX10_bodyFrom_12 : decode cX10_bodyFrom 12 = .ok (.iload 4, 2) := by decide +kernel
theorem dX10_bodyFrom_14 : decode cX10_bodyFrom 14 = .ok (.invokestatic 102, 3) := by decide +kernel
theorem dX10_bodyFrom_17 : decode cX10_bodyFrom 17 = .ok (.istore 4, 2) := by decide +kernel
theorem dX10_bodyFrom_19 : decode cX10_bodyFrom 19 = .ok (.goto (-16), 3) := by decide +kernel
theorem dX10_bodyFrom_22 : decode cX10_bodyFrom 22 = .ok (.aload_n 0, 1) := by decide +kernel
theorem dX10_bodyFrom_23 : decode cX10_bodyFrom 23 = .ok (.getfield 292, 3) := by decide +kernel
theorem dX10_bodyFrom_26 : decode cX10_bodyFrom 26 = .ok (.ifCond .eq 7, 3) := by decide +kernel
theorem dX10_bodyFrom_29 : decode cX10_bodyFrom 29 = .ok (.iconst 0, 1) := by decide +kernel
theorem dX10_bodyFrom_30 : decode cX10_bodyFrom 30 = .ok (.goto 11, 3) := by decide +kernel
theorem dX10_bodyFrom_33 : decode cX10_bodyFrom 33 = .ok (.aload_n 0, 1) := by decide +kernel
theorem dX10_bodyFrom_34 : decode cX10_bodyFrom 34 = .ok (.iload 4, 2) := by decide +kernel
theorem dX10_bodyFrom_36 : decode cX10_bodyFrom 36 = .ok (.iload_n 2, 1) := by decide +kernel
theorem dX10_bodyFrom_37 : decode cX10_bodyFrom 37 = .ok (.iload_n 3, 1) := by decide +kernel
theorem dX10_bodyFrom_38 : decode cX10_bodyFrom 38 = .ok (.invokevirtual 295, 3) := by decide +kernel
theorem dX10_bodyFrom_41 : decode cX10_bodyFrom 41 = .ok (.ireturn, 1) := by decide +kernel
theorem dX10_body_0 : decode cX10_body 0 = .ok (.aload_n 0, 1) := by decide +kernel
theorem dX10_body_1 : decode cX10_body 1 = .ok (.aload_n 0, 1) := by decide +kernel
theorem dX10_body_2 : decode cX10_body 2 = .ok (.getfield 283, 3) := by decide +kernel
theorem dX10_body_5 : decode cX10_body 5 = .ok (.iconst 1, 1) := by decide +kernel
theorem dX10_body_6 : decode cX10_body 6 = .ok (.invokevirtual 86, 3) := by decide +kernel
theorem dX10_body_9 : decode cX10_body 9 = .ok (.istore 4, 2) := by decide +kernel
theorem dX10_body_11 : decode cX10_body 11 = .ok (.iconst 4, 1) := by decide +kernel
theorem dX10_body_12 : decode cX10_body 12 = .ok (.iload_n 1, 1) := by decide +kernel
theorem dX10_body_13 : decode cX10_body 13 = .ok (.imul, 1) := by decide +kernel
theorem dX10_body_14 : decode cX10_body 14 = .ok (.iload_n 2, 1) := by decide +kernel
theorem dX10_body_15 : decode cX10_body 15 = .ok (.iadd, 1) := by decide +kernel
theorem dX10_body_16 : decode cX10_body 16 = .ok (.tableswitch 337 0 24 #[116, 129, 144, 160, 205, 337, 337, 222, 337, 247, 337, 337, 337, 337, 262, 337, 278, 337, 294, 337, 337, 313, 337, 337, 329], 116) := by decide +kernel
theorem dX10_body_132 : decode cX10_body 132 = .ok (.aload_n 0, 1) := by decide +kernel
theorem dX10_body_133 : decode cX10_body 133 = .ok (.bipush 10, 2) := by decide +kernel
theorem dX10_body_135 : decode cX10_body 135 = .ok (.invokevirtual 298, 3) := by decide +kernel
theorem dX10_body_138 : decode cX10_body 138 = .ok (.iload_n 3, 1) := by decide +kernel
theorem dX10_body_139 : decode cX10_body 139 = .ok (.aload_n 0, 1) := by decide +kernel
theorem dX10_body_140 : decode cX10_body 140 = .ok (.getfield 283, 3) := by decide +kernel
theorem dX10_body_143 : decode cX10_body 143 = .ok (.iadd, 1) := by decide +kernel
theorem dX10_body_144 : decode cX10_body 144 = .ok (.ireturn, 1) := by decide +kernel
theorem dX10_body_145 : decode cX10_body 145 = .ok (.aload_n 0, 1) := by decide +kernel
theorem dX10_body_146 : decode cX10_body 146 = .ok (.bipush 11, 2) := by decide +kernel
theorem dX10_body_148 : decode cX10_body 148 = .ok (.invokevirtual 298, 3) := by decide +kernel
theorem dX10_body_151 : decode cX10_body 151 = .ok (.aload_n 0, 1) := by decide +kernel
theorem dX10_body_152 : decode cX10_body 152 = .ok (.iconst 0, 1) := by decide +kernel
theorem dX10_body_153 : decode cX10_body 153 = .ok (.iload_n 3, 1) := by decide +kernel
theorem dX10_body_154 : decode cX10_body 154 = .ok (.invokevirtual 301, 3) := by decide +kernel
theorem dX10_body_157 : decode cX10_body 157 = .ok (.iconst 2, 1) := by decide +kernel
theorem dX10_body_158 : decode cX10_body 158 = .ok (.imul, 1) := by decide +kernel
theorem dX10_body_159 : decode cX10_body 159 = .ok (.ireturn, 1) := by decide +kernel
theorem dX10_body_160 : decode cX10_body 160 = .ok (.aload_n 0, 1) := by decide +kernel
theorem dX10_body_161 : decode cX10_body 161 = .ok (.bipush 12, 2) := by decide +kernel
theorem dX10_body_163 : decode cX10_body 163 = .ok (.invokevirtual 298, 3) := by decide +kernel
theorem dX10_body_166 : decode cX10_body 166 = .ok (.aload_n 0, 1) := by decide +kernel
theorem dX10_body_167 : decode cX10_body 167 = .ok (.iconst 1, 1) := by decide +kernel
theorem dX10_body_168 : decode cX10_body 168 = .ok (.iload_n 3, 1) := by decide +kernel
theorem dX10_body_169 : decode cX10_body 169 = .ok (.invokevirtual 301, 3) := by decide +kernel
theorem dX10_body_172 : decode cX10_body 172 = .ok (.iload 4, 2) := by decide +kernel
theorem dX10_body_174 : decode cX10_body 174 = .ok (.isub, 1) := by decide +kernel
theorem dX10_body_175 : decode cX10_body 175 = .ok (.ireturn, 1) := by decide +kernel
theorem dX10_body_176 : decode cX10_body 176 = .ok (.aload_n 0, 1) := by decide +kernel
theorem dX10_body_177 : decode cX10_body 177 = .ok (.bipush 13, 2) := by decide +kernel
theorem dX10_body_179 : decode cX10_body 179 = .ok (.invokevirtual 298, 3) := by decide +kernel
theorem dX10_body_182 : decode cX10_body 182 = .ok (.aload_n 0, 1) := by decide +kernel
theorem dX10_body_183 : decode cX10_body 183 = .ok (.iload 4, 2) := by decide +kernel
theorem dX10_body_185 : decode cX10_body 185 = .ok (.aload_n 0, 1) := by decide +kernel
theorem dX10_body_186 : decode cX10_body 186 = .ok (.getfield 283, 3) := by decide +kernel
theorem dX10_body_189 : decode cX10_body 189 = .ok (.if_icmp .ne 7, 3) := by decide +kernel
theorem dX10_body_192 : decode cX10_body 192 = .ok (.iconst 1, 1) := by decide +kernel
theorem dX10_body_193 : decode cX10_body 193 = .ok (.goto 4, 3) := by decide +kernel
theorem dX10_body_196 : decode cX10_body 196 = .ok (.iconst 0, 1) := by decide +kernel
theorem dX10_body_197 : decode cX10_body 197 = .ok (.putfield 292, 3) := by decide +kernel
theorem dX10_body_200 : decode cX10_body 200 = .ok (.aload_n 0, 1) := by decide +kernel
theorem dX10_body_201 : decode cX10_body 201 = .ok (.getfield 292, 3) := by decide +kernel
theorem dX10_body_204 : decode cX10_body 204 = .ok (.ifCond .eq 7, 3) := by decide +kernel
theorem dX10_body_207 : decode cX10_body 207 = .ok (.iconst 0, 1) := by decide +kernel
theorem dX10_body_208 : decode cX10_body 208 = .ok (.goto 12, 3) := by decide +kernel
theorem dX10_body_211 : decode cX10_body 211 = .ok (.iload_n 3, 1) := by decide +kernel
theorem dX10_body_212 : decode cX10_body 212 = .ok (.iload 4, 2) := by decide +kernel
theorem dX10_body_214 : decode cX10_body 214 = .ok (.aload_n 0, 1) := by decide +kernel
theorem dX10_body_215 : decode cX10_body 215 = .ok (.getfield 283, 3) := by decide +kernel
theorem dX10_body_218 : decode cX10_body 218 = .ok (.isub, 1) := by decide +kernel
theorem dX10_body_219 : decode cX10_body 219 = .ok (.idiv, 1) := by decide +kernel
theorem dX10_body_220 : decode cX10_body 220 = .ok (.ireturn, 1) := by decide +kernel
theorem dX10_body_221 : decode cX10_body 221 = .ok (.aload_n 0, 1) := by decide +kernel
theorem dX10_body_222 : decode cX10_body 222 = .ok (.bipush 20, 2) := by decide +kernel
theorem dX10_body_224 : decode cX10_body 224 = .ok (.invokevirtual 298, 3) := by decide +kernel
theorem dX10_body_227 : decode cX10_body 227 = .ok (.aload_n 0, 1) := by decide +kernel
theorem dX10_body_228 : decode cX10_body 228 = .ok (.iconst 0, 1) := by decide +kernel
theorem dX10_body_229 : decode cX10_body 229 = .ok (.iconst 0, 1) := by decide +kernel
theorem dX10_body_230 : decode cX10_body 230 = .ok (.iload_n 3, 1) := by decide +kernel
theorem dX10_body_231 : decode cX10_body 231 = .ok (.invokevirtual 286, 3) := by decide +kernel
theorem dX10_body_234 : decode cX10_body 234 = .ok (.bipush 6, 2) := by decide +kernel
theorem dX10_body_236 : decode cX10_body 236 = .ok (.isub, 1) := by decide +kernel
theorem dX10_body_237 : decode cX10_body 237 = .ok (.ireturn, 1) := by decide +kernel
theorem dX10_body_238 : decode cX10_body 238 = .ok (.aload_n 0, 1) := by decide +kernel
theorem dX10_body_239 : decode cX10_body 239 = .ok (.bipush 21, 2) := by decide +kernel
theorem dX10_body_241 : decode cX10_body 241 = .ok (.invokevirtual 298, 3) := by decide +kernel
theorem dX10_body_244 : decode cX10_body 244 = .ok (.aload_n 0, 1) := by decide +kernel
theorem dX10_body_245 : decode cX10_body 245 = .ok (.iconst 0, 1) := by decide +kernel
theorem dX10_body_246 : decode cX10_body 246 = .ok (.iconst 3, 1) := by decide +kernel
theorem dX10_body_247 : decode cX10_body 247 = .ok (.iload_n 3, 1) := by decide +kernel
theorem dX10_body_248 : decode cX10_body 248 = .ok (.invokevirtual 286, 3) := by decide +kernel
theorem dX10_body_251 : decode cX10_body 251 = .ok (.istore 5, 2) := by decide +kernel
theorem dX10_body_253 : decode cX10_body 253 = .ok (.iload 5, 2) := by decide +kernel
theorem dX10_body_255 : decode cX10_body 255 = .ok (.aload_n 0, 1) := by decide +kernel
theorem dX10_body_256 : decode cX10_body 256 = .ok (.iconst 1, 1) := by decide +kernel
theorem dX10_body_257 : decode cX10_body 257 = .ok (.iconst 1, 1) := by decide +kernel
theorem dX10_body_258 : decode cX10_body 258 = .ok (.invokevirtual 301, 3) := by decide +kernel
theorem dX10_body_261 : decode cX10_body 261 = .ok (.iadd, 1) := by decide +kernel
theorem dX10_body_262 : decode cX10_body 262 = .ok (.ireturn, 1) := by decide +kernel
theorem dX10_body_263 : decode cX10_body 263 = .ok (.aload_n 0, 1) := by decide +kernel
theorem dX10_body_264 : decode cX10_body 264 = .ok (.bipush 30, 2) := by decide +kernel
theorem dX10_body_266 : decode cX10_body 266 = .ok (.invokevirtual 298, 3) := by decide +kernel
theorem dX10_body_269 : decode cX10_body 269 = .ok (.aload_n 0, 1) := by decide +kernel
theorem dX10_body_270 : decode cX10_body 270 = .ok (.iconst 0, 1) := by decide +kernel
theorem dX10_body_271 : decode cX10_body 271 = .ok (.iconst 1, 1) := by decide +kernel
theorem dX10_body_272 : decode cX10_body 272 = .ok (.iload_n 3, 1) := by decide +kernel
theorem dX10_body_273 : decode cX10_body 273 = .ok (.invokevirtual 286, 3) := by decide +kernel
theorem dX10_body_276 : decode cX10_body 276 = .ok (.ineg, 1) := by decide +kernel
theorem dX10_body_277 : decode cX10_body 277 = .ok (.ireturn, 1) := by decide +kernel
theorem dX10_body_278 : decode cX10_body 278 = .ok (.aload_n 0, 1) := by decide +kernel
theorem dX10_body_279 : decode cX10_body 279 = .ok (.bipush 40, 2) := by decide +kernel
theorem dX10_body_281 : decode cX10_body 281 = .ok (.invokevirtual 298, 3) := by decide +kernel
theorem dX10_body_284 : decode cX10_body 284 = .ok (.aload_n 0, 1) := by decide +kernel
theorem dX10_body_285 : decode cX10_body 285 = .ok (.iconst 0, 1) := by decide +kernel
theorem dX10_body_286 : decode cX10_body 286 = .ok (.iconst 2, 1) := by decide +kernel
theorem dX10_body_287 : decode cX10_body 287 = .ok (.iload_n 3, 1) := by decide +kernel
theorem dX10_body_288 : decode cX10_body 288 = .ok (.iconst 2, 1) := by decide +kernel
theorem dX10_body_289 : decode cX10_body 289 = .ok (.idiv, 1) := by decide +kernel
theorem dX10_body_290 : decode cX10_body 290 = .ok (.invokevirtual 286, 3) := by decide +kernel
theorem dX10_body_293 : decode cX10_body 293 = .ok (.ireturn, 1) := by decide +kernel
theorem dX10_body_294 : decode cX10_body 294 = .ok (.aload_n 0, 1) := by decide +kernel
theorem dX10_body_295 : decode cX10_body 295 = .ok (.bipush 50, 2) := by decide +kernel
theorem dX10_body_297 : decode cX10_body 297 = .ok (.invokevirtual 298, 3) := by decide +kernel
theorem dX10_body_300 : decode cX10_body 300 = .ok (.aload_n 0, 1) := by decide +kernel
theorem dX10_body_301 : decode cX10_body 301 = .ok (.iconst 1, 1) := by decide +kernel
theorem dX10_body_302 : decode cX10_body 302 = .ok (.iconst 0, 1) := by decide +kernel
theorem dX10_body_303 : decode cX10_body 303 = .ok (.iload_n 3, 1) := by decide +kernel
theorem dX10_body_304 : decode cX10_body 304 = .ok (.invokevirtual 286, 3) := by decide +kernel
theorem dX10_body_307 : decode cX10_body 307 = .ok (.iconst 3, 1) := by decide +kernel
theorem dX10_body_308 : decode cX10_body 308 = .ok (.imul, 1) := by decide +kernel
theorem dX10_body_309 : decode cX10_body 309 = .ok (.ireturn, 1) := by decide +kernel
theorem dX10_body_310 : decode cX10_body 310 = .ok (.aload_n 0, 1) := by decide +kernel
theorem dX10_body_311 : decode cX10_body 311 = .ok (.bipush 51, 2) := by decide +kernel
theorem dX10_body_313 : decode cX10_body 313 = .ok (.invokevirtual 298, 3) := by decide +kernel
theorem dX10_body_316 : decode cX10_body 316 = .ok (.aload_n 0, 1) := by decide +kernel
theorem dX10_body_317 : decode cX10_body 317 = .ok (.iconst 1, 1) := by decide +kernel
theorem dX10_body_318 : decode cX10_body 318 = .ok (.iconst 2, 1) := by decide +kernel
theorem dX10_body_319 : decode cX10_body 319 = .ok (.iload_n 3, 1) := by decide +kernel
theorem dX10_body_320 : decode cX10_body 320 = .ok (.invokevirtual 286, 3) := by decide +kernel
theorem dX10_body_323 : decode cX10_body 323 = .ok (.aload_n 0, 1) := by decide +kernel
theorem dX10_body_324 : decode cX10_body 324 = .ok (.getfield 283, 3) := by decide +kernel
theorem dX10_body_327 : decode cX10_body 327 = .ok (.ixor, 1) := by decide +kernel
theorem dX10_body_328 : decode cX10_body 328 = .ok (.ireturn, 1) := by decide +kernel
theorem dX10_body_329 : decode cX10_body 329 = .ok (.aload_n 0, 1) := by decide +kernel
theorem dX10_body_330 : decode cX10_body 330 = .ok (.bipush 60, 2) := by decide +kernel
theorem dX10_body_332 : decode cX10_body 332 = .ok (.invokevirtual 298, 3) := by decide +kernel
theorem dX10_body_335 : decode cX10_body 335 = .ok (.aload_n 0, 1) := by decide +kernel
theorem dX10_body_336 : decode cX10_body 336 = .ok (.iconst 2, 1) := by decide +kernel
theorem dX10_body_337 : decode cX10_body 337 = .ok (.iconst 1, 1) := by decide +kernel
theorem dX10_body_338 : decode cX10_body 338 = .ok (.iload_n 3, 1) := by decide +kernel
theorem dX10_body_339 : decode cX10_body 339 = .ok (.iconst 1, 1) := by decide +kernel
theorem dX10_body_340 : decode cX10_body 340 = .ok (.iadd, 1) := by decide +kernel
theorem dX10_body_341 : decode cX10_body 341 = .ok (.invokevirtual 286, 3) := by decide +kernel
theorem dX10_body_344 : decode cX10_body 344 = .ok (.ireturn, 1) := by decide +kernel
theorem dX10_body_345 : decode cX10_body 345 = .ok (.aload_n 0, 1) := by decide +kernel
theorem dX10_body_346 : decode cX10_body 346 = .ok (.bipush 70, 2) := by decide +kernel
theorem dX10_body_348 : decode cX10_body 348 = .ok (.invokevirtual 298, 3) := by decide +kernel
theorem dX10_body_351 : decode cX10_body 351 = .ok (.iconst 5, 1) := by decide +kernel
theorem dX10_body_352 : decode cX10_body 352 = .ok (.ireturn, 1) := by decide +kernel
theorem dX10_body_353 : decode cX10_body 353 = .ok (.aload_n 0, 1) := by decide +kernel
theorem dX10_body_354 : decode cX10_body 354 = .ok (.bipush 71, 2) := by decide +kernel
theorem dX10_body_356 : decode cX10_body 356 = .ok (.invokevirtual 298, 3) := by decide +kernel
theorem dX10_body_359 : decode cX10_body 359 = .ok (.aload_n 0, 1) := by decide +kernel
theorem dX10_body_360 : decode cX10_body 360 = .ok (.iconst 0, 1) := by decide +kernel
theorem dX10_body_361 : decode cX10_body 361 = .ok (.iconst 1, 1) := by decide +kernel
theorem dX10_body_362 : decode cX10_body 362 = .ok (.iload_n 3, 1) := by decide +kernel
theorem dX10_body_363 : decode cX10_body 363 = .ok (.invokevirtual 286, 3) := by decide +kernel
theorem dX10_body_366 : decode cX10_body 366 = .ok (.iload 4, 2) := by decide +kernel
theorem dX10_body_368 : decode cX10_body 368 = .ok (.iadd, 1) := by decide +kernel
theorem dX10_body_369 : decode cX10_body 369 = .ok (.ireturn, 1) := by decide +kernel
theorem dX10_voice_0 : decode cX10_voice 0 = .ok (.aload_n 0, 1) := by decide +kernel
theorem dX10_voice_1 : decode cX10_voice 1 = .ok (.iload_n 1, 1) := by decide +kernel
theorem dX10_voice_2 : decode cX10_voice 2 = .ok (.iconst 0, 1) := by decide +kernel
theorem dX10_voice_3 : decode cX10_voice 3 = .ok (.invokevirtual 95, 3) := by decide +kernel
theorem dX10_voice_6 : decode cX10_voice 6 = .ok (.ifCond .eq 12, 3) := by decide +kernel
theorem dX10_voice_9 : decode cX10_voice 9 = .ok (.iload_n 2, 1) := by decide +kernel
theorem dX10_voice_10 : decode cX10_voice 10 = .ok (.iconst 0, 1) := by decide +kernel
theorem dX10_voice_11 : decode cX10_voice 11 = .ok (.iconst 3, 1) := by decide +kernel
theorem dX10_voice_12 : decode cX10_voice 12 = .ok (.invokestatic 72, 3) := by decide +kernel
theorem dX10_voice_15 : decode cX10_voice 15 = .ok (.ifCond .ne 10, 3) := by decide +kernel
theorem dX10_voice_18 : decode cX10_voice 18 = .ok (.aload_n 0, 1) := by decide +kernel
theorem dX10_voice_19 : decode cX10_voice 19 = .ok (.ldc 80, 2) := by decide +kernel
theorem dX10_voice_21 : decode cX10_voice 21 = .ok (.invokevirtual 81, 3) := by decide +kernel
theorem dX10_voice_24 : decode cX10_voice 24 = .ok (.ireturn, 1) := by decide +kernel
theorem dX10_voice_25 : decode cX10_voice 25 = .ok (.aload_n 0, 1) := by decide +kernel
theorem dX10_voice_26 : decode cX10_voice 26 = .ok (.iconst 0, 1) := by decide +kernel
theorem dX10_voice_27 : decode cX10_voice 27 = .ok (.putfield 280, 3) := by decide +kernel
theorem dX10_voice_30 : decode cX10_voice 30 = .ok (.aload_n 0, 1) := by decide +kernel
theorem dX10_voice_31 : decode cX10_voice 31 = .ok (.iload_n 1, 1) := by decide +kernel
theorem dX10_voice_32 : decode cX10_voice 32 = .ok (.putfield 283, 3) := by decide +kernel
theorem dX10_voice_35 : decode cX10_voice 35 = .ok (.aload_n 0, 1) := by decide +kernel
theorem dX10_voice_36 : decode cX10_voice 36 = .ok (.iconst 0, 1) := by decide +kernel
theorem dX10_voice_37 : decode cX10_voice 37 = .ok (.putfield 292, 3) := by decide +kernel
theorem dX10_voice_40 : decode cX10_voice 40 = .ok (.aload_n 0, 1) := by decide +kernel
theorem dX10_voice_41 : decode cX10_voice 41 = .ok (.iload_n 2, 1) := by decide +kernel
theorem dX10_voice_42 : decode cX10_voice 42 = .ok (.iload_n 3, 1) := by decide +kernel
theorem dX10_voice_43 : decode cX10_voice 43 = .ok (.invokevirtual 301, 3) := by decide +kernel
theorem dX10_voice_46 : decode cX10_voice 46 = .ok (.istore 4, 2) := by decide +kernel
theorem dX10_voice_48 : decode cX10_voice 48 = .ok (.aload_n 0, 1) := by decide +kernel
theorem dX10_voice_49 : decode cX10_voice 49 = .ok (.getfield 292, 3) := by decide +kernel
theorem dX10_voice_52 : decode cX10_voice 52 = .ok (.ifCond .eq 13, 3) := by decide +kernel
theorem dX10_voice_55 : decode cX10_voice 55 = .ok (.aload_n 0, 1) := by decide +kernel
theorem dX10_voice_56 : decode cX10_voice 56 = .ok (.ldc_w 304, 3) := by decide +kernel
theorem dX10_voice_59 : decode cX10_voice 59 = .ok (.invokevirtual 81, 3) := by decide +kernel
theorem dX10_voice_62 : decode cX10_voice 62 = .ok (.goto 5, 3) := by decide +kernel
theorem dX10_voice_65 : decode cX10_voice 65 = .ok (.iload 4, 2) := by decide +kernel
theorem dX10_voice_67 : decode cX10_voice 67 = .ok (.ireturn, 1) := by decide +kernel
theorem dX10_body__0 : decode cX10_body_ 0 = .ok (.iload_n 1, 1) := by decide +kernel
theorem dX10_body__1 : decode cX10_body_ 1 = .ok (.iconst 0, 1) := by decide +kernel
theorem dX10_body__2 : decode cX10_body_ 2 = .ok (.aload_n 0, 1) := by decide +kernel
theorem dX10_body__3 : decode cX10_body_ 3 = .ok (.getfield 280, 3) := by decide +kernel
theorem dX10_body__6 : decode cX10_body_ 6 = .ok (.iconst 1, 1) := by decide +kernel
theorem dX10_body__7 : decode cX10_body_ 7 = .ok (.isub, 1) := by decide +kernel
theorem dX10_body__8 : decode cX10_body_ 8 = .ok (.invokestatic 72, 3) := by decide +kernel
theorem dX10_body__11 : decode cX10_body_ 11 = .ok (.ifCond .eq 12, 3) := by decide +kernel
theorem dX10_body__14 : decode cX10_body_ 14 = .ok (.aload_n 0, 1) := by decide +kernel
theorem dX10_body__15 : decode cX10_body_ 15 = .ok (.getfield 47, 3) := by decide +kernel
theorem dX10_body__18 : decode cX10_body_ 18 = .ok (.iload_n 1, 1) := by decide +kernel
theorem dX10_body__19 : decode cX10_body_ 19 = .ok (.iaload, 1) := by decide +kernel
theorem dX10_body__20 : decode cX10_body_ 20 = .ok (.goto 10, 3) := by decide +kernel
theorem dX10_body__23 : decode cX10_body_ 23 = .ok (.aload_n 0, 1) := by decide +kernel
theorem dX10_body__24 : decode cX10_body_ 24 = .ok (.ldc_w 276, 3) := by decide +kernel
theorem dX10_body__27 : decode cX10_body_ 27 = .ok (.invokevirtual 81, 3) := by decide +kernel
theorem dX10_body__30 : decode cX10_body_ 30 = .ok (.ireturn, 1) := by decide +kernel
theorem dX10_isSheet_0 : decode cX10_isSheet 0 = .ok (.iload_n 0, 1) := by decide +kernel
theorem dX10_isSheet_1 : decode cX10_isSheet 1 = .ok (.iconst 0, 1) := by decide +kernel
theorem dX10_isSheet_2 : decode cX10_isSheet 2 = .ok (.iconst 3, 1) := by decide +kernel
theorem dX10_isSheet_3 : decode cX10_isSheet 3 = .ok (.invokestatic 72, 3) := by decide +kernel
theorem dX10_isSheet_6 : decode cX10_isSheet 6 = .ok (.ireturn, 1) := by decide +kernel
theorem dX10_sheet_0 : decode cX10_sheet 0 = .ok (.iload_n 1, 1) := by decide +kernel
theorem dX10_sheet_1 : decode cX10_sheet 1 = .ok (.invokestatic 305, 3) := by decide +kernel
theorem dX10_sheet_4 : decode cX10_sheet 4 = .ok (.ifCond .eq 25, 3) := by decide +kernel
theorem dX10_sheet_7 : decode cX10_sheet 7 = .ok (.iload_n 2, 1) := by decide +kernel
theorem dX10_sheet_8 : decode cX10_sheet 8 = .ok (.ifCond .eq 28, 3) := by decide +kernel
theorem dX10_sheet_11 : decode cX10_sheet 11 = .ok (.iload_n 2, 1) := by decide +kernel
theorem dX10_sheet_12 : decode cX10_sheet 12 = .ok (.bipush 8, 2) := by decide +kernel
theorem dX10_sheet_14 : decode cX10_sheet 14 = .ok (.if_icmp .eq 22, 3) := by decide +kernel
theorem dX10_sheet_17 : decode cX10_sheet 17 = .ok (.iload_n 2, 1) := by decide +kernel
theorem dX10_sheet_18 : decode cX10_sheet 18 = .ok (.bipush 16, 2) := by decide +kernel
theorem dX10_sheet_20 : decode cX10_sheet 20 = .ok (.if_icmp .eq 16, 3) := by decide +kernel
theorem dX10_sheet_23 : decode cX10_sheet 23 = .ok (.iload_n 2, 1) := by decide +kernel
theorem dX10_sheet_24 : decode cX10_sheet 24 = .ok (.bipush 32, 2) := by decide +kernel
theorem dX10_sheet_26 : decode cX10_sheet 26 = .ok (.if_icmp .eq 10, 3) := by decide +kernel
theorem dX10_sheet_29 : decode cX10_sheet 29 = .ok (.aload_n 0, 1) := by decide +kernel
theorem dX10_sheet_30 : decode cX10_sheet 30 = .ok (.ldc 80, 2) := by decide +kernel
theorem dX10_sheet_32 : decode cX10_sheet 32 = .ok (.invokevirtual 81, 3) := by decide +kernel
theorem dX10_sheet_35 : decode cX10_sheet 35 = .ok (.ireturn, 1) := by decide +kernel
theorem dX10_sheet_36 : decode cX10_sheet 36 = .ok (.iload_n 2, 1) := by decide +kernel
theorem dX10_sheet_37 : decode cX10_sheet 37 = .ok (.ifCond .eq 14, 3) := by decide +kernel
theorem dX10_sheet_40 : decode cX10_sheet 40 = .ok (.iload_n 3, 1) := by decide +kernel
theorem dX10_sheet_41 : decode cX10_sheet 41 = .ok (.ifCond .ge 10, 3) := by decide +kernel
theorem dX10_sheet_44 : decode cX10_sheet 44 = .ok (.aload_n 0, 1) := by decide +kernel
theorem dX10_sheet_45 : decode cX10_sheet 45 = .ok (.ldc 122, 2) := by decide +kernel
theorem dX10_sheet_47 : decode cX10_sheet 47 = .ok (.invokevirtual 81, 3) := by decide +kernel
theorem dX10_sheet_50 : decode cX10_sheet 50 = .ok (.ireturn, 1) := by decide +kernel
theorem dX10_sheet_51 : decode cX10_sheet 51 = .ok (.iload_n 2, 1) := by decide +kernel
theorem dX10_sheet_52 : decode cX10_sheet 52 = .ok (.ifCond .eq 16, 3) := by decide +kernel
theorem dX10_sheet_55 : decode cX10_sheet 55 = .ok (.iload_n 3, 1) := by decide +kernel
theorem dX10_sheet_56 : decode cX10_sheet 56 = .ok (.bipush 24, 2) := by decide +kernel
theorem dX10_sheet_58 : decode cX10_sheet 58 = .ok (.if_icmp .le 10, 3) := by decide +kernel
theorem dX10_sheet_61 : decode cX10_sheet 61 = .ok (.aload_n 0, 1) := by decide +kernel
theorem dX10_sheet_62 : decode cX10_sheet 62 = .ok (.ldc 80, 2) := by decide +kernel
theorem dX10_sheet_64 : decode cX10_sheet 64 = .ok (.invokevirtual 81, 3) := by decide +kernel
theorem dX10_sheet_67 : decode cX10_sheet 67 = .ok (.ireturn, 1) := by decide +kernel
theorem dX10_sheet_68 : decode cX10_sheet 68 = .ok (.aload_n 0, 1) := by decide +kernel
theorem dX10_sheet_69 : decode cX10_sheet 69 = .ok (.getfield 50, 3) := by decide +kernel
theorem dX10_sheet_72 : decode cX10_sheet 72 = .ok (.iload_n 1, 1) := by decide +kernel
theorem dX10_sheet_73 : decode cX10_sheet 73 = .ok (.iload_n 2, 1) := by decide +kernel
theorem dX10_sheet_74 : decode cX10_sheet 74 = .ok (.iastore, 1) := by decide +kernel
theorem dX10_sheet_75 : decode cX10_sheet 75 = .ok (.aload_n 0, 1) := by decide +kernel
theorem dX10_sheet_76 : decode cX10_sheet 76 = .ok (.getfield 53, 3) := by decide +kernel
theorem dX10_sheet_79 : decode cX10_sheet 79 = .ok (.iload_n 1, 1) := by decide +kernel
theorem dX10_sheet_80 : decode cX10_sheet 80 = .ok (.iload_n 2, 1) := by decide +kernel
theorem dX10_sheet_81 : decode cX10_sheet 81 = .ok (.ifCond .ne 7, 3) := by decide +kernel
theorem dX10_sheet_84 : decode cX10_sheet 84 = .ok (.iconst 0, 1) := by decide +kernel
theorem dX10_sheet_85 : decode cX10_sheet 85 = .ok (.goto 4, 3) := by decide +kernel
theorem dX10_sheet_88 : decode cX10_sheet 88 = .ok (.iload_n 3, 1) := by decide +kernel
theorem dX10_sheet_89 : decode cX10_sheet 89 = .ok (.iastore, 1) := by decide +kernel
theorem dX10_sheet_90 : decode cX10_sheet 90 = .ok (.iconst 0, 1) := by decide +kernel
theorem dX10_sheet_91 : decode cX10_sheet 91 = .ok (.istore 4, 2) := by decide +kernel
theorem dX10_sheet_93 : decode cX10_sheet 93 = .ok (.iload 4, 2) := by decide +kernel
theorem dX10_sheet_95 : decode cX10_sheet 95 = .ok (.bipush 24, 2) := by decide +kernel
theorem dX10_sheet_97 : decode cX10_sheet 97 = .ok (.if_icmp .ge 22, 3) := by decide +kernel
theorem dX10_sheet_100 : decode cX10_sheet 100 = .ok (.aload_n 0, 1) := by decide +kernel
theorem dX10_sheet_101 : decode cX10_sheet 101 = .ok (.getfield 56, 3) := by decide +kernel
theorem dX10_sheet_104 : decode cX10_sheet 104 = .ok (.bipush 24, 2) := by decide +kernel
theorem dX10_sheet_106 : decode cX10_sheet 106 = .ok (.iload_n 1, 1) := by decide +kernel
theorem dX10_sheet_107 : decode cX10_sheet 107 = .ok (.imul, 1) := by decide +kernel
theorem dX10_sheet_108 : decode cX10_sheet 108 = .ok (.iload 4, 2) := by decide +kernel
theorem dX10_sheet_110 : decode cX10_sheet 110 = .ok (.iadd, 1) := by decide +kernel
theorem dX10_sheet_111 : decode cX10_sheet 111 = .ok (.iconst 0, 1) := by decide +kernel
theorem dX10_sheet_112 : decode cX10_sheet 112 = .ok (.iastore, 1) := by decide +kernel
theorem dX10_sheet_113 : decode cX10_sheet 113 = .ok (.iinc 4 1, 3) := by decide +kernel
theorem dX10_sheet_116 : decode cX10_sheet 116 = .ok (.goto (-23), 3) := by decide +kernel
theorem dX10_sheet_119 : decode cX10_sheet 119 = .ok (.iconst 1, 1) := by decide +kernel
theorem dX10_sheet_120 : decode cX10_sheet 120 = .ok (.ireturn, 1) := by decide +kernel
theorem dX10_put_0 : decode cX10_put 0 = .ok (.iload_n 1, 1) := by decide +kernel
theorem dX10_put_1 : decode cX10_put 1 = .ok (.invokestatic 305, 3) := by decide +kernel
theorem dX10_put_4 : decode cX10_put 4 = .ok (.ifCond .ne 10, 3) := by decide +kernel
theorem dX10_put_7 : decode cX10_put 7 = .ok (.aload_n 0, 1) := by decide +kernel
theorem dX10_put_8 : decode cX10_put 8 = .ok (.ldc 80, 2) := by decide +kernel
theorem dX10_put_10 : decode cX10_put 10 = .ok (.invokevirtual 81, 3) := by decide +kernel
theorem dX10_put_13 : decode cX10_put 13 = .ok (.ireturn, 1) := by decide +kernel
theorem dX10_put_14 : decode cX10_put 14 = .ok (.aload_n 0, 1) := by decide +kernel
theorem dX10_put_15 : decode cX10_put 15 = .ok (.getfield 50, 3) := by decide +kernel
theorem dX10_put_18 : decode cX10_put 18 = .ok (.iload_n 1, 1) := by decide +kernel
theorem dX10_put_19 : decode cX10_put 19 = .ok (.iaload, 1) := by decide +kernel
theorem dX10_put_20 : decode cX10_put 20 = .ok (.ifCond .ne 11, 3) := by decide +kernel
theorem dX10_put_23 : decode cX10_put 23 = .ok (.aload_n 0, 1) := by decide +kernel
theorem dX10_put_24 : decode cX10_put 24 = .ok (.ldc_w 276, 3) := by decide +kernel
theorem dX10_put_27 : decode cX10_put 27 = .ok (.invokevirtual 81, 3) := by decide +kernel
theorem dX10_put_30 : decode cX10_put 30 = .ok (.ireturn, 1) := by decide +kernel
theorem dX10_put_31 : decode cX10_put 31 = .ok (.iload_n 2, 1) := by decide +kernel
theorem dX10_put_32 : decode cX10_put 32 = .ok (.iconst 0, 1) := by decide +kernel
theorem dX10_put_33 : decode cX10_put 33 = .ok (.aload_n 0, 1) := by decide +kernel
theorem dX10_put_34 : decode cX10_put 34 = .ok (.getfield 53, 3) := by decide +kernel
theorem dX10_put_37 : decode cX10_put 37 = .ok (.iload_n 1, 1) := by decide +kernel
theorem dX10_put_38 : decode cX10_put 38 = .ok (.iaload, 1) := by decide +kernel
theorem dX10_put_39 : decode cX10_put 39 = .ok (.iconst 1, 1) := by decide +kernel
theorem dX10_put_40 : decode cX10_put 40 = .ok (.isub, 1) := by decide +kernel
theorem dX10_put_41 : decode cX10_put 41 = .ok (.invokestatic 72, 3) := by decide +kernel
theorem dX10_put_44 : decode cX10_put 44 = .ok (.ifCond .ne 10, 3) := by decide +kernel
theorem dX10_put_47 : decode cX10_put 47 = .ok (.aload_n 0, 1) := by decide +kernel
theorem dX10_put_48 : decode cX10_put 48 = .ok (.ldc 80, 2) := by decide +kernel
theorem dX10_put_50 : decode cX10_put 50 = .ok (.invokevirtual 81, 3) := by decide +kernel
theorem dX10_put_53 : decode cX10_put 53 = .ok (.ireturn, 1) := by decide +kernel
theorem dX10_put_54 : decode cX10_put 54 = .ok (.aload_n 0, 1) := by decide +kernel
theorem dX10_put_55 : decode cX10_put 55 = .ok (.getfield 56, 3) := by decide +kernel
theorem dX10_put_58 : decode cX10_put 58 = .ok (.bipush 24, 2) := by decide +kernel
theorem dX10_put_60 : decode cX10_put 60 = .ok (.iload_n 1, 1) := by decide +kernel
theorem dX10_put_61 : decode cX10_put 61 = .ok (.imul, 1) := by decide +kernel
theorem dX10_put_62 : decode cX10_put 62 = .ok (.iload_n 2, 1) := by decide +kernel
theorem dX10_put_63 : decode cX10_put 63 = .ok (.iadd, 1) := by decide +kernel
theorem dX10_put_64 : decode cX10_put 64 = .ok (.aload_n 0, 1) := by decide +kernel
theorem dX10_put_65 : decode cX10_put 65 = .ok (.getfield 50, 3) := by decide +kernel
theorem dX10_put_68 : decode cX10_put 68 = .ok (.iload_n 1, 1) := by decide +kernel
theorem dX10_put_69 : decode cX10_put 69 = .ok (.iaload, 1) := by decide +kernel
theorem dX10_put_70 : decode cX10_put 70 = .ok (.bipush 8, 2) := by decide +kernel
theorem dX10_put_72 : decode cX10_put 72 = .ok (.if_icmp .ne 8, 3) := by decide +kernel
theorem dX10_put_75 : decode cX10_put 75 = .ok (.iload_n 3, 1) := by decide +kernel
theorem dX10_put_76 : decode cX10_put 76 = .ok (.i2b, 1) := by decide +kernel
theorem dX10_put_77 : decode cX10_put 77 = .ok (.goto 20, 3) := by decide +kernel
theorem dX10_put_80 : decode cX10_put 80 = .ok (.aload_n 0, 1) := by decide +kernel
theorem dX10_put_81 : decode cX10_put 81 = .ok (.getfield 50, 3) := by decide +kernel
theorem dX10_put_84 : decode cX10_put 84 = .ok (.iload_n 1, 1) := by decide +kernel
theorem dX10_put_85 : decode cX10_put 85 = .ok (.iaload, 1) := by decide +kernel
theorem dX10_put_86 : decode cX10_put 86 = .ok (.bipush 16, 2) := by decide +kernel
theorem dX10_put_88 : decode cX10_put 88 = .ok (.if_icmp .ne 8, 3) := by decide +kernel
theorem dX10_put_91 : decode cX10_put 91 = .ok (.iload_n 3, 1) := by decide +kernel
theorem dX10_put_92 : decode cX10_put 92 = .ok (.i2s, 1) := by decide +kernel
theorem dX10_put_93 : decode cX10_put 93 = .ok (.goto 4, 3) := by decide +kernel
theorem dX10_put_96 : decode cX10_put 96 = .ok (.iload_n 3, 1) := by decide +kernel
theorem dX10_put_97 : decode cX10_put 97 = .ok (.iastore, 1) := by decide +kernel
theorem dX10_put_98 : decode cX10_put 98 = .ok (.iconst 1, 1) := by decide +kernel
theorem dX10_put_99 : decode cX10_put 99 = .ok (.ireturn, 1) := by decide +kernel
theorem dX10_move_0 : decode cX10_move 0 = .ok (.iload_n 1, 1) := by decide +kernel
theorem dX10_move_1 : decode cX10_move 1 = .ok (.invokestatic 305, 3) := by decide +kernel
theorem dX10_move_4 : decode cX10_move 4 = .ok (.ifCond .eq 10, 3) := by decide +kernel
theorem dX10_move_7 : decode cX10_move 7 = .ok (.iload_n 3, 1) := by decide +kernel
theorem dX10_move_8 : decode cX10_move 8 = .ok (.invokestatic 305, 3) := by decide +kernel
theorem dX10_move_11 : decode cX10_move 11 = .ok (.ifCond .ne 10, 3) := by decide +kernel
theorem dX10_move_14 : decode cX10_move 14 = .ok (.aload_n 0, 1) := by decide +kernel
theorem dX10_move_15 : decode cX10_move 15 = .ok (.ldc 80, 2) := by decide +kernel
theorem dX10_move_17 : decode cX10_move 17 = .ok (.invokevirtual 81, 3) := by decide +kernel
theorem dX10_move_20 : decode cX10_move 20 = .ok (.ireturn, 1) := by decide +kernel
theorem dX10_move_21 : decode cX10_move 21 = .ok (.aload_n 0, 1) := by decide +kernel
theorem dX10_move_22 : decode cX10_move 22 = .ok (.getfield 50, 3) := by decide +kernel
theorem dX10_move_25 : decode cX10_move 25 = .ok (.iload_n 1, 1) := by decide +kernel
theorem dX10_move_26 : decode cX10_move 26 = .ok (.iaload, 1) := by decide +kernel
theorem dX10_move_27 : decode cX10_move 27 = .ok (.ifCond .eq 12, 3) := by decide +kernel
theorem dX10_move_30 : decode cX10_move 30 = .ok (.aload_n 0, 1) := by decide +kernel
theorem dX10_move_31 : decode cX10_move 31 = .ok (.getfield 50, 3) := by decide +kernel
theorem dX10_move_34 : decode cX10_move 34 = .ok (.iload_n 3, 1) := by decide +kernel
theorem dX10_move_35 : decode cX10_move 35 = .ok (.iaload, 1) := by decide +kernel
theorem dX10_move_36 : decode cX10_move 36 = .ok (.ifCond .ne 11, 3) := by decide +kernel
theorem dX10_move_39 : decode cX10_move 39 = .ok (.aload_n 0, 1) := by decide +kernel
theorem dX10_move_40 : decode cX10_move 40 = .ok (.ldc_w 276, 3) := by decide +kernel
theorem dX10_move_43 : decode cX10_move 43 = .ok (.invokevirtual 81, 3) := by decide +kernel
theorem dX10_move_46 : decode cX10_move 46 = .ok (.ireturn, 1) := by decide +kernel
theorem dX10_move_47 : decode cX10_move 47 = .ok (.aload_n 0, 1) := by decide +kernel
theorem dX10_move_48 : decode cX10_move 48 = .ok (.getfield 50, 3) := by decide +kernel
theorem dX10_move_51 : decode cX10_move 51 = .ok (.iload_n 1, 1) := by decide +kernel
theorem dX10_move_52 : decode cX10_move 52 = .ok (.iaload, 1) := by decide +kernel
theorem dX10_move_53 : decode cX10_move 53 = .ok (.aload_n 0, 1) := by decide +kernel
theorem dX10_move_54 : decode cX10_move 54 = .ok (.getfield 50, 3) := by decide +kernel
theorem dX10_move_57 : decode cX10_move 57 = .ok (.iload_n 3, 1) := by decide +kernel
theorem dX10_move_58 : decode cX10_move 58 = .ok (.iaload, 1) := by decide +kernel
theorem dX10_move_59 : decode cX10_move 59 = .ok (.if_icmp .eq 10, 3) := by decide +kernel
theorem dX10_move_62 : decode cX10_move 62 = .ok (.aload_n 0, 1) := by decide +kernel
theorem dX10_move_63 : decode cX10_move 63 = .ok (.ldc 105, 2) := by decide +kernel
theorem dX10_move_65 : decode cX10_move 65 = .ok (.invokevirtual 81, 3) := by decide +kernel
theorem dX10_move_68 : decode cX10_move 68 = .ok (.ireturn, 1) := by decide +kernel
theorem dX10_move_69 : decode cX10_move 69 = .ok (.iload 5, 2) := by decide +kernel
theorem dX10_move_71 : decode cX10_move 71 = .ok (.ifCond .lt 47, 3) := by decide +kernel
theorem dX10_move_74 : decode cX10_move 74 = .ok (.iload_n 2, 1) := by decide +kernel
theorem dX10_move_75 : decode cX10_move 75 = .ok (.ifCond .lt 43, 3) := by decide +kernel
theorem dX10_move_78 : decode cX10_move 78 = .ok (.iload 4, 2) := by decide +kernel
theorem dX10_move_80 : decode cX10_move 80 = .ok (.ifCond .lt 38, 3) := by decide +kernel
theorem dX10_move_83 : decode cX10_move 83 = .ok (.iload_n 2, 1) := by decide +kernel
theorem dX10_move_84 : decode cX10_move 84 = .ok (.i2l, 1) := by decide +kernel
theorem dX10_move_85 : decode cX10_move 85 = .ok (.iload 5, 2) := by decide +kernel
theorem dX10_move_87 : decode cX10_move 87 = .ok (.i2l, 1) := by decide +kernel
theorem dX10_move_88 : decode cX10_move 88 = .ok (.ladd, 1) := by decide +kernel
theorem dX10_move_89 : decode cX10_move 89 = .ok (.aload_n 0, 1) := by decide +kernel
theorem dX10_move_90 : decode cX10_move 90 = .ok (.getfield 53, 3) := by decide +kernel
theorem dX10_move_93 : decode cX10_move 93 = .ok (.iload_n 1, 1) := by decide +kernel
theorem dX10_move_94 : decode cX10_move 94 = .ok (.iaload, 1) := by decide +kernel
theorem dX10_move_95 : decode cX10_move 95 = .ok (.i2l, 1) := by decide +kernel
theorem dX10_move_96 : decode cX10_move 96 = .ok (.lcmp, 1) := by decide +kernel
theorem dX10_move_97 : decode cX10_move 97 = .ok (.ifCond .gt 21, 3) := by decide +kernel
theorem dX10_move_100 : decode cX10_move 100 = .ok (.iload 4, 2) := by decide +kernel
theorem dX10_move_102 : decode cX10_move 102 = .ok (.i2l, 1) := by decide +kernel
theorem dX10_move_103 : decode cX10_move 103 = .ok (.iload 5, 2) := by decide +kernel
theorem dX10_move_105 : decode cX10_move 105 = .ok (.i2l, 1) := by decide +kernel
theorem dX10_move_106 : decode cX10_move 106 = .ok (.ladd, 1) := by decide +kernel
theorem dX10_move_107 : decode cX10_move 107 = .ok (.aload_n 0, 1) := by decide +kernel
theorem dX10_move_108 : decode cX10_move 108 = .ok (.getfield 53, 3) := by decide +kernel
theorem dX10_move_111 : decode cX10_move 111 = .ok (.iload_n 3, 1) := by decide +kernel
theorem dX10_move_112 : decode cX10_move 112 = .ok (.iaload, 1) := by decide +kernel
theorem dX10_move_113 : decode cX10_move 113 = .ok (.i2l, 1) := by decide +kernel
theorem dX10_move_114 : decode cX10_move 114 = .ok (.lcmp, 1) := by decide +kernel
theorem dX10_move_115 : decode cX10_move 115 = .ok (.ifCond .le 10, 3) := by decide +kernel
theorem dX10_move_118 : decode cX10_move 118 = .ok (.aload_n 0, 1) := by decide +kernel
theorem dX10_move_119 : decode cX10_move 119 = .ok (.ldc 80, 2) := by decide +kernel
theorem dX10_move_121 : decode cX10_move 121 = .ok (.invokevirtual 81, 3) := by decide +kernel
theorem dX10_move_124 : decode cX10_move 124 = .ok (.ireturn, 1) := by decide +kernel
theorem dX10_move_125 : decode cX10_move 125 = .ok (.iconst 0, 1) := by decide +kernel
theorem dX10_move_126 : decode cX10_move 126 = .ok (.istore 6, 2) := by decide +kernel
theorem dX10_move_128 : decode cX10_move 128 = .ok (.iload 6, 2) := by decide +kernel
theorem dX10_move_130 : decode cX10_move 130 = .ok (.iload 5, 2) := by decide +kernel
theorem dX10_move_132 : decode cX10_move 132 = .ok (.if_icmp .ge 30, 3) := by decide +kernel
theorem dX10_move_135 : decode cX10_move 135 = .ok (.aload_n 0, 1) := by decide +kernel
theorem dX10_move_136 : decode cX10_move 136 = .ok (.getfield 59, 3) := by decide +kernel
theorem dX10_move_139 : decode cX10_move 139 = .ok (.iload 6, 2) := by decide +kernel
theorem dX10_move_141 : decode cX10_move 141 = .ok (.aload_n 0, 1) := by decide +kernel
theorem dX10_move_142 : decode cX10_move 142 = .ok (.getfield 56, 3) := by decide +kernel
theorem dX10_move_145 : decode cX10_move 145 = .ok (.bipush 24, 2) := by decide +kernel
theorem dX10_move_147 : decode cX10_move 147 = .ok (.iload_n 1, 1) := by decide +kernel
theorem dX10_move_148 : decode cX10_move 148 = .ok (.imul, 1) := by decide +kernel
theorem dX10_move_149 : decode cX10_move 149 = .ok (.iload_n 2, 1) := by decide +kernel
theorem dX10_move_150 : decode cX10_move 150 = .ok (.iadd, 1) := by decide +kernel
theorem dX10_move_151 : decode cX10_move 151 = .ok (.iload 6, 2) := by decide +kernel
theorem dX10_move_153 : decode cX10_move 153 = .ok (.iadd, 1) := by decide +kernel
theorem dX10_move_154 : decode cX10_move 154 = .ok (.iaload, 1) := by decide +kernel
theorem dX10_move_155 : decode cX10_move 155 = .ok (.iastore, 1) := by decide +kernel
theorem dX10_move_156 : decode cX10_move 156 = .ok (.iinc 6 1, 3) := by decide +kernel
theorem dX10_move_159 : decode cX10_move 159 = .ok (.goto (-31), 3) := by decide +kernel
theorem dX10_move_162 : decode cX10_move 162 = .ok (.iconst 0, 1) := by decide +kernel
theorem dX10_move_163 : decode cX10_move 163 = .ok (.istore 6, 2) := by decide +kernel
theorem dX10_move_165 : decode cX10_move 165 = .ok (.iload 6, 2) := by decide +kernel
theorem dX10_move_167 : decode cX10_move 167 = .ok (.iload 5, 2) := by decide +kernel
theorem dX10_move_169 : decode cX10_move 169 = .ok (.if_icmp .ge 31, 3) := by decide +kernel
theorem dX10_move_172 : decode cX10_move 172 = .ok (.aload_n 0, 1) := by decide +kernel
theorem dX10_move_173 : decode cX10_move 173 = .ok (.getfield 56, 3) := by decide +kernel
theorem dX10_move_176 : decode cX10_move 176 = .ok (.bipush 24, 2) := by decide +kernel
theorem dX10_move_178 : decode cX10_move 178 = .ok (.iload_n 3, 1) := by decide +kernel
theorem dX10_move_179 : decode cX10_move 179 = .ok (.imul, 1) := by decide +kernel
theorem dX10_move_180 : decode cX10_move 180 = .ok (.iload 4, 2) := by decide +kernel
theorem dX10_move_182 : decode cX10_move 182 = .ok (.iadd, 1) := by decide +kernel
theorem dX10_move_183 : decode cX10_move 183 = .ok (.iload 6, 2) := by decide +kernel
theorem dX10_move_185 : decode cX10_move 185 = .ok (.iadd, 1) := by decide +kernel
theorem dX10_move_186 : decode cX10_move 186 = .ok (.aload_n 0, 1) := by decide +kernel
theorem dX10_move_187 : decode cX10_move 187 = .ok (.getfield 59, 3) := by decide +kernel
theorem dX10_move_190 : decode cX10_move 190 = .ok (.iload 6, 2) := by decide +kernel
theorem dX10_move_192 : decode cX10_move 192 = .ok (.iaload, 1) := by decide +kernel
theorem dX10_move_193 : decode cX10_move 193 = .ok (.iastore, 1) := by decide +kernel
theorem dX10_move_194 : decode cX10_move 194 = .ok (.iinc 6 1, 3) := by decide +kernel
theorem dX10_move_197 : decode cX10_move 197 = .ok (.goto (-32), 3) := by decide +kernel
theorem dX10_move_200 : decode cX10_move 200 = .ok (.iload 5, 2) := by decide +kernel
theorem dX10_move_202 : decode cX10_move 202 = .ok (.ireturn, 1) := by decide +kernel
theorem dX10_slips_0 : decode cX10_slips 0 = .ok (.iload_n 1, 1) := by decide +kernel
theorem dX10_slips_1 : decode cX10_slips 1 = .ok (.invokestatic 305, 3) := by decide +kernel
theorem dX10_slips_4 : decode cX10_slips 4 = .ok (.ifCond .eq 12, 3) := by decide +kernel
theorem dX10_slips_7 : decode cX10_slips 7 = .ok (.aload_n 0, 1) := by decide +kernel
theorem dX10_slips_8 : decode cX10_slips 8 = .ok (.iload_n 2, 1) := by decide +kernel
theorem dX10_slips_9 : decode cX10_slips 9 = .ok (.iconst 0, 1) := by decide +kernel
theorem dX10_slips_10 : decode cX10_slips 10 = .ok (.invokevirtual 95, 3) := by decide +kernel
theorem dX10_slips_13 : decode cX10_slips 13 = .ok (.ifCond .ne 10, 3) := by decide +kernel
theorem dX10_slips_16 : decode cX10_slips 16 = .ok (.aload_n 0, 1) := by decide +kernel
theorem dX10_slips_17 : decode cX10_slips 17 = .ok (.ldc 80, 2) := by decide +kernel
theorem dX10_slips_19 : decode cX10_slips 19 = .ok (.invokevirtual 81, 3) := by decide +kernel
theorem dX10_slips_22 : decode cX10_slips 22 = .ok (.ireturn, 1) := by decide +kernel
theorem dX10_slips_23 : decode cX10_slips 23 = .ok (.aload_n 0, 1) := by decide +kernel
theorem dX10_slips_24 : decode cX10_slips 24 = .ok (.getfield 50, 3) := by decide +kernel
theorem dX10_slips_27 : decode cX10_slips 27 = .ok (.iload_n 1, 1) := by decide +kernel
theorem dX10_slips_28 : decode cX10_slips 28 = .ok (.iaload, 1) := by decide +kernel
theorem dX10_slips_29 : decode cX10_slips 29 = .ok (.ifCond .ne 11, 3) := by decide +kernel
theorem dX10_slips_32 : decode cX10_slips 32 = .ok (.aload_n 0, 1) := by decide +kernel
theorem dX10_slips_33 : decode cX10_slips 33 = .ok (.ldc_w 276, 3) := by decide +kernel
theorem dX10_slips_36 : decode cX10_slips 36 = .ok (.invokevirtual 81, 3) := by decide +kernel
theorem dX10_slips_39 : decode cX10_slips 39 = .ok (.ireturn, 1) := by decide +kernel
theorem dX10_slips_40 : decode cX10_slips 40 = .ok (.iconst 0, 1) := by decide +kernel
theorem dX10_slips_41 : decode cX10_slips 41 = .ok (.istore_n 3, 1) := by decide +kernel
theorem dX10_slips_42 : decode cX10_slips 42 = .ok (.iload_n 3, 1) := by decide +kernel
theorem dX10_slips_43 : decode cX10_slips 43 = .ok (.aload_n 0, 1) := by decide +kernel
theorem dX10_slips_44 : decode cX10_slips 44 = .ok (.getfield 53, 3) := by decide +kernel
theorem dX10_slips_47 : decode cX10_slips 47 = .ok (.iload_n 1, 1) := by decide +kernel
theorem dX10_slips_48 : decode cX10_slips 48 = .ok (.iaload, 1) := by decide +kernel
theorem dX10_slips_49 : decode cX10_slips 49 = .ok (.if_icmp .ge 78, 3) := by decide +kernel
theorem dX10_slips_52 : decode cX10_slips 52 = .ok (.iload_n 3, 1) := by decide +kernel
theorem dX10_slips_53 : decode cX10_slips 53 = .ok (.aload_n 0, 1) := by decide +kernel
theorem dX10_slips_54 : decode cX10_slips 54 = .ok (.getfield 9, 3) := by decide +kernel
theorem dX10_slips_57 : decode cX10_slips 57 = .ok (.iconst 0, 1) := by decide +kernel
theorem dX10_slips_58 : decode cX10_slips 58 = .ok (.iaload, 1) := by decide +kernel
theorem dX10_slips_59 : decode cX10_slips 59 = .ok (.if_icmp .ge 68, 3) := by decide +kernel
theorem dX10_slips_62 : decode cX10_slips 62 = .ok (.iload_n 3, 1) := by decide +kernel
theorem dX10_slips_63 : decode cX10_slips 63 = .ok (.iload_n 2, 1) := by decide +kernel
theorem dX10_slips_64 : decode cX10_slips 64 = .ok (.if_icmp .eq 23, 3) := by decide +kernel
theorem dX10_slips_67 : decode cX10_slips 67 = .ok (.aload_n 0, 1) := by decide +kernel
theorem dX10_slips_68 : decode cX10_slips 68 = .ok (.getfield 56, 3) := by decide +kernel
theorem dX10_slips_71 : decode cX10_slips 71 = .ok (.bipush 24, 2) := by decide +kernel
theorem dX10_slips_73 : decode cX10_slips 73 = .ok (.iload_n 1, 1) := by decide +kernel
theorem dX10_slips_74 : decode cX10_slips 74 = .ok (.imul, 1) := by decide +kernel
theorem dX10_slips_75 : decode cX10_slips 75 = .ok (.iload_n 3, 1) := by decide +kernel
theorem dX10_slips_76 : decode cX10_slips 76 = .ok (.iadd, 1) := by decide +kernel
theorem dX10_slips_77 : decode cX10_slips 77 = .ok (.iaload, 1) := by decide +kernel
theorem dX10_slips_78 : decode cX10_slips 78 = .ok (.iconst 0, 1) := by decide +kernel
theorem dX10_slips_79 : decode cX10_slips 79 = .ok (.bipush 99, 2) := by decide +kernel
theorem dX10_slips_81 : decode cX10_slips 81 = .ok (.invokestatic 72, 3) := by decide +kernel
theorem dX10_slips_84 : decode cX10_slips 84 = .ok (.ifCond .eq 43, 3) := by decide +kernel
theorem dX10_slips_87 : decode cX10_slips 87 = .ok (.aload_n 0, 1) := by decide +kernel
theorem dX10_slips_88 : decode cX10_slips 88 = .ok (.getfield 9, 3) := by decide +kernel
theorem dX10_slips_91 : decode cX10_slips 91 = .ok (.bipush 67, 2) := by decide +kernel
theorem dX10_slips_93 : decode cX10_slips 93 = .ok (.bipush 10, 2) := by decide +kernel
theorem dX10_slips_95 : decode cX10_slips 95 = .ok (.iload_n 2, 1) := by decide +kernel
theorem dX10_slips_96 : decode cX10_slips 96 = .ok (.imul, 1) := by decide +kernel
theorem dX10_slips_97 : decode cX10_slips 97 = .ok (.iadd, 1) := by decide +kernel
theorem dX10_slips_98 : decode cX10_slips 98 = .ok (.iload_n 3, 1) := by decide +kernel
theorem dX10_slips_99 : decode cX10_slips 99 = .ok (.iadd, 1) := by decide +kernel
theorem dX10_slips_100 : decode cX10_slips 100 = .ok (.iload_n 3, 1) := by decide +kernel
theorem dX10_slips_101 : decode cX10_slips 101 = .ok (.iload_n 2, 1) := by decide +kernel
theorem dX10_slips_102 : decode cX10_slips 102 = .ok (.if_icmp .ne 7, 3) := by decide +kernel
theorem dX10_slips_105 : decode cX10_slips 105 = .ok (.iconst 0, 1) := by decide +kernel
theorem dX10_slips_106 : decode cX10_slips 106 = .ok (.goto 14, 3) := by decide +kernel
theorem dX10_slips_109 : decode cX10_slips 109 = .ok (.aload_n 0, 1) := by decide +kernel
theorem dX10_slips_110 : decode cX10_slips 110 = .ok (.getfield 56, 3) := by decide +kernel
theorem dX10_slips_113 : decode cX10_slips 113 = .ok (.bipush 24, 2) := by decide +kernel
theorem dX10_slips_115 : decode cX10_slips 115 = .ok (.iload_n 1, 1) := by decide +kernel
theorem dX10_slips_116 : decode cX10_slips 116 = .ok (.imul, 1) := by decide +kernel
theorem dX10_slips_117 : decode cX10_slips 117 = .ok (.iload_n 3, 1) := by decide +kernel
theorem dX10_slips_118 : decode cX10_slips 118 = .ok (.iadd, 1) := by decide +kernel
theorem dX10_slips_119 : decode cX10_slips 119 = .ok (.iaload, 1) := by decide +kernel
theorem dX10_slips_120 : decode cX10_slips 120 = .ok (.iastore, 1) := by decide +kernel
theorem dX10_slips_121 : decode cX10_slips 121 = .ok (.iinc 3 1, 3) := by decide +kernel
theorem dX10_slips_124 : decode cX10_slips 124 = .ok (.goto (-82), 3) := by decide +kernel
theorem dX10_slips_127 : decode cX10_slips 127 = .ok (.iload_n 3, 1) := by decide +kernel
theorem dX10_slips_128 : decode cX10_slips 128 = .ok (.ireturn, 1) := by decide +kernel
theorem dX10_film_0 : decode cX10_film 0 = .ok (.iload_n 1, 1) := by decide +kernel
theorem dX10_film_1 : decode cX10_film 1 = .ok (.invokestatic 305, 3) := by decide +kernel
theorem dX10_film_4 : decode cX10_film 4 = .ok (.ifCond .eq 10, 3) := by decide +kernel
theorem dX10_film_7 : decode cX10_film 7 = .ok (.iload_n 2, 1) := by decide +kernel
theorem dX10_film_8 : decode cX10_film 8 = .ok (.invokestatic 270, 3) := by decide +kernel
theorem dX10_film_11 : decode cX10_film 11 = .ok (.ifCond .ne 10, 3) := by decide +kernel
theorem dX10_film_14 : decode cX10_film 14 = .ok (.aload_n 0, 1) := by decide +kernel
theorem dX10_film_15 : decode cX10_film 15 = .ok (.ldc 80, 2) := by decide +kernel
theorem dX10_film_17 : decode cX10_film 17 = .ok (.invokevirtual 81, 3) := by decide +kernel
theorem dX10_film_20 : decode cX10_film 20 = .ok (.ireturn, 1) := by decide +kernel
theorem dX10_film_21 : decode cX10_film 21 = .ok (.aload_n 0, 1) := by decide +kernel
theorem dX10_film_22 : decode cX10_film 22 = .ok (.getfield 50, 3) := by decide +kernel
theorem dX10_film_25 : decode cX10_film 25 = .ok (.iload_n 1, 1) := by decide +kernel
theorem dX10_film_26 : decode cX10_film 26 = .ok (.iaload, 1) := by decide +kernel
theorem dX10_film_27 : decode cX10_film 27 = .ok (.ifCond .ne 11, 3) := by decide +kernel
theorem dX10_film_30 : decode cX10_film 30 = .ok (.aload_n 0, 1) := by decide +kernel
theorem dX10_film_31 : decode cX10_film 31 = .ok (.ldc_w 276, 3) := by decide +kernel
theorem dX10_film_34 : decode cX10_film 34 = .ok (.invokevirtual 81, 3) := by decide +kernel
theorem dX10_film_37 : decode cX10_film 37 = .ok (.ireturn, 1) := by decide +kernel
theorem dX10_film_38 : decode cX10_film 38 = .ok (.aload_n 0, 1) := by decide +kernel
theorem dX10_film_39 : decode cX10_film 39 = .ok (.getfield 9, 3) := by decide +kernel
theorem dX10_film_42 : decode cX10_film 42 = .ok (.aload_n 0, 1) := by decide +kernel
theorem dX10_film_43 : decode cX10_film 43 = .ok (.getfield 16, 3) := by decide +kernel
theorem dX10_film_46 : decode cX10_film 46 = .ok (.invokestatic 76, 3) := by decide +kernel
theorem dX10_film_49 : decode cX10_film 49 = .ok (.aload_n 0, 1) := by decide +kernel
theorem dX10_film_50 : decode cX10_film 50 = .ok (.iload_n 2, 1) := by decide +kernel
theorem dX10_film_51 : decode cX10_film 51 = .ok (.invokevirtual 249, 3) := by decide +kernel
theorem dX10_film_54 : decode cX10_film 54 = .ok (.iconst 0, 1) := by decide +kernel
theorem dX10_film_55 : decode cX10_film 55 = .ok (.istore_n 3, 1) := by decide +kernel
theorem dX10_film_56 : decode cX10_film 56 = .ok (.iload_n 3, 1) := by decide +kernel
theorem dX10_film_57 : decode cX10_film 57 = .ok (.aload_n 0, 1) := by decide +kernel
theorem dX10_film_58 : decode cX10_film 58 = .ok (.getfield 9, 3) := by decide +kernel
theorem dX10_film_61 : decode cX10_film 61 = .ok (.iconst 0, 1) := by decide +kernel
theorem dX10_film_62 : decode cX10_film 62 = .ok (.iaload, 1) := by decide +kernel
theorem dX10_film_63 : decode cX10_film 63 = .ok (.if_icmp .ge 39, 3) := by decide +kernel
theorem dX10_film_66 : decode cX10_film 66 = .ok (.iload_n 3, 1) := by decide +kernel
theorem dX10_film_67 : decode cX10_film 67 = .ok (.aload_n 0, 1) := by decide +kernel
theorem dX10_film_68 : decode cX10_film 68 = .ok (.getfield 53, 3) := by decide +kernel
theorem dX10_film_71 : decode cX10_film 71 = .ok (.iload_n 1, 1) := by decide +kernel
theorem dX10_film_72 : decode cX10_film 72 = .ok (.iaload, 1) := by decide +kernel
theorem dX10_film_73 : decode cX10_film 73 = .ok (.if_icmp .ge 29, 3) := by decide +kernel
theorem dX10_film_76 : decode cX10_film 76 = .ok (.aload_n 0, 1) := by decide +kernel
theorem dX10_film_77 : decode cX10_film 77 = .ok (.getfield 56, 3) := by decide +kernel
theorem dX10_film_80 : decode cX10_film 80 = .ok (.bipush 24, 2) := by decide +kernel
theorem dX10_film_82 : decode cX10_film 82 = .ok (.iload_n 1, 1) := by decide +kernel
theorem dX10_film_83 : decode cX10_film 83 = .ok (.imul, 1) := by decide +kernel
theorem dX10_film_84 : decode cX10_film 84 = .ok (.iload_n 3, 1) := by decide +kernel
theorem dX10_film_85 : decode cX10_film 85 = .ok (.iadd, 1) := by decide +kernel
theorem dX10_film_86 : decode cX10_film 86 = .ok (.iaload, 1) := by decide +kernel
theorem dX10_film_87 : decode cX10_film 87 = .ok (.aload_n 0, 1) := by decide +kernel
theorem dX10_film_88 : decode cX10_film 88 = .ok (.iload_n 3, 1) := by decide +kernel
theorem dX10_film_89 : decode cX10_film 89 = .ok (.iconst 4, 1) := by decide +kernel
theorem dX10_film_90 : decode cX10_film 90 = .ok (.invokevirtual 86, 3) := by decide +kernel
theorem dX10_film_93 : decode cX10_film 93 = .ok (.if_icmp .ne 9, 3) := by decide +kernel
theorem dX10_film_96 : decode cX10_film 96 = .ok (.iinc 3 1, 3) := by decide +kernel
theorem dX10_film_99 : decode cX10_film 99 = .ok (.goto (-43), 3) := by decide +kernel
theorem dX10_film_102 : decode cX10_film 102 = .ok (.aload_n 0, 1) := by decide +kernel
theorem dX10_film_103 : decode cX10_film 103 = .ok (.iload_n 3, 1) := by decide +kernel
theorem dX10_film_104 : decode cX10_film 104 = .ok (.invokevirtual 273, 3) := by decide +kernel
theorem dX10_film_107 : decode cX10_film 107 = .ok (.ireturn, 1) := by decide +kernel
theorem dX10_image_0 : decode cX10_image 0 = .ok (.aload_n 0, 1) := by decide +kernel
theorem dX10_image_1 : decode cX10_image 1 = .ok (.getfield 9, 3) := by decide +kernel
theorem dX10_image_4 : decode cX10_image 4 = .ok (.aload_n 0, 1) := by decide +kernel
theorem dX10_image_5 : decode cX10_image 5 = .ok (.getfield 13, 3) := by decide +kernel
theorem dX10_image_8 : decode cX10_image 8 = .ok (.invokestatic 76, 3) := by decide +kernel
theorem dX10_image_11 : decode cX10_image 11 = .ok (.aload_n 0, 1) := by decide +kernel
theorem dX10_image_12 : decode cX10_image 12 = .ok (.dup, 1) := by decide +kernel
theorem dX10_image_13 : decode cX10_image 13 = .ok (.getfield 308, 3) := by decide +kernel
theorem dX10_image_16 : decode cX10_image 16 = .ok (.iconst 1, 1) := by decide +kernel
theorem dX10_image_17 : decode cX10_image 17 = .ok (.iadd, 1) := by decide +kernel
theorem dX10_image_18 : decode cX10_image 18 = .ok (.putfield 308, 3) := by decide +kernel
theorem dX10_image_21 : decode cX10_image 21 = .ok (.aload_n 0, 1) := by decide +kernel
theorem dX10_image_22 : decode cX10_image 22 = .ok (.getfield 308, 3) := by decide +kernel
theorem dX10_image_25 : decode cX10_image 25 = .ok (.ireturn, 1) := by decide +kernel
theorem dX10_restore_0 : decode cX10_restore 0 = .ok (.aload_n 0, 1) := by decide +kernel
theorem dX10_restore_1 : decode cX10_restore 1 = .ok (.getfield 308, 3) := by decide +kernel
theorem dX10_restore_4 : decode cX10_restore 4 = .ok (.ifCond .ne 11, 3) := by decide +kernel
theorem dX10_restore_7 : decode cX10_restore 7 = .ok (.aload_n 0, 1) := by decide +kernel
theorem dX10_restore_8 : decode cX10_restore 8 = .ok (.ldc_w 276, 3) := by decide +kernel
theorem dX10_restore_11 : decode cX10_restore 11 = .ok (.invokevirtual 81, 3) := by decide +kernel
theorem dX10_restore_14 : decode cX10_restore 14 = .ok (.ireturn, 1) := by decide +kernel
theorem dX10_restore_15 : decode cX10_restore 15 = .ok (.aload_n 0, 1) := by decide +kernel
theorem dX10_restore_16 : decode cX10_restore 16 = .ok (.getfield 13, 3) := by decide +kernel
theorem dX10_restore_19 : decode cX10_restore 19 = .ok (.aload_n 0, 1) := by decide +kernel
theorem dX10_restore_20 : decode cX10_restore 20 = .ok (.getfield 9, 3) := by decide +kernel
theorem dX10_restore_23 : decode cX10_restore 23 = .ok (.invokestatic 76, 3) := by decide +kernel
theorem dX10_restore_26 : decode cX10_restore 26 = .ok (.aload_n 0, 1) := by decide +kernel
theorem dX10_restore_27 : decode cX10_restore 27 = .ok (.getfield 9, 3) := by decide +kernel
theorem dX10_restore_30 : decode cX10_restore 30 = .ok (.iconst 2, 1) := by decide +kernel
theorem dX10_restore_31 : decode cX10_restore 31 = .ok (.iaload, 1) := by decide +kernel
theorem dX10_restore_32 : decode cX10_restore 32 = .ok (.ireturn, 1) := by decide +kernel
theorem dX10_tell_0 : decode cX10_tell 0 = .ok (.aload_n 0, 1) := by decide +kernel
theorem dX10_tell_1 : decode cX10_tell 1 = .ok (.getfield 9, 3) := by decide +kernel
theorem dX10_tell_4 : decode cX10_tell 4 = .ok (.iconst 5, 1) := by decide +kernel
theorem dX10_tell_5 : decode cX10_tell 5 = .ok (.iaload, 1) := by decide +kernel
theorem dX10_tell_6 : decode cX10_tell 6 = .ok (.bipush 24, 2) := by decide +kernel
theorem dX10_tell_8 : decode cX10_tell 8 = .ok (.if_icmp .ne 10, 3) := by decide +kernel
theorem dX10_tell_11 : decode cX10_tell 11 = .ok (.aload_n 0, 1) := by decide +kernel
theorem dX10_tell_12 : decode cX10_tell 12 = .ok (.ldc 85, 2) := by decide +kernel
theorem dX10_tell_14 : decode cX10_tell 14 = .ok (.invokevirtual 81, 3) := by decide +kernel
theorem dX10_tell_17 : decode cX10_tell 17 = .ok (.ireturn, 1) := by decide +kernel
theorem dX10_tell_18 : decode cX10_tell 18 = .ok (.aload_n 0, 1) := by decide +kernel
theorem dX10_tell_19 : decode cX10_tell 19 = .ok (.getfield 9, 3) := by decide +kernel
theorem dX10_tell_22 : decode cX10_tell 22 = .ok (.sipush 297, 3) := by decide +kernel
theorem dX10_tell_25 : decode cX10_tell 25 = .ok (.aload_n 0, 1) := by decide +kernel
theorem dX10_tell_26 : decode cX10_tell 26 = .ok (.getfield 9, 3) := by decide +kernel
theorem dX10_tell_29 : decode cX10_tell 29 = .ok (.iconst 5, 1) := by decide +kernel
theorem dX10_tell_30 : decode cX10_tell 30 = .ok (.iaload, 1) := by decide +kernel
theorem dX10_tell_31 : decode cX10_tell 31 = .ok (.iadd, 1) := by decide +kernel
theorem dX10_tell_32 : decode cX10_tell 32 = .ok (.iload_n 1, 1) := by decide +kernel
theorem dX10_tell_33 : decode cX10_tell 33 = .ok (.iastore, 1) := by decide +kernel
theorem dX10_tell_34 : decode cX10_tell 34 = .ok (.aload_n 0, 1) := by decide +kernel
theorem dX10_tell_35 : decode cX10_tell 35 = .ok (.getfield 9, 3) := by decide +kernel
theorem dX10_tell_38 : decode cX10_tell 38 = .ok (.iconst 5, 1) := by decide +kernel
theorem dX10_tell_39 : decode cX10_tell 39 = .ok (.dup2, 1) := by decide +kernel
theorem dX10_tell_40 : decode cX10_tell 40 = .ok (.iaload, 1) := by decide +kernel
theorem dX10_tell_41 : decode cX10_tell 41 = .ok (.iconst 1, 1) := by decide +kernel
theorem dX10_tell_42 : decode cX10_tell 42 = .ok (.iadd, 1) := by decide +kernel
theorem dX10_tell_43 : decode cX10_tell 43 = .ok (.iastore, 1) := by decide +kernel
theorem dX10_tell_44 : decode cX10_tell 44 = .ok (.aload_n 0, 1) := by decide +kernel
theorem dX10_tell_45 : decode cX10_tell 45 = .ok (.getfield 9, 3) := by decide +kernel
theorem dX10_tell_48 : decode cX10_tell 48 = .ok (.iconst 5, 1) := by decide +kernel
theorem dX10_tell_49 : decode cX10_tell 49 = .ok (.iaload, 1) := by decide +kernel
theorem dX10_tell_50 : decode cX10_tell 50 = .ok (.ireturn, 1) := by decide +kernel
theorem dX10_check_0 : decode cX10_check 0 = .ok (.aload_n 0, 1) := by decide +kernel
theorem dX10_check_1 : decode cX10_check 1 = .ok (.getfield 9, 3) := by decide +kernel
theorem dX10_check_4 : decode cX10_check 4 = .ok (.iconst 5, 1) := by decide +kernel
theorem dX10_check_5 : decode cX10_check 5 = .ok (.iaload, 1) := by decide +kernel
theorem dX10_check_6 : decode cX10_check 6 = .ok (.istore_n 2, 1) := by decide +kernel
theorem dX10_check_7 : decode cX10_check 7 = .ok (.aload_n 0, 1) := by decide +kernel
theorem dX10_check_8 : decode cX10_check 8 = .ok (.getfield 9, 3) := by decide +kernel
theorem dX10_check_11 : decode cX10_check 11 = .ok (.iconst 5, 1) := by decide +kernel
theorem dX10_check_12 : decode cX10_check 12 = .ok (.iconst 0, 1) := by decide +kernel
theorem dX10_check_13 : decode cX10_check 13 = .ok (.iastore, 1) := by decide +kernel
theorem dX10_check_14 : decode cX10_check 14 = .ok (.aload_n 0, 1) := by decide +kernel
theorem dX10_check_15 : decode cX10_check 15 = .ok (.iload_n 1, 1) := by decide +kernel
theorem dX10_check_16 : decode cX10_check 16 = .ok (.iconst 1, 1) := by decide +kernel
theorem dX10_check_17 : decode cX10_check 17 = .ok (.invokevirtual 95, 3) := by decide +kernel
theorem dX10_check_20 : decode cX10_check 20 = .ok (.ifCond .ne 10, 3) := by decide +kernel
theorem dX10_check_23 : decode cX10_check 23 = .ok (.aload_n 0, 1) := by decide +kernel
theorem dX10_check_24 : decode cX10_check 24 = .ok (.ldc 80, 2) := by decide +kernel
theorem dX10_check_26 : decode cX10_check 26 = .ok (.invokevirtual 81, 3) := by decide +kernel
theorem dX10_check_29 : decode cX10_check 29 = .ok (.ireturn, 1) := by decide +kernel
theorem dX10_check_30 : decode cX10_check 30 = .ok (.iconst 0, 1) := by decide +kernel
theorem dX10_check_31 : decode cX10_check 31 = .ok (.istore_n 3, 1) := by decide +kernel
theorem dX10_check_32 : decode cX10_check 32 = .ok (.iconst 0, 1) := by decide +kernel
theorem dX10_check_33 : decode cX10_check 33 = .ok (.istore 4, 2) := by decide +kernel
theorem dX10_check_35 : decode cX10_check 35 = .ok (.iload 4, 2) := by decide +kernel
theorem dX10_check_37 : decode cX10_check 37 = .ok (.aload_n 0, 1) := by decide +kernel
theorem dX10_check_38 : decode cX10_check 38 = .ok (.getfield 9, 3) := by decide +kernel
theorem dX10_check_41 : decode cX10_check 41 = .ok (.iconst 0, 1) := by decide +kernel
theorem dX10_check_42 : decode cX10_check 42 = .ok (.iaload, 1) := by decide +kernel
theorem dX10_check_43 : decode cX10_check 43 = .ok (.if_icmp .ge 47, 3) := by decide +kernel
theorem dX10_check_46 : decode cX10_check 46 = .ok (.aload_n 0, 1) := by decide +kernel
theorem dX10_check_47 : decode cX10_check 47 = .ok (.iload 4, 2) := by decide +kernel
theorem dX10_check_49 : decode cX10_check 49 = .ok (.iconst 4, 1) := by decide +kernel
theorem dX10_check_50 : decode cX10_check 50 = .ok (.invokevirtual 86, 3) := by decide +kernel
theorem dX10_check_53 : decode cX10_check 53 = .ok (.iload_n 1, 1) := by decide +kernel
theorem dX10_check_54 : decode cX10_check 54 = .ok (.if_icmp .ne 30, 3) := by decide +kernel
theorem dX10_check_57 : decode cX10_check 57 = .ok (.iload_n 3, 1) := by decide +kernel
theorem dX10_check_58 : decode cX10_check 58 = .ok (.iload_n 2, 1) := by decide +kernel
theorem dX10_check_59 : decode cX10_check 59 = .ok (.if_icmp .ge 18, 3) := by decide +kernel
theorem dX10_check_62 : decode cX10_check 62 = .ok (.aload_n 0, 1) := by decide +kernel
theorem dX10_check_63 : decode cX10_check 63 = .ok (.getfield 9, 3) := by decide +kernel
theorem dX10_check_66 : decode cX10_check 66 = .ok (.sipush 297, 3) := by decide +kernel
theorem dX10_check_69 : decode cX10_check 69 = .ok (.iload_n 3, 1) := by decide +kernel
theorem dX10_check_70 : decode cX10_check 70 = .ok (.iadd, 1) := by decide +kernel
theorem dX10_check_71 : decode cX10_check 71 = .ok (.iaload, 1) := by decide +kernel
theorem dX10_check_72 : decode cX10_check 72 = .ok (.iload 4, 2) := by decide +kernel
theorem dX10_check_74 : decode cX10_check 74 = .ok (.if_icmp .eq 7, 3) := by decide +kernel
theorem dX10_check_77 : decode cX10_check 77 = .ok (.iconst 1, 1) := by decide +kernel
theorem dX10_check_78 : decode cX10_check 78 = .ok (.iload_n 3, 1) := by decide +kernel
theorem dX10_check_79 : decode cX10_check 79 = .ok (.iadd, 1) := by decide +kernel
theorem dX10_check_80 : decode cX10_check 80 = .ok (.ireturn, 1) := by decide +kernel
theorem dX10_check_81 : decode cX10_check 81 = .ok (.iinc 3 1, 3) := by decide +kernel
theorem dX10_check_84 : decode cX10_check 84 = .ok (.iinc 4 1, 3) := by decide +kernel
theorem dX10_check_87 : decode cX10_check 87 = .ok (.goto (-52), 3) := by decide +kernel
theorem dX10_check_90 : decode cX10_check 90 = .ok (.iload_n 3, 1) := by decide +kernel
theorem dX10_check_91 : decode cX10_check 91 = .ok (.iload_n 2, 1) := by decide +kernel
theorem dX10_check_92 : decode cX10_check 92 = .ok (.if_icmp .ne 7, 3) := by decide +kernel
theorem dX10_check_95 : decode cX10_check 95 = .ok (.iconst 0, 1) := by decide +kernel
theorem dX10_check_96 : decode cX10_check 96 = .ok (.goto 6, 3) := by decide +kernel
theorem dX10_check_99 : decode cX10_check 99 = .ok (.iconst 1, 1) := by decide +kernel
theorem dX10_check_100 : decode cX10_check 100 = .ok (.iload_n 3, 1) := by decide +kernel
theorem dX10_check_101 : decode cX10_check 101 = .ok (.iadd, 1) := by decide +kernel
theorem dX10_check_102 : decode cX10_check 102 = .ok (.ireturn, 1) := by decide +kernel
theorem dX10_count_0 : decode cX10_count 0 = .ok (.iload_n 1, 1) := by decide +kernel
theorem dX10_count_1 : decode cX10_count 1 = .ok (.tableswitch 91 0 8 #[51, 51, 51, 51, 58, 64, 71, 78, 83], 51) := by decide +kernel
theorem dX10_count_52 : decode cX10_count 52 = .ok (.aload_n 0, 1) := by decide +kernel
theorem dX10_count_53 : decode cX10_count 53 = .ok (.getfield 9, 3) := by decide +kernel
theorem dX10_count_56 : decode cX10_count 56 = .ok (.iload_n 1, 1) := by decide +kernel
theorem dX10_count_57 : decode cX10_count 57 = .ok (.iaload, 1) := by decide +kernel
theorem dX10_count_58 : decode cX10_count 58 = .ok (.ireturn, 1) := by decide +kernel
theorem dX10_count_59 : decode cX10_count 59 = .ok (.aload_n 0, 1) := by decide +kernel
theorem dX10_count_60 : decode cX10_count 60 = .ok (.iconst (-1), 1) := by decide +kernel
theorem dX10_count_61 : decode cX10_count 61 = .ok (.invokevirtual 112, 3) := by decide +kernel
theorem dX10_count_64 : decode cX10_count 64 = .ok (.ireturn, 1) := by decide +kernel
theorem dX10_count_65 : decode cX10_count 65 = .ok (.aload_n 0, 1) := by decide +kernel
theorem dX10_count_66 : decode cX10_count 66 = .ok (.getfield 9, 3) := by decide +kernel
theorem dX10_count_69 : decode cX10_count 69 = .ok (.iconst 4, 1) := by decide +kernel
theorem dX10_count_70 : decode cX10_count 70 = .ok (.iaload, 1) := by decide +kernel
theorem dX10_count_71 : decode cX10_count 71 = .ok (.ireturn, 1) := by decide +kernel
theorem dX10_count_72 : decode cX10_count 72 = .ok (.aload_n 0, 1) := by decide +kernel
theorem dX10_count_73 : decode cX10_count 73 = .ok (.getfield 9, 3) := by decide +kernel
theorem dX10_count_76 : decode cX10_count 76 = .ok (.iconst 5, 1) := by decide +kernel
theorem dX10_count_77 : decode cX10_count 77 = .ok (.iaload, 1) := by decide +kernel
theorem dX10_count_78 : decode cX10_count 78 = .ok (.ireturn, 1) := by decide +kernel
theorem dX10_count_79 : decode cX10_count 79 = .ok (.aload_n 0, 1) := by decide +kernel
theorem dX10_count_80 : decode cX10_count 80 = .ok (.getfield 280, 3) := by decide +kernel
theorem dX10_count_83 : decode cX10_count 83 = .ok (.ireturn, 1) := by decide +kernel
theorem dX10_count_84 : decode cX10_count 84 = .ok (.aload_n 0, 1) := by decide +kernel
theorem dX10_count_85 : decode cX10_count 85 = .ok (.getfield 9, 3) := by decide +kernel
theorem dX10_count_88 : decode cX10_count 88 = .ok (.bipush 6, 2) := by decide +kernel
theorem dX10_count_90 : decode cX10_count 90 = .ok (.iaload, 1) := by decide +kernel
theorem dX10_count_91 : decode cX10_count 91 = .ok (.ireturn, 1) := by decide +kernel
theorem dX10_count_92 : decode cX10_count 92 = .ok (.aload_n 0, 1) := by decide +kernel
theorem dX10_count_93 : decode cX10_count 93 = .ok (.ldc 80, 2) := by decide +kernel
theorem dX10_count_95 : decode cX10_count 95 = .ok (.invokevirtual 81, 3) := by decide +kernel
theorem dX10_count_98 : decode cX10_count 98 = .ok (.ireturn, 1) := by decide +kernel
theorem dX10_told_0 : decode cX10_told 0 = .ok (.iload_n 1, 1) := by decide +kernel
theorem dX10_told_1 : decode cX10_told 1 = .ok (.iconst 1, 1) := by decide +kernel
theorem dX10_told_2 : decode cX10_told 2 = .ok (.bipush 6, 2) := by decide +kernel
theorem dX10_told_4 : decode cX10_told 4 = .ok (.invokestatic 72, 3) := by decide +kernel
theorem dX10_told_7 : decode cX10_told 7 = .ok (.ifCond .eq 12, 3) := by decide +kernel
theorem dX10_told_10 : decode cX10_told 10 = .ok (.aload_n 0, 1) := by decide +kernel
theorem dX10_told_11 : decode cX10_told 11 = .ok (.getfield 19, 3) := by decide +kernel
theorem dX10_told_14 : decode cX10_told 14 = .ok (.iload_n 1, 1) := by decide +kernel
theorem dX10_told_15 : decode cX10_told 15 = .ok (.iaload, 1) := by decide +kernel
theorem dX10_told_16 : decode cX10_told 16 = .ok (.goto 9, 3) := by decide +kernel
theorem dX10_told_19 : decode cX10_told 19 = .ok (.aload_n 0, 1) := by decide +kernel
theorem dX10_told_20 : decode cX10_told 20 = .ok (.ldc 80, 2) := by decide +kernel
theorem dX10_told_22 : decode cX10_told 22 = .ok (.invokevirtual 81, 3) := by decide +kernel
theorem dX10_told_25 : decode cX10_told 25 = .ok (.ireturn, 1) := by decide +kernel
theorem dJ11_isValidCodePoint_9a6ad_0 : decode cJ11_isValidCodePoint_9a6ad 0 = .ok (.iload_n 0, 1) := by decide +kernel
theorem dJ11_isValidCodePoint_9a6ad_1 : decode cJ11_isValidCodePoint_9a6ad 1 = .ok (.bipush 16, 2) := by decide +kernel
theorem dJ11_isValidCodePoint_9a6ad_3 : decode cJ11_isValidCodePoint_9a6ad 3 = .ok (.iushr, 1) := by decide +kernel
theorem dJ11_isValidCodePoint_9a6ad_4 : decode cJ11_isValidCodePoint_9a6ad 4 = .ok (.istore_n 1, 1) := by decide +kernel
theorem dJ11_isValidCodePoint_9a6ad_5 : decode cJ11_isValidCodePoint_9a6ad 5 = .ok (.iload_n 1, 1) := by decide +kernel
theorem dJ11_isValidCodePoint_9a6ad_6 : decode cJ11_isValidCodePoint_9a6ad 6 = .ok (.bipush 17, 2) := by decide +kernel
theorem dJ11_isValidCodePoint_9a6ad_8 : decode cJ11_isValidCodePoint_9a6ad 8 = .ok (.if_icmp .ge 7, 3) := by decide +kernel
theorem dJ11_isValidCodePoint_9a6ad_11 : decode cJ11_isValidCodePoint_9a6ad 11 = .ok (.iconst 1, 1) := by decide +kernel
theorem dJ11_isValidCodePoint_9a6ad_12 : decode cJ11_isValidCodePoint_9a6ad 12 = .ok (.goto 4, 3) := by decide +kernel
theorem dJ11_isValidCodePoint_9a6ad_15 : decode cJ11_isValidCodePoint_9a6ad 15 = .ok (.iconst 0, 1) := by decide +kernel
theorem dJ11_isValidCodePoint_9a6ad_16 : decode cJ11_isValidCodePoint_9a6ad 16 = .ok (.ireturn, 1) := by decide +kernel
theorem dJ11_highSurrogate_5068e_0 : decode cJ11_highSurrogate_5068e 0 = .ok (.iload_n 0, 1) := by decide +kernel
theorem dJ11_highSurrogate_5068e_1 : decode cJ11_highSurrogate_5068e 1 = .ok (.bipush 10, 2) := by decide +kernel
theorem dJ11_highSurrogate_5068e_3 : decode cJ11_highSurrogate_5068e 3 = .ok (.iushr, 1) := by decide +kernel
theorem dJ11_highSurrogate_5068e_4 : decode cJ11_highSurrogate_5068e 4 = .ok (.ldc 110, 2) := by decide +kernel
theorem dJ11_highSurrogate_5068e_6 : decode cJ11_highSurrogate_5068e 6 = .ok (.iadd, 1) := by decide +kernel
theorem dJ11_highSurrogate_5068e_7 : decode cJ11_highSurrogate_5068e 7 = .ok (.i2c, 1) := by decide +kernel
theorem dJ11_highSurrogate_5068e_8 : decode cJ11_highSurrogate_5068e 8 = .ok (.ireturn, 1) := by decide +kernel
theorem dJ11_lowSurrogate_5068e_0 : decode cJ11_lowSurrogate_5068e 0 = .ok (.iload_n 0, 1) := by decide +kernel
theorem dJ11_lowSurrogate_5068e_1 : decode cJ11_lowSurrogate_5068e 1 = .ok (.sipush 1023, 3) := by decide +kernel
theorem dJ11_lowSurrogate_5068e_4 : decode cJ11_lowSurrogate_5068e 4 = .ok (.iand, 1) := by decide +kernel
theorem dJ11_lowSurrogate_5068e_5 : decode cJ11_lowSurrogate_5068e 5 = .ok (.ldc 76, 2) := by decide +kernel
theorem dJ11_lowSurrogate_5068e_7 : decode cJ11_lowSurrogate_5068e 7 = .ok (.iadd, 1) := by decide +kernel
theorem dJ11_lowSurrogate_5068e_8 : decode cJ11_lowSurrogate_5068e 8 = .ok (.i2c, 1) := by decide +kernel
theorem dJ11_lowSurrogate_5068e_9 : decode cJ11_lowSurrogate_5068e 9 = .ok (.ireturn, 1) := by decide +kernel
theorem dJ6_compare_7cf53_0 : decode cJ6_compare_7cf53 0 = .ok (.iload_n 0, 1) := by decide +kernel
theorem dJ6_compare_7cf53_1 : decode cJ6_compare_7cf53 1 = .ok (.iload_n 1, 1) := by decide +kernel
theorem dJ6_compare_7cf53_2 : decode cJ6_compare_7cf53 2 = .ok (.if_icmp .ge 7, 3) := by decide +kernel
theorem dJ6_compare_7cf53_5 : decode cJ6_compare_7cf53 5 = .ok (.iconst (-1), 1) := by decide +kernel
theorem dJ6_compare_7cf53_6 : decode cJ6_compare_7cf53 6 = .ok (.goto 13, 3) := by decide +kernel
theorem dJ6_compare_7cf53_9 : decode cJ6_compare_7cf53 9 = .ok (.iload_n 0, 1) := by decide +kernel
theorem dJ6_compare_7cf53_10 : decode cJ6_compare_7cf53 10 = .ok (.iload_n 1, 1) := by decide +kernel
theorem dJ6_compare_7cf53_11 : decode cJ6_compare_7cf53 11 = .ok (.if_icmp .ne 7, 3) := by decide +kernel
theorem dJ6_compare_7cf53_14 : decode cJ6_compare_7cf53 14 = .ok (.iconst 0, 1) := by decide +kernel
theorem dJ6_compare_7cf53_15 : decode cJ6_compare_7cf53 15 = .ok (.goto 4, 3) := by decide +kernel
theorem dJ6_compare_7cf53_18 : decode cJ6_compare_7cf53 18 = .ok (.iconst 1, 1) := by decide +kernel
theorem dJ6_compare_7cf53_19 : decode cJ6_compare_7cf53 19 = .ok (.ireturn, 1) := by decide +kernel
theorem dJ6_numberOfTrailingZeros_0f7a4_0 : decode cJ6_numberOfTrailingZeros_0f7a4 0 = .ok (.iload_n 0, 1) := by decide +kernel
theorem dJ6_numberOfTrailingZeros_0f7a4_1 : decode cJ6_numberOfTrailingZeros_0f7a4 1 = .ok (.iconst (-1), 1) := by decide +kernel
theorem dJ6_numberOfTrailingZeros_0f7a4_2 : decode cJ6_numberOfTrailingZeros_0f7a4 2 = .ok (.ixor, 1) := by decide +kernel
theorem dJ6_numberOfTrailingZeros_0f7a4_3 : decode cJ6_numberOfTrailingZeros_0f7a4 3 = .ok (.iload_n 0, 1) := by decide +kernel
theorem dJ6_numberOfTrailingZeros_0f7a4_4 : decode cJ6_numberOfTrailingZeros_0f7a4 4 = .ok (.iconst 1, 1) := by decide +kernel
theorem dJ6_numberOfTrailingZeros_0f7a4_5 : decode cJ6_numberOfTrailingZeros_0f7a4 5 = .ok (.isub, 1) := by decide +kernel
theorem dJ6_numberOfTrailingZeros_0f7a4_6 : decode cJ6_numberOfTrailingZeros_0f7a4 6 = .ok (.iand, 1) := by decide +kernel
theorem dJ6_numberOfTrailingZeros_0f7a4_7 : decode cJ6_numberOfTrailingZeros_0f7a4 7 = .ok (.istore_n 0, 1) := by decide +kernel
theorem dJ6_numberOfTrailingZeros_0f7a4_8 : decode cJ6_numberOfTrailingZeros_0f7a4 8 = .ok (.iload_n 0, 1) := by decide +kernel
theorem dJ6_numberOfTrailingZeros_0f7a4_9 : decode cJ6_numberOfTrailingZeros_0f7a4 9 = .ok (.ifCond .gt 8, 3) := by decide +kernel
theorem dJ6_numberOfTrailingZeros_0f7a4_12 : decode cJ6_numberOfTrailingZeros_0f7a4 12 = .ok (.iload_n 0, 1) := by decide +kernel
theorem dJ6_numberOfTrailingZeros_0f7a4_13 : decode cJ6_numberOfTrailingZeros_0f7a4 13 = .ok (.bipush 32, 2) := by decide +kernel
theorem dJ6_numberOfTrailingZeros_0f7a4_15 : decode cJ6_numberOfTrailingZeros_0f7a4 15 = .ok (.iand, 1) := by decide +kernel
theorem dJ6_numberOfTrailingZeros_0f7a4_16 : decode cJ6_numberOfTrailingZeros_0f7a4 16 = .ok (.ireturn, 1) := by decide +kernel
theorem dJ6_numberOfTrailingZeros_0f7a4_17 : decode cJ6_numberOfTrailingZeros_0f7a4 17 = .ok (.iconst 1, 1) := by decide +kernel
theorem dJ6_numberOfTrailingZeros_0f7a4_18 : decode cJ6_numberOfTrailingZeros_0f7a4 18 = .ok (.istore_n 1, 1) := by decide +kernel
theorem dJ6_numberOfTrailingZeros_0f7a4_19 : decode cJ6_numberOfTrailingZeros_0f7a4 19 = .ok (.iload_n 0, 1) := by decide +kernel
theorem dJ6_numberOfTrailingZeros_0f7a4_20 : decode cJ6_numberOfTrailingZeros_0f7a4 20 = .ok (.ldc_w 264, 3) := by decide +kernel
theorem dJ6_numberOfTrailingZeros_0f7a4_23 : decode cJ6_numberOfTrailingZeros_0f7a4 23 = .ok (.if_icmp .le 11, 3) := by decide +kernel
theorem dJ6_numberOfTrailingZeros_0f7a4_26 : decode cJ6_numberOfTrailingZeros_0f7a4 26 = .ok (.iinc 1 16, 3) := by decide +kernel
theorem dJ6_numberOfTrailingZeros_0f7a4_29 : decode cJ6_numberOfTrailingZeros_0f7a4 29 = .ok (.iload_n 0, 1) := by decide +kernel
theorem dJ6_numberOfTrailingZeros_0f7a4_30 : decode cJ6_numberOfTrailingZeros_0f7a4 30 = .ok (.bipush 16, 2) := by decide +kernel
theorem dJ6_numberOfTrailingZeros_0f7a4_32 : decode cJ6_numberOfTrailingZeros_0f7a4 32 = .ok (.iushr, 1) := by decide +kernel
theorem dJ6_numberOfTrailingZeros_0f7a4_33 : decode cJ6_numberOfTrailingZeros_0f7a4 33 = .ok (.istore_n 0, 1) := by decide +kernel
theorem dJ6_numberOfTrailingZeros_0f7a4_34 : decode cJ6_numberOfTrailingZeros_0f7a4 34 = .ok (.iload_n 0, 1) := by decide +kernel
theorem dJ6_numberOfTrailingZeros_0f7a4_35 : decode cJ6_numberOfTrailingZeros_0f7a4 35 = .ok (.sipush 256, 3) := by decide +kernel
theorem dJ6_numberOfTrailingZeros_0f7a4_38 : decode cJ6_numberOfTrailingZeros_0f7a4 38 = .ok (.if_icmp .le 11, 3) := by decide +kernel
theorem dJ6_numberOfTrailingZeros_0f7a4_41 : decode cJ6_numberOfTrailingZeros_0f7a4 41 = .ok (.iinc 1 8, 3) := by decide +kernel
theorem dJ6_numberOfTrailingZeros_0f7a4_44 : decode cJ6_numberOfTrailingZeros_0f7a4 44 = .ok (.iload_n 0, 1) := by decide +kernel
theorem dJ6_numberOfTrailingZeros_0f7a4_45 : decode cJ6_numberOfTrailingZeros_0f7a4 45 = .ok (.bipush 8, 2) := by decide +kernel
theorem dJ6_numberOfTrailingZeros_0f7a4_47 : decode cJ6_numberOfTrailingZeros_0f7a4 47 = .ok (.iushr, 1) := by decide +kernel
theorem dJ6_numberOfTrailingZeros_0f7a4_48 : decode cJ6_numberOfTrailingZeros_0f7a4 48 = .ok (.istore_n 0, 1) := by decide +kernel
theorem dJ6_numberOfTrailingZeros_0f7a4_49 : decode cJ6_numberOfTrailingZeros_0f7a4 49 = .ok (.iload_n 0, 1) := by decide +kernel
theorem dJ6_numberOfTrailingZeros_0f7a4_50 : decode cJ6_numberOfTrailingZeros_0f7a4 50 = .ok (.bipush 16, 2) := by decide +kernel
theorem dJ6_numberOfTrailingZeros_0f7a4_52 : decode cJ6_numberOfTrailingZeros_0f7a4 52 = .ok (.if_icmp .le 10, 3) := by decide +kernel
theorem dJ6_numberOfTrailingZeros_0f7a4_55 : decode cJ6_numberOfTrailingZeros_0f7a4 55 = .ok (.iinc 1 4, 3) := by decide +kernel
theorem dJ6_numberOfTrailingZeros_0f7a4_58 : decode cJ6_numberOfTrailingZeros_0f7a4 58 = .ok (.iload_n 0, 1) := by decide +kernel
theorem dJ6_numberOfTrailingZeros_0f7a4_59 : decode cJ6_numberOfTrailingZeros_0f7a4 59 = .ok (.iconst 4, 1) := by decide +kernel
theorem dJ6_numberOfTrailingZeros_0f7a4_60 : decode cJ6_numberOfTrailingZeros_0f7a4 60 = .ok (.iushr, 1) := by decide +kernel
theorem dJ6_numberOfTrailingZeros_0f7a4_61 : decode cJ6_numberOfTrailingZeros_0f7a4 61 = .ok (.istore_n 0, 1) := by decide +kernel
theorem dJ6_numberOfTrailingZeros_0f7a4_62 : decode cJ6_numberOfTrailingZeros_0f7a4 62 = .ok (.iload_n 0, 1) := by decide +kernel
theorem dJ6_numberOfTrailingZeros_0f7a4_63 : decode cJ6_numberOfTrailingZeros_0f7a4 63 = .ok (.iconst 4, 1) := by decide +kernel
theorem dJ6_numberOfTrailingZeros_0f7a4_64 : decode cJ6_numberOfTrailingZeros_0f7a4 64 = .ok (.if_icmp .le 10, 3) := by decide +kernel
theorem dJ6_numberOfTrailingZeros_0f7a4_67 : decode cJ6_numberOfTrailingZeros_0f7a4 67 = .ok (.iinc 1 2, 3) := by decide +kernel
theorem dJ6_numberOfTrailingZeros_0f7a4_70 : decode cJ6_numberOfTrailingZeros_0f7a4 70 = .ok (.iload_n 0, 1) := by decide +kernel
theorem dJ6_numberOfTrailingZeros_0f7a4_71 : decode cJ6_numberOfTrailingZeros_0f7a4 71 = .ok (.iconst 2, 1) := by decide +kernel
theorem dJ6_numberOfTrailingZeros_0f7a4_72 : decode cJ6_numberOfTrailingZeros_0f7a4 72 = .ok (.iushr, 1) := by decide +kernel
theorem dJ6_numberOfTrailingZeros_0f7a4_73 : decode cJ6_numberOfTrailingZeros_0f7a4 73 = .ok (.istore_n 0, 1) := by decide +kernel
theorem dJ6_numberOfTrailingZeros_0f7a4_74 : decode cJ6_numberOfTrailingZeros_0f7a4 74 = .ok (.iload_n 1, 1) := by decide +kernel
theorem dJ6_numberOfTrailingZeros_0f7a4_75 : decode cJ6_numberOfTrailingZeros_0f7a4 75 = .ok (.iload_n 0, 1) := by decide +kernel
theorem dJ6_numberOfTrailingZeros_0f7a4_76 : decode cJ6_numberOfTrailingZeros_0f7a4 76 = .ok (.iconst 1, 1) := by decide +kernel
theorem dJ6_numberOfTrailingZeros_0f7a4_77 : decode cJ6_numberOfTrailingZeros_0f7a4 77 = .ok (.iushr, 1) := by decide +kernel
theorem dJ6_numberOfTrailingZeros_0f7a4_78 : decode cJ6_numberOfTrailingZeros_0f7a4 78 = .ok (.iadd, 1) := by decide +kernel
theorem dJ6_numberOfTrailingZeros_0f7a4_79 : decode cJ6_numberOfTrailingZeros_0f7a4 79 = .ok (.ireturn, 1) := by decide +kernel
theorem dJ6_bitCount_0f7a4_0 : decode cJ6_bitCount_0f7a4 0 = .ok (.iload_n 0, 1) := by decide +kernel
theorem dJ6_bitCount_0f7a4_1 : decode cJ6_bitCount_0f7a4 1 = .ok (.iload_n 0, 1) := by decide +kernel
theorem dJ6_bitCount_0f7a4_2 : decode cJ6_bitCount_0f7a4 2 = .ok (.iconst 1, 1) := by decide +kernel
theorem dJ6_bitCount_0f7a4_3 : decode cJ6_bitCount_0f7a4 3 = .ok (.iushr, 1) := by decide +kernel
theorem dJ6_bitCount_0f7a4_4 : decode cJ6_bitCount_0f7a4 4 = .ok (.ldc_w 265, 3) := by decide +kernel
theorem dJ6_bitCount_0f7a4_7 : decode cJ6_bitCount_0f7a4 7 = .ok (.iand, 1) := by decide +kernel
theorem dJ6_bitCount_0f7a4_8 : decode cJ6_bitCount_0f7a4 8 = .ok (.isub, 1) := by decide +kernel
theorem dJ6_bitCount_0f7a4_9 : decode cJ6_bitCount_0f7a4 9 = .ok (.istore_n 0, 1) := by decide +kernel
theorem dJ6_bitCount_0f7a4_10 : decode cJ6_bitCount_0f7a4 10 = .ok (.iload_n 0, 1) := by decide +kernel
theorem dJ6_bitCount_0f7a4_11 : decode cJ6_bitCount_0f7a4 11 = .ok (.ldc_w 266, 3) := by decide +kernel
theorem dJ6_bitCount_0f7a4_14 : decode cJ6_bitCount_0f7a4 14 = .ok (.iand, 1) := by decide +kernel
theorem dJ6_bitCount_0f7a4_15 : decode cJ6_bitCount_0f7a4 15 = .ok (.iload_n 0, 1) := by decide +kernel
theorem dJ6_bitCount_0f7a4_16 : decode cJ6_bitCount_0f7a4 16 = .ok (.iconst 2, 1) := by decide +kernel
theorem dJ6_bitCount_0f7a4_17 : decode cJ6_bitCount_0f7a4 17 = .ok (.iushr, 1) := by decide +kernel
theorem dJ6_bitCount_0f7a4_18 : decode cJ6_bitCount_0f7a4 18 = .ok (.ldc_w 266, 3) := by decide +kernel
theorem dJ6_bitCount_0f7a4_21 : decode cJ6_bitCount_0f7a4 21 = .ok (.iand, 1) := by decide +kernel
theorem dJ6_bitCount_0f7a4_22 : decode cJ6_bitCount_0f7a4 22 = .ok (.iadd, 1) := by decide +kernel
theorem dJ6_bitCount_0f7a4_23 : decode cJ6_bitCount_0f7a4 23 = .ok (.istore_n 0, 1) := by decide +kernel
theorem dJ6_bitCount_0f7a4_24 : decode cJ6_bitCount_0f7a4 24 = .ok (.iload_n 0, 1) := by decide +kernel
theorem dJ6_bitCount_0f7a4_25 : decode cJ6_bitCount_0f7a4 25 = .ok (.iload_n 0, 1) := by decide +kernel
theorem dJ6_bitCount_0f7a4_26 : decode cJ6_bitCount_0f7a4 26 = .ok (.iconst 4, 1) := by decide +kernel
theorem dJ6_bitCount_0f7a4_27 : decode cJ6_bitCount_0f7a4 27 = .ok (.iushr, 1) := by decide +kernel
theorem dJ6_bitCount_0f7a4_28 : decode cJ6_bitCount_0f7a4 28 = .ok (.iadd, 1) := by decide +kernel
theorem dJ6_bitCount_0f7a4_29 : decode cJ6_bitCount_0f7a4 29 = .ok (.ldc_w 267, 3) := by decide +kernel
theorem dJ6_bitCount_0f7a4_32 : decode cJ6_bitCount_0f7a4 32 = .ok (.iand, 1) := by decide +kernel
theorem dJ6_bitCount_0f7a4_33 : decode cJ6_bitCount_0f7a4 33 = .ok (.istore_n 0, 1) := by decide +kernel
theorem dJ6_bitCount_0f7a4_34 : decode cJ6_bitCount_0f7a4 34 = .ok (.iload_n 0, 1) := by decide +kernel
theorem dJ6_bitCount_0f7a4_35 : decode cJ6_bitCount_0f7a4 35 = .ok (.iload_n 0, 1) := by decide +kernel
theorem dJ6_bitCount_0f7a4_36 : decode cJ6_bitCount_0f7a4 36 = .ok (.bipush 8, 2) := by decide +kernel
theorem dJ6_bitCount_0f7a4_38 : decode cJ6_bitCount_0f7a4 38 = .ok (.iushr, 1) := by decide +kernel
theorem dJ6_bitCount_0f7a4_39 : decode cJ6_bitCount_0f7a4 39 = .ok (.iadd, 1) := by decide +kernel
theorem dJ6_bitCount_0f7a4_40 : decode cJ6_bitCount_0f7a4 40 = .ok (.istore_n 0, 1) := by decide +kernel
theorem dJ6_bitCount_0f7a4_41 : decode cJ6_bitCount_0f7a4 41 = .ok (.iload_n 0, 1) := by decide +kernel
theorem dJ6_bitCount_0f7a4_42 : decode cJ6_bitCount_0f7a4 42 = .ok (.iload_n 0, 1) := by decide +kernel
theorem dJ6_bitCount_0f7a4_43 : decode cJ6_bitCount_0f7a4 43 = .ok (.bipush 16, 2) := by decide +kernel
theorem dJ6_bitCount_0f7a4_45 : decode cJ6_bitCount_0f7a4 45 = .ok (.iushr, 1) := by decide +kernel
theorem dJ6_bitCount_0f7a4_46 : decode cJ6_bitCount_0f7a4 46 = .ok (.iadd, 1) := by decide +kernel
theorem dJ6_bitCount_0f7a4_47 : decode cJ6_bitCount_0f7a4 47 = .ok (.istore_n 0, 1) := by decide +kernel
theorem dJ6_bitCount_0f7a4_48 : decode cJ6_bitCount_0f7a4 48 = .ok (.iload_n 0, 1) := by decide +kernel
theorem dJ6_bitCount_0f7a4_49 : decode cJ6_bitCount_0f7a4 49 = .ok (.bipush 63, 2) := by decide +kernel
theorem dJ6_bitCount_0f7a4_51 : decode cJ6_bitCount_0f7a4 51 = .ok (.iand, 1) := by decide +kernel
theorem dJ6_bitCount_0f7a4_52 : decode cJ6_bitCount_0f7a4 52 = .ok (.ireturn, 1) := by decide +kernel
theorem dJ9_abs_0f7a4_0 : decode cJ9_abs_0f7a4 0 = .ok (.iload_n 0, 1) := by decide +kernel
theorem dJ9_abs_0f7a4_1 : decode cJ9_abs_0f7a4 1 = .ok (.ifCond .ge 8, 3) := by decide +kernel
theorem dJ9_abs_0f7a4_4 : decode cJ9_abs_0f7a4 4 = .ok (.iload_n 0, 1) := by decide +kernel
theorem dJ9_abs_0f7a4_5 : decode cJ9_abs_0f7a4 5 = .ok (.ineg, 1) := by decide +kernel
theorem dJ9_abs_0f7a4_6 : decode cJ9_abs_0f7a4 6 = .ok (.goto 4, 3) := by decide +kernel
theorem dJ9_abs_0f7a4_9 : decode cJ9_abs_0f7a4 9 = .ok (.iload_n 0, 1) := by decide +kernel
theorem dJ9_abs_0f7a4_10 : decode cJ9_abs_0f7a4 10 = .ok (.ireturn, 1) := by decide +kernel
theorem dJ9_max_7cf53_0 : decode cJ9_max_7cf53 0 = .ok (.iload_n 0, 1) := by decide +kernel
theorem dJ9_max_7cf53_1 : decode cJ9_max_7cf53 1 = .ok (.iload_n 1, 1) := by decide +kernel
theorem dJ9_max_7cf53_2 : decode cJ9_max_7cf53 2 = .ok (.if_icmp .lt 7, 3) := by decide +kernel
theorem dJ9_max_7cf53_5 : decode cJ9_max_7cf53 5 = .ok (.iload_n 0, 1) := by decide +kernel
theorem dJ9_max_7cf53_6 : decode cJ9_max_7cf53 6 = .ok (.goto 4, 3) := by decide +kernel
theorem dJ9_max_7cf53_9 : decode cJ9_max_7cf53 9 = .ok (.iload_n 1, 1) := by decide +kernel
theorem dJ9_max_7cf53_10 : decode cJ9_max_7cf53 10 = .ok (.ireturn, 1) := by decide +kernel
theorem dJ9_min_7cf53_0 : decode cJ9_min_7cf53 0 = .ok (.iload_n 0, 1) := by decide +kernel
theorem dJ9_min_7cf53_1 : decode cJ9_min_7cf53 1 = .ok (.iload_n 1, 1) := by decide +kernel
theorem dJ9_min_7cf53_2 : decode cJ9_min_7cf53 2 = .ok (.if_icmp .gt 7, 3) := by decide +kernel
theorem dJ9_min_7cf53_5 : decode cJ9_min_7cf53 5 = .ok (.iload_n 0, 1) := by decide +kernel
theorem dJ9_min_7cf53_6 : decode cJ9_min_7cf53 6 = .ok (.goto 4, 3) := by decide +kernel
theorem dJ9_min_7cf53_9 : decode cJ9_min_7cf53 9 = .ok (.iload_n 1, 1) := by decide +kernel
theorem dJ9_min_7cf53_10 : decode cJ9_min_7cf53 10 = .ok (.ireturn, 1) := by decide +kernel
theorem dJ0_length_8abf5_0 : decode cJ0_length_8abf5 0 = .ok (.aload_n 0, 1) := by decide +kernel
theorem dJ0_length_8abf5_1 : decode cJ0_length_8abf5 1 = .ok (.getfield 9, 3) := by decide +kernel
theorem dJ0_length_8abf5_4 : decode cJ0_length_8abf5 4 = .ok (.arraylength, 1) := by decide +kernel
theorem dJ0_length_8abf5_5 : decode cJ0_length_8abf5 5 = .ok (.aload_n 0, 1) := by decide +kernel
theorem dJ0_length_8abf5_6 : decode cJ0_length_8abf5 6 = .ok (.invokevirtual 335, 3) := by decide +kernel
theorem dJ0_length_8abf5_9 : decode cJ0_length_8abf5 9 = .ok (.ishr, 1) := by decide +kernel
theorem dJ0_length_8abf5_10 : decode cJ0_length_8abf5 10 = .ok (.ireturn, 1) := by decide +kernel
theorem dJ0_charAt_5068e_0 : decode cJ0_charAt_5068e 0 = .ok (.aload_n 0, 1) := by decide +kernel
theorem dJ0_charAt_5068e_1 : decode cJ0_charAt_5068e 1 = .ok (.invokevirtual 492, 3) := by decide +kernel
theorem dJ0_charAt_5068e_4 : decode cJ0_charAt_5068e 4 = .ok (.ifCond .eq 12, 3) := by decide +kernel
theorem dJ0_charAt_5068e_7 : decode cJ0_charAt_5068e 7 = .ok (.aload_n 0, 1) := by decide +kernel
theorem dJ0_charAt_5068e_8 : decode cJ0_charAt_5068e 8 = .ok (.getfield 9, 3) := by decide +kernel
theorem dJ0_charAt_5068e_11 : decode cJ0_charAt_5068e 11 = .ok (.iload_n 1, 1) := by decide +kernel
theorem dJ0_charAt_5068e_12 : decode cJ0_charAt_5068e 12 = .ok (.invokestatic 495, 3) := by decide +kernel
theorem dJ0_charAt_5068e_15 : decode cJ0_charAt_5068e 15 = .ok (.ireturn, 1) := by decide +kernel
theorem dJ0_charAt_5068e_16 : decode cJ0_charAt_5068e 16 = .ok (.aload_n 0, 1) := by decide +kernel
theorem dJ0_charAt_5068e_17 : decode cJ0_charAt_5068e 17 = .ok (.getfield 9, 3) := by decide +kernel
theorem dJ0_charAt_5068e_20 : decode cJ0_charAt_5068e 20 = .ok (.iload_n 1, 1) := by decide +kernel
theorem dJ0_charAt_5068e_21 : decode cJ0_charAt_5068e 21 = .ok (.invokestatic 498, 3) := by decide +kernel
theorem dJ0_charAt_5068e_24 : decode cJ0_charAt_5068e 24 = .ok (.ireturn, 1) := by decide +kernel
theorem dJ0_indexOf_0f7a4_0 : decode cJ0_indexOf_0f7a4 0 = .ok (.aload_n 0, 1) := by decide +kernel
theorem dJ0_indexOf_0f7a4_1 : decode cJ0_indexOf_0f7a4 1 = .ok (.iload_n 1, 1) := by decide +kernel
theorem dJ0_indexOf_0f7a4_2 : decode cJ0_indexOf_0f7a4 2 = .ok (.iconst 0, 1) := by decide +kernel
theorem dJ0_indexOf_0f7a4_3 : decode cJ0_indexOf_0f7a4 3 = .ok (.invokevirtual 633, 3) := by decide +kernel
theorem dJ0_indexOf_0f7a4_6 : decode cJ0_indexOf_0f7a4 6 = .ok (.ireturn, 1) := by decide +kernel
theorem dJ0_indexOf_7cf53_0 : decode cJ0_indexOf_7cf53 0 = .ok (.aload_n 0, 1) := by decide +kernel
theorem dJ0_indexOf_7cf53_1 : decode cJ0_indexOf_7cf53 1 = .ok (.invokevirtual 492, 3) := by decide +kernel
theorem dJ0_indexOf_7cf53_4 : decode cJ0_indexOf_7cf53 4 = .ok (.ifCond .eq 19, 3) := by decide +kernel
theorem dJ0_indexOf_7cf53_7 : decode cJ0_indexOf_7cf53 7 = .ok (.aload_n 0, 1) := by decide +kernel
theorem dJ0_indexOf_7cf53_8 : decode cJ0_indexOf_7cf53 8 = .ok (.getfield 9, 3) := by decide +kernel
theorem dJ0_indexOf_7cf53_11 : decode cJ0_indexOf_7cf53 11 = .ok (.iload_n 1, 1) := by decide +kernel
theorem dJ0_indexOf_7cf53_12 : decode cJ0_indexOf_7cf53 12 = .ok (.iload_n 2, 1) := by decide +kernel
theorem dJ0_indexOf_7cf53_13 : decode cJ0_indexOf_7cf53 13 = .ok (.aload_n 0, 1) := by decide +kernel
theorem dJ0_indexOf_7cf53_14 : decode cJ0_indexOf_7cf53 14 = .ok (.invokevirtual 505, 3) := by decide +kernel
theorem dJ0_indexOf_7cf53_17 : decode cJ0_indexOf_7cf53 17 = .ok (.invokestatic 637, 3) := by decide +kernel
theorem dJ0_indexOf_7cf53_20 : decode cJ0_indexOf_7cf53 20 = .ok (.goto 16, 3) := by decide +kernel
theorem dJ0_indexOf_7cf53_23 : decode cJ0_indexOf_7cf53 23 = .ok (.aload_n 0, 1) := by decide +kernel
theorem dJ0_indexOf_7cf53_24 : decode cJ0_indexOf_7cf53 24 = .ok (.getfield 9, 3) := by decide +kernel
theorem dJ0_indexOf_7cf53_27 : decode cJ0_indexOf_7cf53 27 = .ok (.iload_n 1, 1) := by decide +kernel
theorem dJ0_indexOf_7cf53_28 : decode cJ0_indexOf_7cf53 28 = .ok (.iload_n 2, 1) := by decide +kernel
theorem dJ0_indexOf_7cf53_29 : decode cJ0_indexOf_7cf53 29 = .ok (.aload_n 0, 1) := by decide +kernel
theorem dJ0_indexOf_7cf53_30 : decode cJ0_indexOf_7cf53 30 = .ok (.invokevirtual 505, 3) := by decide +kernel
theorem dJ0_indexOf_7cf53_33 : decode cJ0_indexOf_7cf53 33 = .ok (.invokestatic 640, 3) := by decide +kernel
theorem dJ0_indexOf_7cf53_36 : decode cJ0_indexOf_7cf53 36 = .ok (.ireturn, 1) := by decide +kernel
theorem dJ0_coder_7d493_0 : decode cJ0_coder_7d493 0 = .ok (.getstatic 38, 3) := by decide +kernel
theorem dJ0_coder_7d493_3 : decode cJ0_coder_7d493 3 = .ok (.ifCond .eq 10, 3) := by decide +kernel
theorem dJ0_coder_7d493_6 : decode cJ0_coder_7d493 6 = .ok (.aload_n 0, 1) := by decide +kernel
theorem dJ0_coder_7d493_7 : decode cJ0_coder_7d493 7 = .ok (.getfield 15, 3) := by decide +kernel
theorem dJ0_coder_7d493_10 : decode cJ0_coder_7d493 10 = .ok (.goto 4, 3) := by decide +kernel
theorem dJ0_coder_7d493_13 : decode cJ0_coder_7d493 13 = .ok (.iconst 1, 1) := by decide +kernel
theorem dJ0_coder_7d493_14 : decode cJ0_coder_7d493 14 = .ok (.ireturn, 1) := by decide +kernel
theorem dJ0_isLatin1_aae02_0 : decode cJ0_isLatin1_aae02 0 = .ok (.getstatic 38, 3) := by decide +kernel
theorem dJ0_isLatin1_aae02_3 : decode cJ0_isLatin1_aae02 3 = .ok (.ifCond .eq 14, 3) := by decide +kernel
theorem dJ0_isLatin1_aae02_6 : decode cJ0_isLatin1_aae02 6 = .ok (.aload_n 0, 1) := by decide +kernel
theorem dJ0_isLatin1_aae02_7 : decode cJ0_isLatin1_aae02 7 = .ok (.getfield 15, 3) := by decide +kernel
theorem dJ0_isLatin1_aae02_10 : decode cJ0_isLatin1_aae02 10 = .ok (.ifCond .ne 7, 3) := by decide +kernel
theorem dJ0_isLatin1_aae02_13 : decode cJ0_isLatin1_aae02 13 = .ok (.iconst 1, 1) := by decide +kernel
theorem dJ0_isLatin1_aae02_14 : decode cJ0_isLatin1_aae02 14 = .ok (.goto 4, 3) := by decide +kernel
theorem dJ0_isLatin1_aae02_17 : decode cJ0_isLatin1_aae02 17 = .ok (.iconst 0, 1) := by decide +kernel
theorem dJ0_isLatin1_aae02_18 : decode cJ0_isLatin1_aae02 18 = .ok (.ireturn, 1) := by decide +kernel
theorem dJ0_checkIndex_df160_0 : decode cJ0_checkIndex_df160 0 = .ok (.iload_n 0, 1) := by decide +kernel
theorem dJ0_checkIndex_df160_1 : decode cJ0_checkIndex_df160 1 = .ok (.iload_n 1, 1) := by decide +kernel
theorem dJ0_checkIndex_df160_2 : decode cJ0_checkIndex_df160 2 = .ok (.getstatic 1053, 3) := by decide +kernel
theorem dJ0_checkIndex_df160_5 : decode cJ0_checkIndex_df160 5 = .ok (.invokestatic 1059, 3) := by decide +kernel
theorem dJ0_checkIndex_df160_8 : decode cJ0_checkIndex_df160 8 = .ok (.pop, 1) := by decide +kernel
theorem dJ0_checkIndex_df160_9 : decode cJ0_checkIndex_df160 9 = .ok (.return_, 1) := by decide +kernel
theorem dJ0_checkBoundsBeginEnd_23922_0 : decode cJ0_checkBoundsBeginEnd_23922 0 = .ok (.iload_n 0, 1) := by decide +kernel
theorem dJ0_checkBoundsBeginEnd_23922_1 : decode cJ0_checkBoundsBeginEnd_23922 1 = .ok (.iload_n 1, 1) := by decide +kernel
theorem dJ0_checkBoundsBeginEnd_23922_2 : decode cJ0_checkBoundsBeginEnd_23922 2 = .ok (.iload_n 2, 1) := by decide +kernel
theorem dJ0_checkBoundsBeginEnd_23922_3 : decode cJ0_checkBoundsBeginEnd_23922 3 = .ok (.getstatic 1053, 3) := by decide +kernel
theorem dJ0_checkBoundsBeginEnd_23922_6 : decode cJ0_checkBoundsBeginEnd_23922 6 = .ok (.invokestatic 1062, 3) := by decide +kernel
theorem dJ0_checkBoundsBeginEnd_23922_9 : decode cJ0_checkBoundsBeginEnd_23922 9 = .ok (.pop, 1) := by decide +kernel
theorem dJ0_checkBoundsBeginEnd_23922_10 : decode cJ0_checkBoundsBeginEnd_23922 10 = .ok (.return_, 1) := by decide +kernel
theorem dJ1_charAt_3b067_0 : decode cJ1_charAt_3b067 0 = .ok (.iload_n 1, 1) := by decide +kernel
theorem dJ1_charAt_3b067_1 : decode cJ1_charAt_3b067 1 = .ok (.aload_n 0, 1) := by decide +kernel
theorem dJ1_charAt_3b067_2 : decode cJ1_charAt_3b067 2 = .ok (.arraylength, 1) := by decide +kernel
theorem dJ1_charAt_3b067_3 : decode cJ1_charAt_3b067 3 = .ok (.invokestatic 9, 3) := by decide +kernel
theorem dJ1_charAt_3b067_6 : decode cJ1_charAt_3b067 6 = .ok (.aload_n 0, 1) := by decide +kernel
theorem dJ1_charAt_3b067_7 : decode cJ1_charAt_3b067 7 = .ok (.iload_n 1, 1) := by decide +kernel
theorem dJ1_charAt_3b067_8 : decode cJ1_charAt_3b067 8 = .ok (.baload, 1) := by decide +kernel
theorem dJ1_charAt_3b067_9 : decode cJ1_charAt_3b067 9 = .ok (.sipush 255, 3) := by decide +kernel
theorem dJ1_charAt_3b067_12 : decode cJ1_charAt_3b067 12 = .ok (.iand, 1) := by decide +kernel
theorem dJ1_charAt_3b067_13 : decode cJ1_charAt_3b067 13 = .ok (.i2c, 1) := by decide +kernel
theorem dJ1_charAt_3b067_14 : decode cJ1_charAt_3b067 14 = .ok (.ireturn, 1) := by decide +kernel
theorem dJ1_canEncode_9a6ad_0 : decode cJ1_canEncode_9a6ad 0 = .ok (.iload_n 0, 1) := by decide +kernel
theorem dJ1_canEncode_9a6ad_1 : decode cJ1_canEncode_9a6ad 1 = .ok (.ifCond .lt 14, 3) := by decide +kernel
theorem dJ1_canEncode_9a6ad_4 : decode cJ1_canEncode_9a6ad 4 = .ok (.iload_n 0, 1) := by decide +kernel
theorem dJ1_canEncode_9a6ad_5 : decode cJ1_canEncode_9a6ad 5 = .ok (.sipush 255, 3) := by decide +kernel
theorem dJ1_canEncode_9a6ad_8 : decode cJ1_canEncode_9a6ad 8 = .ok (.if_icmp .gt 7, 3) := by decide +kernel
theorem dJ1_canEncode_9a6ad_11 : decode cJ1_canEncode_9a6ad 11 = .ok (.iconst 1, 1) := by decide +kernel
theorem dJ1_canEncode_9a6ad_12 : decode cJ1_canEncode_9a6ad 12 = .ok (.goto 4, 3) := by decide +kernel
theorem dJ1_canEncode_9a6ad_15 : decode cJ1_canEncode_9a6ad 15 = .ok (.iconst 0, 1) := by decide +kernel
theorem dJ1_canEncode_9a6ad_16 : decode cJ1_canEncode_9a6ad 16 = .ok (.ireturn, 1) := by decide +kernel
theorem dJ1_indexOf_4cfef_0 : decode cJ1_indexOf_4cfef 0 = .ok (.iload_n 1, 1) := by decide +kernel
theorem dJ1_indexOf_4cfef_1 : decode cJ1_indexOf_4cfef 1 = .ok (.invokestatic 88, 3) := by decide +kernel
theorem dJ1_indexOf_4cfef_4 : decode cJ1_indexOf_4cfef 4 = .ok (.ifCond .ne 5, 3) := by decide +kernel
theorem dJ1_indexOf_4cfef_7 : decode cJ1_indexOf_4cfef 7 = .ok (.iconst (-1), 1) := by decide +kernel
theorem dJ1_indexOf_4cfef_8 : decode cJ1_indexOf_4cfef 8 = .ok (.ireturn, 1) := by decide +kernel
theorem dJ1_indexOf_4cfef_9 : decode cJ1_indexOf_4cfef 9 = .ok (.iload_n 2, 1) := by decide +kernel
theorem dJ1_indexOf_4cfef_10 : decode cJ1_indexOf_4cfef 10 = .ok (.iconst 0, 1) := by decide +kernel
theorem dJ1_indexOf_4cfef_11 : decode cJ1_indexOf_4cfef 11 = .ok (.invokestatic 92, 3) := by decide +kernel
theorem dJ1_indexOf_4cfef_14 : decode cJ1_indexOf_4cfef 14 = .ok (.istore_n 2, 1) := by decide +kernel
theorem dJ1_indexOf_4cfef_15 : decode cJ1_indexOf_4cfef 15 = .ok (.iload_n 3, 1) := by decide +kernel
theorem dJ1_indexOf_4cfef_16 : decode cJ1_indexOf_4cfef 16 = .ok (.aload_n 0, 1) := by decide +kernel
theorem dJ1_indexOf_4cfef_17 : decode cJ1_indexOf_4cfef 17 = .ok (.arraylength, 1) := by decide +kernel
theorem dJ1_indexOf_4cfef_18 : decode cJ1_indexOf_4cfef 18 = .ok (.invokestatic 38, 3) := by decide +kernel
theorem dJ1_indexOf_4cfef_21 : decode cJ1_indexOf_4cfef 21 = .ok (.istore_n 3, 1) := by decide +kernel
theorem dJ1_indexOf_4cfef_22 : decode cJ1_indexOf_4cfef 22 = .ok (.iload_n 2, 1) := by decide +kernel
theorem dJ1_indexOf_4cfef_23 : decode cJ1_indexOf_4cfef 23 = .ok (.iload_n 3, 1) := by decide +kernel
theorem dJ1_indexOf_4cfef_24 : decode cJ1_indexOf_4cfef 24 = .ok (.if_icmp .lt 5, 3) := by decide +kernel
theorem dJ1_indexOf_4cfef_27 : decode cJ1_indexOf_4cfef 27 = .ok (.iconst (-1), 1) := by decide +kernel
theorem dJ1_indexOf_4cfef_28 : decode cJ1_indexOf_4cfef 28 = .ok (.ireturn, 1) := by decide +kernel
theorem dJ1_indexOf_4cfef_29 : decode cJ1_indexOf_4cfef 29 = .ok (.aload_n 0, 1) := by decide +kernel
theorem dJ1_indexOf_4cfef_30 : decode cJ1_indexOf_4cfef 30 = .ok (.iload_n 1, 1) := by decide +kernel
theorem dJ1_indexOf_4cfef_31 : decode cJ1_indexOf_4cfef 31 = .ok (.iload_n 2, 1) := by decide +kernel
theorem dJ1_indexOf_4cfef_32 : decode cJ1_indexOf_4cfef 32 = .ok (.iload_n 3, 1) := by decide +kernel
theorem dJ1_indexOf_4cfef_33 : decode cJ1_indexOf_4cfef 33 = .ok (.invokestatic 95, 3) := by decide +kernel
theorem dJ1_indexOf_4cfef_36 : decode cJ1_indexOf_4cfef 36 = .ok (.ireturn, 1) := by decide +kernel
theorem dJ1_indexOfChar_4cfef_0 : decode cJ1_indexOfChar_4cfef 0 = .ok (.iload_n 1, 1) := by decide +kernel
theorem dJ1_indexOfChar_4cfef_1 : decode cJ1_indexOfChar_4cfef 1 = .ok (.i2b, 1) := by decide +kernel
theorem dJ1_indexOfChar_4cfef_2 : decode cJ1_indexOfChar_4cfef 2 = .ok (.istore 4, 2) := by decide +kernel
theorem dJ1_indexOfChar_4cfef_4 : decode cJ1_indexOfChar_4cfef 4 = .ok (.iload_n 2, 1) := by decide +kernel
theorem dJ1_indexOfChar_4cfef_5 : decode cJ1_indexOfChar_4cfef 5 = .ok (.istore 5, 2) := by decide +kernel
theorem dJ1_indexOfChar_4cfef_7 : decode cJ1_indexOfChar_4cfef 7 = .ok (.iload 5, 2) := by decide +kernel
theorem dJ1_indexOfChar_4cfef_9 : decode cJ1_indexOfChar_4cfef 9 = .ok (.iload_n 3, 1) := by decide +kernel
theorem dJ1_indexOfChar_4cfef_10 : decode cJ1_indexOfChar_4cfef 10 = .ok (.if_icmp .ge 21, 3) := by decide +kernel
theorem dJ1_indexOfChar_4cfef_13 : decode cJ1_indexOfChar_4cfef 13 = .ok (.aload_n 0, 1) := by decide +kernel
theorem dJ1_indexOfChar_4cfef_14 : decode cJ1_indexOfChar_4cfef 14 = .ok (.iload 5, 2) := by decide +kernel
theorem dJ1_indexOfChar_4cfef_16 : decode cJ1_indexOfChar_4cfef 16 = .ok (.baload, 1) := by decide +kernel
theorem dJ1_indexOfChar_4cfef_17 : decode cJ1_indexOfChar_4cfef 17 = .ok (.iload 4, 2) := by decide +kernel
theorem dJ1_indexOfChar_4cfef_19 : decode cJ1_indexOfChar_4cfef 19 = .ok (.if_icmp .ne 6, 3) := by decide +kernel
theorem dJ1_indexOfChar_4cfef_22 : decode cJ1_indexOfChar_4cfef 22 = .ok (.iload 5, 2) := by decide +kernel
theorem dJ1_indexOfChar_4cfef_24 : decode cJ1_indexOfChar_4cfef 24 = .ok (.ireturn, 1) := by decide +kernel
theorem dJ1_indexOfChar_4cfef_25 : decode cJ1_indexOfChar_4cfef 25 = .ok (.iinc 5 1, 3) := by decide +kernel
theorem dJ1_indexOfChar_4cfef_28 : decode cJ1_indexOfChar_4cfef 28 = .ok (.goto (-21), 3) := by decide +kernel
theorem dJ1_indexOfChar_4cfef_31 : decode cJ1_indexOfChar_4cfef 31 = .ok (.iconst (-1), 1) := by decide +kernel
theorem dJ1_indexOfChar_4cfef_32 : decode cJ1_indexOfChar_4cfef 32 = .ok (.ireturn, 1) := by decide +kernel
theorem dJ2_getChar_3b067_0 : decode cJ2_getChar_3b067 0 = .ok (.getstatic 44, 3) := by decide +kernel
theorem dJ2_getChar_3b067_3 : decode cJ2_getChar_3b067 3 = .ok (.ifCond .ne 25, 3) := by decide +kernel
theorem dJ2_getChar_3b067_6 : decode cJ2_getChar_3b067 6 = .ok (.iload_n 1, 1) := by decide +kernel
theorem dJ2_getChar_3b067_7 : decode cJ2_getChar_3b067 7 = .ok (.ifCond .lt 11, 3) := by decide +kernel
theorem dJ2_getChar_3b067_10 : decode cJ2_getChar_3b067 10 = .ok (.iload_n 1, 1) := by decide +kernel
theorem dJ2_getChar_3b067_11 : decode cJ2_getChar_3b067 11 = .ok (.aload_n 0, 1) := by decide +kernel
theorem dJ2_getChar_3b067_12 : decode cJ2_getChar_3b067 12 = .ok (.invokestatic 48, 3) := by decide +kernel
theorem dJ2_getChar_3b067_15 : decode cJ2_getChar_3b067 15 = .ok (.if_icmp .lt 13, 3) := by decide +kernel
theorem dJ2_getChar_3b067_18 : decode cJ2_getChar_3b067 18 = .ok (.new 52, 3) := by decide +kernel
theorem dJ2_getChar_3b067_21 : decode cJ2_getChar_3b067 21 = .ok (.dup, 1) := by decide +kernel
theorem dJ2_getChar_3b067_22 : decode cJ2_getChar_3b067 22 = .ok (.ldc 54, 2) := by decide +kernel
theorem dJ2_getChar_3b067_24 : decode cJ2_getChar_3b067 24 = .ok (.invokespecial 56, 3) := by decide +kernel
theorem dJ2_getChar_3b067_27 : decode cJ2_getChar_3b067 27 = .ok (.athrow, 1) := by decide +kernel
theorem dJ2_getChar_3b067_28 : decode cJ2_getChar_3b067 28 = .ok (.iload_n 1, 1) := by decide +kernel
theorem dJ2_getChar_3b067_29 : decode cJ2_getChar_3b067 29 = .ok (.iconst 1, 1) := by decide +kernel
theorem dJ2_getChar_3b067_30 : decode cJ2_getChar_3b067 30 = .ok (.ishl, 1) := by decide +kernel
theorem dJ2_getChar_3b067_31 : decode cJ2_getChar_3b067 31 = .ok (.istore_n 1, 1) := by decide +kernel
theorem dJ2_getChar_3b067_32 : decode cJ2_getChar_3b067 32 = .ok (.aload_n 0, 1) := by decide +kernel
theorem dJ2_getChar_3b067_33 : decode cJ2_getChar_3b067 33 = .ok (.iload_n 1, 1) := by decide +kernel
theorem dJ2_getChar_3b067_34 : decode cJ2_getChar_3b067 34 = .ok (.iinc 1 1, 3) := by decide +kernel
theorem dJ2_getChar_3b067_37 : decode cJ2_getChar_3b067 37 = .ok (.baload, 1) := by decide +kernel
theorem dJ2_getChar_3b067_38 : decode cJ2_getChar_3b067 38 = .ok (.sipush 255, 3) := by decide +kernel
theorem dJ2_getChar_3b067_41 : decode cJ2_getChar_3b067 41 = .ok (.iand, 1) := by decide +kernel
theorem dJ2_getChar_3b067_42 : decode cJ2_getChar_3b067 42 = .ok (.getstatic 59, 3) := by decide +kernel
theorem dJ2_getChar_3b067_45 : decode cJ2_getChar_3b067 45 = .ok (.ishl, 1) := by decide +kernel
theorem dJ2_getChar_3b067_46 : decode cJ2_getChar_3b067 46 = .ok (.aload_n 0, 1) := by decide +kernel
theorem dJ2_getChar_3b067_47 : decode cJ2_getChar_3b067 47 = .ok (.iload_n 1, 1) := by decide +kernel
theorem dJ2_getChar_3b067_48 : decode cJ2_getChar_3b067 48 = .ok (.baload, 1) := by decide +kernel
theorem dJ2_getChar_3b067_49 : decode cJ2_getChar_3b067 49 = .ok (.sipush 255, 3) := by decide +kernel
theorem dJ2_getChar_3b067_52 : decode cJ2_getChar_3b067 52 = .ok (.iand, 1) := by decide +kernel
theorem dJ2_getChar_3b067_53 : decode cJ2_getChar_3b067 53 = .ok (.getstatic 63, 3) := by decide +kernel
theorem dJ2_getChar_3b067_56 : decode cJ2_getChar_3b067 56 = .ok (.ishl, 1) := by decide +kernel
theorem dJ2_getChar_3b067_57 : decode cJ2_getChar_3b067 57 = .ok (.ior, 1) := by decide +kernel
theorem dJ2_getChar_3b067_58 : decode cJ2_getChar_3b067 58 = .ok (.i2c, 1) := by decide +kernel
theorem dJ2_getChar_3b067_59 : decode cJ2_getChar_3b067 59 = .ok (.ireturn, 1) := by decide +kernel
theorem dJ2_length_9d52b_0 : decode cJ2_length_9d52b 0 = .ok (.aload_n 0, 1) := by decide +kernel
theorem dJ2_length_9d52b_1 : decode cJ2_length_9d52b 1 = .ok (.arraylength, 1) := by decide +kernel
theorem dJ2_length_9d52b_2 : decode cJ2_length_9d52b 2 = .ok (.iconst 1, 1) := by decide +kernel
theorem dJ2_length_9d52b_3 : decode cJ2_length_9d52b 3 = .ok (.ishr, 1) := by decide +kernel
theorem dJ2_length_9d52b_4 : decode cJ2_length_9d52b 4 = .ok (.ireturn, 1) := by decide +kernel
theorem dJ2_indexOf_4cfef_0 : decode cJ2_indexOf_4cfef 0 = .ok (.iload_n 2, 1) := by decide +kernel
theorem dJ2_indexOf_4cfef_1 : decode cJ2_indexOf_4cfef 1 = .ok (.iconst 0, 1) := by decide +kernel
theorem dJ2_indexOf_4cfef_2 : decode cJ2_indexOf_4cfef 2 = .ok (.invokestatic 224, 3) := by decide +kernel
theorem dJ2_indexOf_4cfef_5 : decode cJ2_indexOf_4cfef 5 = .ok (.istore_n 2, 1) := by decide +kernel
theorem dJ2_indexOf_4cfef_6 : decode cJ2_indexOf_4cfef 6 = .ok (.iload_n 3, 1) := by decide +kernel
theorem dJ2_indexOf_4cfef_7 : decode cJ2_indexOf_4cfef 7 = .ok (.aload_n 0, 1) := by decide +kernel
theorem dJ2_indexOf_4cfef_8 : decode cJ2_indexOf_4cfef 8 = .ok (.arraylength, 1) := by decide +kernel
theorem dJ2_indexOf_4cfef_9 : decode cJ2_indexOf_4cfef 9 = .ok (.iconst 1, 1) := by decide +kernel
theorem dJ2_indexOf_4cfef_10 : decode cJ2_indexOf_4cfef 10 = .ok (.ishr, 1) := by decide +kernel
theorem dJ2_indexOf_4cfef_11 : decode cJ2_indexOf_4cfef 11 = .ok (.invokestatic 183, 3) := by decide +kernel
theorem dJ2_indexOf_4cfef_14 : decode cJ2_indexOf_4cfef 14 = .ok (.istore_n 3, 1) := by decide +kernel
theorem dJ2_indexOf_4cfef_15 : decode cJ2_indexOf_4cfef 15 = .ok (.iload_n 2, 1) := by decide +kernel
theorem dJ2_indexOf_4cfef_16 : decode cJ2_indexOf_4cfef 16 = .ok (.iload_n 3, 1) := by decide +kernel
theorem dJ2_indexOf_4cfef_17 : decode cJ2_indexOf_4cfef 17 = .ok (.if_icmp .lt 5, 3) := by decide +kernel
theorem dJ2_indexOf_4cfef_20 : decode cJ2_indexOf_4cfef 20 = .ok (.iconst (-1), 1) := by decide +kernel
theorem dJ2_indexOf_4cfef_21 : decode cJ2_indexOf_4cfef 21 = .ok (.ireturn, 1) := by decide +kernel
theorem dJ2_indexOf_4cfef_22 : decode cJ2_indexOf_4cfef 22 = .ok (.iload_n 1, 1) := by decide +kernel
theorem dJ2_indexOf_4cfef_23 : decode cJ2_indexOf_4cfef 23 = .ok (.ldc 227, 2) := by decide +kernel
theorem dJ2_indexOf_4cfef_25 : decode cJ2_indexOf_4cfef 25 = .ok (.if_icmp .ge 11, 3) := by decide +kernel
theorem dJ2_indexOf_4cfef_28 : decode cJ2_indexOf_4cfef 28 = .ok (.aload_n 0, 1) := by decide +kernel
theorem dJ2_indexOf_4cfef_29 : decode cJ2_indexOf_4cfef 29 = .ok (.iload_n 1, 1) := by decide +kernel
theorem dJ2_indexOf_4cfef_30 : decode cJ2_indexOf_4cfef 30 = .ok (.iload_n 2, 1) := by decide +kernel
theorem dJ2_indexOf_4cfef_31 : decode cJ2_indexOf_4cfef 31 = .ok (.iload_n 3, 1) := by decide +kernel
theorem dJ2_indexOf_4cfef_32 : decode cJ2_indexOf_4cfef 32 = .ok (.invokestatic 228, 3) := by decide +kernel
theorem dJ2_indexOf_4cfef_35 : decode cJ2_indexOf_4cfef 35 = .ok (.ireturn, 1) := by decide +kernel
theorem dJ2_indexOf_4cfef_36 : decode cJ2_indexOf_4cfef 36 = .ok (.aload_n 0, 1) := by decide +kernel
theorem dJ2_indexOf_4cfef_37 : decode cJ2_indexOf_4cfef 37 = .ok (.iload_n 1, 1) := by decide +kernel
theorem dJ2_indexOf_4cfef_38 : decode cJ2_indexOf_4cfef 38 = .ok (.iload_n 2, 1) := by decide +kernel
theorem dJ2_indexOf_4cfef_39 : decode cJ2_indexOf_4cfef 39 = .ok (.iload_n 3, 1) := by decide +kernel
theorem dJ2_indexOf_4cfef_40 : decode cJ2_indexOf_4cfef 40 = .ok (.invokestatic 232, 3) := by decide +kernel
theorem dJ2_indexOf_4cfef_43 : decode cJ2_indexOf_4cfef 43 = .ok (.ireturn, 1) := by decide +kernel
theorem dJ2_indexOfChar_4cfef_0 : decode cJ2_indexOfChar_4cfef 0 = .ok (.iload_n 2, 1) := by decide +kernel
theorem dJ2_indexOfChar_4cfef_1 : decode cJ2_indexOfChar_4cfef 1 = .ok (.iload_n 3, 1) := by decide +kernel
theorem dJ2_indexOfChar_4cfef_2 : decode cJ2_indexOfChar_4cfef 2 = .ok (.aload_n 0, 1) := by decide +kernel
theorem dJ2_indexOfChar_4cfef_3 : decode cJ2_indexOfChar_4cfef 3 = .ok (.invokestatic 96, 3) := by decide +kernel
theorem dJ2_indexOfChar_4cfef_6 : decode cJ2_indexOfChar_4cfef 6 = .ok (.aload_n 0, 1) := by decide +kernel
theorem dJ2_indexOfChar_4cfef_7 : decode cJ2_indexOfChar_4cfef 7 = .ok (.iload_n 1, 1) := by decide +kernel
theorem dJ2_indexOfChar_4cfef_8 : decode cJ2_indexOfChar_4cfef 8 = .ok (.iload_n 2, 1) := by decide +kernel
theorem dJ2_indexOfChar_4cfef_9 : decode cJ2_indexOfChar_4cfef 9 = .ok (.iload_n 3, 1) := by decide +kernel
theorem dJ2_indexOfChar_4cfef_10 : decode cJ2_indexOfChar_4cfef 10 = .ok (.invokestatic 244, 3) := by decide +kernel
theorem dJ2_indexOfChar_4cfef_13 : decode cJ2_indexOfChar_4cfef 13 = .ok (.ireturn, 1) := by decide +kernel
theorem dJ2_indexOfCharUnsafe_4cfef_0 : decode cJ2_indexOfCharUnsafe_4cfef 0 = .ok (.iload_n 2, 1) := by decide +kernel
theorem dJ2_indexOfCharUnsafe_4cfef_1 : decode cJ2_indexOfCharUnsafe_4cfef 1 = .ok (.istore 4, 2) := by decide +kernel
theorem dJ2_indexOfCharUnsafe_4cfef_3 : decode cJ2_indexOfCharUnsafe_4cfef 3 = .ok (.iload 4, 2) := by decide +kernel
theorem dJ2_indexOfCharUnsafe_4cfef_5 : decode cJ2_indexOfCharUnsafe_4cfef 5 = .ok (.iload_n 3, 1) := by decide +kernel
theorem dJ2_indexOfCharUnsafe_4cfef_6 : decode cJ2_indexOfCharUnsafe_4cfef 6 = .ok (.if_icmp .ge 22, 3) := by decide +kernel
theorem dJ2_indexOfCharUnsafe_4cfef_9 : decode cJ2_indexOfCharUnsafe_4cfef 9 = .ok (.aload_n 0, 1) := by decide +kernel
theorem dJ2_indexOfCharUnsafe_4cfef_10 : decode cJ2_indexOfCharUnsafe_4cfef 10 = .ok (.iload 4, 2) := by decide +kernel
theorem dJ2_indexOfCharUnsafe_4cfef_12 : decode cJ2_indexOfCharUnsafe_4cfef 12 = .ok (.invokestatic 71, 3) := by decide +kernel
theorem dJ2_indexOfCharUnsafe_4cfef_15 : decode cJ2_indexOfCharUnsafe_4cfef 15 = .ok (.iload_n 1, 1) := by decide +kernel
theorem dJ2_indexOfCharUnsafe_4cfef_16 : decode cJ2_indexOfCharUnsafe_4cfef 16 = .ok (.if_icmp .ne 6, 3) := by decide +kernel
theorem dJ2_indexOfCharUnsafe_4cfef_19 : decode cJ2_indexOfCharUnsafe_4cfef 19 = .ok (.iload 4, 2) := by decide +kernel
theorem dJ2_indexOfCharUnsafe_4cfef_21 : decode cJ2_indexOfCharUnsafe_4cfef 21 = .ok (.ireturn, 1) := by decide +kernel
theorem dJ2_indexOfCharUnsafe_4cfef_22 : decode cJ2_indexOfCharUnsafe_4cfef 22 = .ok (.iinc 4 1, 3) := by decide +kernel
theorem dJ2_indexOfCharUnsafe_4cfef_25 : decode cJ2_indexOfCharUnsafe_4cfef 25 = .ok (.goto (-22), 3) := by decide +kernel
theorem dJ2_indexOfCharUnsafe_4cfef_28 : decode cJ2_indexOfCharUnsafe_4cfef 28 = .ok (.iconst (-1), 1) := by decide +kernel
theorem dJ2_indexOfCharUnsafe_4cfef_29 : decode cJ2_indexOfCharUnsafe_4cfef 29 = .ok (.ireturn, 1) := by decide +kernel
theorem dJ2_indexOfSupplementary_4cfef_0 : decode cJ2_indexOfSupplementary_4cfef 0 = .ok (.iload_n 1, 1) := by decide +kernel
theorem dJ2_indexOfSupplementary_4cfef_1 : decode cJ2_indexOfSupplementary_4cfef 1 = .ok (.invokestatic 164, 3) := by decide +kernel
theorem dJ2_indexOfSupplementary_4cfef_4 : decode cJ2_indexOfSupplementary_4cfef 4 = .ok (.ifCond .eq 65, 3) := by decide +kernel
theorem dJ2_indexOfSupplementary_4cfef_7 : decode cJ2_indexOfSupplementary_4cfef 7 = .ok (.iload_n 1, 1) := by decide +kernel
theorem dJ2_indexOfSupplementary_4cfef_8 : decode cJ2_indexOfSupplementary_4cfef 8 = .ok (.invokestatic 157, 3) := by decide +kernel
theorem dJ2_indexOfSupplementary_4cfef_11 : decode cJ2_indexOfSupplementary_4cfef 11 = .ok (.istore 4, 2) := by decide +kernel
theorem dJ2_indexOfSupplementary_4cfef_13 : decode cJ2_indexOfSupplementary_4cfef 13 = .ok (.iload_n 1, 1) := by decide +kernel
theorem dJ2_indexOfSupplementary_4cfef_14 : decode cJ2_indexOfSupplementary_4cfef 14 = .ok (.invokestatic 161, 3) := by decide +kernel
theorem dJ2_indexOfSupplementary_4cfef_17 : decode cJ2_indexOfSupplementary_4cfef 17 = .ok (.istore 5, 2) := by decide +kernel
theorem dJ2_indexOfSupplementary_4cfef_19 : decode cJ2_indexOfSupplementary_4cfef 19 = .ok (.iload_n 2, 1) := by decide +kernel
theorem dJ2_indexOfSupplementary_4cfef_20 : decode cJ2_indexOfSupplementary_4cfef 20 = .ok (.iload_n 3, 1) := by decide +kernel
theorem dJ2_indexOfSupplementary_4cfef_21 : decode cJ2_indexOfSupplementary_4cfef 21 = .ok (.aload_n 0, 1) := by decide +kernel
theorem dJ2_indexOfSupplementary_4cfef_22 : decode cJ2_indexOfSupplementary_4cfef 22 = .ok (.invokestatic 96, 3) := by decide +kernel
theorem dJ2_indexOfSupplementary_4cfef_25 : decode cJ2_indexOfSupplementary_4cfef 25 = .ok (.iload_n 2, 1) := by decide +kernel
theorem dJ2_indexOfSupplementary_4cfef_26 : decode cJ2_indexOfSupplementary_4cfef 26 = .ok (.istore 6, 2) := by decide +kernel
theorem dJ2_indexOfSupplementary_4cfef_28 : decode cJ2_indexOfSupplementary_4cfef 28 = .ok (.iload 6, 2) := by decide +kernel
theorem dJ2_indexOfSupplementary_4cfef_30 : decode cJ2_indexOfSupplementary_4cfef 30 = .ok (.iload_n 3, 1) := by decide +kernel
theorem dJ2_indexOfSupplementary_4cfef_31 : decode cJ2_indexOfSupplementary_4cfef 31 = .ok (.iconst 1, 1) := by decide +kernel
theorem dJ2_indexOfSupplementary_4cfef_32 : decode cJ2_indexOfSupplementary_4cfef 32 = .ok (.isub, 1) := by decide +kernel
theorem dJ2_indexOfSupplementary_4cfef_33 : decode cJ2_indexOfSupplementary_4cfef 33 = .ok (.if_icmp .ge 36, 3) := by decide +kernel
theorem dJ2_indexOfSupplementary_4cfef_36 : decode cJ2_indexOfSupplementary_4cfef 36 = .ok (.aload_n 0, 1) := by decide +kernel
theorem dJ2_indexOfSupplementary_4cfef_37 : decode cJ2_indexOfSupplementary_4cfef 37 = .ok (.iload 6, 2) := by decide +kernel
theorem dJ2_indexOfSupplementary_4cfef_39 : decode cJ2_indexOfSupplementary_4cfef 39 = .ok (.invokestatic 71, 3) := by decide +kernel
theorem dJ2_indexOfSupplementary_4cfef_42 : decode cJ2_indexOfSupplementary_4cfef 42 = .ok (.iload 4, 2) := by decide +kernel
theorem dJ2_indexOfSupplementary_4cfef_44 : decode cJ2_indexOfSupplementary_4cfef 44 = .ok (.if_icmp .ne 19, 3) := by decide +kernel
theorem dJ2_indexOfSupplementary_4cfef_47 : decode cJ2_indexOfSupplementary_4cfef 47 = .ok (.aload_n 0, 1) := by decide +kernel
theorem dJ2_indexOfSupplementary_4cfef_48 : decode cJ2_indexOfSupplementary_4cfef 48 = .ok (.iload 6, 2) := by decide +kernel
theorem dJ2_indexOfSupplementary_4cfef_50 : decode cJ2_indexOfSupplementary_4cfef 50 = .ok (.iconst 1, 1) := by decide +kernel
theorem dJ2_indexOfSupplementary_4cfef_51 : decode cJ2_indexOfSupplementary_4cfef 51 = .ok (.iadd, 1) := by decide +kernel
theorem dJ2_indexOfSupplementary_4cfef_52 : decode cJ2_indexOfSupplementary_4cfef 52 = .ok (.invokestatic 71, 3) := by decide +kernel
theorem dJ2_indexOfSupplementary_4cfef_55 : decode cJ2_indexOfSupplementary_4cfef 55 = .ok (.iload 5, 2) := by decide +kernel
theorem dJ2_indexOfSupplementary_4cfef_57 : decode cJ2_indexOfSupplementary_4cfef 57 = .ok (.if_icmp .ne 6, 3) := by decide +kernel
theorem dJ2_indexOfSupplementary_4cfef_60 : decode cJ2_indexOfSupplementary_4cfef 60 = .ok (.iload 6, 2) := by decide +kernel
theorem dJ2_indexOfSupplementary_4cfef_62 : decode cJ2_indexOfSupplementary_4cfef 62 = .ok (.ireturn, 1) := by decide +kernel
theorem dJ2_indexOfSupplementary_4cfef_63 : decode cJ2_indexOfSupplementary_4cfef 63 = .ok (.iinc 6 1, 3) := by decide +kernel
theorem dJ2_indexOfSupplementary_4cfef_66 : decode cJ2_indexOfSupplementary_4cfef 66 = .ok (.goto (-38), 3) := by decide +kernel
theorem dJ2_indexOfSupplementary_4cfef_69 : decode cJ2_indexOfSupplementary_4cfef 69 = .ok (.iconst (-1), 1) := by decide +kernel
theorem dJ2_indexOfSupplementary_4cfef_70 : decode cJ2_indexOfSupplementary_4cfef 70 = .ok (.ireturn, 1) := by decide +kernel
theorem dJ2_charAt_3b067_0 : decode cJ2_charAt_3b067 0 = .ok (.iload_n 1, 1) := by decide +kernel
theorem dJ2_charAt_3b067_1 : decode cJ2_charAt_3b067 1 = .ok (.aload_n 0, 1) := by decide +kernel
theorem dJ2_charAt_3b067_2 : decode cJ2_charAt_3b067 2 = .ok (.invokestatic 67, 3) := by decide +kernel
theorem dJ2_charAt_3b067_5 : decode cJ2_charAt_3b067 5 = .ok (.aload_n 0, 1) := by decide +kernel
theorem dJ2_charAt_3b067_6 : decode cJ2_charAt_3b067 6 = .ok (.iload_n 1, 1) := by decide +kernel
theorem dJ2_charAt_3b067_7 : decode cJ2_charAt_3b067 7 = .ok (.invokestatic 71, 3) := by decide +kernel
theorem dJ2_charAt_3b067_10 : decode cJ2_charAt_3b067 10 = .ok (.ireturn, 1) := by decide +kernel
theorem dJ2_checkIndex_2214a_0 : decode cJ2_checkIndex_2214a 0 = .ok (.iload_n 0, 1) := by decide +kernel
theorem dJ2_checkIndex_2214a_1 : decode cJ2_checkIndex_2214a 1 = .ok (.aload_n 1, 1) := by decide +kernel
theorem dJ2_checkIndex_2214a_2 : decode cJ2_checkIndex_2214a 2 = .ok (.invokestatic 48, 3) := by decide +kernel
theorem dJ2_checkIndex_2214a_5 : decode cJ2_checkIndex_2214a 5 = .ok (.invokestatic 414, 3) := by decide +kernel
theorem dJ2_checkIndex_2214a_8 : decode cJ2_checkIndex_2214a 8 = .ok (.return_, 1) := by decide +kernel
theorem dJ2_checkBoundsBeginEnd_d044e_0 : decode cJ2_checkBoundsBeginEnd_d044e 0 = .ok (.iload_n 0, 1) := by decide +kernel
theorem dJ2_checkBoundsBeginEnd_d044e_1 : decode cJ2_checkBoundsBeginEnd_d044e 1 = .ok (.iload_n 1, 1) := by decide +kernel
theorem dJ2_checkBoundsBeginEnd_d044e_2 : decode cJ2_checkBoundsBeginEnd_d044e 2 = .ok (.aload_n 2, 1) := by decide +kernel
theorem dJ2_checkBoundsBeginEnd_d044e_3 : decode cJ2_checkBoundsBeginEnd_d044e 3 = .ok (.invokestatic 48, 3) := by decide +kernel
theorem dJ2_checkBoundsBeginEnd_d044e_6 : decode cJ2_checkBoundsBeginEnd_d044e 6 = .ok (.invokestatic 241, 3) := by decide +kernel
theorem dJ2_checkBoundsBeginEnd_d044e_9 : decode cJ2_checkBoundsBeginEnd_d044e 9 = .ok (.return_, 1) := by decide +kernel
theorem dJ7_fill_53178_0 : decode cJ7_fill_53178 0 = .ok (.iconst 0, 1) := by decide +kernel
theorem dJ7_fill_53178_1 : decode cJ7_fill_53178 1 = .ok (.istore_n 2, 1) := by decide +kernel
theorem dJ7_fill_53178_2 : decode cJ7_fill_53178 2 = .ok (.aload_n 0, 1) := by decide +kernel
theorem dJ7_fill_53178_3 : decode cJ7_fill_53178 3 = .ok (.arraylength, 1) := by decide +kernel
theorem dJ7_fill_53178_4 : decode cJ7_fill_53178 4 = .ok (.istore_n 3, 1) := by decide +kernel
theorem dJ7_fill_53178_5 : decode cJ7_fill_53178 5 = .ok (.iload_n 2, 1) := by decide +kernel
theorem dJ7_fill_53178_6 : decode cJ7_fill_53178 6 = .ok (.iload_n 3, 1) := by decide +kernel
theorem dJ7_fill_53178_7 : decode cJ7_fill_53178 7 = .ok (.if_icmp .ge 13, 3) := by decide +kernel
theorem dJ7_fill_53178_10 : decode cJ7_fill_53178 10 = .ok (.aload_n 0, 1) := by decide +kernel
theorem dJ7_fill_53178_11 : decode cJ7_fill_53178 11 = .ok (.iload_n 2, 1) := by decide +kernel
theorem dJ7_fill_53178_12 : decode cJ7_fill_53178 12 = .ok (.iload_n 1, 1) := by decide +kernel
theorem dJ7_fill_53178_13 : decode cJ7_fill_53178 13 = .ok (.iastore, 1) := by decide +kernel
theorem dJ7_fill_53178_14 : decode cJ7_fill_53178 14 = .ok (.iinc 2 1, 3) := by decide +kernel
theorem dJ7_fill_53178_17 : decode cJ7_fill_53178 17 = .ok (.goto (-12), 3) := by decide +kernel
theorem dJ7_fill_53178_20 : decode cJ7_fill_53178 20 = .ok (.return_, 1) := by decide +kernel
theorem dJ3_checkIndex_8e157_0 : decode cJ3_checkIndex_8e157 0 = .ok (.iload_n 0, 1) := by decide +kernel
theorem dJ3_checkIndex_8e157_1 : decode cJ3_checkIndex_8e157 1 = .ok (.ifCond .lt 8, 3) := by decide +kernel
theorem dJ3_checkIndex_8e157_4 : decode cJ3_checkIndex_8e157 4 = .ok (.iload_n 0, 1) := by decide +kernel
theorem dJ3_checkIndex_8e157_5 : decode cJ3_checkIndex_8e157 5 = .ok (.iload_n 1, 1) := by decide +kernel
theorem dJ3_checkIndex_8e157_6 : decode cJ3_checkIndex_8e157 6 = .ok (.if_icmp .lt 10, 3) := by decide +kernel
theorem dJ3_checkIndex_8e157_9 : decode cJ3_checkIndex_8e157 9 = .ok (.aload_n 2, 1) := by decide +kernel
theorem dJ3_checkIndex_8e157_10 : decode cJ3_checkIndex_8e157 10 = .ok (.iload_n 0, 1) := by decide +kernel
theorem dJ3_checkIndex_8e157_11 : decode cJ3_checkIndex_8e157 11 = .ok (.iload_n 1, 1) := by decide +kernel
theorem dJ3_checkIndex_8e157_12 : decode cJ3_checkIndex_8e157 12 = .ok (.invokestatic 95, 3) := by decide +kernel
theorem dJ3_checkIndex_8e157_15 : decode cJ3_checkIndex_8e157 15 = .ok (.athrow, 1) := by decide +kernel
theorem dJ3_checkIndex_8e157_16 : decode cJ3_checkIndex_8e157 16 = .ok (.iload_n 0, 1) := by decide +kernel
theorem dJ3_checkIndex_8e157_17 : decode cJ3_checkIndex_8e157 17 = .ok (.ireturn, 1) := by decide +kernel
theorem dJ3_checkFromToIndex_8c36e_0 : decode cJ3_checkFromToIndex_8c36e 0 = .ok (.iload_n 0, 1) := by decide +kernel
theorem dJ3_checkFromToIndex_8c36e_1 : decode cJ3_checkFromToIndex_8c36e 1 = .ok (.ifCond .lt 13, 3) := by decide +kernel
theorem dJ3_checkFromToIndex_8c36e_4 : decode cJ3_checkFromToIndex_8c36e 4 = .ok (.iload_n 0, 1) := by decide +kernel
theorem dJ3_checkFromToIndex_8c36e_5 : decode cJ3_checkFromToIndex_8c36e 5 = .ok (.iload_n 1, 1) := by decide +kernel
theorem dJ3_checkFromToIndex_8c36e_6 : decode cJ3_checkFromToIndex_8c36e 6 = .ok (.if_icmp .gt 8, 3) := by decide +kernel
theorem dJ3_checkFromToIndex_8c36e_9 : decode cJ3_checkFromToIndex_8c36e 9 = .ok (.iload_n 1, 1) := by decide +kernel
theorem dJ3_checkFromToIndex_8c36e_10 : decode cJ3_checkFromToIndex_8c36e 10 = .ok (.iload_n 2, 1) := by decide +kernel
theorem dJ3_checkFromToIndex_8c36e_11 : decode cJ3_checkFromToIndex_8c36e 11 = .ok (.if_icmp .le 11, 3) := by decide +kernel
theorem dJ3_checkFromToIndex_8c36e_14 : decode cJ3_checkFromToIndex_8c36e 14 = .ok (.aload_n 3, 1) := by decide +kernel
theorem dJ3_checkFromToIndex_8c36e_15 : decode cJ3_checkFromToIndex_8c36e 15 = .ok (.iload_n 0, 1) := by decide +kernel
theorem dJ3_checkFromToIndex_8c36e_16 : decode cJ3_checkFromToIndex_8c36e 16 = .ok (.iload_n 1, 1) := by decide +kernel
theorem dJ3_checkFromToIndex_8c36e_17 : decode cJ3_checkFromToIndex_8c36e 17 = .ok (.iload_n 2, 1) := by decide +kernel
theorem dJ3_checkFromToIndex_8c36e_18 : decode cJ3_checkFromToIndex_8c36e 18 = .ok (.invokestatic 99, 3) := by decide +kernel
theorem dJ3_checkFromToIndex_8c36e_21 : decode cJ3_checkFromToIndex_8c36e 21 = .ok (.athrow, 1) := by decide +kernel
theorem dJ3_checkFromToIndex_8c36e_22 : decode cJ3_checkFromToIndex_8c36e 22 = .ok (.iload_n 0, 1) := by decide +kernel
theorem dJ3_checkFromToIndex_8c36e_23 : decode cJ3_checkFromToIndex_8c36e 23 = .ok (.ireturn, 1) := by decide +kernel
theorem dL_law_0 : decode cL_law 0 = .ok (.new 7, 3) := by decide +kernel
theorem dL_law_3 : decode cL_law 3 = .ok (.dup, 1) := by decide +kernel
theorem dL_law_4 : decode cL_law 4 = .ok (.invokespecial 9, 3) := by decide +kernel
theorem dL_law_7 : decode cL_law 7 = .ok (.astore_n 1, 1) := by decide +kernel
theorem dL_law_8 : decode cL_law 8 = .ok (.new 10, 3) := by decide +kernel
theorem dL_law_11 : decode cL_law 11 = .ok (.dup, 1) := by decide +kernel
theorem dL_law_12 : decode cL_law 12 = .ok (.invokespecial 12, 3) := by decide +kernel
theorem dL_law_15 : decode cL_law 15 = .ok (.astore_n 2, 1) := by decide +kernel
theorem dL_law_16 : decode cL_law 16 = .ok (.iconst 0, 1) := by decide +kernel
theorem dL_law_17 : decode cL_law 17 = .ok (.istore_n 3, 1) := by decide +kernel
theorem dL_law_18 : decode cL_law 18 = .ok (.iload_n 3, 1) := by decide +kernel
theorem dL_law_19 : decode cL_law 19 = .ok (.aload_n 0, 1) := by decide +kernel
theorem dL_law_20 : decode cL_law 20 = .ok (.arraylength, 1) := by decide +kernel
theorem dL_law_21 : decode cL_law 21 = .ok (.bipush 6, 2) := by decide +kernel
theorem dL_law_23 : decode cL_law 23 = .ok (.isub, 1) := by decide +kernel
theorem dL_law_24 : decode cL_law 24 = .ok (.if_icmp .gt 1403, 3) := by decide +kernel
theorem dL_law_27 : decode cL_law 27 = .ok (.aload_n 0, 1) := by decide +kernel
theorem dL_law_28 : decode cL_law 28 = .ok (.iload_n 3, 1) := by decide +kernel
theorem dL_law_29 : decode cL_law 29 = .ok (.iaload, 1) := by decide +kernel
theorem dL_law_30 : decode cL_law 30 = .ok (.bipush 63, 2) := by decide +kernel
theorem dL_law_32 : decode cL_law 32 = .ok (.iand, 1) := by decide +kernel
theorem dL_law_33 : decode cL_law 33 = .ok (.tableswitch 1388 0 38 #[171, 214, 247, 280, 323, 366, 399, 432, 465, 498, 521, 564, 627, 650, 673, 696, 719, 742, 765, 788, 811, 854, 877, 910, 943, 966, 989, 1032, 1055, 1098, 1141, 1204, 1237, 1270, 1283, 1296, 1319, 1342, 1365], 171) := by decide +kernel
theorem dL_law_204 : decode cL_law 204 = .ok (.aload_n 1, 1) := by decide +kernel
theorem dL_law_205 : decode cL_law 205 = .ok (.aload_n 0, 1) := by decide +kernel
theorem dL_law_206 : decode cL_law 206 = .ok (.iload_n 3, 1) := by decide +kernel
theorem dL_law_207 : decode cL_law 207 = .ok (.iconst 1, 1) := by decide +kernel
theorem dL_law_208 : decode cL_law 208 = .ok (.iadd, 1) := by decide +kernel
theorem dL_law_209 : decode cL_law 209 = .ok (.iaload, 1) := by decide +kernel
theorem dL_law_210 : decode cL_law 210 = .ok (.aload_n 0, 1) := by decide +kernel
theorem dL_law_211 : decode cL_law 211 = .ok (.iload_n 3, 1) := by decide +kernel
theorem dL_law_212 : decode cL_law 212 = .ok (.iconst 2, 1) := by decide +kernel
theorem dL_law_213 : decode cL_law 213 = .ok (.iadd, 1) := by decide +kernel
theorem dL_law_214 : decode cL_law 214 = .ok (.iaload, 1) := by decide +kernel
theorem dL_law_215 : decode cL_law 215 = .ok (.aload_n 0, 1) := by decide +kernel
theorem dL_law_216 : decode cL_law 216 = .ok (.iload_n 3, 1) := by decide +kernel
theorem dL_law_217 : decode cL_law 217 = .ok (.iconst 3, 1) := by decide +kernel
theorem dL_law_218 : decode cL_law 218 = .ok (.iadd, 1) := by decide +kernel
theorem dL_law_219 : decode cL_law 219 = .ok (.iaload, 1) := by decide +kernel
theorem dL_law_220 : decode cL_law 220 = .ok (.invokevirtual 13, 3) := by decide +kernel
theorem dL_law_223 : decode cL_law 223 = .ok (.aload_n 2, 1) := by decide +kernel
theorem dL_law_224 : decode cL_law 224 = .ok (.aload_n 0, 1) := by decide +kernel
theorem dL_law_225 : decode cL_law 225 = .ok (.iload_n 3, 1) := by decide +kernel
theorem dL_law_226 : decode cL_law 226 = .ok (.iconst 1, 1) := by decide +kernel
theorem dL_law_227 : decode cL_law 227 = .ok (.iadd, 1) := by decide +kernel
theorem dL_law_228 : decode cL_law 228 = .ok (.iaload, 1) := by decide +kernel
theorem dL_law_229 : decode cL_law 229 = .ok (.aload_n 0, 1) := by decide +kernel
theorem dL_law_230 : decode cL_law 230 = .ok (.iload_n 3, 1) := by decide +kernel
theorem dL_law_231 : decode cL_law 231 = .ok (.iconst 2, 1) := by decide +kernel
theorem dL_law_232 : decode cL_law 232 = .ok (.iadd, 1) := by decide +kernel
theorem dL_law_233 : decode cL_law 233 = .ok (.iaload, 1) := by decide +kernel
theorem dL_law_234 : decode cL_law 234 = .ok (.aload_n 0, 1) := by decide +kernel
theorem dL_law_235 : decode cL_law 235 = .ok (.iload_n 3, 1) := by decide +kernel
theorem dL_law_236 : decode cL_law 236 = .ok (.iconst 3, 1) := by decide +kernel
theorem dL_law_237 : decode cL_law 237 = .ok (.iadd, 1) := by decide +kernel
theorem dL_law_238 : decode cL_law 238 = .ok (.iaload, 1) := by decide +kernel
theorem dL_law_239 : decode cL_law 239 = .ok (.invokevirtual 17, 3) := by decide +kernel
theorem dL_law_242 : decode cL_law 242 = .ok (.if_icmp .eq 1179, 3) := by decide +kernel
theorem dL_law_245 : decode cL_law 245 = .ok (.iconst 0, 1) := by decide +kernel
theorem dL_law_246 : decode cL_law 246 = .ok (.ireturn, 1) := by decide +kernel
theorem dL_law_247 : decode cL_law 247 = .ok (.aload_n 1, 1) := by decide +kernel
theorem dL_law_248 : decode cL_law 248 = .ok (.aload_n 0, 1) := by decide +kernel
theorem dL_law_249 : decode cL_law 249 = .ok (.iload_n 3, 1) := by decide +kernel
theorem dL_law_250 : decode cL_law 250 = .ok (.iconst 1, 1) := by decide +kernel
theorem dL_law_251 : decode cL_law 251 = .ok (.iadd, 1) := by decide +kernel
theorem dL_law_252 : decode cL_law 252 = .ok (.iaload, 1) := by decide +kernel
theorem dL_law_253 : decode cL_law 253 = .ok (.aload_n 0, 1) := by decide +kernel
theorem dL_law_254 : decode cL_law 254 = .ok (.iload_n 3, 1) := by decide +kernel
theorem dL_law_255 : decode cL_law 255 = .ok (.iconst 2, 1) := by decide +kernel
theorem dL_law_256 : decode cL_law 256 = .ok (.iadd, 1) := by decide +kernel
theorem dL_law_257 : decode cL_law 257 = .ok (.iaload, 1) := by decide +kernel
theorem dL_law_258 : decode cL_law 258 = .ok (.invokevirtual 18, 3) := by decide +kernel
theorem dL_law_261 : decode cL_law 261 = .ok (.aload_n 2, 1) := by decide +kernel
theorem dL_law_262 : decode cL_law 262 = .ok (.aload_n 0, 1) := by decide +kernel
theorem dL_law_263 : decode cL_law 263 = .ok (.iload_n 3, 1) := by decide +kernel
theorem dL_law_264 : decode cL_law 264 = .ok (.iconst 1, 1) := by decide +kernel
theorem dL_law_265 : decode cL_law 265 = .ok (.iadd, 1) := by decide +kernel
theorem dL_law_266 : decode cL_law 266 = .ok (.iaload, 1) := by decide +kernel
theorem dL_law_267 : decode cL_law 267 = .ok (.aload_n 0, 1) := by decide +kernel
theorem dL_law_268 : decode cL_law 268 = .ok (.iload_n 3, 1) := by decide +kernel
theorem dL_law_269 : decode cL_law 269 = .ok (.iconst 2, 1) := by decide +kernel
theorem dL_law_270 : decode cL_law 270 = .ok (.iadd, 1) := by decide +kernel
theorem dL_law_271 : decode cL_law 271 = .ok (.iaload, 1) := by decide +kernel
theorem dL_law_272 : decode cL_law 272 = .ok (.invokevirtual 22, 3) := by decide +kernel
theorem dL_law_275 : decode cL_law 275 = .ok (.if_icmp .eq 1146, 3) := by decide +kernel
theorem dL_law_278 : decode cL_law 278 = .ok (.iconst 0, 1) := by decide +kernel
theorem dL_law_279 : decode cL_law 279 = .ok (.ireturn, 1) := by decide +kernel
theorem dL_law_280 : decode cL_law 280 = .ok (.aload_n 1, 1) := by decide +kernel
theorem dL_law_281 : decode cL_law 281 = .ok (.aload_n 0, 1) := by decide +kernel
theorem dL_law_282 : decode cL_law 282 = .ok (.iload_n 3, 1) := by decide +kernel
theorem dL_law_283 : decode cL_law 283 = .ok (.iconst 1, 1) := by decide +kernel
theorem dL_law_284 : decode cL_law 284 = .ok (.iadd, 1) := by decide +kernel
theorem dL_law_285 : decode cL_law 285 = .ok (.iaload, 1) := by decide +kernel
theorem dL_law_286 : decode cL_law 286 = .ok (.aload_n 0, 1) := by decide +kernel
theorem dL_law_287 : decode cL_law 287 = .ok (.iload_n 3, 1) := by decide +kernel
theorem dL_law_288 : decode cL_law 288 = .ok (.iconst 2, 1) := by decide +kernel
theorem dL_law_289 : decode cL_law 289 = .ok (.iadd, 1) := by decide +kernel
theorem dL_law_290 : decode cL_law 290 = .ok (.iaload, 1) := by decide +kernel
theorem dL_law_291 : decode cL_law 291 = .ok (.invokevirtual 23, 3) := by decide +kernel
theorem dL_law_294 : decode cL_law 294 = .ok (.aload_n 2, 1) := by decide +kernel
theorem dL_law_295 : decode cL_law 295 = .ok (.aload_n 0, 1) := by decide +kernel
theorem dL_law_296 : decode cL_law 296 = .ok (.iload_n 3, 1) := by decide +kernel
theorem dL_law_297 : decode cL_law 297 = .ok (.iconst 1, 1) := by decide +kernel
theorem dL_law_298 : decode cL_law 298 = .ok (.iadd, 1) := by decide +kernel
theorem dL_law_299 : decode cL_law 299 = .ok (.iaload, 1) := by decide +kernel
theorem dL_law_300 : decode cL_law 300 = .ok (.aload_n 0, 1) := by decide +kernel
theorem dL_law_301 : decode cL_law 301 = .ok (.iload_n 3, 1) := by decide +kernel
theorem dL_law_302 : decode cL_law 302 = .ok (.iconst 2, 1) := by decide +kernel
theorem dL_law_303 : decode cL_law 303 = .ok (.iadd, 1) := by decide +kernel
theorem dL_law_304 : decode cL_law 304 = .ok (.iaload, 1) := by decide +kernel
theorem dL_law_305 : decode cL_law 305 = .ok (.invokevirtual 26, 3) := by decide +kernel
theorem dL_law_308 : decode cL_law 308 = .ok (.if_icmp .eq 1113, 3) := by decide +kernel
theorem dL_law_311 : decode cL_law 311 = .ok (.iconst 0, 1) := by decide +kernel
theorem dL_law_312 : decode cL_law 312 = .ok (.ireturn, 1) := by decide +kernel
theorem dL_law_313 : decode cL_law 313 = .ok (.aload_n 1, 1) := by decide +kernel
theorem dL_law_314 : decode cL_law 314 = .ok (.aload_n 0, 1) := by decide +kernel
theorem dL_law_315 : decode cL_law 315 = .ok (.iload_n 3, 1) := by decide +kernel
theorem dL_law_316 : decode cL_law 316 = .ok (.iconst 1, 1) := by decide +kernel
theorem dL_law_317 : decode cL_law 317 = .ok (.iadd, 1) := by decide +kernel
theorem dL_law_318 : decode cL_law 318 = .ok (.iaload, 1) := by decide +kernel
theorem dL_law_319 : decode cL_law 319 = .ok (.aload_n 0, 1) := by decide +kernel
theorem dL_law_320 : decode cL_law 320 = .ok (.iload_n 3, 1) := by decide +kernel
theorem dL_law_321 : decode cL_law 321 = .ok (.iconst 2, 1) := by decide +kernel
theorem dL_law_322 : decode cL_law 322 = .ok (.iadd, 1) := by decide +kernel
theorem dL_law_323 : decode cL_law 323 = .ok (.iaload, 1) := by decide +kernel
theorem dL_law_324 : decode cL_law 324 = .ok (.aload_n 0, 1) := by decide +kernel
theorem dL_law_325 : decode cL_law 325 = .ok (.iload_n 3, 1) := by decide +kernel
theorem dL_law_326 : decode cL_law 326 = .ok (.iconst 3, 1) := by decide +kernel
theorem dL_law_327 : decode cL_law 327 = .ok (.iadd, 1) := by decide +kernel
theorem dL_law_328 : decode cL_law 328 = .ok (.iaload, 1) := by decide +kernel
theorem dL_law_329 : decode cL_law 329 = .ok (.invokevirtual 27, 3) := by decide +kernel
theorem dL_law_332 : decode cL_law 332 = .ok (.aload_n 2, 1) := by decide +kernel
theorem dL_law_333 : decode cL_law 333 = .ok (.aload_n 0, 1) := by decide +kernel
theorem dL_law_334 : decode cL_law 334 = .ok (.iload_n 3, 1) := by decide +kernel
theorem dL_law_335 : decode cL_law 335 = .ok (.iconst 1, 1) := by decide +kernel
theorem dL_law_336 : decode cL_law 336 = .ok (.iadd, 1) := by decide +kernel
theorem dL_law_337 : decode cL_law 337 = .ok (.iaload, 1) := by decide +kernel
theorem dL_law_338 : decode cL_law 338 = .ok (.aload_n 0, 1) := by decide +kernel
theorem dL_law_339 : decode cL_law 339 = .ok (.iload_n 3, 1) := by decide +kernel
theorem dL_law_340 : decode cL_law 340 = .ok (.iconst 2, 1) := by decide +kernel
theorem dL_law_341 : decode cL_law 341 = .ok (.iadd, 1) := by decide +kernel
theorem dL_law_342 : decode cL_law 342 = .ok (.iaload, 1) := by decide +kernel
theorem dL_law_343 : decode cL_law 343 = .ok (.aload_n 0, 1) := by decide +kernel
theorem dL_law_344 : decode cL_law 344 = .ok (.iload_n 3, 1) := by decide +kernel
theorem dL_law_345 : decode cL_law 345 = .ok (.iconst 3, 1) := by decide +kernel
theorem dL_law_346 : decode cL_law 346 = .ok (.iadd, 1) := by decide +kernel
theorem dL_law_347 : decode cL_law 347 = .ok (.iaload, 1) := by decide +kernel
theorem dL_law_348 : decode cL_law 348 = .ok (.invokevirtual 30, 3) := by decide +kernel
theorem dL_law_351 : decode cL_law 351 = .ok (.if_icmp .eq 1070, 3) := by decide +kernel
theorem dL_law_354 : decode cL_law 354 = .ok (.iconst 0, 1) := by decide +kernel
theorem dL_law_355 : decode cL_law 355 = .ok (.ireturn, 1) := by decide +kernel
theorem dL_law_356 : decode cL_law 356 = .ok (.aload_n 1, 1) := by decide +kernel
theorem dL_law_357 : decode cL_law 357 = .ok (.aload_n 0, 1) := by decide +kernel
theorem dL_law_358 : decode cL_law 358 = .ok (.iload_n 3, 1) := by decide +kernel
theorem dL_law_359 : decode cL_law 359 = .ok (.iconst 1, 1) := by decide +kernel
theorem dL_law_360 : decode cL_law 360 = .ok (.iadd, 1) := by decide +kernel
theorem dL_law_361 : decode cL_law 361 = .ok (.iaload, 1) := by decide +kernel
theorem dL_law_362 : decode cL_law 362 = .ok (.aload_n 0, 1) := by decide +kernel
theorem dL_law_363 : decode cL_law 363 = .ok (.iload_n 3, 1) := by decide +kernel
theorem dL_law_364 : decode cL_law 364 = .ok (.iconst 2, 1) := by decide +kernel
theorem dL_law_365 : decode cL_law 365 = .ok (.iadd, 1) := by decide +kernel
theorem dL_law_366 : decode cL_law 366 = .ok (.iaload, 1) := by decide +kernel
theorem dL_law_367 : decode cL_law 367 = .ok (.aload_n 0, 1) := by decide +kernel
theorem dL_law_368 : decode cL_law 368 = .ok (.iload_n 3, 1) := by decide +kernel
theorem dL_law_369 : decode cL_law 369 = .ok (.iconst 3, 1) := by decide +kernel
theorem dL_law_370 : decode cL_law 370 = .ok (.iadd, 1) := by decide +kernel
theorem dL_law_371 : decode cL_law 371 = .ok (.iaload, 1) := by decide +kernel
theorem dL_law_372 : decode cL_law 372 = .ok (.invokevirtual 31, 3) := by decide +kernel
theorem dL_law_375 : decode cL_law 375 = .ok (.aload_n 2, 1) := by decide +kernel
theorem dL_law_376 : decode cL_law 376 = .ok (.aload_n 0, 1) := by decide +kernel
theorem dL_law_377 : decode cL_law 377 = .ok (.iload_n 3, 1) := by decide +kernel
theorem dL_law_378 : decode cL_law 378 = .ok (.iconst 1, 1) := by decide +kernel
theorem dL_law_379 : decode cL_law 379 = .ok (.iadd, 1) := by decide +kernel
theorem dL_law_380 : decode cL_law 380 = .ok (.iaload, 1) := by decide +kernel
theorem dL_law_381 : decode cL_law 381 = .ok (.aload_n 0, 1) := by decide +kernel
theorem dL_law_382 : decode cL_law 382 = .ok (.iload_n 3, 1) := by decide +kernel
theorem dL_law_383 : decode cL_law 383 = .ok (.iconst 2, 1) := by decide +kernel
theorem dL_law_384 : decode cL_law 384 = .ok (.iadd, 1) := by decide +kernel
theorem dL_law_385 : decode cL_law 385 = .ok (.iaload, 1) := by decide +kernel
theorem dL_law_386 : decode cL_law 386 = .ok (.aload_n 0, 1) := by decide +kernel
theorem dL_law_387 : decode cL_law 387 = .ok (.iload_n 3, 1) := by decide +kernel
theorem dL_law_388 : decode cL_law 388 = .ok (.iconst 3, 1) := by decide +kernel
theorem dL_law_389 : decode cL_law 389 = .ok (.iadd, 1) := by decide +kernel
theorem dL_law_390 : decode cL_law 390 = .ok (.iaload, 1) := by decide +kernel
theorem dL_law_391 : decode cL_law 391 = .ok (.invokevirtual 34, 3) := by decide +kernel
theorem dL_law_394 : decode cL_law 394 = .ok (.if_icmp .eq 1027, 3) := by decide +kernel
theorem dL_law_397 : decode cL_law 397 = .ok (.iconst 0, 1) := by decide +kernel
theorem dL_law_398 : decode cL_law 398 = .ok (.ireturn, 1) := by decide +kernel
theorem dL_law_399 : decode cL_law 399 = .ok (.aload_n 1, 1) := by decide +kernel
theorem dL_law_400 : decode cL_law 400 = .ok (.aload_n 0, 1) := by decide +kernel
theorem dL_law_401 : decode cL_law 401 = .ok (.iload_n 3, 1) := by decide +kernel
theorem dL_law_402 : decode cL_law 402 = .ok (.iconst 1, 1) := by decide +kernel
theorem dL_law_403 : decode cL_law 403 = .ok (.iadd, 1) := by decide +kernel
theorem dL_law_404 : decode cL_law 404 = .ok (.iaload, 1) := by decide +kernel
theorem dL_law_405 : decode cL_law 405 = .ok (.aload_n 0, 1) := by decide +kernel
theorem dL_law_406 : decode cL_law 406 = .ok (.iload_n 3, 1) := by decide +kernel
theorem dL_law_407 : decode cL_law 407 = .ok (.iconst 2, 1) := by decide +kernel
theorem dL_law_408 : decode cL_law 408 = .ok (.iadd, 1) := by decide +kernel
theorem dL_law_409 : decode cL_law 409 = .ok (.iaload, 1) := by decide +kernel
theorem dL_law_410 : decode cL_law 410 = .ok (.invokevirtual 35, 3) := by decide +kernel
theorem dL_law_413 : decode cL_law 413 = .ok (.aload_n 2, 1) := by decide +kernel
theorem dL_law_414 : decode cL_law 414 = .ok (.aload_n 0, 1) := by decide +kernel
theorem dL_law_415 : decode cL_law 415 = .ok (.iload_n 3, 1) := by decide +kernel
theorem dL_law_416 : decode cL_law 416 = .ok (.iconst 1, 1) := by decide +kernel
theorem dL_law_417 : decode cL_law 417 = .ok (.iadd, 1) := by decide +kernel
theorem dL_law_418 : decode cL_law 418 = .ok (.iaload, 1) := by decide +kernel
theorem dL_law_419 : decode cL_law 419 = .ok (.aload_n 0, 1) := by decide +kernel
theorem dL_law_420 : decode cL_law 420 = .ok (.iload_n 3, 1) := by decide +kernel
theorem dL_law_421 : decode cL_law 421 = .ok (.iconst 2, 1) := by decide +kernel
theorem dL_law_422 : decode cL_law 422 = .ok (.iadd, 1) := by decide +kernel
theorem dL_law_423 : decode cL_law 423 = .ok (.iaload, 1) := by decide +kernel
theorem dL_law_424 : decode cL_law 424 = .ok (.invokevirtual 38, 3) := by decide +kernel
theorem dL_law_427 : decode cL_law 427 = .ok (.if_icmp .eq 994, 3) := by decide +kernel
theorem dL_law_430 : decode cL_law 430 = .ok (.iconst 0, 1) := by decide +kernel
theorem dL_law_431 : decode cL_law 431 = .ok (.ireturn, 1) := by decide +kernel
theorem dL_law_432 : decode cL_law 432 = .ok (.aload_n 1, 1) := by decide +kernel
theorem dL_law_433 : decode cL_law 433 = .ok (.aload_n 0, 1) := by decide +kernel
theorem dL_law_434 : decode cL_law 434 = .ok (.iload_n 3, 1) := by decide +kernel
theorem dL_law_435 : decode cL_law 435 = .ok (.iconst 1, 1) := by decide +kernel
theorem dL_law_436 : decode cL_law 436 = .ok (.iadd, 1) := by decide +kernel
theorem dL_law_437 : decode cL_law 437 = .ok (.iaload, 1) := by decide +kernel
theorem dL_law_438 : decode cL_law 438 = .ok (.aload_n 0, 1) := by decide +kernel
theorem dL_law_439 : decode cL_law 439 = .ok (.iload_n 3, 1) := by decide +kernel
theorem dL_law_440 : decode cL_law 440 = .ok (.iconst 2, 1) := by decide +kernel
theorem dL_law_441 : decode cL_law 441 = .ok (.iadd, 1) := by decide +kernel
theorem dL_law_442 : decode cL_law 442 = .ok (.iaload, 1) := by decide +kernel
theorem dL_law_443 : decode cL_law 443 = .ok (.invokevirtual 39, 3) := by decide +kernel
theorem dL_law_446 : decode cL_law 446 = .ok (.aload_n 2, 1) := by decide +kernel
theorem dL_law_447 : decode cL_law 447 = .ok (.aload_n 0, 1) := by decide +kernel
theorem dL_law_448 : decode cL_law 448 = .ok (.iload_n 3, 1) := by decide +kernel
theorem dL_law_449 : decode cL_law 449 = .ok (.iconst 1, 1) := by decide +kernel
theorem dL_law_450 : decode cL_law 450 = .ok (.iadd, 1) := by decide +kernel
theorem dL_law_451 : decode cL_law 451 = .ok (.iaload, 1) := by decide +kernel
theorem dL_law_452 : decode cL_law 452 = .ok (.aload_n 0, 1) := by decide +kernel
theorem dL_law_453 : decode cL_law 453 = .ok (.iload_n 3, 1) := by decide +kernel
theorem dL_law_454 : decode cL_law 454 = .ok (.iconst 2, 1) := by decide +kernel
theorem dL_law_455 : decode cL_law 455 = .ok (.iadd, 1) := by decide +kernel
theorem dL_law_456 : decode cL_law 456 = .ok (.iaload, 1) := by decide +kernel
theorem dL_law_457 : decode cL_law 457 = .ok (.invokevirtual 42, 3) := by decide +kernel
theorem dL_law_460 : decode cL_law 460 = .ok (.if_icmp .eq 961, 3) := by decide +kernel
theorem dL_law_463 : decode cL_law 463 = .ok (.iconst 0, 1) := by decide +kernel
theorem dL_law_464 : decode cL_law 464 = .ok (.ireturn, 1) := by decide +kernel
theorem dL_law_465 : decode cL_law 465 = .ok (.aload_n 1, 1) := by decide +kernel
theorem dL_law_466 : decode cL_law 466 = .ok (.aload_n 0, 1) := by decide +kernel
theorem dL_law_467 : decode cL_law 467 = .ok (.iload_n 3, 1) := by decide +kernel
theorem dL_law_468 : decode cL_law 468 = .ok (.iconst 1, 1) := by decide +kernel
theorem dL_law_469 : decode cL_law 469 = .ok (.iadd, 1) := by decide +kernel
theorem dL_law_470 : decode cL_law 470 = .ok (.iaload, 1) := by decide +kernel
theorem dL_law_471 : decode cL_law 471 = .ok (.aload_n 0, 1) := by decide +kernel
theorem dL_law_472 : decode cL_law 472 = .ok (.iload_n 3, 1) := by decide +kernel
theorem dL_law_473 : decode cL_law 473 = .ok (.iconst 2, 1) := by decide +kernel
theorem dL_law_474 : decode cL_law 474 = .ok (.iadd, 1) := by decide +kernel
theorem dL_law_475 : decode cL_law 475 = .ok (.iaload, 1) := by decide +kernel
theorem dL_law_476 : decode cL_law 476 = .ok (.invokevirtual 43, 3) := by decide +kernel
theorem dL_law_479 : decode cL_law 479 = .ok (.aload_n 2, 1) := by decide +kernel
theorem dL_law_480 : decode cL_law 480 = .ok (.aload_n 0, 1) := by decide +kernel
theorem dL_law_481 : decode cL_law 481 = .ok (.iload_n 3, 1) := by decide +kernel
theorem dL_law_482 : decode cL_law 482 = .ok (.iconst 1, 1) := by decide +kernel
theorem dL_law_483 : decode cL_law 483 = .ok (.iadd, 1) := by decide +kernel
theorem dL_law_484 : decode cL_law 484 = .ok (.iaload, 1) := by decide +kernel
theorem dL_law_485 : decode cL_law 485 = .ok (.aload_n 0, 1) := by decide +kernel
theorem dL_law_486 : decode cL_law 486 = .ok (.iload_n 3, 1) := by decide +kernel
theorem dL_law_487 : decode cL_law 487 = .ok (.iconst 2, 1) := by decide +kernel
theorem dL_law_488 : decode cL_law 488 = .ok (.iadd, 1) := by decide +kernel
theorem dL_law_489 : decode cL_law 489 = .ok (.iaload, 1) := by decide +kernel
theorem dL_law_490 : decode cL_law 490 = .ok (.invokevirtual 46, 3) := by decide +kernel
theorem dL_law_493 : decode cL_law 493 = .ok (.if_icmp .eq 928, 3) := by decide +kernel
theorem dL_law_496 : decode cL_law 496 = .ok (.iconst 0, 1) := by decide +kernel
theorem dL_law_497 : decode cL_law 497 = .ok (.ireturn, 1) := by decide +kernel
theorem dL_law_498 : decode cL_law 498 = .ok (.aload_n 1, 1) := by decide +kernel
theorem dL_law_499 : decode cL_law 499 = .ok (.aload_n 0, 1) := by decide +kernel
theorem dL_law_500 : decode cL_law 500 = .ok (.iload_n 3, 1) := by decide +kernel
theorem dL_law_501 : decode cL_law 501 = .ok (.iconst 1, 1) := by decide +kernel
theorem dL_law_502 : decode cL_law 502 = .ok (.iadd, 1) := by decide +kernel
theorem dL_law_503 : decode cL_law 503 = .ok (.iaload, 1) := by decide +kernel
theorem dL_law_504 : decode cL_law 504 = .ok (.aload_n 0, 1) := by decide +kernel
theorem dL_law_505 : decode cL_law 505 = .ok (.iload_n 3, 1) := by decide +kernel
theorem dL_law_506 : decode cL_law 506 = .ok (.iconst 2, 1) := by decide +kernel
theorem dL_law_507 : decode cL_law 507 = .ok (.iadd, 1) := by decide +kernel
theorem dL_law_508 : decode cL_law 508 = .ok (.iaload, 1) := by decide +kernel
theorem dL_law_509 : decode cL_law 509 = .ok (.invokevirtual 47, 3) := by decide +kernel
theorem dL_law_512 : decode cL_law 512 = .ok (.aload_n 2, 1) := by decide +kernel
theorem dL_law_513 : decode cL_law 513 = .ok (.aload_n 0, 1) := by decide +kernel
theorem dL_law_514 : decode cL_law 514 = .ok (.iload_n 3, 1) := by decide +kernel
theorem dL_law_515 : decode cL_law 515 = .ok (.iconst 1, 1) := by decide +kernel
theorem dL_law_516 : decode cL_law 516 = .ok (.iadd, 1) := by decide +kernel
theorem dL_law_517 : decode cL_law 517 = .ok (.iaload, 1) := by decide +kernel
theorem dL_law_518 : decode cL_law 518 = .ok (.aload_n 0, 1) := by decide +kernel
theorem dL_law_519 : decode cL_law 519 = .ok (.iload_n 3, 1) := by decide +kernel
theorem dL_law_520 : decode cL_law 520 = .ok (.iconst 2, 1) := by decide +kernel
theorem dL_law_521 : decode cL_law 521 = .ok (.iadd, 1) := by decide +kernel
theorem dL_law_522 : decode cL_law 522 = .ok (.iaload, 1) := by decide +kernel
theorem dL_law_523 : decode cL_law 523 = .ok (.invokevirtual 50, 3) := by decide +kernel
theorem dL_law_526 : decode cL_law 526 = .ok (.if_icmp .eq 895, 3) := by decide +kernel
theorem dL_law_529 : decode cL_law 529 = .ok (.iconst 0, 1) := by decide +kernel
theorem dL_law_530 : decode cL_law 530 = .ok (.ireturn, 1) := by decide +kernel
theorem dL_law_531 : decode cL_law 531 = .ok (.aload_n 1, 1) := by decide +kernel
theorem dL_law_532 : decode cL_law 532 = .ok (.aload_n 0, 1) := by decide +kernel
theorem dL_law_533 : decode cL_law 533 = .ok (.iload_n 3, 1) := by decide +kernel
theorem dL_law_534 : decode cL_law 534 = .ok (.iconst 1, 1) := by decide +kernel
theorem dL_law_535 : decode cL_law 535 = .ok (.iadd, 1) := by decide +kernel
theorem dL_law_536 : decode cL_law 536 = .ok (.iaload, 1) := by decide +kernel
theorem dL_law_537 : decode cL_law 537 = .ok (.invokevirtual 51, 3) := by decide +kernel
theorem dL_law_540 : decode cL_law 540 = .ok (.aload_n 2, 1) := by decide +kernel
theorem dL_law_541 : decode cL_law 541 = .ok (.aload_n 0, 1) := by decide +kernel
theorem dL_law_542 : decode cL_law 542 = .ok (.iload_n 3, 1) := by decide +kernel
theorem dL_law_543 : decode cL_law 543 = .ok (.iconst 1, 1) := by decide +kernel
theorem dL_law_544 : decode cL_law 544 = .ok (.iadd, 1) := by decide +kernel
theorem dL_law_545 : decode cL_law 545 = .ok (.iaload, 1) := by decide +kernel
theorem dL_law_546 : decode cL_law 546 = .ok (.invokevirtual 55, 3) := by decide +kernel
theorem dL_law_549 : decode cL_law 549 = .ok (.if_icmp .eq 872, 3) := by decide +kernel
theorem dL_law_552 : decode cL_law 552 = .ok (.iconst 0, 1) := by decide +kernel
theorem dL_law_553 : decode cL_law 553 = .ok (.ireturn, 1) := by decide +kernel
theorem dL_law_554 : decode cL_law 554 = .ok (.aload_n 1, 1) := by decide +kernel
theorem dL_law_555 : decode cL_law 555 = .ok (.aload_n 0, 1) := by decide +kernel
theorem dL_law_556 : decode cL_law 556 = .ok (.iload_n 3, 1) := by decide +kernel
theorem dL_law_557 : decode cL_law 557 = .ok (.iconst 1, 1) := by decide +kernel
theorem dL_law_558 : decode cL_law 558 = .ok (.iadd, 1) := by decide +kernel
theorem dL_law_559 : decode cL_law 559 = .ok (.iaload, 1) := by decide +kernel
theorem dL_law_560 : decode cL_law 560 = .ok (.aload_n 0, 1) := by decide +kernel
theorem dL_law_561 : decode cL_law 561 = .ok (.iload_n 3, 1) := by decide +kernel
theorem dL_law_562 : decode cL_law 562 = .ok (.iconst 2, 1) := by decide +kernel
theorem dL_law_563 : decode cL_law 563 = .ok (.iadd, 1) := by decide +kernel
theorem dL_law_564 : decode cL_law 564 = .ok (.iaload, 1) := by decide +kernel
theorem dL_law_565 : decode cL_law 565 = .ok (.aload_n 0, 1) := by decide +kernel
theorem dL_law_566 : decode cL_law 566 = .ok (.iload_n 3, 1) := by decide +kernel
theorem dL_law_567 : decode cL_law 567 = .ok (.iconst 3, 1) := by decide +kernel
theorem dL_law_568 : decode cL_law 568 = .ok (.iadd, 1) := by decide +kernel
theorem dL_law_569 : decode cL_law 569 = .ok (.iaload, 1) := by decide +kernel
theorem dL_law_570 : decode cL_law 570 = .ok (.invokevirtual 56, 3) := by decide +kernel
theorem dL_law_573 : decode cL_law 573 = .ok (.aload_n 2, 1) := by decide +kernel
theorem dL_law_574 : decode cL_law 574 = .ok (.aload_n 0, 1) := by decide +kernel
theorem dL_law_575 : decode cL_law 575 = .ok (.iload_n 3, 1) := by decide +kernel
theorem dL_law_576 : decode cL_law 576 = .ok (.iconst 1, 1) := by decide +kernel
theorem dL_law_577 : decode cL_law 577 = .ok (.iadd, 1) := by decide +kernel
theorem dL_law_578 : decode cL_law 578 = .ok (.iaload, 1) := by decide +kernel
theorem dL_law_579 : decode cL_law 579 = .ok (.aload_n 0, 1) := by decide +kernel
theorem dL_law_580 : decode cL_law 580 = .ok (.iload_n 3, 1) := by decide +kernel
theorem dL_law_581 : decode cL_law 581 = .ok (.iconst 2, 1) := by decide +kernel
theorem dL_law_582 : decode cL_law 582 = .ok (.iadd, 1) := by decide +kernel
theorem dL_law_583 : decode cL_law 583 = .ok (.iaload, 1) := by decide +kernel
theorem dL_law_584 : decode cL_law 584 = .ok (.aload_n 0, 1) := by decide +kernel
theorem dL_law_585 : decode cL_law 585 = .ok (.iload_n 3, 1) := by decide +kernel
theorem dL_law_586 : decode cL_law 586 = .ok (.iconst 3, 1) := by decide +kernel
theorem dL_law_587 : decode cL_law 587 = .ok (.iadd, 1) := by decide +kernel
theorem dL_law_588 : decode cL_law 588 = .ok (.iaload, 1) := by decide +kernel
theorem dL_law_589 : decode cL_law 589 = .ok (.invokevirtual 59, 3) := by decide +kernel
theorem dL_law_592 : decode cL_law 592 = .ok (.if_icmp .eq 829, 3) := by decide +kernel
theorem dL_law_595 : decode cL_law 595 = .ok (.iconst 0, 1) := by decide +kernel
theorem dL_law_596 : decode cL_law 596 = .ok (.ireturn, 1) := by decide +kernel
theorem dL_law_597 : decode cL_law 597 = .ok (.aload_n 1, 1) := by decide +kernel
theorem dL_law_598 : decode cL_law 598 = .ok (.aload_n 0, 1) := by decide +kernel
theorem dL_law_599 : decode cL_law 599 = .ok (.iload_n 3, 1) := by decide +kernel
theorem dL_law_600 : decode cL_law 600 = .ok (.iconst 1, 1) := by decide +kernel
theorem dL_law_601 : decode cL_law 601 = .ok (.iadd, 1) := by decide +kernel
theorem dL_law_602 : decode cL_law 602 = .ok (.iaload, 1) := by decide +kernel
theorem dL_law_603 : decode cL_law 603 = .ok (.i2l, 1) := by decide +kernel
theorem dL_law_604 : decode cL_law 604 = .ok (.bipush 32, 2) := by decide +kernel
theorem dL_law_606 : decode cL_law 606 = .ok (.lshl, 1) := by decide +kernel
theorem dL_law_607 : decode cL_law 607 = .ok (.aload_n 0, 1) := by decide +kernel
theorem dL_law_608 : decode cL_law 608 = .ok (.iload_n 3, 1) := by decide +kernel
theorem dL_law_609 : decode cL_law 609 = .ok (.iconst 2, 1) := by decide +kernel
theorem dL_law_610 : decode cL_law 610 = .ok (.iadd, 1) := by decide +kernel
theorem dL_law_611 : decode cL_law 611 = .ok (.iaload, 1) := by decide +kernel
theorem dL_law_612 : decode cL_law 612 = .ok (.i2l, 1) := by decide +kernel
theorem dL_law_613 : decode cL_law 613 = .ok (.ldc2_w 60, 3) := by decide +kernel
theorem dL_law_616 : decode cL_law 616 = .ok (.land, 1) := by decide +kernel
theorem dL_law_617 : decode cL_law 617 = .ok (.lor, 1) := by decide +kernel
theorem dL_law_618 : decode cL_law 618 = .ok (.aload_n 0, 1) := by decide +kernel
theorem dL_law_619 : decode cL_law 619 = .ok (.iload_n 3, 1) := by decide +kernel
theorem dL_law_620 : decode cL_law 620 = .ok (.iconst 3, 1) := by decide +kernel
theorem dL_law_621 : decode cL_law 621 = .ok (.iadd, 1) := by decide +kernel
theorem dL_law_622 : decode cL_law 622 = .ok (.iaload, 1) := by decide +kernel
theorem dL_law_623 : decode cL_law 623 = .ok (.invokevirtual 62, 3) := by decide +kernel
theorem dL_law_626 : decode cL_law 626 = .ok (.aload_n 2, 1) := by decide +kernel
theorem dL_law_627 : decode cL_law 627 = .ok (.aload_n 0, 1) := by decide +kernel
theorem dL_law_628 : decode cL_law 628 = .ok (.iload_n 3, 1) := by decide +kernel
theorem dL_law_629 : decode cL_law 629 = .ok (.iconst 1, 1) := by decide +kernel
theorem dL_law_630 : decode cL_law 630 = .ok (.iadd, 1) := by decide +kernel
theorem dL_law_631 : decode cL_law 631 = .ok (.iaload, 1) := by decide +kernel
theorem dL_law_632 : decode cL_law 632 = .ok (.i2l, 1) := by decide +kernel
theorem dL_law_633 : decode cL_law 633 = .ok (.bipush 32, 2) := by decide +kernel
theorem dL_law_635 : decode cL_law 635 = .ok (.lshl, 1) := by decide +kernel
theorem dL_law_636 : decode cL_law 636 = .ok (.aload_n 0, 1) := by decide +kernel
theorem dL_law_637 : decode cL_law 637 = .ok (.iload_n 3, 1) := by decide +kernel
theorem dL_law_638 : decode cL_law 638 = .ok (.iconst 2, 1) := by decide +kernel
theorem dL_law_639 : decode cL_law 639 = .ok (.iadd, 1) := by decide +kernel
theorem dL_law_640 : decode cL_law 640 = .ok (.iaload, 1) := by decide +kernel
theorem dL_law_641 : decode cL_law 641 = .ok (.i2l, 1) := by decide +kernel
theorem dL_law_642 : decode cL_law 642 = .ok (.ldc2_w 60, 3) := by decide +kernel
theorem dL_law_645 : decode cL_law 645 = .ok (.land, 1) := by decide +kernel
theorem dL_law_646 : decode cL_law 646 = .ok (.lor, 1) := by decide +kernel
theorem dL_law_647 : decode cL_law 647 = .ok (.aload_n 0, 1) := by decide +kernel
theorem dL_law_648 : decode cL_law 648 = .ok (.iload_n 3, 1) := by decide +kernel
theorem dL_law_649 : decode cL_law 649 = .ok (.iconst 3, 1) := by decide +kernel
theorem dL_law_650 : decode cL_law 650 = .ok (.iadd, 1) := by decide +kernel
theorem dL_law_651 : decode cL_law 651 = .ok (.iaload, 1) := by decide +kernel
theorem dL_law_652 : decode cL_law 652 = .ok (.invokevirtual 66, 3) := by decide +kernel
theorem dL_law_655 : decode cL_law 655 = .ok (.if_icmp .eq 766, 3) := by decide +kernel
theorem dL_law_658 : decode cL_law 658 = .ok (.iconst 0, 1) := by decide +kernel
theorem dL_law_659 : decode cL_law 659 = .ok (.ireturn, 1) := by decide +kernel
theorem dL_law_660 : decode cL_law 660 = .ok (.aload_n 1, 1) := by decide +kernel
theorem dL_law_661 : decode cL_law 661 = .ok (.aload_n 0, 1) := by decide +kernel
theorem dL_law_662 : decode cL_law 662 = .ok (.iload_n 3, 1) := by decide +kernel
theorem dL_law_663 : decode cL_law 663 = .ok (.iconst 1, 1) := by decide +kernel
theorem dL_law_664 : decode cL_law 664 = .ok (.iadd, 1) := by decide +kernel
theorem dL_law_665 : decode cL_law 665 = .ok (.iaload, 1) := by decide +kernel
theorem dL_law_666 : decode cL_law 666 = .ok (.invokevirtual 67, 3) := by decide +kernel
theorem dL_law_669 : decode cL_law 669 = .ok (.aload_n 2, 1) := by decide +kernel
theorem dL_law_670 : decode cL_law 670 = .ok (.aload_n 0, 1) := by decide +kernel
theorem dL_law_671 : decode cL_law 671 = .ok (.iload_n 3, 1) := by decide +kernel
theorem dL_law_672 : decode cL_law 672 = .ok (.iconst 1, 1) := by decide +kernel
theorem dL_law_673 : decode cL_law 673 = .ok (.iadd, 1) := by decide +kernel
theorem dL_law_674 : decode cL_law 674 = .ok (.iaload, 1) := by decide +kernel
theorem dL_law_675 : decode cL_law 675 = .ok (.invokevirtual 70, 3) := by decide +kernel
theorem dL_law_678 : decode cL_law 678 = .ok (.if_icmp .eq 743, 3) := by decide +kernel
theorem dL_law_681 : decode cL_law 681 = .ok (.iconst 0, 1) := by decide +kernel
theorem dL_law_682 : decode cL_law 682 = .ok (.ireturn, 1) := by decide +kernel
theorem dL_law_683 : decode cL_law 683 = .ok (.aload_n 1, 1) := by decide +kernel
theorem dL_law_684 : decode cL_law 684 = .ok (.aload_n 0, 1) := by decide +kernel
theorem dL_law_685 : decode cL_law 685 = .ok (.iload_n 3, 1) := by decide +kernel
theorem dL_law_686 : decode cL_law 686 = .ok (.iconst 1, 1) := by decide +kernel
theorem dL_law_687 : decode cL_law 687 = .ok (.iadd, 1) := by decide +kernel
theorem dL_law_688 : decode cL_law 688 = .ok (.iaload, 1) := by decide +kernel
theorem dL_law_689 : decode cL_law 689 = .ok (.invokevirtual 71, 3) := by decide +kernel
theorem dL_law_692 : decode cL_law 692 = .ok (.aload_n 2, 1) := by decide +kernel
theorem dL_law_693 : decode cL_law 693 = .ok (.aload_n 0, 1) := by decide +kernel
theorem dL_law_694 : decode cL_law 694 = .ok (.iload_n 3, 1) := by decide +kernel
theorem dL_law_695 : decode cL_law 695 = .ok (.iconst 1, 1) := by decide +kernel
theorem dL_law_696 : decode cL_law 696 = .ok (.iadd, 1) := by decide +kernel
theorem dL_law_697 : decode cL_law 697 = .ok (.iaload, 1) := by decide +kernel
theorem dL_law_698 : decode cL_law 698 = .ok (.invokevirtual 74, 3) := by decide +kernel
theorem dL_law_701 : decode cL_law 701 = .ok (.if_icmp .eq 720, 3) := by decide +kernel
theorem dL_law_704 : decode cL_law 704 = .ok (.iconst 0, 1) := by decide +kernel
theorem dL_law_705 : decode cL_law 705 = .ok (.ireturn, 1) := by decide +kernel
theorem dL_law_706 : decode cL_law 706 = .ok (.aload_n 1, 1) := by decide +kernel
theorem dL_law_707 : decode cL_law 707 = .ok (.aload_n 0, 1) := by decide +kernel
theorem dL_law_708 : decode cL_law 708 = .ok (.iload_n 3, 1) := by decide +kernel
theorem dL_law_709 : decode cL_law 709 = .ok (.iconst 1, 1) := by decide +kernel
theorem dL_law_710 : decode cL_law 710 = .ok (.iadd, 1) := by decide +kernel
theorem dL_law_711 : decode cL_law 711 = .ok (.iaload, 1) := by decide +kernel
theorem dL_law_712 : decode cL_law 712 = .ok (.invokevirtual 75, 3) := by decide +kernel
theorem dL_law_715 : decode cL_law 715 = .ok (.aload_n 2, 1) := by decide +kernel
theorem dL_law_716 : decode cL_law 716 = .ok (.aload_n 0, 1) := by decide +kernel
theorem dL_law_717 : decode cL_law 717 = .ok (.iload_n 3, 1) := by decide +kernel
theorem dL_law_718 : decode cL_law 718 = .ok (.iconst 1, 1) := by decide +kernel
theorem dL_law_719 : decode cL_law 719 = .ok (.iadd, 1) := by decide +kernel
theorem dL_law_720 : decode cL_law 720 = .ok (.iaload, 1) := by decide +kernel
theorem dL_law_721 : decode cL_law 721 = .ok (.invokevirtual 78, 3) := by decide +kernel
theorem dL_law_724 : decode cL_law 724 = .ok (.if_icmp .eq 697, 3) := by decide +kernel
theorem dL_law_727 : decode cL_law 727 = .ok (.iconst 0, 1) := by decide +kernel
theorem dL_law_728 : decode cL_law 728 = .ok (.ireturn, 1) := by decide +kernel
theorem dL_law_729 : decode cL_law 729 = .ok (.aload_n 1, 1) := by decide +kernel
theorem dL_law_730 : decode cL_law 730 = .ok (.aload_n 0, 1) := by decide +kernel
theorem dL_law_731 : decode cL_law 731 = .ok (.iload_n 3, 1) := by decide +kernel
theorem dL_law_732 : decode cL_law 732 = .ok (.iconst 1, 1) := by decide +kernel
theorem dL_law_733 : decode cL_law 733 = .ok (.iadd, 1) := by decide +kernel
theorem dL_law_734 : decode cL_law 734 = .ok (.iaload, 1) := by decide +kernel
theorem dL_law_735 : decode cL_law 735 = .ok (.invokevirtual 79, 3) := by decide +kernel
theorem dL_law_738 : decode cL_law 738 = .ok (.aload_n 2, 1) := by decide +kernel
theorem dL_law_739 : decode cL_law 739 = .ok (.aload_n 0, 1) := by decide +kernel
theorem dL_law_740 : decode cL_law 740 = .ok (.iload_n 3, 1) := by decide +kernel
theorem dL_law_741 : decode cL_law 741 = .ok (.iconst 1, 1) := by decide +kernel
theorem dL_law_742 : decode cL_law 742 = .ok (.iadd, 1) := by decide +kernel
theorem dL_law_743 : decode cL_law 743 = .ok (.iaload, 1) := by decide +kernel
theorem dL_law_744 : decode cL_law 744 = .ok (.invokevirtual 82, 3) := by decide +kernel
theorem dL_law_747 : decode cL_law 747 = .ok (.if_icmp .eq 674, 3) := by decide +kernel
theorem dL_law_750 : decode cL_law 750 = .ok (.iconst 0, 1) := by decide +kernel
theorem dL_law_751 : decode cL_law 751 = .ok (.ireturn, 1) := by decide +kernel
theorem dL_law_752 : decode cL_law 752 = .ok (.aload_n 1, 1) := by decide +kernel
theorem dL_law_753 : decode cL_law 753 = .ok (.aload_n 0, 1) := by decide +kernel
theorem dL_law_754 : decode cL_law 754 = .ok (.iload_n 3, 1) := by decide +kernel
theorem dL_law_755 : decode cL_law 755 = .ok (.iconst 1, 1) := by decide +kernel
theorem dL_law_756 : decode cL_law 756 = .ok (.iadd, 1) := by decide +kernel
theorem dL_law_757 : decode cL_law 757 = .ok (.iaload, 1) := by decide +kernel
theorem dL_law_758 : decode cL_law 758 = .ok (.invokevirtual 83, 3) := by decide +kernel
theorem dL_law_761 : decode cL_law 761 = .ok (.aload_n 2, 1) := by decide +kernel
theorem dL_law_762 : decode cL_law 762 = .ok (.aload_n 0, 1) := by decide +kernel
theorem dL_law_763 : decode cL_law 763 = .ok (.iload_n 3, 1) := by decide +kernel
theorem dL_law_764 : decode cL_law 764 = .ok (.iconst 1, 1) := by decide +kernel
theorem dL_law_765 : decode cL_law 765 = .ok (.iadd, 1) := by decide +kernel
theorem dL_law_766 : decode cL_law 766 = .ok (.iaload, 1) := by decide +kernel
theorem dL_law_767 : decode cL_law 767 = .ok (.invokevirtual 86, 3) := by decide +kernel
theorem dL_law_770 : decode cL_law 770 = .ok (.if_icmp .eq 651, 3) := by decide +kernel
theorem dL_law_773 : decode cL_law 773 = .ok (.iconst 0, 1) := by decide +kernel
theorem dL_law_774 : decode cL_law 774 = .ok (.ireturn, 1) := by decide +kernel
theorem dL_law_775 : decode cL_law 775 = .ok (.aload_n 1, 1) := by decide +kernel
theorem dL_law_776 : decode cL_law 776 = .ok (.aload_n 0, 1) := by decide +kernel
theorem dL_law_777 : decode cL_law 777 = .ok (.iload_n 3, 1) := by decide +kernel
theorem dL_law_778 : decode cL_law 778 = .ok (.iconst 1, 1) := by decide +kernel
theorem dL_law_779 : decode cL_law 779 = .ok (.iadd, 1) := by decide +kernel
theorem dL_law_780 : decode cL_law 780 = .ok (.iaload, 1) := by decide +kernel
theorem dL_law_781 : decode cL_law 781 = .ok (.invokevirtual 87, 3) := by decide +kernel
theorem dL_law_784 : decode cL_law 784 = .ok (.aload_n 2, 1) := by decide +kernel
theorem dL_law_785 : decode cL_law 785 = .ok (.aload_n 0, 1) := by decide +kernel
theorem dL_law_786 : decode cL_law 786 = .ok (.iload_n 3, 1) := by decide +kernel
theorem dL_law_787 : decode cL_law 787 = .ok (.iconst 1, 1) := by decide +kernel
theorem dL_law_788 : decode cL_law 788 = .ok (.iadd, 1) := by decide +kernel
theorem dL_law_789 : decode cL_law 789 = .ok (.iaload, 1) := by decide +kernel
theorem dL_law_790 : decode cL_law 790 = .ok (.invokevirtual 90, 3) := by decide +kernel
theorem dL_law_793 : decode cL_law 793 = .ok (.if_icmp .eq 628, 3) := by decide +kernel
theorem dL_law_796 : decode cL_law 796 = .ok (.iconst 0, 1) := by decide +kernel
theorem dL_law_797 : decode cL_law 797 = .ok (.ireturn, 1) := by decide +kernel
theorem dL_law_798 : decode cL_law 798 = .ok (.aload_n 1, 1) := by decide +kernel
theorem dL_law_799 : decode cL_law 799 = .ok (.aload_n 0, 1) := by decide +kernel
theorem dL_law_800 : decode cL_law 800 = .ok (.iload_n 3, 1) := by decide +kernel
theorem dL_law_801 : decode cL_law 801 = .ok (.iconst 1, 1) := by decide +kernel
theorem dL_law_802 : decode cL_law 802 = .ok (.iadd, 1) := by decide +kernel
theorem dL_law_803 : decode cL_law 803 = .ok (.iaload, 1) := by decide +kernel
theorem dL_law_804 : decode cL_law 804 = .ok (.invokevirtual 91, 3) := by decide +kernel
theorem dL_law_807 : decode cL_law 807 = .ok (.aload_n 2, 1) := by decide +kernel
theorem dL_law_808 : decode cL_law 808 = .ok (.aload_n 0, 1) := by decide +kernel
theorem dL_law_809 : decode cL_law 809 = .ok (.iload_n 3, 1) := by decide +kernel
theorem dL_law_810 : decode cL_law 810 = .ok (.iconst 1, 1) := by decide +kernel
theorem dL_law_811 : decode cL_law 811 = .ok (.iadd, 1) := by decide +kernel
theorem dL_law_812 : decode cL_law 812 = .ok (.iaload, 1) := by decide +kernel
theorem dL_law_813 : decode cL_law 813 = .ok (.invokevirtual 94, 3) := by decide +kernel
theorem dL_law_816 : decode cL_law 816 = .ok (.if_icmp .eq 605, 3) := by decide +kernel
theorem dL_law_819 : decode cL_law 819 = .ok (.iconst 0, 1) := by decide +kernel
theorem dL_law_820 : decode cL_law 820 = .ok (.ireturn, 1) := by decide +kernel
theorem dL_law_821 : decode cL_law 821 = .ok (.aload_n 1, 1) := by decide +kernel
theorem dL_law_822 : decode cL_law 822 = .ok (.aload_n 0, 1) := by decide +kernel
theorem dL_law_823 : decode cL_law 823 = .ok (.iload_n 3, 1) := by decide +kernel
theorem dL_law_824 : decode cL_law 824 = .ok (.iconst 1, 1) := by decide +kernel
theorem dL_law_825 : decode cL_law 825 = .ok (.iadd, 1) := by decide +kernel
theorem dL_law_826 : decode cL_law 826 = .ok (.iaload, 1) := by decide +kernel
theorem dL_law_827 : decode cL_law 827 = .ok (.invokevirtual 95, 3) := by decide +kernel
theorem dL_law_830 : decode cL_law 830 = .ok (.aload_n 2, 1) := by decide +kernel
theorem dL_law_831 : decode cL_law 831 = .ok (.aload_n 0, 1) := by decide +kernel
theorem dL_law_832 : decode cL_law 832 = .ok (.iload_n 3, 1) := by decide +kernel
theorem dL_law_833 : decode cL_law 833 = .ok (.iconst 1, 1) := by decide +kernel
theorem dL_law_834 : decode cL_law 834 = .ok (.iadd, 1) := by decide +kernel
theorem dL_law_835 : decode cL_law 835 = .ok (.iaload, 1) := by decide +kernel
theorem dL_law_836 : decode cL_law 836 = .ok (.invokevirtual 98, 3) := by decide +kernel
theorem dL_law_839 : decode cL_law 839 = .ok (.if_icmp .eq 582, 3) := by decide +kernel
theorem dL_law_842 : decode cL_law 842 = .ok (.iconst 0, 1) := by decide +kernel
theorem dL_law_843 : decode cL_law 843 = .ok (.ireturn, 1) := by decide +kernel
theorem dL_law_844 : decode cL_law 844 = .ok (.aload_n 1, 1) := by decide +kernel
theorem dL_law_845 : decode cL_law 845 = .ok (.aload_n 0, 1) := by decide +kernel
theorem dL_law_846 : decode cL_law 846 = .ok (.iload_n 3, 1) := by decide +kernel
theorem dL_law_847 : decode cL_law 847 = .ok (.iconst 1, 1) := by decide +kernel
theorem dL_law_848 : decode cL_law 848 = .ok (.iadd, 1) := by decide +kernel
theorem dL_law_849 : decode cL_law 849 = .ok (.iaload, 1) := by decide +kernel
theorem dL_law_850 : decode cL_law 850 = .ok (.aload_n 0, 1) := by decide +kernel
theorem dL_law_851 : decode cL_law 851 = .ok (.iload_n 3, 1) := by decide +kernel
theorem dL_law_852 : decode cL_law 852 = .ok (.iconst 2, 1) := by decide +kernel
theorem dL_law_853 : decode cL_law 853 = .ok (.iadd, 1) := by decide +kernel
theorem dL_law_854 : decode cL_law 854 = .ok (.iaload, 1) := by decide +kernel
theorem dL_law_855 : decode cL_law 855 = .ok (.aload_n 0, 1) := by decide +kernel
theorem dL_law_856 : decode cL_law 856 = .ok (.iload_n 3, 1) := by decide +kernel
theorem dL_law_857 : decode cL_law 857 = .ok (.iconst 3, 1) := by decide +kernel
theorem dL_law_858 : decode cL_law 858 = .ok (.iadd, 1) := by decide +kernel
theorem dL_law_859 : decode cL_law 859 = .ok (.iaload, 1) := by decide +kernel
theorem dL_law_860 : decode cL_law 860 = .ok (.invokevirtual 99, 3) := by decide +kernel
theorem dL_law_863 : decode cL_law 863 = .ok (.aload_n 2, 1) := by decide +kernel
theorem dL_law_864 : decode cL_law 864 = .ok (.aload_n 0, 1) := by decide +kernel
theorem dL_law_865 : decode cL_law 865 = .ok (.iload_n 3, 1) := by decide +kernel
theorem dL_law_866 : decode cL_law 866 = .ok (.iconst 1, 1) := by decide +kernel
theorem dL_law_867 : decode cL_law 867 = .ok (.iadd, 1) := by decide +kernel
theorem dL_law_868 : decode cL_law 868 = .ok (.iaload, 1) := by decide +kernel
theorem dL_law_869 : decode cL_law 869 = .ok (.aload_n 0, 1) := by decide +kernel
theorem dL_law_870 : decode cL_law 870 = .ok (.iload_n 3, 1) := by decide +kernel
theorem dL_law_871 : decode cL_law 871 = .ok (.iconst 2, 1) := by decide +kernel
theorem dL_law_872 : decode cL_law 872 = .ok (.iadd, 1) := by decide +kernel
theorem dL_law_873 : decode cL_law 873 = .ok (.iaload, 1) := by decide +kernel
theorem dL_law_874 : decode cL_law 874 = .ok (.aload_n 0, 1) := by decide +kernel
theorem dL_law_875 : decode cL_law 875 = .ok (.iload_n 3, 1) := by decide +kernel
theorem dL_law_876 : decode cL_law 876 = .ok (.iconst 3, 1) := by decide +kernel
theorem dL_law_877 : decode cL_law 877 = .ok (.iadd, 1) := by decide +kernel
theorem dL_law_878 : decode cL_law 878 = .ok (.iaload, 1) := by decide +kernel
theorem dL_law_879 : decode cL_law 879 = .ok (.invokevirtual 102, 3) := by decide +kernel
theorem dL_law_882 : decode cL_law 882 = .ok (.if_icmp .eq 539, 3) := by decide +kernel
theorem dL_law_885 : decode cL_law 885 = .ok (.iconst 0, 1) := by decide +kernel
theorem dL_law_886 : decode cL_law 886 = .ok (.ireturn, 1) := by decide +kernel
theorem dL_law_887 : decode cL_law 887 = .ok (.aload_n 1, 1) := by decide +kernel
theorem dL_law_888 : decode cL_law 888 = .ok (.aload_n 0, 1) := by decide +kernel
theorem dL_law_889 : decode cL_law 889 = .ok (.iload_n 3, 1) := by decide +kernel
theorem dL_law_890 : decode cL_law 890 = .ok (.iconst 1, 1) := by decide +kernel
theorem dL_law_891 : decode cL_law 891 = .ok (.iadd, 1) := by decide +kernel
theorem dL_law_892 : decode cL_law 892 = .ok (.iaload, 1) := by decide +kernel
theorem dL_law_893 : decode cL_law 893 = .ok (.invokevirtual 103, 3) := by decide +kernel
theorem dL_law_896 : decode cL_law 896 = .ok (.aload_n 2, 1) := by decide +kernel
theorem dL_law_897 : decode cL_law 897 = .ok (.aload_n 0, 1) := by decide +kernel
theorem dL_law_898 : decode cL_law 898 = .ok (.iload_n 3, 1) := by decide +kernel
theorem dL_law_899 : decode cL_law 899 = .ok (.iconst 1, 1) := by decide +kernel
theorem dL_law_900 : decode cL_law 900 = .ok (.iadd, 1) := by decide +kernel
theorem dL_law_901 : decode cL_law 901 = .ok (.iaload, 1) := by decide +kernel
theorem dL_law_902 : decode cL_law 902 = .ok (.invokevirtual 106, 3) := by decide +kernel
theorem dL_law_905 : decode cL_law 905 = .ok (.if_icmp .eq 516, 3) := by decide +kernel
theorem dL_law_908 : decode cL_law 908 = .ok (.iconst 0, 1) := by decide +kernel
theorem dL_law_909 : decode cL_law 909 = .ok (.ireturn, 1) := by decide +kernel
theorem dL_law_910 : decode cL_law 910 = .ok (.aload_n 1, 1) := by decide +kernel
theorem dL_law_911 : decode cL_law 911 = .ok (.aload_n 0, 1) := by decide +kernel
theorem dL_law_912 : decode cL_law 912 = .ok (.iload_n 3, 1) := by decide +kernel
theorem dL_law_913 : decode cL_law 913 = .ok (.iconst 1, 1) := by decide +kernel
theorem dL_law_914 : decode cL_law 914 = .ok (.iadd, 1) := by decide +kernel
theorem dL_law_915 : decode cL_law 915 = .ok (.iaload, 1) := by decide +kernel
theorem dL_law_916 : decode cL_law 916 = .ok (.aload_n 0, 1) := by decide +kernel
theorem dL_law_917 : decode cL_law 917 = .ok (.iload_n 3, 1) := by decide +kernel
theorem dL_law_918 : decode cL_law 918 = .ok (.iconst 2, 1) := by decide +kernel
theorem dL_law_919 : decode cL_law 919 = .ok (.iadd, 1) := by decide +kernel
theorem dL_law_920 : decode cL_law 920 = .ok (.iaload, 1) := by decide +kernel
theorem dL_law_921 : decode cL_law 921 = .ok (.invokevirtual 107, 3) := by decide +kernel
theorem dL_law_924 : decode cL_law 924 = .ok (.aload_n 2, 1) := by decide +kernel
theorem dL_law_925 : decode cL_law 925 = .ok (.aload_n 0, 1) := by decide +kernel
theorem dL_law_926 : decode cL_law 926 = .ok (.iload_n 3, 1) := by decide +kernel
theorem dL_law_927 : decode cL_law 927 = .ok (.iconst 1, 1) := by decide +kernel
theorem dL_law_928 : decode cL_law 928 = .ok (.iadd, 1) := by decide +kernel
theorem dL_law_929 : decode cL_law 929 = .ok (.iaload, 1) := by decide +kernel
theorem dL_law_930 : decode cL_law 930 = .ok (.aload_n 0, 1) := by decide +kernel
theorem dL_law_931 : decode cL_law 931 = .ok (.iload_n 3, 1) := by decide +kernel
theorem dL_law_932 : decode cL_law 932 = .ok (.iconst 2, 1) := by decide +kernel
theorem dL_law_933 : decode cL_law 933 = .ok (.iadd, 1) := by decide +kernel
theorem dL_law_934 : decode cL_law 934 = .ok (.iaload, 1) := by decide +kernel
theorem dL_law_935 : decode cL_law 935 = .ok (.invokevirtual 110, 3) := by decide +kernel
theorem dL_law_938 : decode cL_law 938 = .ok (.if_icmp .eq 483, 3) := by decide +kernel
theorem dL_law_941 : decode cL_law 941 = .ok (.iconst 0, 1) := by decide +kernel
theorem dL_law_942 : decode cL_law 942 = .ok (.ireturn, 1) := by decide +kernel
theorem dL_law_943 : decode cL_law 943 = .ok (.aload_n 1, 1) := by decide +kernel
theorem dL_law_944 : decode cL_law 944 = .ok (.aload_n 0, 1) := by decide +kernel
theorem dL_law_945 : decode cL_law 945 = .ok (.iload_n 3, 1) := by decide +kernel
theorem dL_law_946 : decode cL_law 946 = .ok (.iconst 1, 1) := by decide +kernel
theorem dL_law_947 : decode cL_law 947 = .ok (.iadd, 1) := by decide +kernel
theorem dL_law_948 : decode cL_law 948 = .ok (.iaload, 1) := by decide +kernel
theorem dL_law_949 : decode cL_law 949 = .ok (.aload_n 0, 1) := by decide +kernel
theorem dL_law_950 : decode cL_law 950 = .ok (.iload_n 3, 1) := by decide +kernel
theorem dL_law_951 : decode cL_law 951 = .ok (.iconst 2, 1) := by decide +kernel
theorem dL_law_952 : decode cL_law 952 = .ok (.iadd, 1) := by decide +kernel
theorem dL_law_953 : decode cL_law 953 = .ok (.iaload, 1) := by decide +kernel
theorem dL_law_954 : decode cL_law 954 = .ok (.invokevirtual 111, 3) := by decide +kernel
theorem dL_law_957 : decode cL_law 957 = .ok (.aload_n 2, 1) := by decide +kernel
theorem dL_law_958 : decode cL_law 958 = .ok (.aload_n 0, 1) := by decide +kernel
theorem dL_law_959 : decode cL_law 959 = .ok (.iload_n 3, 1) := by decide +kernel
theorem dL_law_960 : decode cL_law 960 = .ok (.iconst 1, 1) := by decide +kernel
theorem dL_law_961 : decode cL_law 961 = .ok (.iadd, 1) := by decide +kernel
theorem dL_law_962 : decode cL_law 962 = .ok (.iaload, 1) := by decide +kernel
theorem dL_law_963 : decode cL_law 963 = .ok (.aload_n 0, 1) := by decide +kernel
theorem dL_law_964 : decode cL_law 964 = .ok (.iload_n 3, 1) := by decide +kernel
theorem dL_law_965 : decode cL_law 965 = .ok (.iconst 2, 1) := by decide +kernel
theorem dL_law_966 : decode cL_law 966 = .ok (.iadd, 1) := by decide +kernel
theorem dL_law_967 : decode cL_law 967 = .ok (.iaload, 1) := by decide +kernel
theorem dL_law_968 : decode cL_law 968 = .ok (.invokevirtual 114, 3) := by decide +kernel
theorem dL_law_971 : decode cL_law 971 = .ok (.if_icmp .eq 450, 3) := by decide +kernel
theorem dL_law_974 : decode cL_law 974 = .ok (.iconst 0, 1) := by decide +kernel
theorem dL_law_975 : decode cL_law 975 = .ok (.ireturn, 1) := by decide +kernel
theorem dL_law_976 : decode cL_law 976 = .ok (.aload_n 1, 1) := by decide +kernel
theorem dL_law_977 : decode cL_law 977 = .ok (.aload_n 0, 1) := by decide +kernel
theorem dL_law_978 : decode cL_law 978 = .ok (.iload_n 3, 1) := by decide +kernel
theorem dL_law_979 : decode cL_law 979 = .ok (.iconst 1, 1) := by decide +kernel
theorem dL_law_980 : decode cL_law 980 = .ok (.iadd, 1) := by decide +kernel
theorem dL_law_981 : decode cL_law 981 = .ok (.iaload, 1) := by decide +kernel
theorem dL_law_982 : decode cL_law 982 = .ok (.invokevirtual 115, 3) := by decide +kernel
theorem dL_law_985 : decode cL_law 985 = .ok (.aload_n 2, 1) := by decide +kernel
theorem dL_law_986 : decode cL_law 986 = .ok (.aload_n 0, 1) := by decide +kernel
theorem dL_law_987 : decode cL_law 987 = .ok (.iload_n 3, 1) := by decide +kernel
theorem dL_law_988 : decode cL_law 988 = .ok (.iconst 1, 1) := by decide +kernel
theorem dL_law_989 : decode cL_law 989 = .ok (.iadd, 1) := by decide +kernel
theorem dL_law_990 : decode cL_law 990 = .ok (.iaload, 1) := by decide +kernel
theorem dL_law_991 : decode cL_law 991 = .ok (.invokevirtual 118, 3) := by decide +kernel
theorem dL_law_994 : decode cL_law 994 = .ok (.if_icmp .eq 427, 3) := by decide +kernel
theorem dL_law_997 : decode cL_law 997 = .ok (.iconst 0, 1) := by decide +kernel
theorem dL_law_998 : decode cL_law 998 = .ok (.ireturn, 1) := by decide +kernel
theorem dL_law_999 : decode cL_law 999 = .ok (.aload_n 1, 1) := by decide +kernel
theorem dL_law_1000 : decode cL_law 1000 = .ok (.aload_n 0, 1) := by decide +kernel
theorem dL_law_1001 : decode cL_law 1001 = .ok (.iload_n 3, 1) := by decide +kernel
theorem dL_law_1002 : decode cL_law 1002 = .ok (.iconst 1, 1) := by decide +kernel
theorem dL_law_1003 : decode cL_law 1003 = .ok (.iadd, 1) := by decide +kernel
theorem dL_law_1004 : decode cL_law 1004 = .ok (.iaload, 1) := by decide +kernel
theorem dL_law_1005 : decode cL_law 1005 = .ok (.invokevirtual 119, 3) := by decide +kernel
theorem dL_law_1008 : decode cL_law 1008 = .ok (.aload_n 2, 1) := by decide +kernel
theorem dL_law_1009 : decode cL_law 1009 = .ok (.aload_n 0, 1) := by decide +kernel
theorem dL_law_1010 : decode cL_law 1010 = .ok (.iload_n 3, 1) := by decide +kernel
theorem dL_law_1011 : decode cL_law 1011 = .ok (.iconst 1, 1) := by decide +kernel
theorem dL_law_1012 : decode cL_law 1012 = .ok (.iadd, 1) := by decide +kernel
theorem dL_law_1013 : decode cL_law 1013 = .ok (.iaload, 1) := by decide +kernel
theorem dL_law_1014 : decode cL_law 1014 = .ok (.invokevirtual 122, 3) := by decide +kernel
theorem dL_law_1017 : decode cL_law 1017 = .ok (.if_icmp .eq 404, 3) := by decide +kernel
theorem dL_law_1020 : decode cL_law 1020 = .ok (.iconst 0, 1) := by decide +kernel
theorem dL_law_1021 : decode cL_law 1021 = .ok (.ireturn, 1) := by decide +kernel
theorem dL_law_1022 : decode cL_law 1022 = .ok (.aload_n 1, 1) := by decide +kernel
theorem dL_law_1023 : decode cL_law 1023 = .ok (.aload_n 0, 1) := by decide +kernel
theorem dL_law_1024 : decode cL_law 1024 = .ok (.iload_n 3, 1) := by decide +kernel
theorem dL_law_1025 : decode cL_law 1025 = .ok (.iconst 1, 1) := by decide +kernel
theorem dL_law_1026 : decode cL_law 1026 = .ok (.iadd, 1) := by decide +kernel
theorem dL_law_1027 : decode cL_law 1027 = .ok (.iaload, 1) := by decide +kernel
theorem dL_law_1028 : decode cL_law 1028 = .ok (.aload_n 0, 1) := by decide +kernel
theorem dL_law_1029 : decode cL_law 1029 = .ok (.iload_n 3, 1) := by decide +kernel
theorem dL_law_1030 : decode cL_law 1030 = .ok (.iconst 2, 1) := by decide +kernel
theorem dL_law_1031 : decode cL_law 1031 = .ok (.iadd, 1) := by decide +kernel
theorem dL_law_1032 : decode cL_law 1032 = .ok (.iaload, 1) := by decide +kernel
theorem dL_law_1033 : decode cL_law 1033 = .ok (.aload_n 0, 1) := by decide +kernel
theorem dL_law_1034 : decode cL_law 1034 = .ok (.iload_n 3, 1) := by decide +kernel
theorem dL_law_1035 : decode cL_law 1035 = .ok (.iconst 3, 1) := by decide +kernel
theorem dL_law_1036 : decode cL_law 1036 = .ok (.iadd, 1) := by decide +kernel
theorem dL_law_1037 : decode cL_law 1037 = .ok (.iaload, 1) := by decide +kernel
theorem dL_law_1038 : decode cL_law 1038 = .ok (.invokevirtual 123, 3) := by decide +kernel
theorem dL_law_1041 : decode cL_law 1041 = .ok (.aload_n 2, 1) := by decide +kernel
theorem dL_law_1042 : decode cL_law 1042 = .ok (.aload_n 0, 1) := by decide +kernel
theorem dL_law_1043 : decode cL_law 1043 = .ok (.iload_n 3, 1) := by decide +kernel
theorem dL_law_1044 : decode cL_law 1044 = .ok (.iconst 1, 1) := by decide +kernel
theorem dL_law_1045 : decode cL_law 1045 = .ok (.iadd, 1) := by decide +kernel
theorem dL_law_1046 : decode cL_law 1046 = .ok (.iaload, 1) := by decide +kernel
theorem dL_law_1047 : decode cL_law 1047 = .ok (.aload_n 0, 1) := by decide +kernel
theorem dL_law_1048 : decode cL_law 1048 = .ok (.iload_n 3, 1) := by decide +kernel
theorem dL_law_1049 : decode cL_law 1049 = .ok (.iconst 2, 1) := by decide +kernel
theorem dL_law_1050 : decode cL_law 1050 = .ok (.iadd, 1) := by decide +kernel
theorem dL_law_1051 : decode cL_law 1051 = .ok (.iaload, 1) := by decide +kernel
theorem dL_law_1052 : decode cL_law 1052 = .ok (.aload_n 0, 1) := by decide +kernel
theorem dL_law_1053 : decode cL_law 1053 = .ok (.iload_n 3, 1) := by decide +kernel
theorem dL_law_1054 : decode cL_law 1054 = .ok (.iconst 3, 1) := by decide +kernel
theorem dL_law_1055 : decode cL_law 1055 = .ok (.iadd, 1) := by decide +kernel
theorem dL_law_1056 : decode cL_law 1056 = .ok (.iaload, 1) := by decide +kernel
theorem dL_law_1057 : decode cL_law 1057 = .ok (.invokevirtual 126, 3) := by decide +kernel
theorem dL_law_1060 : decode cL_law 1060 = .ok (.if_icmp .eq 361, 3) := by decide +kernel
theorem dL_law_1063 : decode cL_law 1063 = .ok (.iconst 0, 1) := by decide +kernel
theorem dL_law_1064 : decode cL_law 1064 = .ok (.ireturn, 1) := by decide +kernel
theorem dL_law_1065 : decode cL_law 1065 = .ok (.aload_n 1, 1) := by decide +kernel
theorem dL_law_1066 : decode cL_law 1066 = .ok (.aload_n 0, 1) := by decide +kernel
theorem dL_law_1067 : decode cL_law 1067 = .ok (.iload_n 3, 1) := by decide +kernel
theorem dL_law_1068 : decode cL_law 1068 = .ok (.iconst 1, 1) := by decide +kernel
theorem dL_law_1069 : decode cL_law 1069 = .ok (.iadd, 1) := by decide +kernel
theorem dL_law_1070 : decode cL_law 1070 = .ok (.iaload, 1) := by decide +kernel
theorem dL_law_1071 : decode cL_law 1071 = .ok (.invokevirtual 127, 3) := by decide +kernel
theorem dL_law_1074 : decode cL_law 1074 = .ok (.aload_n 2, 1) := by decide +kernel
theorem dL_law_1075 : decode cL_law 1075 = .ok (.aload_n 0, 1) := by decide +kernel
theorem dL_law_1076 : decode cL_law 1076 = .ok (.iload_n 3, 1) := by decide +kernel
theorem dL_law_1077 : decode cL_law 1077 = .ok (.iconst 1, 1) := by decide +kernel
theorem dL_law_1078 : decode cL_law 1078 = .ok (.iadd, 1) := by decide +kernel
theorem dL_law_1079 : decode cL_law 1079 = .ok (.iaload, 1) := by decide +kernel
theorem dL_law_1080 : decode cL_law 1080 = .ok (.invokevirtual 130, 3) := by decide +kernel
theorem dL_law_1083 : decode cL_law 1083 = .ok (.if_icmp .eq 338, 3) := by decide +kernel
theorem dL_law_1086 : decode cL_law 1086 = .ok (.iconst 0, 1) := by decide +kernel
theorem dL_law_1087 : decode cL_law 1087 = .ok (.ireturn, 1) := by decide +kernel
theorem dL_law_1088 : decode cL_law 1088 = .ok (.aload_n 1, 1) := by decide +kernel
theorem dL_law_1089 : decode cL_law 1089 = .ok (.aload_n 0, 1) := by decide +kernel
theorem dL_law_1090 : decode cL_law 1090 = .ok (.iload_n 3, 1) := by decide +kernel
theorem dL_law_1091 : decode cL_law 1091 = .ok (.iconst 1, 1) := by decide +kernel
theorem dL_law_1092 : decode cL_law 1092 = .ok (.iadd, 1) := by decide +kernel
theorem dL_law_1093 : decode cL_law 1093 = .ok (.iaload, 1) := by decide +kernel
theorem dL_law_1094 : decode cL_law 1094 = .ok (.aload_n 0, 1) := by decide +kernel
theorem dL_law_1095 : decode cL_law 1095 = .ok (.iload_n 3, 1) := by decide +kernel
theorem dL_law_1096 : decode cL_law 1096 = .ok (.iconst 2, 1) := by decide +kernel
theorem dL_law_1097 : decode cL_law 1097 = .ok (.iadd, 1) := by decide +kernel
theorem dL_law_1098 : decode cL_law 1098 = .ok (.iaload, 1) := by decide +kernel
theorem dL_law_1099 : decode cL_law 1099 = .ok (.aload_n 0, 1) := by decide +kernel
theorem dL_law_1100 : decode cL_law 1100 = .ok (.iload_n 3, 1) := by decide +kernel
theorem dL_law_1101 : decode cL_law 1101 = .ok (.iconst 3, 1) := by decide +kernel
theorem dL_law_1102 : decode cL_law 1102 = .ok (.iadd, 1) := by decide +kernel
theorem dL_law_1103 : decode cL_law 1103 = .ok (.iaload, 1) := by decide +kernel
theorem dL_law_1104 : decode cL_law 1104 = .ok (.invokevirtual 131, 3) := by decide +kernel
theorem dL_law_1107 : decode cL_law 1107 = .ok (.aload_n 2, 1) := by decide +kernel
theorem dL_law_1108 : decode cL_law 1108 = .ok (.aload_n 0, 1) := by decide +kernel
theorem dL_law_1109 : decode cL_law 1109 = .ok (.iload_n 3, 1) := by decide +kernel
theorem dL_law_1110 : decode cL_law 1110 = .ok (.iconst 1, 1) := by decide +kernel
theorem dL_law_1111 : decode cL_law 1111 = .ok (.iadd, 1) := by decide +kernel
theorem dL_law_1112 : decode cL_law 1112 = .ok (.iaload, 1) := by decide +kernel
theorem dL_law_1113 : decode cL_law 1113 = .ok (.aload_n 0, 1) := by decide +kernel
theorem dL_law_1114 : decode cL_law 1114 = .ok (.iload_n 3, 1) := by decide +kernel
theorem dL_law_1115 : decode cL_law 1115 = .ok (.iconst 2, 1) := by decide +kernel
theorem dL_law_1116 : decode cL_law 1116 = .ok (.iadd, 1) := by decide +kernel
theorem dL_law_1117 : decode cL_law 1117 = .ok (.iaload, 1) := by decide +kernel
theorem dL_law_1118 : decode cL_law 1118 = .ok (.aload_n 0, 1) := by decide +kernel
theorem dL_law_1119 : decode cL_law 1119 = .ok (.iload_n 3, 1) := by decide +kernel
theorem dL_law_1120 : decode cL_law 1120 = .ok (.iconst 3, 1) := by decide +kernel
theorem dL_law_1121 : decode cL_law 1121 = .ok (.iadd, 1) := by decide +kernel
theorem dL_law_1122 : decode cL_law 1122 = .ok (.iaload, 1) := by decide +kernel
theorem dL_law_1123 : decode cL_law 1123 = .ok (.invokevirtual 134, 3) := by decide +kernel
theorem dL_law_1126 : decode cL_law 1126 = .ok (.if_icmp .eq 295, 3) := by decide +kernel
theorem dL_law_1129 : decode cL_law 1129 = .ok (.iconst 0, 1) := by decide +kernel
theorem dL_law_1130 : decode cL_law 1130 = .ok (.ireturn, 1) := by decide +kernel
theorem dL_law_1131 : decode cL_law 1131 = .ok (.aload_n 1, 1) := by decide +kernel
theorem dL_law_1132 : decode cL_law 1132 = .ok (.aload_n 0, 1) := by decide +kernel
theorem dL_law_1133 : decode cL_law 1133 = .ok (.iload_n 3, 1) := by decide +kernel
theorem dL_law_1134 : decode cL_law 1134 = .ok (.iconst 1, 1) := by decide +kernel
theorem dL_law_1135 : decode cL_law 1135 = .ok (.iadd, 1) := by decide +kernel
theorem dL_law_1136 : decode cL_law 1136 = .ok (.iaload, 1) := by decide +kernel
theorem dL_law_1137 : decode cL_law 1137 = .ok (.aload_n 0, 1) := by decide +kernel
theorem dL_law_1138 : decode cL_law 1138 = .ok (.iload_n 3, 1) := by decide +kernel
theorem dL_law_1139 : decode cL_law 1139 = .ok (.iconst 2, 1) := by decide +kernel
theorem dL_law_1140 : decode cL_law 1140 = .ok (.iadd, 1) := by decide +kernel
theorem dL_law_1141 : decode cL_law 1141 = .ok (.iaload, 1) := by decide +kernel
theorem dL_law_1142 : decode cL_law 1142 = .ok (.aload_n 0, 1) := by decide +kernel
theorem dL_law_1143 : decode cL_law 1143 = .ok (.iload_n 3, 1) := by decide +kernel
theorem dL_law_1144 : decode cL_law 1144 = .ok (.iconst 3, 1) := by decide +kernel
theorem dL_law_1145 : decode cL_law 1145 = .ok (.iadd, 1) := by decide +kernel
theorem dL_law_1146 : decode cL_law 1146 = .ok (.iaload, 1) := by decide +kernel
theorem dL_law_1147 : decode cL_law 1147 = .ok (.invokevirtual 135, 3) := by decide +kernel
theorem dL_law_1150 : decode cL_law 1150 = .ok (.aload_n 2, 1) := by decide +kernel
theorem dL_law_1151 : decode cL_law 1151 = .ok (.aload_n 0, 1) := by decide +kernel
theorem dL_law_1152 : decode cL_law 1152 = .ok (.iload_n 3, 1) := by decide +kernel
theorem dL_law_1153 : decode cL_law 1153 = .ok (.iconst 1, 1) := by decide +kernel
theorem dL_law_1154 : decode cL_law 1154 = .ok (.iadd, 1) := by decide +kernel
theorem dL_law_1155 : decode cL_law 1155 = .ok (.iaload, 1) := by decide +kernel
theorem dL_law_1156 : decode cL_law 1156 = .ok (.aload_n 0, 1) := by decide +kernel
theorem dL_law_1157 : decode cL_law 1157 = .ok (.iload_n 3, 1) := by decide +kernel
theorem dL_law_1158 : decode cL_law 1158 = .ok (.iconst 2, 1) := by decide +kernel
theorem dL_law_1159 : decode cL_law 1159 = .ok (.iadd, 1) := by decide +kernel
theorem dL_law_1160 : decode cL_law 1160 = .ok (.iaload, 1) := by decide +kernel
theorem dL_law_1161 : decode cL_law 1161 = .ok (.aload_n 0, 1) := by decide +kernel
theorem dL_law_1162 : decode cL_law 1162 = .ok (.iload_n 3, 1) := by decide +kernel
theorem dL_law_1163 : decode cL_law 1163 = .ok (.iconst 3, 1) := by decide +kernel
theorem dL_law_1164 : decode cL_law 1164 = .ok (.iadd, 1) := by decide +kernel
theorem dL_law_1165 : decode cL_law 1165 = .ok (.iaload, 1) := by decide +kernel
theorem dL_law_1166 : decode cL_law 1166 = .ok (.invokevirtual 138, 3) := by decide +kernel
theorem dL_law_1169 : decode cL_law 1169 = .ok (.if_icmp .eq 252, 3) := by decide +kernel
theorem dL_law_1172 : decode cL_law 1172 = .ok (.iconst 0, 1) := by decide +kernel
theorem dL_law_1173 : decode cL_law 1173 = .ok (.ireturn, 1) := by decide +kernel
theorem dL_law_1174 : decode cL_law 1174 = .ok (.aload_n 1, 1) := by decide +kernel
theorem dL_law_1175 : decode cL_law 1175 = .ok (.aload_n 0, 1) := by decide +kernel
theorem dL_law_1176 : decode cL_law 1176 = .ok (.iload_n 3, 1) := by decide +kernel
theorem dL_law_1177 : decode cL_law 1177 = .ok (.iconst 1, 1) := by decide +kernel
theorem dL_law_1178 : decode cL_law 1178 = .ok (.iadd, 1) := by decide +kernel
theorem dL_law_1179 : decode cL_law 1179 = .ok (.iaload, 1) := by decide +kernel
theorem dL_law_1180 : decode cL_law 1180 = .ok (.aload_n 0, 1) := by decide +kernel
theorem dL_law_1181 : decode cL_law 1181 = .ok (.iload_n 3, 1) := by decide +kernel
theorem dL_law_1182 : decode cL_law 1182 = .ok (.iconst 2, 1) := by decide +kernel
theorem dL_law_1183 : decode cL_law 1183 = .ok (.iadd, 1) := by decide +kernel
theorem dL_law_1184 : decode cL_law 1184 = .ok (.iaload, 1) := by decide +kernel
theorem dL_law_1185 : decode cL_law 1185 = .ok (.aload_n 0, 1) := by decide +kernel
theorem dL_law_1186 : decode cL_law 1186 = .ok (.iload_n 3, 1) := by decide +kernel
theorem dL_law_1187 : decode cL_law 1187 = .ok (.iconst 3, 1) := by decide +kernel
theorem dL_law_1188 : decode cL_law 1188 = .ok (.iadd, 1) := by decide +kernel
theorem dL_law_1189 : decode cL_law 1189 = .ok (.iaload, 1) := by decide +kernel
theorem dL_law_1190 : decode cL_law 1190 = .ok (.aload_n 0, 1) := by decide +kernel
theorem dL_law_1191 : decode cL_law 1191 = .ok (.iload_n 3, 1) := by decide +kernel
theorem dL_law_1192 : decode cL_law 1192 = .ok (.iconst 4, 1) := by decide +kernel
theorem dL_law_1193 : decode cL_law 1193 = .ok (.iadd, 1) := by decide +kernel
theorem dL_law_1194 : decode cL_law 1194 = .ok (.iaload, 1) := by decide +kernel
theorem dL_law_1195 : decode cL_law 1195 = .ok (.aload_n 0, 1) := by decide +kernel
theorem dL_law_1196 : decode cL_law 1196 = .ok (.iload_n 3, 1) := by decide +kernel
theorem dL_law_1197 : decode cL_law 1197 = .ok (.iconst 5, 1) := by decide +kernel
theorem dL_law_1198 : decode cL_law 1198 = .ok (.iadd, 1) := by decide +kernel
theorem dL_law_1199 : decode cL_law 1199 = .ok (.iaload, 1) := by decide +kernel
theorem dL_law_1200 : decode cL_law 1200 = .ok (.invokevirtual 139, 3) := by decide +kernel
theorem dL_law_1203 : decode cL_law 1203 = .ok (.aload_n 2, 1) := by decide +kernel
theorem dL_law_1204 : decode cL_law 1204 = .ok (.aload_n 0, 1) := by decide +kernel
theorem dL_law_1205 : decode cL_law 1205 = .ok (.iload_n 3, 1) := by decide +kernel
theorem dL_law_1206 : decode cL_law 1206 = .ok (.iconst 1, 1) := by decide +kernel
theorem dL_law_1207 : decode cL_law 1207 = .ok (.iadd, 1) := by decide +kernel
theorem dL_law_1208 : decode cL_law 1208 = .ok (.iaload, 1) := by decide +kernel
theorem dL_law_1209 : decode cL_law 1209 = .ok (.aload_n 0, 1) := by decide +kernel
theorem dL_law_1210 : decode cL_law 1210 = .ok (.iload_n 3, 1) := by decide +kernel
theorem dL_law_1211 : decode cL_law 1211 = .ok (.iconst 2, 1) := by decide +kernel
theorem dL_law_1212 : decode cL_law 1212 = .ok (.iadd, 1) := by decide +kernel
theorem dL_law_1213 : decode cL_law 1213 = .ok (.iaload, 1) := by decide +kernel
theorem dL_law_1214 : decode cL_law 1214 = .ok (.aload_n 0, 1) := by decide +kernel
theorem dL_law_1215 : decode cL_law 1215 = .ok (.iload_n 3, 1) := by decide +kernel
theorem dL_law_1216 : decode cL_law 1216 = .ok (.iconst 3, 1) := by decide +kernel
theorem dL_law_1217 : decode cL_law 1217 = .ok (.iadd, 1) := by decide +kernel
theorem dL_law_1218 : decode cL_law 1218 = .ok (.iaload, 1) := by decide +kernel
theorem dL_law_1219 : decode cL_law 1219 = .ok (.aload_n 0, 1) := by decide +kernel
theorem dL_law_1220 : decode cL_law 1220 = .ok (.iload_n 3, 1) := by decide +kernel
theorem dL_law_1221 : decode cL_law 1221 = .ok (.iconst 4, 1) := by decide +kernel
theorem dL_law_1222 : decode cL_law 1222 = .ok (.iadd, 1) := by decide +kernel
theorem dL_law_1223 : decode cL_law 1223 = .ok (.iaload, 1) := by decide +kernel
theorem dL_law_1224 : decode cL_law 1224 = .ok (.aload_n 0, 1) := by decide +kernel
theorem dL_law_1225 : decode cL_law 1225 = .ok (.iload_n 3, 1) := by decide +kernel
theorem dL_law_1226 : decode cL_law 1226 = .ok (.iconst 5, 1) := by decide +kernel
theorem dL_law_1227 : decode cL_law 1227 = .ok (.iadd, 1) := by decide +kernel
theorem dL_law_1228 : decode cL_law 1228 = .ok (.iaload, 1) := by decide +kernel
theorem dL_law_1229 : decode cL_law 1229 = .ok (.invokevirtual 143, 3) := by decide +kernel
theorem dL_law_1232 : decode cL_law 1232 = .ok (.if_icmp .eq 189, 3) := by decide +kernel
theorem dL_law_1235 : decode cL_law 1235 = .ok (.iconst 0, 1) := by decide +kernel
theorem dL_law_1236 : decode cL_law 1236 = .ok (.ireturn, 1) := by decide +kernel
theorem dL_law_1237 : decode cL_law 1237 = .ok (.aload_n 1, 1) := by decide +kernel
theorem dL_law_1238 : decode cL_law 1238 = .ok (.aload_n 0, 1) := by decide +kernel
theorem dL_law_1239 : decode cL_law 1239 = .ok (.iload_n 3, 1) := by decide +kernel
theorem dL_law_1240 : decode cL_law 1240 = .ok (.iconst 1, 1) := by decide +kernel
theorem dL_law_1241 : decode cL_law 1241 = .ok (.iadd, 1) := by decide +kernel
theorem dL_law_1242 : decode cL_law 1242 = .ok (.iaload, 1) := by decide +kernel
theorem dL_law_1243 : decode cL_law 1243 = .ok (.aload_n 0, 1) := by decide +kernel
theorem dL_law_1244 : decode cL_law 1244 = .ok (.iload_n 3, 1) := by decide +kernel
theorem dL_law_1245 : decode cL_law 1245 = .ok (.iconst 2, 1) := by decide +kernel
theorem dL_law_1246 : decode cL_law 1246 = .ok (.iadd, 1) := by decide +kernel
theorem dL_law_1247 : decode cL_law 1247 = .ok (.iaload, 1) := by decide +kernel
theorem dL_law_1248 : decode cL_law 1248 = .ok (.invokevirtual 144, 3) := by decide +kernel
theorem dL_law_1251 : decode cL_law 1251 = .ok (.aload_n 2, 1) := by decide +kernel
theorem dL_law_1252 : decode cL_law 1252 = .ok (.aload_n 0, 1) := by decide +kernel
theorem dL_law_1253 : decode cL_law 1253 = .ok (.iload_n 3, 1) := by decide +kernel
theorem dL_law_1254 : decode cL_law 1254 = .ok (.iconst 1, 1) := by decide +kernel
theorem dL_law_1255 : decode cL_law 1255 = .ok (.iadd, 1) := by decide +kernel
theorem dL_law_1256 : decode cL_law 1256 = .ok (.iaload, 1) := by decide +kernel
theorem dL_law_1257 : decode cL_law 1257 = .ok (.aload_n 0, 1) := by decide +kernel
theorem dL_law_1258 : decode cL_law 1258 = .ok (.iload_n 3, 1) := by decide +kernel
theorem dL_law_1259 : decode cL_law 1259 = .ok (.iconst 2, 1) := by decide +kernel
theorem dL_law_1260 : decode cL_law 1260 = .ok (.iadd, 1) := by decide +kernel
theorem dL_law_1261 : decode cL_law 1261 = .ok (.iaload, 1) := by decide +kernel
theorem dL_law_1262 : decode cL_law 1262 = .ok (.invokevirtual 147, 3) := by decide +kernel
theorem dL_law_1265 : decode cL_law 1265 = .ok (.if_icmp .eq 156, 3) := by decide +kernel
theorem dL_law_1268 : decode cL_law 1268 = .ok (.iconst 0, 1) := by decide +kernel
theorem dL_law_1269 : decode cL_law 1269 = .ok (.ireturn, 1) := by decide +kernel
theorem dL_law_1270 : decode cL_law 1270 = .ok (.aload_n 1, 1) := by decide +kernel
theorem dL_law_1271 : decode cL_law 1271 = .ok (.aload_n 0, 1) := by decide +kernel
theorem dL_law_1272 : decode cL_law 1272 = .ok (.iload_n 3, 1) := by decide +kernel
theorem dL_law_1273 : decode cL_law 1273 = .ok (.iconst 1, 1) := by decide +kernel
theorem dL_law_1274 : decode cL_law 1274 = .ok (.iadd, 1) := by decide +kernel
theorem dL_law_1275 : decode cL_law 1275 = .ok (.iaload, 1) := by decide +kernel
theorem dL_law_1276 : decode cL_law 1276 = .ok (.aload_n 0, 1) := by decide +kernel
theorem dL_law_1277 : decode cL_law 1277 = .ok (.iload_n 3, 1) := by decide +kernel
theorem dL_law_1278 : decode cL_law 1278 = .ok (.iconst 2, 1) := by decide +kernel
theorem dL_law_1279 : decode cL_law 1279 = .ok (.iadd, 1) := by decide +kernel
theorem dL_law_1280 : decode cL_law 1280 = .ok (.iaload, 1) := by decide +kernel
theorem dL_law_1281 : decode cL_law 1281 = .ok (.invokevirtual 148, 3) := by decide +kernel
theorem dL_law_1284 : decode cL_law 1284 = .ok (.aload_n 2, 1) := by decide +kernel
theorem dL_law_1285 : decode cL_law 1285 = .ok (.aload_n 0, 1) := by decide +kernel
theorem dL_law_1286 : decode cL_law 1286 = .ok (.iload_n 3, 1) := by decide +kernel
theorem dL_law_1287 : decode cL_law 1287 = .ok (.iconst 1, 1) := by decide +kernel
theorem dL_law_1288 : decode cL_law 1288 = .ok (.iadd, 1) := by decide +kernel
theorem dL_law_1289 : decode cL_law 1289 = .ok (.iaload, 1) := by decide +kernel
theorem dL_law_1290 : decode cL_law 1290 = .ok (.aload_n 0, 1) := by decide +kernel
theorem dL_law_1291 : decode cL_law 1291 = .ok (.iload_n 3, 1) := by decide +kernel
theorem dL_law_1292 : decode cL_law 1292 = .ok (.iconst 2, 1) := by decide +kernel
theorem dL_law_1293 : decode cL_law 1293 = .ok (.iadd, 1) := by decide +kernel
theorem dL_law_1294 : decode cL_law 1294 = .ok (.iaload, 1) := by decide +kernel
theorem dL_law_1295 : decode cL_law 1295 = .ok (.invokevirtual 151, 3) := by decide +kernel
theorem dL_law_1298 : decode cL_law 1298 = .ok (.if_icmp .eq 123, 3) := by decide +kernel
theorem dL_law_1301 : decode cL_law 1301 = .ok (.iconst 0, 1) := by decide +kernel
theorem dL_law_1302 : decode cL_law 1302 = .ok (.ireturn, 1) := by decide +kernel
theorem dL_law_1303 : decode cL_law 1303 = .ok (.aload_n 1, 1) := by decide +kernel
theorem dL_law_1304 : decode cL_law 1304 = .ok (.invokevirtual 152, 3) := by decide +kernel
theorem dL_law_1307 : decode cL_law 1307 = .ok (.aload_n 2, 1) := by decide +kernel
theorem dL_law_1308 : decode cL_law 1308 = .ok (.invokevirtual 156, 3) := by decide +kernel
theorem dL_law_1311 : decode cL_law 1311 = .ok (.if_icmp .eq 110, 3) := by decide +kernel
theorem dL_law_1314 : decode cL_law 1314 = .ok (.iconst 0, 1) := by decide +kernel
theorem dL_law_1315 : decode cL_law 1315 = .ok (.ireturn, 1) := by decide +kernel
theorem dL_law_1316 : decode cL_law 1316 = .ok (.aload_n 1, 1) := by decide +kernel
theorem dL_law_1317 : decode cL_law 1317 = .ok (.invokevirtual 157, 3) := by decide +kernel
theorem dL_law_1320 : decode cL_law 1320 = .ok (.aload_n 2, 1) := by decide +kernel
theorem dL_law_1321 : decode cL_law 1321 = .ok (.invokevirtual 160, 3) := by decide +kernel
theorem dL_law_1324 : decode cL_law 1324 = .ok (.if_icmp .eq 97, 3) := by decide +kernel
theorem dL_law_1327 : decode cL_law 1327 = .ok (.iconst 0, 1) := by decide +kernel
theorem dL_law_1328 : decode cL_law 1328 = .ok (.ireturn, 1) := by decide +kernel
theorem dL_law_1329 : decode cL_law 1329 = .ok (.aload_n 1, 1) := by decide +kernel
theorem dL_law_1330 : decode cL_law 1330 = .ok (.aload_n 0, 1) := by decide +kernel
theorem dL_law_1331 : decode cL_law 1331 = .ok (.iload_n 3, 1) := by decide +kernel
theorem dL_law_1332 : decode cL_law 1332 = .ok (.iconst 1, 1) := by decide +kernel
theorem dL_law_1333 : decode cL_law 1333 = .ok (.iadd, 1) := by decide +kernel
theorem dL_law_1334 : decode cL_law 1334 = .ok (.iaload, 1) := by decide +kernel
theorem dL_law_1335 : decode cL_law 1335 = .ok (.invokevirtual 161, 3) := by decide +kernel
theorem dL_law_1338 : decode cL_law 1338 = .ok (.aload_n 2, 1) := by decide +kernel
theorem dL_law_1339 : decode cL_law 1339 = .ok (.aload_n 0, 1) := by decide +kernel
theorem dL_law_1340 : decode cL_law 1340 = .ok (.iload_n 3, 1) := by decide +kernel
theorem dL_law_1341 : decode cL_law 1341 = .ok (.iconst 1, 1) := by decide +kernel
theorem dL_law_1342 : decode cL_law 1342 = .ok (.iadd, 1) := by decide +kernel
theorem dL_law_1343 : decode cL_law 1343 = .ok (.iaload, 1) := by decide +kernel
theorem dL_law_1344 : decode cL_law 1344 = .ok (.invokevirtual 164, 3) := by decide +kernel
theorem dL_law_1347 : decode cL_law 1347 = .ok (.if_icmp .eq 74, 3) := by decide +kernel
theorem dL_law_1350 : decode cL_law 1350 = .ok (.iconst 0, 1) := by decide +kernel
theorem dL_law_1351 : decode cL_law 1351 = .ok (.ireturn, 1) := by decide +kernel
theorem dL_law_1352 : decode cL_law 1352 = .ok (.aload_n 1, 1) := by decide +kernel
theorem dL_law_1353 : decode cL_law 1353 = .ok (.aload_n 0, 1) := by decide +kernel
theorem dL_law_1354 : decode cL_law 1354 = .ok (.iload_n 3, 1) := by decide +kernel
theorem dL_law_1355 : decode cL_law 1355 = .ok (.iconst 1, 1) := by decide +kernel
theorem dL_law_1356 : decode cL_law 1356 = .ok (.iadd, 1) := by decide +kernel
theorem dL_law_1357 : decode cL_law 1357 = .ok (.iaload, 1) := by decide +kernel
theorem dL_law_1358 : decode cL_law 1358 = .ok (.invokevirtual 165, 3) := by decide +kernel
theorem dL_law_1361 : decode cL_law 1361 = .ok (.aload_n 2, 1) := by decide +kernel
theorem dL_law_1362 : decode cL_law 1362 = .ok (.aload_n 0, 1) := by decide +kernel
theorem dL_law_1363 : decode cL_law 1363 = .ok (.iload_n 3, 1) := by decide +kernel
theorem dL_law_1364 : decode cL_law 1364 = .ok (.iconst 1, 1) := by decide +kernel
theorem dL_law_1365 : decode cL_law 1365 = .ok (.iadd, 1) := by decide +kernel
theorem dL_law_1366 : decode cL_law 1366 = .ok (.iaload, 1) := by decide +kernel
theorem dL_law_1367 : decode cL_law 1367 = .ok (.invokevirtual 168, 3) := by decide +kernel
theorem dL_law_1370 : decode cL_law 1370 = .ok (.if_icmp .eq 51, 3) := by decide +kernel
theorem dL_law_1373 : decode cL_law 1373 = .ok (.iconst 0, 1) := by decide +kernel
theorem dL_law_1374 : decode cL_law 1374 = .ok (.ireturn, 1) := by decide +kernel
theorem dL_law_1375 : decode cL_law 1375 = .ok (.aload_n 1, 1) := by decide +kernel
theorem dL_law_1376 : decode cL_law 1376 = .ok (.aload_n 0, 1) := by decide +kernel
theorem dL_law_1377 : decode cL_law 1377 = .ok (.iload_n 3, 1) := by decide +kernel
theorem dL_law_1378 : decode cL_law 1378 = .ok (.iconst 1, 1) := by decide +kernel
theorem dL_law_1379 : decode cL_law 1379 = .ok (.iadd, 1) := by decide +kernel
theorem dL_law_1380 : decode cL_law 1380 = .ok (.iaload, 1) := by decide +kernel
theorem dL_law_1381 : decode cL_law 1381 = .ok (.invokevirtual 169, 3) := by decide +kernel
theorem dL_law_1384 : decode cL_law 1384 = .ok (.aload_n 2, 1) := by decide +kernel
theorem dL_law_1385 : decode cL_law 1385 = .ok (.aload_n 0, 1) := by decide +kernel
theorem dL_law_1386 : decode cL_law 1386 = .ok (.iload_n 3, 1) := by decide +kernel
theorem dL_law_1387 : decode cL_law 1387 = .ok (.iconst 1, 1) := by decide +kernel
theorem dL_law_1388 : decode cL_law 1388 = .ok (.iadd, 1) := by decide +kernel
theorem dL_law_1389 : decode cL_law 1389 = .ok (.iaload, 1) := by decide +kernel
theorem dL_law_1390 : decode cL_law 1390 = .ok (.invokevirtual 172, 3) := by decide +kernel
theorem dL_law_1393 : decode cL_law 1393 = .ok (.if_icmp .eq 28, 3) := by decide +kernel
theorem dL_law_1396 : decode cL_law 1396 = .ok (.iconst 0, 1) := by decide +kernel
theorem dL_law_1397 : decode cL_law 1397 = .ok (.ireturn, 1) := by decide +kernel
theorem dL_law_1398 : decode cL_law 1398 = .ok (.aload_n 1, 1) := by decide +kernel
theorem dL_law_1399 : decode cL_law 1399 = .ok (.aload_n 0, 1) := by decide +kernel
theorem dL_law_1400 : decode cL_law 1400 = .ok (.iload_n 3, 1) := by decide +kernel
theorem dL_law_1401 : decode cL_law 1401 = .ok (.iconst 1, 1) := by decide +kernel
theorem dL_law_1402 : decode cL_law 1402 = .ok (.iadd, 1) := by decide +kernel
theorem dL_law_1403 : decode cL_law 1403 = .ok (.iaload, 1) := by decide +kernel
theorem dL_law_1404 : decode cL_law 1404 = .ok (.invokevirtual 173, 3) := by decide +kernel
theorem dL_law_1407 : decode cL_law 1407 = .ok (.aload_n 2, 1) := by decide +kernel
theorem dL_law_1408 : decode cL_law 1408 = .ok (.aload_n 0, 1) := by decide +kernel
theorem dL_law_1409 : decode cL_law 1409 = .ok (.iload_n 3, 1) := by decide +kernel
theorem dL_law_1410 : decode cL_law 1410 = .ok (.iconst 1, 1) := by decide +kernel
theorem dL_law_1411 : decode cL_law 1411 = .ok (.iadd, 1) := by decide +kernel
theorem dL_law_1412 : decode cL_law 1412 = .ok (.iaload, 1) := by decide +kernel
theorem dL_law_1413 : decode cL_law 1413 = .ok (.invokevirtual 176, 3) := by decide +kernel
theorem dL_law_1416 : decode cL_law 1416 = .ok (.if_icmp .eq 5, 3) := by decide +kernel
theorem dL_law_1419 : decode cL_law 1419 = .ok (.iconst 0, 1) := by decide +kernel
theorem dL_law_1420 : decode cL_law 1420 = .ok (.ireturn, 1) := by decide +kernel
theorem dL_law_1421 : decode cL_law 1421 = .ok (.iinc 3 6, 3) := by decide +kernel
theorem dL_law_1424 : decode cL_law 1424 = .ok (.goto (-1406), 3) := by decide +kernel
theorem dL_law_1427 : decode cL_law 1427 = .ok (.iconst 1, 1) := by decide +kernel
theorem dL_law_1428 : decode cL_law 1428 = .ok (.ireturn, 1) := by decide +kernel
end
section
/-! One region of cells b + k holds the class and the reference; a frame over it; the rows of the machine over that frame. -/
def shpL : List Nat := [9, 8, 20, 21, 22, 4, 1060, 4, 1024, 1005, 24, 1010, 1010, 1010, 1010, 1010, 1010, 1010, 1010, 1010, 1010, 0, 1010, 1005, 0, 1010, 1005, 0, 1010, 1005, 0, 1010, 1005, 0, 1010, 1005, 0, 1010, 1005, 0, 1010, 1005, 0, 1010, 1005, 0, 1010, 1005, 0, 1010, 1005, 2, 2, 2, 2, 2, 7, 1060, 1060, 7, 1060, 1060, 8, 20, 21, 22, 4, 1060, 4, 1024, 1005, 24, 1010, 1010, 1010, 1010, 1010, 1010, 1010, 1010, 1010, 1010, 0, 1010, 1005, 0, 1010, 1005, 0, 1010, 1005, 0, 1010, 1005, 0, 1010, 1005, 0, 1010, 1005, 0, 1010, 1005, 0, 1010, 1005, 0, 1010, 1005, 0, 1010, 1005, 2, 2, 2, 2, 2, 7, 1060, 1060, 7, 1060, 1060, 8, 20, 21, 22, 4, 1060, 4, 1024, 1005, 24, 1010, 1010, 1010, 1010, 1010, 1010, 1010, 1010, 1010, 1010, 0, 1010, 1005, 0, 1010, 1005, 0, 1010, 1005, 0, 1010, 1005, 0, 1010, 1005, 0, 1010, 1005, 0, 1010, 1005, 0, 1010, 1005, 0, 1010, 1005, 0, 1010, 1005, 2, 2, 2, 2, 2, 7, 1060, 1060, 7, 1060, 1060, 1, 1010, 1010, 3, 7, 1060, 1060, 1000, 6, 4, 1030, 23, 1007, 5, 1024, 5, 1024, 5, 1024, 5, 1024, 10, 1445, 1445, 1445, 1007, 25, 1060, 1005, 1060, 1100, 1010, 1030, 1004, 1004, 1096, 1024]
def shp (k : Nat) : Nat := shpL.getD k 9999
def nSl (c : Nat) : Nat := match c with
  | 0 => 8
  | 1 => 4
  | 2 => 5
  | 3 => 5
  | 4 => 2
  | 5 => 3
  | 6 => 5
  | 7 => 3
  | 8 => 12
  | 9 => 9
  | 10 => 24
  | _ => 0
def rfs (c i : Nat) : Nat := match c, i with
  | 0, 6 => 1
  | 0, 7 => 2
  | 1, 2 => 1
  | 1, 3 => 2
  | 3, 0 => 1
  | 3, 1 => 5000
  | 3, 4 => 5001
  | 4, 0 => 1
  | 5, 2 => 1
  | 6, 0 => 1
  | 7, 0 => 1
  | 7, 1 => 2
  | 8, 0 => 1
  | 8, 1 => 2
  | 8, 2 => 3
  | 8, 3 => 4
  | 8, 4 => 6
  | 8, 10 => 8
  | 8, 11 => 9
  | 9, 0 => 1
  | 9, 1 => 62
  | 9, 2 => 123
  | 9, 3 => 184
  | 9, 4 => 187
  | 9, 5 => 192
  | 9, 6 => 195
  | 9, 7 => 196
  | 10, 0 => 1
  | 10, 1 => 2
  | 10, 2 => 3
  | 10, 4 => 4
  | 10, 5 => 5
  | 10, 10 => 6
  | 10, 12 => 7
  | 10, 13 => 8
  | 10, 14 => 9
  | 10, 15 => 10
  | 10, 16 => 11
  | 10, 20 => 12
  | 10, 21 => 13
  | 10, 22 => 14
  | 10, 23 => 15
  | _, _ => 0
def aLen (s : Nat) : Nat := match s with
  | 20 => 10
  | 21 => 5
  | 22 => 2
  | 23 => 4
  | 24 => 10
  | 25 => 2
  | _ => 0
def aOff (s i : Nat) : Nat := match s with
  | 20 => 19 + 3 * i
  | 21 => 48 + 1 * i
  | 22 => 52 + 3 * i
  | 23 => 2 + 2 * i
  | 24 => 1 + 1 * i
  | 25 => 5001 + 0 * i
  | _ => 0
/-- the words that a call hands on -/
def lw_w : List Cond := lw_tbl.filter goodWord
theorem lw_in {w : Cond} (h : w ∈ lw_tbl) (hg : goodWord w = true) : w ∈ lw_w := List.mem_filter.mpr ⟨h, hg⟩
/-- links between nest mates, and arrays over classes: words that a call does not hand on -/
def nestM : List (String × Nat × MethodName × String) := [("BreakTime$Yard", 54, yX0_init, "BreakTime"), ("BreakTime$Yard", 55, yX2_init, "BreakTime"), ("BreakTime$Yard", 56, yX7_init, "BreakTime"), ("BreakTime", 24, yX1_init, "BreakTime"), ("BreakTime", 31, yX3_init, "BreakTime"), ("BreakTime$Reader", 11, yX7_init, "BreakTime"), ("BreakTime", 38, yX6_init, "BreakTime"), ("BreakTime", 53, yX5_init, "BreakTime"), ("BreakTime$Yard", 141, yX9_held, "BreakTime")]
def nestF : List (String × Nat × String × String × String × String) := [("BreakTime$Speaker", 45, "BreakTime", "BODIES", "[I", "BreakTime"), ("BreakTime$Speaker", 49, "BreakTime", "ABOVE", "[I", "BreakTime")]
def overC : List String := ["BreakTime$Child", "BreakTime$Heap", "BreakTime$Text", "BreakTime$Sheet", "java/lang/String"]
abbrev Mm : Type := Nat → Nat → Int32
def up2 (M : Mm) (k i : Nat) (v : Int32) : Mm := fun a => if a = k then upd (M k) i v else M a
theorem up2_eq (M : Mm) (k i : Nat) (v : Int32) : up2 M k i v k = upd (M k) i v := if_pos rfl
theorem up2_ne (M : Mm) {k a : Nat} (i : Nat) (v : Int32) (h : a ≠ k) : up2 M k i v a = M a := if_neg h
theorem up2_at (M : Mm) (k i : Nat) (v : Int32) : up2 M k i v k i = v := by rw [up2_eq]; exact if_pos rfl
theorem up2_at_ne (M : Mm) {k i j : Nat} (v : Int32) (h : j ≠ i) : up2 M k i v k j = M k j := by rw [up2_eq]; exact if_neg h
theorem up2_ap (M : Mm) (k i : Nat) (v : Int32) (a j : Nat) : up2 M k i v a j = if a = k ∧ j = i then v else M a j := by
  by_cases h : a = k
  · subst h
    by_cases h2 : j = i
    · subst h2; rw [up2_at, if_pos ⟨rfl, rfl⟩]
    · rw [up2_at_ne M v h2, if_neg (fun q => h2 q.2)]
  · rw [up2_ne M i v h, if_neg (fun q => h q.1)]
def upA (M : Mm) (k : Nat) (g : Nat → Int32) : Mm := fun a => if a = k then g else M a
theorem upA_eq (M : Mm) (k : Nat) (g : Nat → Int32) : upA M k g k = g := if_pos rfl
theorem upA_ne (M : Mm) {k a : Nat} (g : Nat → Int32) (h : a ≠ k) : upA M k g a = M a := if_neg h
/-- the region: where the classes' fields lie, the classes of arrays, the first address, what lies below it, addresses of constants -/
abbrev GC : Type := va_G × (Nat → ClassId) × Nat × Heap × (Nat → Nat) × (Nat → Nat)
abbrev gD (G : GC) : va_G := G.1
abbrev gt (G : GC) : Nat → ClassId := G.2.1
abbrev gb (G : GC) : Nat := G.2.2.1
abbrev gH (G : GC) : Heap := G.2.2.2.1
abbrev gK (G : GC) : Nat → Nat := G.2.2.2.2.1
abbrev gV (G : GC) : Nat → Nat := G.2.2.2.2.2
def Ab (G : GC) : Nat → Prop := fun q => gb G ≤ q
def tysOf (G : GC) : List (ClassId × FieldType) := [(gt G 0, .int), (gt G 1, .object "BreakTime$Child"), (gt G 2, .object "BreakTime$Heap"), (gt G 3, .object "BreakTime$Text"), (gt G 4, .object "BreakTime$Sheet"), (gt G 5, .array .int), (gt G 6, .object "java/lang/String")]
def sv (G : GC) (M : Mm) (k i r : Nat) : Value := if r = 0 then .int (M k i) else if M k i = 0 then .null else if r = 5000 then .ref (gb G + (M k i).toNatClampNeg) else if r = 5001 then .ref (gK G ((M k i).toNatClampNeg - 1)) else .ref (gb G + (k + r))
def ae (G : GC) (M : Mm) (k s i : Nat) : Option Nat := if M k i = 0 then none else if s = 25 then some (gK G ((M k i).toNatClampNeg - 1)) else some (gb G + (k + aOff s i))
def En (G : GC) (M : Mm) (k : Nat) : va_E := if 1000 ≤ shp k then .inl (gt G 0, shp k - 1000, .inl (M k)) else if 20 ≤ shp k then .inl (gt G (shp k - 19), aLen (shp k), .inr (.inr (.inr (.inr (ae G M k (shp k)))))) else .inr (shp k, (List.range (nSl (shp k))).map (fun i => sv G M k i (rfs (shp k) i)))
theorem En_congr {G : GC} {M M' : Mm} {k : Nat} (h : M' k = M k) : En G M' k = En G M k := by
  have h1 : ae G M' k (shp k) = ae G M k (shp k) := by funext i; unfold ae; rw [h]
  have h2 : (fun i => sv G M' k i (rfs (shp k) i)) = (fun i => sv G M k i (rfs (shp k) i)) := by funext i; unfold sv; rw [h]
  unfold En
  rw [h, h1, h2]
theorem En_obj {G : GC} {M : Mm} {k ci : Nat} (hs : shp k = ci) (hc : ci < 20) : En G M k = .inr (ci, (List.range (nSl ci)).map (fun i => sv G M k i (rfs ci i))) := by
  subst hs
  unfold En
  rw [if_neg (by omega), if_neg (by omega)]
theorem En_int {G : GC} {M : Mm} {k L : Nat} (hs : shp k = 1000 + L) : En G M k = .inl (gt G 0, L, .inl (M k)) := by
  unfold En
  rw [if_pos (by omega), hs, Nat.add_sub_cancel_left]
theorem En_arr {G : GC} {M : Mm} {k s : Nat} (hs : shp k = s) (h1 : 20 ≤ s) (h2 : s < 1000) : En G M k = .inl (gt G (s - 19), aLen s, .inr (.inr (.inr (.inr (ae G M k s))))) := by
  subst hs
  unfold En
  rw [if_neg (by omega), if_pos h1]
/-- a reference's flag is set: the phase behind the constructors -/
def RefsOk (M : Mm) : Prop := ∀ k i, k < 221 → (shp k < 20 ∧ rfs (shp k) i ≠ 0 ∨ 20 ≤ shp k ∧ shp k < 1000 ∧ i < aLen (shp k)) → M k i ≠ 0
/-- phase: cells made, slots made, how many cells of the region stand, 1 behind the constructors -/
abbrev Ph : Type := Nat × Nat × Nat × Nat
def Wd (G : GC) (ph : Ph) (M : Mm) (H : Heap) : Prop := (∀ k, k < ph.2.2.1 → va_at (gD G) vwCl (gb G + k, En G M k) H) ∧ H.size = gb G + ph.2.2.1 ∧ (∀ q, q < gb G → H[q]? = (gH G)[q]?) ∧ (∀ k, ph.2.2.1 ≤ k → M k = fun _ => 0) ∧ (ph.2.2.2 = 1 → ph.2.2.1 = 221 ∧ RefsOk M)
def aboveT : List Int32 := [0, 0, 0, 0, 1, 2, 0]
def bodiesT : List Int32 := [10, 11, 12, 13, 20, 0, 0, 21, 0, 30, 0, 0, 0, 0, 40, 0, 50, 0, 51, 0, 0, 60, 0, 0, 70, 71, 0, 0]
def strT : List (List Int32) := [[], [119, 114, 110, 120, 97], [108, 111, 102, 104], [33, 40], [41], [124], [38], [60, 61, 62], [43, 45], [42, 47, 37]]
def strAt (G : GC) (i : Nat) (s : State) : Prop := va_O "java/lang/String" (gK G i) (Ab G) s (gH G) ∧ va_OF "java/lang/String" "coder" "B" (.int 0) (gK G i) (Ab G) s (gH G) ∧ va_OF "java/lang/String" "value" "[B" (.ref (gV G i)) (gK G i) (Ab G) s (gH G) ∧ va_T .byte (gV G i) ((strT.getD i []).length) (fun j => .int ((strT.getD i []).getD j 0)) (Ab G) s (gH G)
def strIdx : List (String × Nat × String × Nat) := [("BreakTime$Reader", 22, "", 0), ("BreakTime", 161, "wrnxa", 1), ("BreakTime", 163, "lofh", 2), ("BreakTime$Reader", 90, "!(", 3), ("BreakTime$Reader", 92, ")", 4), ("BreakTime$Reader", 74, "|", 5), ("BreakTime$Reader", 76, "&", 6), ("BreakTime$Reader", 78, "<=>", 7), ("BreakTime$Reader", 80, "+-", 8), ("BreakTime$Reader", 82, "*/%", 9), ("BreakTimeModel", 24, "wrnxa", 1), ("BreakTimeModel", 26, "lofh", 2)]
def Sx (G : GC) (s : State) : Prop :=
  (va_Z "BreakTime" "ABOVE" "[I" (.ref (gV G 20)) (Ab G) s (gH G) ∧ va_T .int (gV G 20) 7 (fun j => .int (aboveT.getD j 0)) (Ab G) s (gH G)) ∧
  (va_Z "BreakTime" "BODIES" "[I" (.ref (gV G 21)) (Ab G) s (gH G) ∧ va_T .int (gV G 21) 28 (fun j => .int (bodiesT.getD j 0)) (Ab G) s (gH G)) ∧
  va_Z "java/lang/String" "COMPACT_STRINGS" "Z" (.int 1) (Ab G) s (gH G) ∧ (∀ i, i < 10 → strAt G i s) ∧ (∀ q ∈ strIdx, vk_R q.1 q.2.1 q.2.2.1 (gK G q.2.2.2) s) ∧
  (∀ q ∈ nestM, va_Nw (.methodLinkNest q.1 q.2.1 q.2.2.1 q.2.2.2) s) ∧ (∀ q ∈ nestF, va_Nw (.fieldLinkNest q.1 q.2.1 q.2.2.1 q.2.2.2.1 q.2.2.2.2.1 q.2.2.2.2.2) s) ∧ (∀ q ∈ overC, va_AO q s)
def VmOk (G : GC) (s : State) : Prop := va_K (gD G) vwCl (tysOf G) s ∧ Sx G s
theorem strAt.moved {G : GC} {i : Nat} {u U : State} (hvm : u.vm.Alike U.vm) (h : strAt G i u) : strAt G i U := ⟨h.1.moved hvm, h.2.1.moved hvm, h.2.2.1.moved hvm, h.2.2.2.moved hvm⟩
theorem VmOk.warm {G : GC} {u U : State} (hw : u.WarmedH U.vm) (h : VmOk G u) : VmOk G U :=
  ⟨h.1.moved hw.alike, ⟨h.2.1.1.moved hw.alike, h.2.1.2.moved hw.alike⟩, ⟨h.2.2.1.1.moved hw.alike, h.2.2.1.2.moved hw.alike⟩, h.2.2.2.1.moved hw.alike, fun i hi => (h.2.2.2.2.1 i hi).moved hw.alike, fun q hq => (h.2.2.2.2.2.1 q hq).warm hw, fun q hq => (h.2.2.2.2.2.2.1 q hq).warmM hw, fun q hq => (h.2.2.2.2.2.2.2.1 q hq).warmF hw, fun q hq => (h.2.2.2.2.2.2.2.2 q hq).moved hw.alike⟩
theorem VmOk.same {G : GC} {u U : State} (hv : U.vm = u.vm) (h : VmOk G u) : VmOk G U := by
  have ha : u.vm.Alike U.vm := by rw [hv]; exact Vm.Alike.refl _
  exact ⟨h.1.moved ha, ⟨h.2.1.1.moved ha, h.2.1.2.moved ha⟩, ⟨h.2.2.1.1.moved ha, h.2.2.1.2.moved ha⟩, h.2.2.2.1.moved ha, fun i hi => (h.2.2.2.2.1 i hi).moved ha, fun q hq => (h.2.2.2.2.2.1 q hq).same hv, fun q hq => (h.2.2.2.2.2.2.1 q hq).same rfl hv.symm, fun q hq => (h.2.2.2.2.2.2.2.1 q hq).same rfl hv.symm, fun q hq => (h.2.2.2.2.2.2.2.2 q hq).moved ha⟩
/-- a frame -/
abbrev FC : Type := Program × Launch × Env × Room × State × MethodId × Array Value × List Frame × Method × Code × (State → Prop)
def Ctx (f : FC) (G : GC) (own : String) (cc : ByteArray) (nL : Nat) : Prop := match f with
  | (p, _, _, _, s, m, args, _, meth, c, _) => p.tables.exec = Jvm.exec ∧ c.code = cc ∧ c.maxLocals = nL ∧ s.vm.findClass own = some m.cls ∧ (∀ w ∈ lw_w, w.before args s = true) ∧ meth.locks = false ∧ VmOk G s ∧ gb G ≤ s.heap.size ∧ (∀ q, q < gb G → s.heap[q]? = (gH G)[q]?)
def Vc (f : FC) (G : GC) (ph : Ph) (M : Mm) (pc : Nat) (lv : List (Nat × Value)) (st : List Value) : Prop := match f with
  | (p, l, e, R, s, m, args, below, meth, c, Q) => ∀ (H : Heap) (locs : List Loc) (ls : Array Slot), Wd G ph M H → va_S (Ab G) s.heap H locs → lv_has ls c.maxLocals lv → W p l e R s m args below meth c H locs ph.1 ph.2.1 Q (F0 m pc ls st)

section VC
variable {f : FC} {G : GC} {ph : Ph} {M : Mm} {own : String} {cc : ByteArray} {nL pc : Nat} {lv : List (Nat × Value)} {rest : List Value}
theorem v_iconst (C : Ctx f G own cc nL) {n : Int} (v : Int32) (hd : decode cc pc = .ok (.iconst n, 1)) (hv : Int32.ofInt n = v) (k : Vc f G ph M (pc + 1) lv (.int v :: rest)) : Vc f G ph M pc lv (rest) := by
  obtain ⟨p, l, e, R, s, m, args, below, meth, c, Q⟩ := f
  obtain ⟨hx, hb, hml, ho, hts, hlk, hvk, hbs, hlow⟩ := C
  intro H locs ls hW hS hl
  exact lv_iconst hx hb hd hv (k H locs ls hW hS hl)
theorem v_bipush (C : Ctx f G own cc nL) {n : Int} (v : Int32) (hd : decode cc pc = .ok (.bipush n, 2)) (hv : (Int8.ofInt n).toInt32 = v) (k : Vc f G ph M (pc + 2) lv (.int v :: rest)) : Vc f G ph M pc lv (rest) := by
  obtain ⟨p, l, e, R, s, m, args, below, meth, c, Q⟩ := f
  obtain ⟨hx, hb, hml, ho, hts, hlk, hvk, hbs, hlow⟩ := C
  intro H locs ls hW hS hl
  exact lv_bipush hx hb hd hv (k H locs ls hW hS hl)
theorem v_sipush (C : Ctx f G own cc nL) {n : Int} (v : Int32) (hd : decode cc pc = .ok (.sipush n, 3)) (hv : (Int16.ofInt n).toInt32 = v) (k : Vc f G ph M (pc + 3) lv (.int v :: rest)) : Vc f G ph M pc lv (rest) := by
  obtain ⟨p, l, e, R, s, m, args, below, meth, c, Q⟩ := f
  obtain ⟨hx, hb, hml, ho, hts, hlk, hvk, hbs, hlow⟩ := C
  intro H locs ls hW hS hl
  exact lv_sipush hx hb hd hv (k H locs ls hW hS hl)
theorem v_iload_n (C : Ctx f G own cc nL) {k : Fin 4} {x : Int32} (j : Nat) (hd : decode cc pc = .ok (.iload_n k, 1)) (hj : lv[j]? = some ((k : Nat), .int x)) (k : Vc f G ph M (pc + 1) lv (.int x :: rest)) : Vc f G ph M pc lv (rest) := by
  obtain ⟨p, l, e, R, s, m, args, below, meth, c, Q⟩ := f
  obtain ⟨hx, hb, hml, ho, hts, hlk, hvk, hbs, hlow⟩ := C
  intro H locs ls hW hS hl
  exact lv_iload_n hx hb hd rfl (lv_at hl j hj) (k H locs ls hW hS hl)
theorem v_iload (C : Ctx f G own cc nL) {k : Nat} {x : Int32} (j : Nat) (hd : decode cc pc = .ok (.iload k, 2)) (hj : lv[j]? = some (k, .int x)) (k : Vc f G ph M (pc + 2) lv (.int x :: rest)) : Vc f G ph M pc lv (rest) := by
  obtain ⟨p, l, e, R, s, m, args, below, meth, c, Q⟩ := f
  obtain ⟨hx, hb, hml, ho, hts, hlk, hvk, hbs, hlow⟩ := C
  intro H locs ls hW hS hl
  exact lv_iload hx hb hd (lv_at hl j hj) (k H locs ls hW hS hl)
theorem v_lload_n (C : Ctx f G own cc nL) {k : Fin 4} {x : Int64} (j : Nat) (hd : decode cc pc = .ok (.lload_n k, 1)) (hj : lv[j]? = some ((k : Nat), .long x)) (k : Vc f G ph M (pc + 1) lv (.long x :: rest)) : Vc f G ph M pc lv (rest) := by
  obtain ⟨p, l, e, R, s, m, args, below, meth, c, Q⟩ := f
  obtain ⟨hx, hb, hml, ho, hts, hlk, hvk, hbs, hlow⟩ := C
  intro H locs ls hW hS hl
  exact lv_lload_n hx hb hd rfl (lv_at hl j hj) (k H locs ls hW hS hl)
theorem v_lload (C : Ctx f G own cc nL) {k : Nat} {x : Int64} (j : Nat) (hd : decode cc pc = .ok (.lload k, 2)) (hj : lv[j]? = some (k, .long x)) (k : Vc f G ph M (pc + 2) lv (.long x :: rest)) : Vc f G ph M pc lv (rest) := by
  obtain ⟨p, l, e, R, s, m, args, below, meth, c, Q⟩ := f
  obtain ⟨hx, hb, hml, ho, hts, hlk, hvk, hbs, hlow⟩ := C
  intro H locs ls hW hS hl
  exact lv_lload hx hb hd (lv_at hl j hj) (k H locs ls hW hS hl)
theorem v_aload_n (C : Ctx f G own cc nL) {k : Fin 4} {x : Nat} (j : Nat) (hd : decode cc pc = .ok (.aload_n k, 1)) (hj : lv[j]? = some ((k : Nat), .ref x)) (k : Vc f G ph M (pc + 1) lv (.ref x :: rest)) : Vc f G ph M pc lv (rest) := by
  obtain ⟨p, l, e, R, s, m, args, below, meth, c, Q⟩ := f
  obtain ⟨hx, hb, hml, ho, hts, hlk, hvk, hbs, hlow⟩ := C
  intro H locs ls hW hS hl
  exact lv_aload_n hx hb hd rfl (lv_at hl j hj) (k H locs ls hW hS hl)
theorem v_aload (C : Ctx f G own cc nL) {k : Nat} {x : Nat} (j : Nat) (hd : decode cc pc = .ok (.aload k, 2)) (hj : lv[j]? = some (k, .ref x)) (k : Vc f G ph M (pc + 2) lv (.ref x :: rest)) : Vc f G ph M pc lv (rest) := by
  obtain ⟨p, l, e, R, s, m, args, below, meth, c, Q⟩ := f
  obtain ⟨hx, hb, hml, ho, hts, hlk, hvk, hbs, hlow⟩ := C
  intro H locs ls hW hS hl
  exact lv_aload hx hb hd (lv_at hl j hj) (k H locs ls hW hS hl)
theorem v_iadd (C : Ctx f G own cc nL) {x y : Int32} (hd : decode cc pc = .ok (.iadd, 1))  (k : Vc f G ph M (pc + 1) lv (.int (x + y) :: rest)) : Vc f G ph M pc lv (.int y :: .int x :: rest) := by
  obtain ⟨p, l, e, R, s, m, args, below, meth, c, Q⟩ := f
  obtain ⟨hx, hb, hml, ho, hts, hlk, hvk, hbs, hlow⟩ := C
  intro H locs ls hW hS hl
  exact lv_iadd hx hb hd (k H locs ls hW hS hl)
theorem v_isub (C : Ctx f G own cc nL) {x y : Int32} (hd : decode cc pc = .ok (.isub, 1))  (k : Vc f G ph M (pc + 1) lv (.int (x - y) :: rest)) : Vc f G ph M pc lv (.int y :: .int x :: rest) := by
  obtain ⟨p, l, e, R, s, m, args, below, meth, c, Q⟩ := f
  obtain ⟨hx, hb, hml, ho, hts, hlk, hvk, hbs, hlow⟩ := C
  intro H locs ls hW hS hl
  exact lv_isub hx hb hd (k H locs ls hW hS hl)
theorem v_imul (C : Ctx f G own cc nL) {x y : Int32} (hd : decode cc pc = .ok (.imul, 1))  (k : Vc f G ph M (pc + 1) lv (.int (x * y) :: rest)) : Vc f G ph M pc lv (.int y :: .int x :: rest) := by
  obtain ⟨p, l, e, R, s, m, args, below, meth, c, Q⟩ := f
  obtain ⟨hx, hb, hml, ho, hts, hlk, hvk, hbs, hlow⟩ := C
  intro H locs ls hW hS hl
  exact lv_imul hx hb hd (k H locs ls hW hS hl)
theorem v_iand (C : Ctx f G own cc nL) {x y : Int32} (hd : decode cc pc = .ok (.iand, 1))  (k : Vc f G ph M (pc + 1) lv (.int (x &&& y) :: rest)) : Vc f G ph M pc lv (.int y :: .int x :: rest) := by
  obtain ⟨p, l, e, R, s, m, args, below, meth, c, Q⟩ := f
  obtain ⟨hx, hb, hml, ho, hts, hlk, hvk, hbs, hlow⟩ := C
  intro H locs ls hW hS hl
  exact lv_iand hx hb hd (k H locs ls hW hS hl)
theorem v_ior (C : Ctx f G own cc nL) {x y : Int32} (hd : decode cc pc = .ok (.ior, 1))  (k : Vc f G ph M (pc + 1) lv (.int (x ||| y) :: rest)) : Vc f G ph M pc lv (.int y :: .int x :: rest) := by
  obtain ⟨p, l, e, R, s, m, args, below, meth, c, Q⟩ := f
  obtain ⟨hx, hb, hml, ho, hts, hlk, hvk, hbs, hlow⟩ := C
  intro H locs ls hW hS hl
  exact lv_ior hx hb hd (k H locs ls hW hS hl)
theorem v_ixor (C : Ctx f G own cc nL) {x y : Int32} (hd : decode cc pc = .ok (.ixor, 1))  (k : Vc f G ph M (pc + 1) lv (.int (x ^^^ y) :: rest)) : Vc f G ph M pc lv (.int y :: .int x :: rest) := by
  obtain ⟨p, l, e, R, s, m, args, below, meth, c, Q⟩ := f
  obtain ⟨hx, hb, hml, ho, hts, hlk, hvk, hbs, hlow⟩ := C
  intro H locs ls hW hS hl
  exact lv_ixor hx hb hd (k H locs ls hW hS hl)
theorem v_ladd (C : Ctx f G own cc nL) {x y : Int64} (hd : decode cc pc = .ok (.ladd, 1))  (k : Vc f G ph M (pc + 1) lv (.long (x + y) :: rest)) : Vc f G ph M pc lv (.long y :: .long x :: rest) := by
  obtain ⟨p, l, e, R, s, m, args, below, meth, c, Q⟩ := f
  obtain ⟨hx, hb, hml, ho, hts, hlk, hvk, hbs, hlow⟩ := C
  intro H locs ls hW hS hl
  exact lv_ladd hx hb hd (k H locs ls hW hS hl)
theorem v_land (C : Ctx f G own cc nL) {x y : Int64} (hd : decode cc pc = .ok (.land, 1))  (k : Vc f G ph M (pc + 1) lv (.long (x &&& y) :: rest)) : Vc f G ph M pc lv (.long y :: .long x :: rest) := by
  obtain ⟨p, l, e, R, s, m, args, below, meth, c, Q⟩ := f
  obtain ⟨hx, hb, hml, ho, hts, hlk, hvk, hbs, hlow⟩ := C
  intro H locs ls hW hS hl
  exact lv_land hx hb hd (k H locs ls hW hS hl)
theorem v_lor (C : Ctx f G own cc nL) {x y : Int64} (hd : decode cc pc = .ok (.lor, 1))  (k : Vc f G ph M (pc + 1) lv (.long (x ||| y) :: rest)) : Vc f G ph M pc lv (.long y :: .long x :: rest) := by
  obtain ⟨p, l, e, R, s, m, args, below, meth, c, Q⟩ := f
  obtain ⟨hx, hb, hml, ho, hts, hlk, hvk, hbs, hlow⟩ := C
  intro H locs ls hW hS hl
  exact lv_lor hx hb hd (k H locs ls hW hS hl)
theorem v_idiv (C : Ctx f G own cc nL) {x y : Int32} (hd : decode cc pc = .ok (.idiv, 1)) (hne : ¬ y = 0) (k : Vc f G ph M (pc + 1) lv (.int (x / y) :: rest)) : Vc f G ph M pc lv (.int y :: .int x :: rest) := by
  obtain ⟨p, l, e, R, s, m, args, below, meth, c, Q⟩ := f
  obtain ⟨hx, hb, hml, ho, hts, hlk, hvk, hbs, hlow⟩ := C
  intro H locs ls hW hS hl
  exact lv_idiv hx hb hd hne (k H locs ls hW hS hl)
theorem v_irem (C : Ctx f G own cc nL) {x y : Int32} (hd : decode cc pc = .ok (.irem, 1)) (hne : ¬ y = 0) (k : Vc f G ph M (pc + 1) lv (.int (x - x / y * y) :: rest)) : Vc f G ph M pc lv (.int y :: .int x :: rest) := by
  obtain ⟨p, l, e, R, s, m, args, below, meth, c, Q⟩ := f
  obtain ⟨hx, hb, hml, ho, hts, hlk, hvk, hbs, hlow⟩ := C
  intro H locs ls hW hS hl
  exact lv_irem hx hb hd hne (k H locs ls hW hS hl)
theorem v_ineg (C : Ctx f G own cc nL) {x : Int32} (hd : decode cc pc = .ok (.ineg, 1))  (k : Vc f G ph M (pc + 1) lv (.int (-x) :: rest)) : Vc f G ph M pc lv (.int x :: rest) := by
  obtain ⟨p, l, e, R, s, m, args, below, meth, c, Q⟩ := f
  obtain ⟨hx, hb, hml, ho, hts, hlk, hvk, hbs, hlow⟩ := C
  intro H locs ls hW hS hl
  exact lv_ineg hx hb hd (k H locs ls hW hS hl)
theorem v_ishl (C : Ctx f G own cc nL) {x y : Int32} (hd : decode cc pc = .ok (.ishl, 1))  (k : Vc f G ph M (pc + 1) lv (.int (x <<< (y &&& 31)) :: rest)) : Vc f G ph M pc lv (.int y :: .int x :: rest) := by
  obtain ⟨p, l, e, R, s, m, args, below, meth, c, Q⟩ := f
  obtain ⟨hx, hb, hml, ho, hts, hlk, hvk, hbs, hlow⟩ := C
  intro H locs ls hW hS hl
  exact lv_ishl hx hb hd (k H locs ls hW hS hl)
theorem v_ishr (C : Ctx f G own cc nL) {x y : Int32} (hd : decode cc pc = .ok (.ishr, 1))  (k : Vc f G ph M (pc + 1) lv (.int (x >>> (y &&& 31)) :: rest)) : Vc f G ph M pc lv (.int y :: .int x :: rest) := by
  obtain ⟨p, l, e, R, s, m, args, below, meth, c, Q⟩ := f
  obtain ⟨hx, hb, hml, ho, hts, hlk, hvk, hbs, hlow⟩ := C
  intro H locs ls hW hS hl
  exact lv_ishr hx hb hd (k H locs ls hW hS hl)
theorem v_iushr (C : Ctx f G own cc nL) {x y : Int32} (hd : decode cc pc = .ok (.iushr, 1))  (k : Vc f G ph M (pc + 1) lv (.int ((x.toUInt32 >>> (y.toUInt32 &&& Int32.toUInt32 31)).toInt32) :: rest)) : Vc f G ph M pc lv (.int y :: .int x :: rest) := by
  obtain ⟨p, l, e, R, s, m, args, below, meth, c, Q⟩ := f
  obtain ⟨hx, hb, hml, ho, hts, hlk, hvk, hbs, hlow⟩ := C
  intro H locs ls hW hS hl
  exact lv_iushr hx hb hd rfl (k H locs ls hW hS hl)
theorem v_lshl (C : Ctx f G own cc nL) {x : Int64} {y : Int32} (hd : decode cc pc = .ok (.lshl, 1))  (k : Vc f G ph M (pc + 1) lv (.long (x <<< (y.toInt64 &&& 63)) :: rest)) : Vc f G ph M pc lv (.int y :: .long x :: rest) := by
  obtain ⟨p, l, e, R, s, m, args, below, meth, c, Q⟩ := f
  obtain ⟨hx, hb, hml, ho, hts, hlk, hvk, hbs, hlow⟩ := C
  intro H locs ls hW hS hl
  exact lv_lshl hx hb hd rfl (k H locs ls hW hS hl)
theorem v_lshr (C : Ctx f G own cc nL) {x : Int64} {y : Int32} (hd : decode cc pc = .ok (.lshr, 1))  (k : Vc f G ph M (pc + 1) lv (.long (x >>> (y.toInt64 &&& 63)) :: rest)) : Vc f G ph M pc lv (.int y :: .long x :: rest) := by
  obtain ⟨p, l, e, R, s, m, args, below, meth, c, Q⟩ := f
  obtain ⟨hx, hb, hml, ho, hts, hlk, hvk, hbs, hlow⟩ := C
  intro H locs ls hW hS hl
  exact lv_lshr hx hb hd rfl (k H locs ls hW hS hl)
theorem v_i2l (C : Ctx f G own cc nL) {x : Int32} (hd : decode cc pc = .ok (.i2l, 1))  (k : Vc f G ph M (pc + 1) lv (.long x.toInt64 :: rest)) : Vc f G ph M pc lv (.int x :: rest) := by
  obtain ⟨p, l, e, R, s, m, args, below, meth, c, Q⟩ := f
  obtain ⟨hx, hb, hml, ho, hts, hlk, hvk, hbs, hlow⟩ := C
  intro H locs ls hW hS hl
  exact lv_i2l hx hb hd rfl (k H locs ls hW hS hl)
theorem v_l2i (C : Ctx f G own cc nL) {x : Int64} (hd : decode cc pc = .ok (.l2i, 1))  (k : Vc f G ph M (pc + 1) lv (.int x.toInt32 :: rest)) : Vc f G ph M pc lv (.long x :: rest) := by
  obtain ⟨p, l, e, R, s, m, args, below, meth, c, Q⟩ := f
  obtain ⟨hx, hb, hml, ho, hts, hlk, hvk, hbs, hlow⟩ := C
  intro H locs ls hW hS hl
  exact lv_l2i hx hb hd rfl (k H locs ls hW hS hl)
theorem v_i2b (C : Ctx f G own cc nL) {x : Int32} (hd : decode cc pc = .ok (.i2b, 1))  (k : Vc f G ph M (pc + 1) lv (.int x.toInt8.toInt32 :: rest)) : Vc f G ph M pc lv (.int x :: rest) := by
  obtain ⟨p, l, e, R, s, m, args, below, meth, c, Q⟩ := f
  obtain ⟨hx, hb, hml, ho, hts, hlk, hvk, hbs, hlow⟩ := C
  intro H locs ls hW hS hl
  exact lv_i2b hx hb hd rfl (k H locs ls hW hS hl)
theorem v_i2s (C : Ctx f G own cc nL) {x : Int32} (hd : decode cc pc = .ok (.i2s, 1))  (k : Vc f G ph M (pc + 1) lv (.int x.toInt16.toInt32 :: rest)) : Vc f G ph M pc lv (.int x :: rest) := by
  obtain ⟨p, l, e, R, s, m, args, below, meth, c, Q⟩ := f
  obtain ⟨hx, hb, hml, ho, hts, hlk, hvk, hbs, hlow⟩ := C
  intro H locs ls hW hS hl
  exact lv_i2s hx hb hd rfl (k H locs ls hW hS hl)
theorem v_i2c (C : Ctx f G own cc nL) {x : Int32} (hd : decode cc pc = .ok (.i2c, 1))  (k : Vc f G ph M (pc + 1) lv (.int ((x.toUInt32 % 65536).toInt32) :: rest)) : Vc f G ph M pc lv (.int x :: rest) := by
  obtain ⟨p, l, e, R, s, m, args, below, meth, c, Q⟩ := f
  obtain ⟨hx, hb, hml, ho, hts, hlk, hvk, hbs, hlow⟩ := C
  intro H locs ls hW hS hl
  exact lv_i2c hx hb hd rfl (k H locs ls hW hS hl)
theorem v_dup (C : Ctx f G own cc nL) {va : Value} (hd : decode cc pc = .ok (.dup, 1)) (hva : va.category = 1) (k : Vc f G ph M (pc + 1) lv (va :: va :: rest)) : Vc f G ph M pc lv (va :: rest) := by
  obtain ⟨p, l, e, R, s, m, args, below, meth, c, Q⟩ := f
  obtain ⟨hx, hb, hml, ho, hts, hlk, hvk, hbs, hlow⟩ := C
  intro H locs ls hW hS hl
  exact lv_dup hx hb hd hva (k H locs ls hW hS hl)
theorem v_pop (C : Ctx f G own cc nL) {va : Value} (hd : decode cc pc = .ok (.pop, 1)) (hva : va.category = 1) (k : Vc f G ph M (pc + 1) lv (rest)) : Vc f G ph M pc lv (va :: rest) := by
  obtain ⟨p, l, e, R, s, m, args, below, meth, c, Q⟩ := f
  obtain ⟨hx, hb, hml, ho, hts, hlk, hvk, hbs, hlow⟩ := C
  intro H locs ls hW hS hl
  exact lv_pop hx hb hd hva (k H locs ls hW hS hl)
theorem v_dup2 (C : Ctx f G own cc nL) {va vb : Value} (hd : decode cc pc = .ok (.dup2, 1)) (hva : va.category = 1) (hvb : vb.category = 1) (k : Vc f G ph M (pc + 1) lv (va :: vb :: va :: vb :: rest)) : Vc f G ph M pc lv (va :: vb :: rest) := by
  obtain ⟨p, l, e, R, s, m, args, below, meth, c, Q⟩ := f
  obtain ⟨hx, hb, hml, ho, hts, hlk, hvk, hbs, hlow⟩ := C
  intro H locs ls hW hS hl
  exact lv_dup2_11 hx hb hd hva hvb (k H locs ls hW hS hl)
theorem v_lcmp (C : Ctx f G own cc nL) {x y : Int64} (hd : decode cc pc = .ok (.lcmp, 1))  (k : Vc f G ph M (pc + 1) lv (.int (lg_cmp x y) :: rest)) : Vc f G ph M pc lv (.long y :: .long x :: rest) := by
  obtain ⟨p, l, e, R, s, m, args, below, meth, c, Q⟩ := f
  obtain ⟨hx, hb, hml, ho, hts, hlk, hvk, hbs, hlow⟩ := C
  intro H locs ls hW hS hl
  exact W.lcmp hx hb hd (k H locs ls hW hS hl)
theorem v_istore_n (C : Ctx f G own cc nL) {k : Fin 4} {i : Nat} {x : Int32} (lv' : List (Nat × Value)) (hd : decode cc pc = .ok (.istore_n k, 1)) (hi : (k : Nat) = i) (hn : i < nL) (hlv : (i, Value.int x) :: lv.filter (fun q => !(q.1 == i) && !(q.1 + 1 == i && q.2.category == 2)) = lv') (k : Vc f G ph M (pc + 1) lv' rest) : Vc f G ph M pc lv (.int x :: rest) := by
  obtain ⟨p, l, e, R, s, m, args, below, meth, c, Q⟩ := f
  obtain ⟨hx, hb, hml, ho, hts, hlk, hvk, hbs, hlow⟩ := C
  intro H locs ls hW hS hl
  subst hml
  exact lv_istore_n hx hb hd hi hl hn hlv (fun ls' hl' => k H locs ls' hW hS hl')
theorem v_istore (C : Ctx f G own cc nL) {i : Nat} {x : Int32} (lv' : List (Nat × Value)) (hd : decode cc pc = .ok (.istore i, 2)) (hn : i < nL) (hlv : (i, Value.int x) :: lv.filter (fun q => !(q.1 == i) && !(q.1 + 1 == i && q.2.category == 2)) = lv') (k : Vc f G ph M (pc + 2) lv' rest) : Vc f G ph M pc lv (.int x :: rest) := by
  obtain ⟨p, l, e, R, s, m, args, below, meth, c, Q⟩ := f
  obtain ⟨hx, hb, hml, ho, hts, hlk, hvk, hbs, hlow⟩ := C
  intro H locs ls hW hS hl
  subst hml
  exact lv_istore hx hb hd hl hn hlv (fun ls' hl' => k H locs ls' hW hS hl')
theorem v_astore_n (C : Ctx f G own cc nL) {k : Fin 4} {i : Nat} {x : Nat} (lv' : List (Nat × Value)) (hd : decode cc pc = .ok (.astore_n k, 1)) (hi : (k : Nat) = i) (hn : i < nL) (hlv : (i, Value.ref x) :: lv.filter (fun q => !(q.1 == i) && !(q.1 + 1 == i && q.2.category == 2)) = lv') (k : Vc f G ph M (pc + 1) lv' rest) : Vc f G ph M pc lv (.ref x :: rest) := by
  obtain ⟨p, l, e, R, s, m, args, below, meth, c, Q⟩ := f
  obtain ⟨hx, hb, hml, ho, hts, hlk, hvk, hbs, hlow⟩ := C
  intro H locs ls hW hS hl
  subst hml
  exact lv_astore_n hx hb hd hi hl hn hlv (fun ls' hl' => k H locs ls' hW hS hl')
theorem v_astore (C : Ctx f G own cc nL) {i : Nat} {x : Nat} (lv' : List (Nat × Value)) (hd : decode cc pc = .ok (.astore i, 2)) (hn : i < nL) (hlv : (i, Value.ref x) :: lv.filter (fun q => !(q.1 == i) && !(q.1 + 1 == i && q.2.category == 2)) = lv') (k : Vc f G ph M (pc + 2) lv' rest) : Vc f G ph M pc lv (.ref x :: rest) := by
  obtain ⟨p, l, e, R, s, m, args, below, meth, c, Q⟩ := f
  obtain ⟨hx, hb, hml, ho, hts, hlk, hvk, hbs, hlow⟩ := C
  intro H locs ls hW hS hl
  subst hml
  exact lv_astore hx hb hd hl hn hlv (fun ls' hl' => k H locs ls' hW hS hl')
theorem v_iinc (C : Ctx f G own cc nL) {i : Nat} {n : Int} {x : Int32} (v : Int32) (j : Nat) (lv' : List (Nat × Value)) (hd : decode cc pc = .ok (.iinc i n, 3)) (hj : lv[j]? = some (i, .int x)) (hv : x + Int32.ofInt n = v) (hn : i < nL) (hlv : (i, Value.int v) :: lv.filter (fun q => !(q.1 == i) && !(q.1 + 1 == i && q.2.category == 2)) = lv') (k : Vc f G ph M (pc + 3) lv' rest) : Vc f G ph M pc lv rest := by
  obtain ⟨p, l, e, R, s, m, args, below, meth, c, Q⟩ := f
  obtain ⟨hx, hb, hml, ho, hts, hlk, hvk, hbs, hlow⟩ := C
  intro H locs ls hW hS hl
  subst hml
  exact lv_iinc hx hb hd hl hj hv hn hlv (fun ls' hl' => k H locs ls' hW hS hl')
theorem v_if_eq (C : Ctx f G own cc nL) {x : Int32} {off : Int} (tgt : Nat) (hd : decode cc pc = .ok (.ifCond .eq off, 3)) (ht : (pc : Int) + off = (tgt : Int)) (kt : x = 0 → Vc f G ph M tgt lv rest) (kf : ¬ x = 0 → Vc f G ph M (pc + 3) lv rest) : Vc f G ph M pc lv (.int x :: rest) := by
  obtain ⟨p, l, e, R, s, m, args, below, meth, c, Q⟩ := f
  obtain ⟨hx, hb, hml, ho, hts, hlk, hvk, hbs, hlow⟩ := C
  intro H locs ls hW hS hl
  exact lv_if_eq hx hb hd ht (fun q => kt q H locs ls hW hS hl) (fun q => kf q H locs ls hW hS hl)
theorem v_icmp_eq (C : Ctx f G own cc nL) {x y : Int32} {off : Int} (tgt : Nat) (hd : decode cc pc = .ok (.if_icmp .eq off, 3)) (ht : (pc : Int) + off = (tgt : Int)) (kt : x = y → Vc f G ph M tgt lv rest) (kf : ¬ x = y → Vc f G ph M (pc + 3) lv rest) : Vc f G ph M pc lv (.int y :: .int x :: rest) := by
  obtain ⟨p, l, e, R, s, m, args, below, meth, c, Q⟩ := f
  obtain ⟨hx, hb, hml, ho, hts, hlk, hvk, hbs, hlow⟩ := C
  intro H locs ls hW hS hl
  exact lv_icmp_eq hx hb hd ht (fun q => kt q H locs ls hW hS hl) (fun q => kf q H locs ls hW hS hl)
theorem v_if_ne (C : Ctx f G own cc nL) {x : Int32} {off : Int} (tgt : Nat) (hd : decode cc pc = .ok (.ifCond .ne off, 3)) (ht : (pc : Int) + off = (tgt : Int)) (kt : ¬ x = 0 → Vc f G ph M tgt lv rest) (kf : x = 0 → Vc f G ph M (pc + 3) lv rest) : Vc f G ph M pc lv (.int x :: rest) := by
  obtain ⟨p, l, e, R, s, m, args, below, meth, c, Q⟩ := f
  obtain ⟨hx, hb, hml, ho, hts, hlk, hvk, hbs, hlow⟩ := C
  intro H locs ls hW hS hl
  exact lv_if_ne hx hb hd ht (fun q => kt q H locs ls hW hS hl) (fun q => kf q H locs ls hW hS hl)
theorem v_icmp_ne (C : Ctx f G own cc nL) {x y : Int32} {off : Int} (tgt : Nat) (hd : decode cc pc = .ok (.if_icmp .ne off, 3)) (ht : (pc : Int) + off = (tgt : Int)) (kt : ¬ x = y → Vc f G ph M tgt lv rest) (kf : x = y → Vc f G ph M (pc + 3) lv rest) : Vc f G ph M pc lv (.int y :: .int x :: rest) := by
  obtain ⟨p, l, e, R, s, m, args, below, meth, c, Q⟩ := f
  obtain ⟨hx, hb, hml, ho, hts, hlk, hvk, hbs, hlow⟩ := C
  intro H locs ls hW hS hl
  exact lv_icmp_ne hx hb hd ht (fun q => kt q H locs ls hW hS hl) (fun q => kf q H locs ls hW hS hl)
theorem v_if_lt (C : Ctx f G own cc nL) {x : Int32} {off : Int} (tgt : Nat) (hd : decode cc pc = .ok (.ifCond .lt off, 3)) (ht : (pc : Int) + off = (tgt : Int)) (kt : x < 0 → Vc f G ph M tgt lv rest) (kf : ¬ x < 0 → Vc f G ph M (pc + 3) lv rest) : Vc f G ph M pc lv (.int x :: rest) := by
  obtain ⟨p, l, e, R, s, m, args, below, meth, c, Q⟩ := f
  obtain ⟨hx, hb, hml, ho, hts, hlk, hvk, hbs, hlow⟩ := C
  intro H locs ls hW hS hl
  exact lv_if_lt hx hb hd ht (fun q => kt q H locs ls hW hS hl) (fun q => kf q H locs ls hW hS hl)
theorem v_icmp_lt (C : Ctx f G own cc nL) {x y : Int32} {off : Int} (tgt : Nat) (hd : decode cc pc = .ok (.if_icmp .lt off, 3)) (ht : (pc : Int) + off = (tgt : Int)) (kt : x < y → Vc f G ph M tgt lv rest) (kf : ¬ x < y → Vc f G ph M (pc + 3) lv rest) : Vc f G ph M pc lv (.int y :: .int x :: rest) := by
  obtain ⟨p, l, e, R, s, m, args, below, meth, c, Q⟩ := f
  obtain ⟨hx, hb, hml, ho, hts, hlk, hvk, hbs, hlow⟩ := C
  intro H locs ls hW hS hl
  exact lv_icmp_lt hx hb hd ht (fun q => kt q H locs ls hW hS hl) (fun q => kf q H locs ls hW hS hl)
theorem v_if_ge (C : Ctx f G own cc nL) {x : Int32} {off : Int} (tgt : Nat) (hd : decode cc pc = .ok (.ifCond .ge off, 3)) (ht : (pc : Int) + off = (tgt : Int)) (kt : 0 ≤ x → Vc f G ph M tgt lv rest) (kf : ¬ 0 ≤ x → Vc f G ph M (pc + 3) lv rest) : Vc f G ph M pc lv (.int x :: rest) := by
  obtain ⟨p, l, e, R, s, m, args, below, meth, c, Q⟩ := f
  obtain ⟨hx, hb, hml, ho, hts, hlk, hvk, hbs, hlow⟩ := C
  intro H locs ls hW hS hl
  exact lv_if_ge hx hb hd ht (fun q => kt q H locs ls hW hS hl) (fun q => kf q H locs ls hW hS hl)
theorem v_icmp_ge (C : Ctx f G own cc nL) {x y : Int32} {off : Int} (tgt : Nat) (hd : decode cc pc = .ok (.if_icmp .ge off, 3)) (ht : (pc : Int) + off = (tgt : Int)) (kt : y ≤ x → Vc f G ph M tgt lv rest) (kf : ¬ y ≤ x → Vc f G ph M (pc + 3) lv rest) : Vc f G ph M pc lv (.int y :: .int x :: rest) := by
  obtain ⟨p, l, e, R, s, m, args, below, meth, c, Q⟩ := f
  obtain ⟨hx, hb, hml, ho, hts, hlk, hvk, hbs, hlow⟩ := C
  intro H locs ls hW hS hl
  exact lv_icmp_ge hx hb hd ht (fun q => kt q H locs ls hW hS hl) (fun q => kf q H locs ls hW hS hl)
theorem v_if_gt (C : Ctx f G own cc nL) {x : Int32} {off : Int} (tgt : Nat) (hd : decode cc pc = .ok (.ifCond .gt off, 3)) (ht : (pc : Int) + off = (tgt : Int)) (kt : 0 < x → Vc f G ph M tgt lv rest) (kf : ¬ 0 < x → Vc f G ph M (pc + 3) lv rest) : Vc f G ph M pc lv (.int x :: rest) := by
  obtain ⟨p, l, e, R, s, m, args, below, meth, c, Q⟩ := f
  obtain ⟨hx, hb, hml, ho, hts, hlk, hvk, hbs, hlow⟩ := C
  intro H locs ls hW hS hl
  exact lv_if_gt hx hb hd ht (fun q => kt q H locs ls hW hS hl) (fun q => kf q H locs ls hW hS hl)
theorem v_icmp_gt (C : Ctx f G own cc nL) {x y : Int32} {off : Int} (tgt : Nat) (hd : decode cc pc = .ok (.if_icmp .gt off, 3)) (ht : (pc : Int) + off = (tgt : Int)) (kt : y < x → Vc f G ph M tgt lv rest) (kf : ¬ y < x → Vc f G ph M (pc + 3) lv rest) : Vc f G ph M pc lv (.int y :: .int x :: rest) := by
  obtain ⟨p, l, e, R, s, m, args, below, meth, c, Q⟩ := f
  obtain ⟨hx, hb, hml, ho, hts, hlk, hvk, hbs, hlow⟩ := C
  intro H locs ls hW hS hl
  exact lv_icmp_gt hx hb hd ht (fun q => kt q H locs ls hW hS hl) (fun q => kf q H locs ls hW hS hl)
theorem v_if_le (C : Ctx f G own cc nL) {x : Int32} {off : Int} (tgt : Nat) (hd : decode cc pc = .ok (.ifCond .le off, 3)) (ht : (pc : Int) + off = (tgt : Int)) (kt : x ≤ 0 → Vc f G ph M tgt lv rest) (kf : ¬ x ≤ 0 → Vc f G ph M (pc + 3) lv rest) : Vc f G ph M pc lv (.int x :: rest) := by
  obtain ⟨p, l, e, R, s, m, args, below, meth, c, Q⟩ := f
  obtain ⟨hx, hb, hml, ho, hts, hlk, hvk, hbs, hlow⟩ := C
  intro H locs ls hW hS hl
  exact lv_if_le hx hb hd ht (fun q => kt q H locs ls hW hS hl) (fun q => kf q H locs ls hW hS hl)
theorem v_icmp_le (C : Ctx f G own cc nL) {x y : Int32} {off : Int} (tgt : Nat) (hd : decode cc pc = .ok (.if_icmp .le off, 3)) (ht : (pc : Int) + off = (tgt : Int)) (kt : x ≤ y → Vc f G ph M tgt lv rest) (kf : ¬ x ≤ y → Vc f G ph M (pc + 3) lv rest) : Vc f G ph M pc lv (.int y :: .int x :: rest) := by
  obtain ⟨p, l, e, R, s, m, args, below, meth, c, Q⟩ := f
  obtain ⟨hx, hb, hml, ho, hts, hlk, hvk, hbs, hlow⟩ := C
  intro H locs ls hW hS hl
  exact lv_icmp_le hx hb hd ht (fun q => kt q H locs ls hW hS hl) (fun q => kf q H locs ls hW hS hl)
theorem v_goto (C : Ctx f G own cc nL) {off : Int} (tgt : Nat) (hd : decode cc pc = .ok (.goto off, 3)) (ht : (pc : Int) + off = (tgt : Int)) (k : Vc f G ph M tgt lv rest) : Vc f G ph M pc lv rest := by
  obtain ⟨p, l, e, R, s, m, args, below, meth, c, Q⟩ := f
  obtain ⟨hx, hb, hml, ho, hts, hlk, hvk, hbs, hlow⟩ := C
  intro H locs ls hW hS hl
  exact lv_goto hx hb hd ht (k H locs ls hW hS hl)
theorem v_tableIn (C : Ctx f G own cc nL) {dflt lo hi : Int} {offs : Array Int} {len : Nat} {x : Int32} {off : Int} (tgt : Nat) (hd : decode cc pc = .ok (.tableswitch dflt lo hi offs, len)) (h1 : ¬ x.toInt < lo) (h2 : ¬ hi < x.toInt) (hof : offs[(x.toInt - lo).toNat]? = some off) (ht : (pc : Int) + off = (tgt : Int)) (k : Vc f G ph M tgt lv rest) : Vc f G ph M pc lv (.int x :: rest) := by
  obtain ⟨p, l, e, R, s, m, args, below, meth, c, Q⟩ := f
  obtain ⟨hx, hb, hml, ho, hts, hlk, hvk, hbs, hlow⟩ := C
  intro H locs ls hW hS hl
  exact lv_tableIn hx hb hd h1 h2 hof ht (k H locs ls hW hS hl)
theorem v_tableOut (C : Ctx f G own cc nL) {dflt lo hi : Int} {offs : Array Int} {len : Nat} {x : Int32} (tgt : Nat) (hd : decode cc pc = .ok (.tableswitch dflt lo hi offs, len)) (h : x.toInt < lo ∨ hi < x.toInt) (ht : (pc : Int) + dflt = (tgt : Int)) (k : Vc f G ph M tgt lv rest) : Vc f G ph M pc lv (.int x :: rest) := by
  obtain ⟨p, l, e, R, s, m, args, below, meth, c, Q⟩ := f
  obtain ⟨hx, hb, hml, ho, hts, hlk, hvk, hbs, hlow⟩ := C
  intro H locs ls hW hS hl
  exact lv_tableOut hx hb hd h ht (k H locs ls hW hS hl)
theorem v_lookup (C : Ctx f G own cc nL) {dflt : Int} {ps : Array (Int × Int)} {len : Nat} {x : Int32} {off : Int} (tgt : Nat) (hd : decode cc pc = .ok (.lookupswitch dflt ps, len)) (hp : (ps.toList.zip (ps.toList.drop 1)).all (fun (a, next) => a.1 < next.1) = true) (hof : Op.lookupswitch.offset ps.toList dflt x.toInt = off) (ht : (pc : Int) + off = (tgt : Int)) (k : Vc f G ph M tgt lv rest) : Vc f G ph M pc lv (.int x :: rest) := by
  obtain ⟨p, l, e, R, s, m, args, below, meth, c, Q⟩ := f
  obtain ⟨hx, hb, hml, ho, hts, hlk, hvk, hbs, hlow⟩ := C
  intro H locs ls hW hS hl
  exact lv_lookup hx hb hd hp hof ht (k H locs ls hW hS hl)
theorem v_ldc (C : Ctx f G own cc nL) {index : Nat} (v : Int32) (hc : Jvm.Cond.constant own index v ∈ lw_w) (hd : decode cc pc = .ok (.ldc index, 2)) (k : Vc f G ph M (pc + 2) lv (.int v :: rest)) : Vc f G ph M pc lv rest := by
  obtain ⟨p, l, e, R, s, m, args, below, meth, c, Q⟩ := f
  obtain ⟨hx, hb, hml, ho, hts, hlk, hvk, hbs, hlow⟩ := C
  intro H locs ls hW hS hl
  exact lv_ldc hx hb ho (hts _ hc) hd (k H locs ls hW hS hl)
theorem v_ldcw (C : Ctx f G own cc nL) {index : Nat} (v : Int32) (hc : Jvm.Cond.constant own index v ∈ lw_w) (hd : decode cc pc = .ok (.ldc_w index, 3)) (k : Vc f G ph M (pc + 3) lv (.int v :: rest)) : Vc f G ph M pc lv rest := by
  obtain ⟨p, l, e, R, s, m, args, below, meth, c, Q⟩ := f
  obtain ⟨hx, hb, hml, ho, hts, hlk, hvk, hbs, hlow⟩ := C
  intro H locs ls hW hS hl
  exact lv_ldcw hx hb ho (hts _ hc) hd (k H locs ls hW hS hl)
theorem v_ldc2 (C : Ctx f G own cc nL) {index : Nat} (v : Int64) (hc : Jvm.Cond.constantLong own index v ∈ lw_w) (hd : decode cc pc = .ok (.ldc2_w index, 3)) (k : Vc f G ph M (pc + 3) lv (.long v :: rest)) : Vc f G ph M pc lv rest := by
  obtain ⟨p, l, e, R, s, m, args, below, meth, c, Q⟩ := f
  obtain ⟨hx, hb, hml, ho, hts, hlk, hvk, hbs, hlow⟩ := C
  intro H locs ls hW hS hl
  exact lv_ldc2 hx hb ho (hts _ hc) hd (k H locs ls hW hS hl)
theorem v_ldcS (C : Ctx f G own cc nL) {index : Nat} (tx : String) (i : Nat) (hc : (own, index, tx, i) ∈ strIdx) (hd : decode cc pc = .ok (.ldc index, 2)) (k : Vc f G ph M (pc + 2) lv (.ref (gK G i) :: rest)) : Vc f G ph M pc lv rest := by
  obtain ⟨p, l, e, R, s, m, args, below, meth, c, Q⟩ := f
  obtain ⟨hx, hb, hml, ho, hts, hlk, hvk, hbs, hlow⟩ := C
  intro H locs ls hW hS hl
  exact va_ldcS hx hb ho (hvk.2.2.2.2.2.1 _ hc) hd (k H locs ls hW hS hl)
theorem v_sub (ks : List Nat) (lv' : List (Nat × Value)) (h : lv_pick lv ks = lv') {st : List Value} (k : Vc f G ph M pc lv' st) : Vc f G ph M pc lv st := by
  obtain ⟨p, l, e, R, s, m, args, below, meth, c, Q⟩ := f
  intro H locs ls hW hS hl
  exact k H locs ls hW hS (lv_sub hl ks h)
theorem v_top {x : Int32} (y : Int32) (h : x = y) (k : Vc f G ph M pc lv (.int y :: rest)) : Vc f G ph M pc lv (.int x :: rest) := h ▸ k
theorem v_mem (M' : Mm) (h : M = M') {st : List Value} (k : Vc f G ph M' pc lv st) : Vc f G ph M pc lv st := h ▸ k

end VC
end
section
theorem Wd.obj {G : GC} {ph : Ph} {M : Mm} {H : Heap} (h : Wd G ph M H) {k ci : Nat} (hk : k < ph.2.2.1) (hs : shp k = ci) (hc : ci < 20) : va_at (gD G) vwCl (gb G + k, .inr (ci, (List.range (nSl ci)).map (fun i => sv G M k i (rfs ci i)))) H := En_obj hs hc ▸ h.1 k hk
theorem Wd.int {G : GC} {ph : Ph} {M : Mm} {H : Heap} (h : Wd G ph M H) {k L : Nat} (hk : k < ph.2.2.1) (hs : shp k = 1000 + L) : H[gb G + k]? = some (arrV (gt G 0) L (fun j => .int (M k j))) := by
  have h1 := h.1 k hk
  rw [En_int hs] at h1
  exact h1
theorem Wd.arr {G : GC} {ph : Ph} {M : Mm} {H : Heap} (h : Wd G ph M H) {k s : Nat} (hk : k < ph.2.2.1) (hs : shp k = s) (h1 : 20 ≤ s) (h2 : s < 1000) : H[gb G + k]? = some (arrV (gt G (s - 19)) (aLen s) (fun j => va_rf (ae G M k s j))) := by
  have h3 := h.1 k hk
  rw [En_arr hs h1 h2] at h3
  exact h3
/-- one cell of the region changes -/
theorem Wd.step {G : GC} {ph : Ph} {M M' : Mm} {H H1 : Heap} (h : Wd G ph M H) {k : Nat} (hk : k < ph.2.2.1) (he : va_at (gD G) vwCl (gb G + k, En G M' k) H1) (hz : H1.size = H.size) (ho : ∀ q, q ≠ gb G + k → H1[q]? = H[q]?) (hM : ∀ a, a ≠ k → M' a = M a) (hr : ph.2.2.2 = 1 → RefsOk M') : Wd G ph M' H1 := by
  obtain ⟨h1, h2, h3, h4, h5⟩ := h
  refine ⟨fun a ha => ?_, hz.trans h2, fun q hq => (ho q (by omega)).trans (h3 q hq), fun a ha => (hM a (by omega)).trans (h4 a ha), fun hm => ⟨(h5 hm).1, hr hm⟩⟩
  by_cases hak : a = k
  · subst hak; exact he
  · rw [En_congr (hM a hak)]
    exact (h1 a ha).kept (ho _ (by omega))
theorem RefsOk.up {M : Mm} (h : RefsOk M) {k i : Nat} {v : Int32} (hv : (shp k < 20 ∧ rfs (shp k) i = 0) ∨ 1000 ≤ shp k ∨ v ≠ 0) : RefsOk (up2 M k i v) := by
  intro a j ha hj
  rw [up2_ap]
  by_cases hq : a = k ∧ j = i
  · rw [if_pos hq]
    obtain ⟨rfl, rfl⟩ := hq
    rcases hv with hv | hv | hv
    · rcases hj with hj | hj
      · exact absurd hv.2 hj.2
      · omega
    · omega
    · exact hv
  · rw [if_neg hq]; exact h a j ha hj
theorem RefsOk.upA {M : Mm} (h : RefsOk M) {k : Nat} {g : Nat → Int32} (hv : 1000 ≤ shp k) : RefsOk (upA M k g) := by
  intro a j ha hj
  by_cases hq : a = k
  · subst hq; omega
  · rw [upA_ne M g hq]; exact h a j ha hj
theorem sv_0 (G : GC) (M : Mm) (k i : Nat) : sv G M k i 0 = .int (M k i) := rfl
theorem sv_r {G : GC} {M : Mm} {k i r : Nat} (h : M k i ≠ 0) (h0 : r ≠ 0) (h1 : r < 5000) : sv G M k i r = .ref (gb G + (k + r)) := by
  unfold sv
  rw [if_neg h0, if_neg h, if_neg (by omega), if_neg (by omega)]
theorem sv_b {G : GC} {M : Mm} {k i : Nat} (h : M k i ≠ 0) : sv G M k i 5000 = .ref (gb G + (M k i).toNatClampNeg) := by
  unfold sv
  rw [if_neg (by omega), if_neg h, if_pos rfl]
theorem sv_s {G : GC} {M : Mm} {k i : Nat} (h : M k i ≠ 0) : sv G M k i 5001 = .ref (gK G ((M k i).toNatClampNeg - 1)) := by
  unfold sv
  rw [if_neg (by omega), if_neg h, if_neg (by omega), if_pos rfl]
theorem range_map_get {α : Type} (n i : Nat) (g : Nat → α) (h : i < n) : ((List.range n).map g)[i]? = some (g i) := by
  rw [List.getElem?_map, List.getElem?_range h]; rfl
theorem vpV_range (n i : Nat) (g : Nat → Value) (h : i < n) : vp_V ((List.range n).map g) i = g i := by
  unfold vp_V
  rw [List.getD_eq_getElem?_getD, range_map_get n i g h]; rfl
theorem VmOk.cls {G : GC} {s : State} (h : VmOk G s) {ci : Nat} {q : vw_C} (hc : vwCl[ci]? = some q) : u_Kn s q.1 q.2.1 q.2.2 ((gD G).1 ci) ((gD G).2 ci) := h.1.1 ci q hc
section VH
variable {f : FC} {G : GC} {ph : Ph} {M : Mm} {own : String} {cc : ByteArray} {nL pc : Nat} {lv : List (Nat × Value)} {rest : List Value}
/-- the raw reading of a field: whatever the slot holds -/
theorem v_get0 (C : Ctx f G own cc nL) {k ci i index : Nat} {Cn : String} {T : u_T} {N : Nat} (hk : k < ph.2.2.1) (hs : shp k = ci) (hci : ci < 20) (hc : vwCl[ci]? = some (Cn, T, N)) (hn : nSl ci = N) (hi : i < N) (hin : ∀ w ∈ u_ws Cn T N, w ∈ lw_w) (hlink : Cond.fieldLink own index (T i).1 (T i).2.1 (T i).2.2.1 ∈ lw_w) (hd : decode cc pc = .ok (.getfield index, 3)) (v : Value) (hv : ∀ H, Wd G ph M H → sv G M k i (rfs ci i) = v) (kk : Vc f G ph M (pc + 3) lv (v :: rest)) : Vc f G ph M pc lv (.ref (gb G + k) :: rest) := by
  obtain ⟨p, l, e, R, s, m, args, below, meth, c, Q⟩ := f
  obtain ⟨hx, hb, hml, ho, hts, hlk, hvk, hbs, hlow⟩ := C
  intro H locs ls hW hS hl
  obtain ⟨r, h1, cell, q1, q2, q3, q4⟩ := hW.obj hk hs hci
  have hr : r = (Cn, T, N) := Option.some.inj (h1.symm.trans hc)
  subst hr
  obtain ⟨hSl, hfc, kC, hkC, hkind⟩ := hvk.cls hc
  obtain ⟨cf, kf, fi, fd, hif, hsl⟩ := hSl i hi
  refine W.getf hx hb ho (hts _ hlink) hif (u_facts hfc hkC (u_lays hts hin hi) hif).1 q1 (by rw [q3]; exact fun h => by cases h) (v := v) ?_ rfl rfl hd (kk H locs ls hW hS hl)
  rw [hsl, q4 i hi, ← hv H hW]
  exact congrArg some (vpV_range _ _ _ (by omega))
/-- the raw writing of a field -/
theorem v_put0 (C : Ctx f G own cc nL) {k ci i index : Nat} {Cn : String} {T : u_T} {N : Nat} (hk : k < ph.2.2.1) (hs : shp k = ci) (hci : ci < 20) (hc : vwCl[ci]? = some (Cn, T, N)) (hn : nSl ci = N) (hi : i < N) (hin : ∀ w ∈ u_ws Cn T N, w ∈ lw_w) (hnm : ∀ a, a < N → ∀ b, b < N → a ≠ b → (T a).2.1 ≠ (T b).2.1) (ty0 : Nat → FieldType) (hty : ∀ k, k < N → parseFieldDescriptor (T k).2.2.1 = some (ty0 k)) (hfin : (T i).2.2.2 = false) (hlink : Cond.fieldLink own index (T i).1 (T i).2.1 (T i).2.2.1 ∈ lw_w) (hd : decode cc pc = .ok (.putfield index, 3)) (M' : Mm) (v : Value) (hsv : sv G M' k i (rfs ci i) = v) (hoth : ∀ j, j ≠ i → M' k j = M k j) (hM : ∀ a, a ≠ k → M' a = M a) (hR : RefsOk M → RefsOk M') (hnar : narrow (ty0 i) v = v) (hfit : fits (ty0 i) v = true) (kk : Vc f G ph M' (pc + 3) lv rest) : Vc f G ph M pc lv (v :: .ref (gb G + k) :: rest) := by
  obtain ⟨p, l, e, R, s, m, args, below, meth, c, Q⟩ := f
  obtain ⟨hx, hb, hml, ho, hts, hlk, hvk, hbs, hlow⟩ := C
  intro H locs ls hW hS hl
  have hap : ∀ x y, x < N → y < N → x ≠ y → ((gD G).2 ci) x ≠ ((gD G).2 ci) y := va_apart (own := own) hts hin ty0 hty hnm hvk.1 hc
  obtain ⟨r, h1, cell, q1, q2, q3, q4⟩ := hW.obj hk hs hci
  have hr : r = (Cn, T, N) := Option.some.inj (h1.symm.trans hc)
  subst hr
  obtain ⟨hSl, hfc, kC, hkC, hkind⟩ := hvk.cls hc
  obtain ⟨cf, kf, fi, fd, hif, hsl⟩ := hSl i hi
  have hlay := hts _ (hin _ (u_in_lay hi))
  unfold u_lay at hlay
  rw [if_neg (by rw [hfin]; decide)] at hlay
  have hst := (u_facts hfc hkC (u_lays hts hin hi) hif).1
  have h6 := u_store hfc hkC hkind hlay hif (hty i hi) hnar hfit
  refine W.putK hx hb (f := fd) ⟨ho, hts _ hlink, ⟨_, _, _, hif⟩, hst⟩ (by rw [q2]; exact h6) q1 q3 (by rw [hsl]; exact k2_hasslot (q4 i hi)) rfl rfl hd fun H' e1 e2 e3 => ?_
  rw [hsl] at e1 ⊢
  refine kk H' _ ls (hW.step hk ?_ e2 e3 hM (fun hm => hR (hW.2.2.2.2 hm).2)) (hS.put e2 e3 (by unfold Ab; omega)) hl
  rw [En_obj hs hci]
  refine ⟨_, hc, t_OB.to (V := updV (vp_V ((List.range (nSl ci)).map (fun i => sv G M k i (rfs ci i)))) i v) ⟨_, e1, q2, q3, t_set q4 hap hi v⟩ (fun j hj => ?_)⟩
  have hj2 : j < nSl ci := by rw [hn]; exact hj
  rw [vpV_range _ _ _ hj2]
  by_cases hji : j = i
  · subst hji
    rw [hsv]; simp [updV]
  · simp only [updV, if_neg hji]
    rw [vpV_range _ _ _ hj2]
    unfold sv
    rw [hoth j hji]
theorem v_putF0 (C : Ctx f G own cc nL) (hinit : f.2.2.2.2.2.2.2.2.1.name = "<init>") {k ci i index : Nat} {Cn : String} {T : u_T} {N : Nat} (hk : k < ph.2.2.1) (hs : shp k = ci) (hci : ci < 20) (hc : vwCl[ci]? = some (Cn, T, N)) (hn : nSl ci = N) (hi : i < N) (hin : ∀ w ∈ u_ws Cn T N, w ∈ lw_w) (hnm : ∀ a, a < N → ∀ b, b < N → a ≠ b → (T a).2.1 ≠ (T b).2.1) (ty0 : Nat → FieldType) (hty : ∀ k, k < N → parseFieldDescriptor (T k).2.2.1 = some (ty0 k)) (hfin : (T i).2.2.2 = true) (hdecl : (T i).1 = own) (hlink : Cond.fieldLink own index (T i).1 (T i).2.1 (T i).2.2.1 ∈ lw_w) (hd : decode cc pc = .ok (.putfield index, 3)) (M' : Mm) (v : Value) (hsv : sv G M' k i (rfs ci i) = v) (hoth : ∀ j, j ≠ i → M' k j = M k j) (hM : ∀ a, a ≠ k → M' a = M a) (hR : RefsOk M → RefsOk M') (hnar : narrow (ty0 i) v = v) (hfit : fits (ty0 i) v = true) (kk : Vc f G ph M' (pc + 3) lv rest) : Vc f G ph M pc lv (v :: .ref (gb G + k) :: rest) := by
  obtain ⟨p, l, e, R, s, m, args, below, meth, c, Q⟩ := f
  obtain ⟨hx, hb, hml, ho, hts, hlk, hvk, hbs, hlow⟩ := C
  intro H locs ls hW hS hl
  have hap : ∀ x y, x < N → y < N → x ≠ y → ((gD G).2 ci) x ≠ ((gD G).2 ci) y := va_apart (own := own) hts hin ty0 hty hnm hvk.1 hc
  obtain ⟨r, h1, cell, q1, q2, q3, q4⟩ := hW.obj hk hs hci
  have hr : r = (Cn, T, N) := Option.some.inj (h1.symm.trans hc)
  subst hr
  obtain ⟨hSl, hfc, kC, hkC, hkind⟩ := hvk.cls hc
  obtain ⟨cf, kf, fi, fd, hif, hsl⟩ := hSl i hi
  have hlay := hts _ (hin _ (u_in_lay hi))
  unfold u_lay at hlay
  rw [if_pos hfin] at hlay
  have hst := (u_facts hfc hkC (u_lays hts hin hi) hif).1
  have hcf : m.cls = cf := by
    obtain ⟨_, _, c', _, _, _, -, -, hf', -, -, -, hown2, -⟩ := Cond.laysFinal_spec hlay
    have e1 : c' = cf := by have := hif.symm.trans hf'; simp at this; exact this.1.symm
    rw [hdecl] at hown2
    rw [← e1]; exact Option.some.inj (ho.symm.trans hown2)
  have h6 := u_fits hfc hkC hkind (Or.inr hlay) hif (hty i hi) hnar hfit
  refine W.putFinK hx hb ho (hts _ hlink) hif hst hcf hinit (by rw [q2]; exact h6) q1 q3 (by rw [hsl]; exact k2_hasslot (q4 i hi)) rfl rfl hd fun H' e1 e2 e3 => ?_
  rw [hsl] at e1 ⊢
  refine kk H' _ ls (hW.step hk ?_ e2 e3 hM (fun hm => hR (hW.2.2.2.2 hm).2)) (hS.put e2 e3 (by unfold Ab; omega)) hl
  rw [En_obj hs hci]
  refine ⟨_, hc, t_OB.to (V := updV (vp_V ((List.range (nSl ci)).map (fun i => sv G M k i (rfs ci i)))) i v) ⟨_, e1, q2, q3, t_set q4 hap hi v⟩ (fun j hj => ?_)⟩
  have hj2 : j < nSl ci := by rw [hn]; exact hj
  rw [vpV_range _ _ _ hj2]
  by_cases hji : j = i
  · subst hji
    rw [hsv]; simp [updV]
  · simp only [updV, if_neg hji]
    rw [vpV_range _ _ _ hj2]
    unfold sv
    rw [hoth j hji]
theorem v_iald (C : Ctx f G own cc nL) {k L j : Nat} (hk : k < ph.2.2.1) (hs : shp k = 1000 + L) (hj : j < L) (hL : L < 2 ^ 31) (hd : decode cc pc = .ok (.iaload, 1)) (kk : Vc f G ph M (pc + 1) lv (.int (M k j) :: rest)) : Vc f G ph M pc lv (.int (nI j) :: .ref (gb G + k) :: rest) := by
  obtain ⟨p, l, e, R, s, m, args, below, meth, c, Q⟩ := f
  obtain ⟨hx, hb, hml, ho, hts, hlk, hvk, hbs, hlow⟩ := C
  intro H locs ls hW hS hl
  have hin : ¬ (nI j < 0 ∨ L ≤ (nI j).toNatClampNeg) := nI_in hj hL
  refine W.iald (v := .int (M k j)) hx hb (hW.int hk hs) ((hvk.1.2 0 _ rfl).1 L (fun j => .int (M k j))) (fun q => by cases q) (by rw [arrV_size]; exact hin) ?_ rfl rfl hd (kk H locs ls hW hS hl)
  rw [nI_clamp (by omega), arrV_read _ _ hj]
theorem v_iast (C : Ctx f G own cc nL) {k L j : Nat} {x : Int32} (hk : k < ph.2.2.1) (hs : shp k = 1000 + L) (hj : j < L) (hL : L < 2 ^ 31) (hd : decode cc pc = .ok (.iastore, 1)) (kk : Vc f G ph (up2 M k j x) (pc + 1) lv rest) : Vc f G ph M pc lv (.int x :: .int (nI j) :: .ref (gb G + k) :: rest) := by
  obtain ⟨p, l, e, R, s, m, args, below, meth, c, Q⟩ := f
  obtain ⟨hx, hb, hml, ho, hts, hlk, hvk, hbs, hlow⟩ := C
  intro H locs ls hW hS hl
  have hin : ¬ (nI j < 0 ∨ L ≤ (nI j).toNatClampNeg) := nI_in hj hL
  refine W.iast hx hb (hW.int hk hs) ((hvk.1.2 0 _ rfl).1 L (fun j => .int (M k j))) (fun q => by cases q) (by rw [arrV_size]; exact hin) rfl rfl hd fun H1 e1 z oq => ?_
  refine kk H1 _ ls (hW.step hk ?_ z oq (fun a ha => up2_ne M _ _ ha) (fun hm => (hW.2.2.2.2 hm).2.up (Or.inr (Or.inl (by omega))))) (hS.put z oq (by unfold Ab; omega)) hl
  rw [En_int hs]
  show H1[gb G + k]? = some (vp_cell _ _)
  rw [e1, vp_cell_i, nI_clamp (by omega), arrV_store]
  congr 2
  funext q
  by_cases hq : q = j
  · subst hq; rw [up2_at]; simp [updV]
  · rw [up2_at_ne M x hq]; simp [updV, hq]
theorem v_alen (C : Ctx f G own cc nL) {k L : Nat} (hk : k < ph.2.2.1) (hs : shp k = 1000 + L) (hd : decode cc pc = .ok (.arraylength, 1)) (kk : Vc f G ph M (pc + 1) lv (.int (nI L) :: rest)) : Vc f G ph M pc lv (.ref (gb G + k) :: rest) := by
  obtain ⟨p, l, e, R, s, m, args, below, meth, c, Q⟩ := f
  obtain ⟨hx, hb, hml, ho, hts, hlk, hvk, hbs, hlow⟩ := C
  intro H locs ls hW hS hl
  exact W.alen (n := nI L) hx hb (hW.int hk hs) ((hvk.1.2 0 _ rfl).1 L (fun j => .int (M k j))) (by rw [arrV_size]; rfl) rfl rfl hd (kk H locs ls hW hS hl)
/-- an element of an array of references, behind the constructors -/
theorem v_aald (C : Ctx f G own cc nL) {k sh j : Nat} (hm : ph.2.2.2 = 1) (hk : k < 221) (hs : shp k = sh) (h1 : 20 ≤ sh) (h2 : sh < 25) (hj : j < aLen sh) (hL : aLen sh < 2 ^ 31) (k' : Nat) (hk' : k + aOff sh j = k') (hd : decode cc pc = .ok (.aaload, 1)) (kk : Vc f G ph M (pc + 1) lv (.ref (gb G + k') :: rest)) : Vc f G ph M pc lv (.int (nI j) :: .ref (gb G + k) :: rest) := by
  obtain ⟨p, l, e, R, s, m, args, below, meth, c, Q⟩ := f
  obtain ⟨hx, hb, hml, ho, hts, hlk, hvk, hbs, hlow⟩ := C
  intro H locs ls hW hS hl
  have hin : ¬ (nI j < 0 ∨ aLen sh ≤ (nI j).toNatClampNeg) := nI_in hj hL
  have hn := (hW.2.2.2.2 hm).1
  have hne : M k j ≠ 0 := (hW.2.2.2.2 hm).2 k j hk (Or.inr ⟨by omega, by omega, by rw [hs]; exact hj⟩)
  have hty : ∃ ty, (tysOf G)[sh - 19]? = some (gt G (sh - 19), ty) ∧ ty.isReference = true := by
    rcases (show sh = 20 ∨ sh = 21 ∨ sh = 22 ∨ sh = 23 ∨ sh = 24 by omega) with h | h | h | h | h <;> subst h <;> exact ⟨_, rfl, rfl⟩
  obtain ⟨ty, ht, hrf⟩ := hty
  refine W.aald (v := .ref (gb G + k')) (ty := ty) hx hb (hW.arr (by omega) hs h1 (by omega)) ((hvk.1.2 _ _ ht).1 (aLen sh) (fun j => va_rf (ae G M k sh j))) hrf (fun q => by cases q) (by rw [arrV_size]; exact hin) ?_ rfl rfl hd (kk H locs ls hW hS hl)
  rw [nI_clamp (by omega), arrV_read _ _ hj]
  unfold ae
  rw [if_neg hne, if_neg (by omega), hk']
  rfl
end VH
end
section
theorem lw_good : GoodIn lw_w lw_w := fun w h => ⟨h, good_of_word (List.mem_filter.mp h).2⟩
theorem lw_goodc {w : Cond} (h : w ∈ lw_w) : GoodIn lw_w (w :: lw_w) := fun v hv => by
  rcases List.mem_cons.mp hv with rfl | hv
  · exact lw_good _ h
  · exact lw_good _ hv
def rmOf (d k n : Nat) : Room := { frames := d, cells := k, slots := n, locals := 40 * d }
/-- a method's contract over the region: from n cells to n + dn, d frames deep at most -/
def Con (l : Launch) (G : GC) (n md d : Nat) (y : MethodName) (cc : ByteArray) (nL : Nat) (ret : Option FieldType) (av : List Value) (M : Mm) (dk ds dn : Nat) (Post : Option Value → Mm → Prop) : Prop :=
  Met l y (.code y cc nL ret :: lw_w) (rmOf d dk ds) (fun a U => a = av.toArray ∧ Wd G (0, 0, n, md) M U.heap ∧ VmOk G U) (fun _ _ o t => ∃ v M', o = .returned v ∧ Post v M' ∧ Wd G (0, 0, n + dn, md) M' t.heap) dk ds (Ab G)
/-- the room that a frame has -/
def Rm (f : FC) (l : Launch) (D DK DS : Nat) : Prop := f.2.1 = l ∧ D ≤ f.2.2.2.1.frames ∧ 40 * D ≤ f.2.2.2.1.locals ∧ DK ≤ f.2.2.2.1.cells ∧ DS ≤ f.2.2.2.1.slots
/-- what a frame owes at its end -/
def Rt (f : FC) (G : GC) (ret : Option FieldType) (dk ds n md : Nat) (Post : Option Value → Mm → Prop) : Prop := match f with
  | (_, _, _, _, s, _, args, below, meth, _, Q) => meth.sig.returnType = ret ∧ Q = MQ below (fun _ _ o t => ∃ v M', o = .returned v ∧ Post v M' ∧ Wd G (0, 0, n, md) M' t.heap) args s dk ds (Ab G)
theorem Con.mono {l : Launch} {G : GC} {n md d : Nat} {y : MethodName} {cc : ByteArray} {nL : Nat} {ret : Option FieldType} {av : List Value} {M : Mm} {dk ds dn : Nat} {Post Post' : Option Value → Mm → Prop} (h : Con l G n md d y cc nL ret av M dk ds dn Post) (hp : ∀ v M', Post v M' → Post' v M') : Con l G n md d y cc nL ret av M dk ds dn Post' := by
  intro p e a1 a2 a3 s m args below b1 b2 b3 b4
  obtain ⟨k, o, h1, h2, h3, ⟨⟨v, M', h4, h5, h6⟩, h7⟩⟩ := h p e a1 a2 a3 s m args below b1 b2 b3 b4
  exact ⟨k, o, h1, h2, h3, ⟨⟨v, M', h4, hp v M' h5, h6⟩, h7⟩⟩
theorem Con.of {l : Launch} {G : GC} {n md d : Nat} {y : MethodName} {cc : ByteArray} {nL : Nat} {ret : Option FieldType} {av : List Value} {M : Mm} {dk ds dn : Nat} {Post : Option Value → Mm → Prop}
    (hy : plainName y.cls = true) (hL : (lg_sl av).length ≤ nL)
    (body : ∀ f : FC, Ctx f G y.cls cc nL → Rm f l d dk ds → Rt f G ret dk ds (n + dn) md Post → f.2.2.2.2.2.2.2.2.1.name = y.name → Vc f G (0, 0, n, md) M 0 (lv_args 0 av) []) : Con l G n md d y cc nL ret av M dk ds dn Post := by
  refine Met.ofW (cc := cc) (maxL := nL) (ret := ret) hy rfl ?_
  intro p e s m args below meth c s₁ B hml hv
  obtain ⟨rfl, hW, hvk⟩ := hv
  have hts := atoms_spec (ws := .code y cc nL ret :: lw_w) B.pre
  have hsz : gb G ≤ s.heap.size := by rw [hW.2.1]; exact Nat.le_add_right _ _
  have key := body (p, l, e, (headSpec (.code y cc nL ret :: lw_w) (rmOf d dk ds)).room, s, m, av.toArray, below, meth, c, MQ below (fun _ _ o t => ∃ v M', o = .returned v ∧ Post v M' ∧ Wd G (0, 0, n + dn, md) M' t.heap) av.toArray s dk ds (Ab G))
    ⟨B.exec, B.bytes, hml, findClass_of_methodNamed B.named, fun w hw => hts w (List.mem_cons_of_mem _ hw), B.notSynchronized, hvk, hsz, hW.2.2.1⟩
    ⟨rfl, Nat.le_refl _, Nat.le_refl _, Nat.le_refl _, Nat.le_refl _⟩ ⟨B.returns, rfl⟩ (name_of_methodNamed B.named B.method).1
  rw [lg_entry_eq]
  have hl := lv_entry av (n := nL) hL
  rw [← hml] at hl ⊢
  exact key s.heap [] _ hW va_S.rf hl
section VR
variable {f : FC} {G : GC} {ph : Ph} {M : Mm} {own : String} {cc : ByteArray} {nL pc : Nat} {lv : List (Nat × Value)} {rest : List Value}
theorem v_iret (C : Ctx f G own cc nL) {dk ds n md : Nat} {ty : FieldType} {Post : Option Value → Mm → Prop} (hR : Rt f G (some ty) dk ds n md Post) {x : Int32} (hty : narrow ty (.int x) = .int x) (hd : decode cc pc = .ok (.ireturn, 1)) (hP : Post (some (.int x)) M) : Vc f G (dk, ds, n, md) M pc lv [.int x] := by
  obtain ⟨p, l0, e, R, s, m, args, below, meth, c, Q⟩ := f
  obtain ⟨hx, hb, hml, ho, hts, hlk, hvk, hbs, hlow⟩ := C
  intro H locs ls hW hS hl
  obtain ⟨hr, hQ⟩ := hR
  subst hQ
  exact W.zret hx hb hr hty (fun t ht _ => ⟨_, M, rfl, hP, by rw [ht]; exact hW⟩) hS.2.2 hd
theorem v_ret (C : Ctx f G own cc nL) {dk ds n md : Nat} {Post : Option Value → Mm → Prop} (hR : Rt f G none dk ds n md Post) (hd : decode cc pc = .ok (.return_, 1)) (hP : Post none M) : Vc f G (dk, ds, n, md) M pc lv [] := by
  obtain ⟨p, l0, e, R, s, m, args, below, meth, c, Q⟩ := f
  obtain ⟨hx, hb, hml, ho, hts, hlk, hvk, hbs, hlow⟩ := C
  intro H locs ls hW hS hl
  obtain ⟨hr, hQ⟩ := hR
  subst hQ
  exact W.vret hx hb hr (fun t ht _ => ⟨_, M, rfl, hP, by rw [ht]; exact hW⟩) hS.2.2 hd
theorem v_aret (C : Ctx f G own cc nL) {dk ds n md : Nat} {rt : FieldType} {Post : Option Value → Mm → Prop} (hR : Rt f G (some rt) dk ds n md Post) {x : Nat} (hrt : (∃ n, rt = .object n) ∨ ∃ t, rt = .array t) (hd : decode cc pc = .ok (.areturn, 1)) (hP : Post (some (.ref x)) M) : Vc f G (dk, ds, n, md) M pc lv [.ref x] := by
  obtain ⟨p, l0, e, R, s, m, args, below, meth, c, Q⟩ := f
  obtain ⟨hx, hb, hml, ho, hts, hlk, hvk, hbs, hlow⟩ := C
  intro H locs ls hW hS hl
  obtain ⟨hr, hQ⟩ := hR
  subst hQ
  exact W.aret hx hb hr hrt (Or.inr ⟨x, rfl⟩) (fun t ht _ => ⟨_, M, rfl, hP, by rw [ht]; exact hW⟩) hS.2.2 hd
/-- what a call needs of its method's words -/
def CwS (y : MethodName) (cy : ByteArray) (nLy : Nat) (ret : Option FieldType) (n : Nat) : Prop := Cond.initialized y.cls ∈ lw_w ∧ Cond.code y cy nLy ret ∈ lw_w ∧ nLy ≤ 21 ∧ (y.cls ≠ "java/lang/invoke/MethodHandle" ∧ y.cls ≠ "java/lang/invoke/VarHandle" ∧ (parseMethodDescriptor y.desc).map (fun d => d.parameters.length) = some n)
def CwV (y : MethodName) (cy : ByteArray) (nLy : Nat) (ret : Option FieldType) (n : Nat) : Prop := CwS y cy nLy ret n ∧ Cond.instanceMethod y ∈ lw_w ∧ Cond.selects y.cls y y ∈ lw_w
theorem v_after {Qc : State → Outcome → State → Prop} {p : Program} {l : Launch} {e : Env} {R : Room} {s : State} {m : MethodId} {args : Array Value} {below : List Frame} {meth : Method} {c : Code} {Q : State → Prop} {H : Heap} {locs : List Loc} {ls : Array Slot} {st0 : List Value} {dk ds dn : Nat} {Post : Option Value → Mm → Prop} (hW : Wd G ph M H) (hS : va_S (Ab G) s.heap H locs) (hl : lv_has ls c.maxLocals lv)
    (hr : va_Run p l e R s m args below meth c H locs ph.1 ph.2.1 dk ds (F0 m pc ls st0) rest (fun st o t => ∃ v M', o = .returned v ∧ Post v M' ∧ Wd G (0, 0, ph.2.2.1 + dn, ph.2.2.2) M' t.heap) (Ab G))
    (kk : ∀ v M', Post v M' → Vc (p, l, e, R, s, m, args, below, meth, c, Q) G (ph.1 + dk, ph.2.1 + ds, ph.2.2.1 + dn, ph.2.2.2) M' (pc + 3) lv (v.toList ++ rest)) : W p l e R s m args below meth c H locs ph.1 ph.2.1 Q (F0 m pc ls st0) := by
  intro T hT X
  obtain ⟨v, st₀, t, T', L, h0, X', hL, e1, e2, ⟨v2, M', hv, hP, hW2⟩, st⟩ := hr T hT X
  cases hv
  rw [← e1] at hW2
  have hz : H.size ≤ T'.heap.size := by rw [hW.2.1, hW2.2.1]; show gb G + ph.2.2.1 ≤ gb G + (ph.2.2.1 + dn); omega
  obtain ⟨t2, a1, b1⟩ := kk _ M' hP T'.heap (locs ++ L) ls hW2 ⟨Nat.le_trans hS.1 hz, fun q h1 h2 => by
    have hq : q < gb G := Nat.not_le.mp h2
    rw [hW2.2.2.1 q hq, ← hW.2.2.1 q hq]
    exact hS.2.1 q h1 h2, fun q hq => by
      rcases List.mem_append.mp hq with h | h
      · exact hS.2.2 q h
      · exact hL q h⟩ hl T' rfl X'
  exact ⟨t2, st t2 a1, b1⟩
theorem con_blind {av : List Value} {n md : Nat} : FrameBlind (fun a U => a = av.toArray ∧ Wd G (0, 0, n, md) M U.heap ∧ VmOk G U) := fun a U g mk q => ⟨q.1, q.2.1, q.2.2.same (u := U) (U := U.calling g mk a) rfl⟩
theorem v_callV (C : Ctx f G own cc nL) {l : Launch} {D DK DS : Nat} (hRm : Rm f l D DK DS) {y : MethodName} {cy : ByteArray} {nLy : Nat} {ret : Option FieldType} {d dk ds dn : Nat} {Post : Option Value → Mm → Prop} {k ci index nn : Nat} {As st : List Value} {T : u_T} {N : Nat}
    (cw : CwV y cy nLy ret nn) (hlink : Cond.methodLink own index y ∈ lw_w) (hk : k < ph.2.2.1) (hs : shp k = ci) (hci : ci < 20) (hcl : vwCl[ci]? = some (y.cls, T, N))
    (hc : Con l G ph.2.2.1 ph.2.2.2 d y cy nLy ret (.ref (gb G + k) :: As) M dk ds dn Post) (hD : d + 1 ≤ D) (hkd : ph.1 + dk ≤ DK ∧ ph.2.1 + ds ≤ DS) (hn : As.length = nn) (hst : st = As.reverse ++ .ref (gb G + k) :: rest) (hrest : (rest.map fun v => v.category).sum ≤ 8) (hd : decode cc pc = .ok (.invokevirtual index, 3))
    (kk : ∀ v M', Post v M' → Vc f G (ph.1 + dk, ph.2.1 + ds, ph.2.2.1 + dn, ph.2.2.2) M' (pc + 3) lv (v.toList ++ rest)) : Vc f G ph M pc lv st := by
  obtain ⟨p, l0, e, R, s, m, args, below, meth, c, Q⟩ := f
  obtain ⟨hx, hb, hml, ho, hts, hlk, hvk, hbs, hlow⟩ := C
  intro H locs ls hW hS hl
  obtain ⟨rfl, r1, r2, r3, r4⟩ := hRm
  dsimp only at r1 r2 r3 r4
  obtain ⟨⟨c1, c2, c3, c4⟩, c5, c6⟩ := cw
  have hcw : CallW R s args own y.cls index y cy nLy ret (.code y cy nLy ret :: lw_w) (rmOf d dk ds) dk ds nn := ⟨callB_of nn hts (lw_goodc c2) rfl rfl rfl (hts _ c1) (hts _ hlink) c4 ⟨by show d + 1 ≤ _; omega, by show 8 + (nLy + 11) + 40 * d ≤ _; omega⟩, hts _ c5, hts _ c6⟩
  have hobj := hW.obj hk hs hci
  have hrecv : ∃ cellB : Cell, H[gb G + k]? = some cellB ∧ cellB.vm.isStatics = false ∧ s.vm.findClass y.cls = some cellB.cls := by
    obtain ⟨r, h1, cell, q1, q2, q3, q4⟩ := hobj
    have hr : r = (y.cls, T, N) := Option.some.inj (h1.symm.trans hcl)
    subst hr
    exact ⟨cell, q1, by rw [q3]; rfl, by rw [q2]; exact (hvk.cls hcl).2.1⟩
  subst hst
  refine v_after (Qc := fun _ _ _ => True) hW hS hl ?_ kk
  exact va_runV (As := As) (rest := rest) ⟨hx, hb, hml, ho, hts⟩ hc hcw ⟨con_blind, hrecv, fun U hU hwU => ⟨rfl, by rw [hU]; exact hW, hvk.warm hwU⟩⟩ rfl hn (by rw [hl.1]; exact hml) rfl (lv_room hrest) hd ⟨by omega, by omega⟩
theorem v_callS (C : Ctx f G own cc nL) {l : Launch} {D DK DS : Nat} (hRm : Rm f l D DK DS) {y : MethodName} {cy : ByteArray} {nLy : Nat} {ret : Option FieldType} {d dk ds dn : Nat} {Post : Option Value → Mm → Prop} {index nn : Nat} {As st : List Value}
    (cw : CwS y cy nLy ret nn) (hstat : Cond.static y ∈ lw_w) (hlink : Cond.methodLink own index y ∈ lw_w)
    (hc : Con l G ph.2.2.1 ph.2.2.2 d y cy nLy ret As M dk ds dn Post) (hD : d + 1 ≤ D) (hkd : ph.1 + dk ≤ DK ∧ ph.2.1 + ds ≤ DS) (hn : As.length = nn) (hst : st = As.reverse ++ rest) (hrest : (rest.map fun v => v.category).sum ≤ 8) (hd : decode cc pc = .ok (.invokestatic index, 3))
    (kk : ∀ v M', Post v M' → Vc f G (ph.1 + dk, ph.2.1 + ds, ph.2.2.1 + dn, ph.2.2.2) M' (pc + 3) lv (v.toList ++ rest)) : Vc f G ph M pc lv st := by
  obtain ⟨p, l0, e, R, s, m, args, below, meth, c, Q⟩ := f
  obtain ⟨hx, hb, hml, ho, hts, hlk, hvk, hbs, hlow⟩ := C
  intro H locs ls hW hS hl
  obtain ⟨rfl, r1, r2, r3, r4⟩ := hRm
  dsimp only at r1 r2 r3 r4
  obtain ⟨c1, c2, c3, c4⟩ := cw
  subst hst
  refine v_after (Qc := fun _ _ _ => True) hW hS hl ?_ kk
  exact va_runS (As := As) (rest := rest) ⟨hx, hb, hml, ho, hts⟩ hc ⟨callB_of nn hts (lw_goodc c2) rfl rfl rfl (hts _ c1) (hts _ hlink) c4 ⟨by show d + 1 ≤ _; omega, by show 8 + (nLy + 11) + 40 * d ≤ _; omega⟩, hts _ hstat⟩ ⟨con_blind, fun U hU hwU => ⟨rfl, by rw [hU]; exact hW, hvk.warm hwU⟩⟩ rfl hn (by rw [hl.1]; exact hml) rfl (lv_room hrest) hd ⟨by omega, by omega⟩
theorem v_callSN (C : Ctx f G own cc nL) {l : Launch} {D DK DS : Nat} (hRm : Rm f l D DK DS) {y : MethodName} {cy : ByteArray} {nLy : Nat} {ret : Option FieldType} {d dk ds dn : Nat} {Post : Option Value → Mm → Prop} {index nn : Nat} {As st : List Value} {host : String}
    (cw : CwS y cy nLy ret nn) (hstat : Cond.static y ∈ lw_w) (hlink : (own, index, y, host) ∈ nestM)
    (hc : Con l G ph.2.2.1 ph.2.2.2 d y cy nLy ret As M dk ds dn Post) (hD : d + 1 ≤ D) (hkd : ph.1 + dk ≤ DK ∧ ph.2.1 + ds ≤ DS) (hn : As.length = nn) (hst : st = As.reverse ++ rest) (hrest : (rest.map fun v => v.category).sum ≤ 8) (hd : decode cc pc = .ok (.invokestatic index, 3))
    (kk : ∀ v M', Post v M' → Vc f G (ph.1 + dk, ph.2.1 + ds, ph.2.2.1 + dn, ph.2.2.2) M' (pc + 3) lv (v.toList ++ rest)) : Vc f G ph M pc lv st := by
  obtain ⟨p, l0, e, R, s, m, args, below, meth, c, Q⟩ := f
  obtain ⟨hx, hb, hml, ho, hts, hlk, hvk, hbs, hlow⟩ := C
  intro H locs ls hW hS hl
  obtain ⟨rfl, r1, r2, r3, r4⟩ := hRm
  dsimp only at r1 r2 r3 r4
  obtain ⟨c1, c2, c3, c4⟩ := cw
  subst hst
  refine v_after (Qc := fun _ _ _ => True) hW hS hl ?_ kk
  have hnw : va_Nw (.methodLinkNest own index y host) s := hvk.2.2.2.2.2.2.1 _ hlink
  exact va_runSN (As := As) (rest := rest) ⟨hx, hb, hml, ho, hts⟩ hc ⟨va_cnB nn hts (lw_goodc c2) rfl rfl rfl hnw (hts _ c1) c4 ⟨by show d + 1 ≤ _; omega, by show 8 + (nLy + 11) + 40 * d ≤ _; omega⟩, hts _ hstat, trivial⟩ ⟨con_blind, fun U hU hwU => ⟨rfl, by rw [hU]; exact hW, hvk.warm hwU⟩⟩ rfl hn (by rw [hl.1]; exact hml) rfl (lv_room hrest) hd ⟨by omega, by omega⟩
theorem v_callI (C : Ctx f G own cc nL) {l : Launch} {D DK DS : Nat} (hRm : Rm f l D DK DS) {y : MethodName} {cy : ByteArray} {nLy : Nat} {d dk ds dn : Nat} {Post : Option Value → Mm → Prop} {k index nn : Nat} {As st : List Value}
    (cw : CwS y cy nLy none nn) (hinst : Cond.instanceMethod y ∈ lw_w) (hy1 : y.name = "<init>") (hlink : Cond.methodLink own index y ∈ lw_w)
    (hc : Con l G ph.2.2.1 ph.2.2.2 d y cy nLy none (.ref (gb G + k) :: As) M dk ds dn Post) (hD : d + 1 ≤ D) (hkd : ph.1 + dk ≤ DK ∧ ph.2.1 + ds ≤ DS) (hn : As.length = nn) (hst : st = As.reverse ++ .ref (gb G + k) :: rest) (hrest : (rest.map fun v => v.category).sum ≤ 8) (hd : decode cc pc = .ok (.invokespecial index, 3))
    (kk : ∀ v M', Post v M' → Vc f G (ph.1 + dk, ph.2.1 + ds, ph.2.2.1 + dn, ph.2.2.2) M' (pc + 3) lv (v.toList ++ rest)) : Vc f G ph M pc lv st := by
  obtain ⟨p, l0, e, R, s, m, args, below, meth, c, Q⟩ := f
  obtain ⟨hx, hb, hml, ho, hts, hlk, hvk, hbs, hlow⟩ := C
  intro H locs ls hW hS hl
  obtain ⟨rfl, r1, r2, r3, r4⟩ := hRm
  dsimp only at r1 r2 r3 r4
  obtain ⟨c1, c2, c3, c4⟩ := cw
  subst hst
  refine v_after (Qc := fun _ _ _ => True) hW hS hl ?_ kk
  exact va_runI (As := As) (rest := rest) ⟨hx, hb, hml, ho, hts⟩ hc ⟨callB_of nn hts (lw_goodc c2) rfl rfl rfl (hts _ c1) (hts _ hlink) c4 ⟨by show d + 1 ≤ _; omega, by show 8 + (nLy + 11) + 40 * d ≤ _; omega⟩, hy1, hts _ hinst⟩ ⟨con_blind, fun U hU hwU => ⟨rfl, by rw [hU]; exact hW, hvk.warm hwU⟩⟩ rfl hn (by rw [hl.1]; exact hml) rfl (lv_room hrest) hd ⟨by omega, by omega⟩
theorem v_callIN (C : Ctx f G own cc nL) {l : Launch} {D DK DS : Nat} (hRm : Rm f l D DK DS) {y : MethodName} {cy : ByteArray} {nLy : Nat} {d dk ds dn : Nat} {Post : Option Value → Mm → Prop} {k index nn : Nat} {As st : List Value} {host : String}
    (cw : CwS y cy nLy none nn) (hinst : Cond.instanceMethod y ∈ lw_w) (hy1 : y.name = "<init>") (hlink : (own, index, y, host) ∈ nestM)
    (hc : Con l G ph.2.2.1 ph.2.2.2 d y cy nLy none (.ref (gb G + k) :: As) M dk ds dn Post) (hD : d + 1 ≤ D) (hkd : ph.1 + dk ≤ DK ∧ ph.2.1 + ds ≤ DS) (hn : As.length = nn) (hst : st = As.reverse ++ .ref (gb G + k) :: rest) (hrest : (rest.map fun v => v.category).sum ≤ 8) (hd : decode cc pc = .ok (.invokespecial index, 3))
    (kk : ∀ v M', Post v M' → Vc f G (ph.1 + dk, ph.2.1 + ds, ph.2.2.1 + dn, ph.2.2.2) M' (pc + 3) lv (v.toList ++ rest)) : Vc f G ph M pc lv st := by
  obtain ⟨p, l0, e, R, s, m, args, below, meth, c, Q⟩ := f
  obtain ⟨hx, hb, hml, ho, hts, hlk, hvk, hbs, hlow⟩ := C
  intro H locs ls hW hS hl
  obtain ⟨rfl, r1, r2, r3, r4⟩ := hRm
  dsimp only at r1 r2 r3 r4
  obtain ⟨c1, c2, c3, c4⟩ := cw
  subst hst
  refine v_after (Qc := fun _ _ _ => True) hW hS hl ?_ kk
  have hnw : va_Nw (.methodLinkNest own index y host) s := hvk.2.2.2.2.2.2.1 _ hlink
  exact va_runIN (As := As) (rest := rest) ⟨hx, hb, hml, ho, hts⟩ hc ⟨va_cnB nn hts (lw_goodc c2) rfl rfl rfl hnw (hts _ c1) c4 ⟨by show d + 1 ≤ _; omega, by show 8 + (nLy + 11) + 40 * d ≤ _; omega⟩, hy1, hts _ hinst⟩ ⟨con_blind, fun U hU hwU => ⟨rfl, by rw [hU]; exact hW, hvk.warm hwU⟩⟩ rfl hn (by rw [hl.1]; exact hml) rfl (lv_room hrest) hd ⟨by omega, by omega⟩
end VR
end
