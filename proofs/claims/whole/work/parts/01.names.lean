-- ===== PART A: goes FIRST, ahead of the names: the tables' words, and 'selects' of the private methods out of them =====
/-- a private method of a class that the tables say can be made, by its rows of tables_1 -/
def lw_okq (q : MethodName × Nat) : Prop := (q.1.cls ≠ "java/lang/invoke/MethodHandle" ∧ q.1.cls ≠ "java/lang/invoke/VarHandle") ∧ Cond.instantiable q.1.cls q.2 ∈ tables_1 ∧ Cond.privateMethod q.1 ∈ tables_1 ∧ Cond.instanceMethod q.1 ∈ tables_1
theorem lw_p0 : lw_okq (⟨"BreakTime", "error", "(I)I"⟩, 9) := ⟨⟨by decide +kernel, by decide +kernel⟩, List.mem_of_getElem? (i := 22) (by decide +kernel), List.mem_of_getElem? (i := 341) (by decide +kernel), List.mem_of_getElem? (i := 342) (by decide +kernel)⟩
theorem lw_p1 : lw_okq (⟨"BreakTime", "noChild", "(I)Z"⟩, 9) := ⟨⟨by decide +kernel, by decide +kernel⟩, List.mem_of_getElem? (i := 22) (by decide +kernel), List.mem_of_getElem? (i := 350) (by decide +kernel), List.mem_of_getElem? (i := 351) (by decide +kernel)⟩
theorem lw_p2 : lw_okq (⟨"BreakTime", "ofChild", "(LBreakTime$Yard;II)I"⟩, 9) := ⟨⟨by decide +kernel, by decide +kernel⟩, List.mem_of_getElem? (i := 22) (by decide +kernel), List.mem_of_getElem? (i := 354) (by decide +kernel), List.mem_of_getElem? (i := 355) (by decide +kernel)⟩
theorem lw_p3 : lw_okq (⟨"BreakTime", "noHeap", "(I)Z"⟩, 9) := ⟨⟨by decide +kernel, by decide +kernel⟩, List.mem_of_getElem? (i := 22) (by decide +kernel), List.mem_of_getElem? (i := 405) (by decide +kernel), List.mem_of_getElem? (i := 406) (by decide +kernel)⟩
theorem lw_p4 : lw_okq (⟨"BreakTimeModel", "finding", "(I)I"⟩, 24) := ⟨⟨by decide +kernel, by decide +kernel⟩, List.mem_of_getElem? (i := 896) (by decide +kernel), List.mem_of_getElem? (i := 987) (by decide +kernel), List.mem_of_getElem? (i := 988) (by decide +kernel)⟩
theorem lw_p5 : lw_okq (⟨"BreakTimeModel", "is", "(II)Z"⟩, 24) := ⟨⟨by decide +kernel, by decide +kernel⟩, List.mem_of_getElem? (i := 896) (by decide +kernel), List.mem_of_getElem? (i := 997) (by decide +kernel), List.mem_of_getElem? (i := 998) (by decide +kernel)⟩
theorem lw_p6 : lw_okq (⟨"BreakTimeModel", "childTold", "(II)I"⟩, 24) := ⟨⟨by decide +kernel, by decide +kernel⟩, List.mem_of_getElem? (i := 896) (by decide +kernel), List.mem_of_getElem? (i := 1001) (by decide +kernel), List.mem_of_getElem? (i := 1002) (by decide +kernel)⟩
theorem lw_p7 : lw_okq (⟨"BreakTimeModel", "of", "(II)I"⟩, 24) := ⟨⟨by decide +kernel, by decide +kernel⟩, List.mem_of_getElem? (i := 896) (by decide +kernel), List.mem_of_getElem? (i := 1005) (by decide +kernel), List.mem_of_getElem? (i := 1006) (by decide +kernel)⟩
theorem lw_p8 : lw_okq (⟨"BreakTimeModel", "slipOf", "(I)I"⟩, 24) := ⟨⟨by decide +kernel, by decide +kernel⟩, List.mem_of_getElem? (i := 896) (by decide +kernel), List.mem_of_getElem? (i := 1009) (by decide +kernel), List.mem_of_getElem? (i := 1010) (by decide +kernel)⟩
theorem lw_p9 : lw_okq (⟨"BreakTimeModel", "likesOf", "(II)I"⟩, 24) := ⟨⟨by decide +kernel, by decide +kernel⟩, List.mem_of_getElem? (i := 896) (by decide +kernel), List.mem_of_getElem? (i := 1016) (by decide +kernel), List.mem_of_getElem? (i := 1017) (by decide +kernel)⟩
theorem lw_p10 : lw_okq (⟨"BreakTimeModel", "namedOf", "(I)I"⟩, 24) := ⟨⟨by decide +kernel, by decide +kernel⟩, List.mem_of_getElem? (i := 896) (by decide +kernel), List.mem_of_getElem? (i := 1020) (by decide +kernel), List.mem_of_getElem? (i := 1021) (by decide +kernel)⟩
theorem lw_p11 : lw_okq (⟨"BreakTimeModel", "become", "(II)I"⟩, 24) := ⟨⟨by decide +kernel, by decide +kernel⟩, List.mem_of_getElem? (i := 896) (by decide +kernel), List.mem_of_getElem? (i := 1036) (by decide +kernel), List.mem_of_getElem? (i := 1037) (by decide +kernel)⟩
theorem lw_p12 : lw_okq (⟨"BreakTimeModel", "heapOf", "(II)I"⟩, 24) := ⟨⟨by decide +kernel, by decide +kernel⟩, List.mem_of_getElem? (i := 896) (by decide +kernel), List.mem_of_getElem? (i := 1052) (by decide +kernel), List.mem_of_getElem? (i := 1053) (by decide +kernel)⟩
theorem lw_p13 : lw_okq (⟨"BreakTimeModel", "inHeap", "(I)I"⟩, 24) := ⟨⟨by decide +kernel, by decide +kernel⟩, List.mem_of_getElem? (i := 896) (by decide +kernel), List.mem_of_getElem? (i := 1056) (by decide +kernel), List.mem_of_getElem? (i := 1057) (by decide +kernel)⟩
theorem lw_p14 : lw_okq (⟨"BreakTimeModel", "goesTo", "(II)V"⟩, 24) := ⟨⟨by decide +kernel, by decide +kernel⟩, List.mem_of_getElem? (i := 896) (by decide +kernel), List.mem_of_getElem? (i := 1069) (by decide +kernel), List.mem_of_getElem? (i := 1070) (by decide +kernel)⟩
theorem lw_p15 : lw_okq (⟨"BreakTimeModel", "isFew", "(I)Z"⟩, 24) := ⟨⟨by decide +kernel, by decide +kernel⟩, List.mem_of_getElem? (i := 896) (by decide +kernel), List.mem_of_getElem? (i := 1073) (by decide +kernel), List.mem_of_getElem? (i := 1074) (by decide +kernel)⟩
def lw_privs_1 : List (MethodName × Nat) := [(⟨"BreakTime", "error", "(I)I"⟩, 9), (⟨"BreakTime", "noChild", "(I)Z"⟩, 9), (⟨"BreakTime", "ofChild", "(LBreakTime$Yard;II)I"⟩, 9), (⟨"BreakTime", "noHeap", "(I)Z"⟩, 9), (⟨"BreakTimeModel", "finding", "(I)I"⟩, 24), (⟨"BreakTimeModel", "is", "(II)Z"⟩, 24), (⟨"BreakTimeModel", "childTold", "(II)I"⟩, 24), (⟨"BreakTimeModel", "of", "(II)I"⟩, 24), (⟨"BreakTimeModel", "slipOf", "(I)I"⟩, 24), (⟨"BreakTimeModel", "likesOf", "(II)I"⟩, 24), (⟨"BreakTimeModel", "namedOf", "(I)I"⟩, 24), (⟨"BreakTimeModel", "become", "(II)I"⟩, 24), (⟨"BreakTimeModel", "heapOf", "(II)I"⟩, 24), (⟨"BreakTimeModel", "inHeap", "(I)I"⟩, 24), (⟨"BreakTimeModel", "goesTo", "(II)V"⟩, 24), (⟨"BreakTimeModel", "isFew", "(I)Z"⟩, 24)]
theorem lw_r1 : ∀ q ∈ lw_privs_1, lw_okq q := List.forall_mem_cons.mpr ⟨lw_p0, List.forall_mem_cons.mpr ⟨lw_p1, List.forall_mem_cons.mpr ⟨lw_p2, List.forall_mem_cons.mpr ⟨lw_p3, List.forall_mem_cons.mpr ⟨lw_p4, List.forall_mem_cons.mpr ⟨lw_p5, List.forall_mem_cons.mpr ⟨lw_p6, List.forall_mem_cons.mpr ⟨lw_p7, List.forall_mem_cons.mpr ⟨lw_p8, List.forall_mem_cons.mpr ⟨lw_p9, List.forall_mem_cons.mpr ⟨lw_p10, List.forall_mem_cons.mpr ⟨lw_p11, List.forall_mem_cons.mpr ⟨lw_p12, List.forall_mem_cons.mpr ⟨lw_p13, List.forall_mem_cons.mpr ⟨lw_p14, List.forall_mem_cons.mpr ⟨lw_p15, fun _ h => absurd h List.not_mem_nil⟩⟩⟩⟩⟩⟩⟩⟩⟩⟩⟩⟩⟩⟩⟩⟩
theorem lw_p16 : lw_okq (⟨"BreakTimeModel", "warmth", "(II)I"⟩, 24) := ⟨⟨by decide +kernel, by decide +kernel⟩, List.mem_of_getElem? (i := 896) (by decide +kernel), List.mem_of_getElem? (i := 1088) (by decide +kernel), List.mem_of_getElem? (i := 1089) (by decide +kernel)⟩
theorem lw_p17 : lw_okq (⟨"BreakTimeModel", "chance", "(II)I"⟩, 24) := ⟨⟨by decide +kernel, by decide +kernel⟩, List.mem_of_getElem? (i := 896) (by decide +kernel), List.mem_of_getElem? (i := 1092) (by decide +kernel), List.mem_of_getElem? (i := 1093) (by decide +kernel)⟩
theorem lw_p18 : lw_okq (⟨"BreakTimeModel", "hasText", "(I)Z"⟩, 24) := ⟨⟨by decide +kernel, by decide +kernel⟩, List.mem_of_getElem? (i := 896) (by decide +kernel), List.mem_of_getElem? (i := 1096) (by decide +kernel), List.mem_of_getElem? (i := 1097) (by decide +kernel)⟩
theorem lw_p19 : lw_okq (⟨"BreakTimeModel", "watching", "(II)I"⟩, 24) := ⟨⟨by decide +kernel, by decide +kernel⟩, List.mem_of_getElem? (i := 896) (by decide +kernel), List.mem_of_getElem? (i := 1100) (by decide +kernel), List.mem_of_getElem? (i := 1101) (by decide +kernel)⟩
theorem lw_p20 : lw_okq (⟨"BreakTimeModel", "agesApart", "(II)I"⟩, 24) := ⟨⟨by decide +kernel, by decide +kernel⟩, List.mem_of_getElem? (i := 896) (by decide +kernel), List.mem_of_getElem? (i := 1104) (by decide +kernel), List.mem_of_getElem? (i := 1105) (by decide +kernel)⟩
theorem lw_p21 : lw_okq (⟨"BreakTimeModel", "given", "(IIIIII)I"⟩, 24) := ⟨⟨by decide +kernel, by decide +kernel⟩, List.mem_of_getElem? (i := 896) (by decide +kernel), List.mem_of_getElem? (i := 1109) (by decide +kernel), List.mem_of_getElem? (i := 1110) (by decide +kernel)⟩
theorem lw_p22 : lw_okq (⟨"BreakTimeModel", "worked", "(I)I"⟩, 24) := ⟨⟨by decide +kernel, by decide +kernel⟩, List.mem_of_getElem? (i := 896) (by decide +kernel), List.mem_of_getElem? (i := 1113) (by decide +kernel), List.mem_of_getElem? (i := 1114) (by decide +kernel)⟩
theorem lw_p23 : lw_okq (⟨"BreakTimeModel", "plainChance", "(II)I"⟩, 24) := ⟨⟨by decide +kernel, by decide +kernel⟩, List.mem_of_getElem? (i := 896) (by decide +kernel), List.mem_of_getElem? (i := 1125) (by decide +kernel), List.mem_of_getElem? (i := 1126) (by decide +kernel)⟩
theorem lw_p24 : lw_okq (⟨"BreakTimeModel", "fondest", "(II)I"⟩, 24) := ⟨⟨by decide +kernel, by decide +kernel⟩, List.mem_of_getElem? (i := 896) (by decide +kernel), List.mem_of_getElem? (i := 1129) (by decide +kernel), List.mem_of_getElem? (i := 1130) (by decide +kernel)⟩
theorem lw_p25 : lw_okq (⟨"BreakTimeModel", "likesNobody", "(II)Z"⟩, 24) := ⟨⟨by decide +kernel, by decide +kernel⟩, List.mem_of_getElem? (i := 896) (by decide +kernel), List.mem_of_getElem? (i := 1133) (by decide +kernel), List.mem_of_getElem? (i := 1134) (by decide +kernel)⟩
theorem lw_p26 : lw_okq (⟨"BreakTimeModel", "either", "()V"⟩, 24) := ⟨⟨by decide +kernel, by decide +kernel⟩, List.mem_of_getElem? (i := 896) (by decide +kernel), List.mem_of_getElem? (i := 1146) (by decide +kernel), List.mem_of_getElem? (i := 1147) (by decide +kernel)⟩
theorem lw_p27 : lw_okq (⟨"BreakTimeModel", "both", "()V"⟩, 24) := ⟨⟨by decide +kernel, by decide +kernel⟩, List.mem_of_getElem? (i := 896) (by decide +kernel), List.mem_of_getElem? (i := 1150) (by decide +kernel), List.mem_of_getElem? (i := 1151) (by decide +kernel)⟩
theorem lw_p28 : lw_okq (⟨"BreakTimeModel", "compared", "()V"⟩, 24) := ⟨⟨by decide +kernel, by decide +kernel⟩, List.mem_of_getElem? (i := 896) (by decide +kernel), List.mem_of_getElem? (i := 1154) (by decide +kernel), List.mem_of_getElem? (i := 1155) (by decide +kernel)⟩
theorem lw_p29 : lw_okq (⟨"BreakTimeModel", "sum", "()V"⟩, 24) := ⟨⟨by decide +kernel, by decide +kernel⟩, List.mem_of_getElem? (i := 896) (by decide +kernel), List.mem_of_getElem? (i := 1158) (by decide +kernel), List.mem_of_getElem? (i := 1159) (by decide +kernel)⟩
theorem lw_p30 : lw_okq (⟨"BreakTimeModel", "product", "()V"⟩, 24) := ⟨⟨by decide +kernel, by decide +kernel⟩, List.mem_of_getElem? (i := 896) (by decide +kernel), List.mem_of_getElem? (i := 1162) (by decide +kernel), List.mem_of_getElem? (i := 1163) (by decide +kernel)⟩
theorem lw_p31 : lw_okq (⟨"BreakTimeModel", "one", "()V"⟩, 24) := ⟨⟨by decide +kernel, by decide +kernel⟩, List.mem_of_getElem? (i := 896) (by decide +kernel), List.mem_of_getElem? (i := 1166) (by decide +kernel), List.mem_of_getElem? (i := 1167) (by decide +kernel)⟩
def lw_privs_2 : List (MethodName × Nat) := [(⟨"BreakTimeModel", "warmth", "(II)I"⟩, 24), (⟨"BreakTimeModel", "chance", "(II)I"⟩, 24), (⟨"BreakTimeModel", "hasText", "(I)Z"⟩, 24), (⟨"BreakTimeModel", "watching", "(II)I"⟩, 24), (⟨"BreakTimeModel", "agesApart", "(II)I"⟩, 24), (⟨"BreakTimeModel", "given", "(IIIIII)I"⟩, 24), (⟨"BreakTimeModel", "worked", "(I)I"⟩, 24), (⟨"BreakTimeModel", "plainChance", "(II)I"⟩, 24), (⟨"BreakTimeModel", "fondest", "(II)I"⟩, 24), (⟨"BreakTimeModel", "likesNobody", "(II)Z"⟩, 24), (⟨"BreakTimeModel", "either", "()V"⟩, 24), (⟨"BreakTimeModel", "both", "()V"⟩, 24), (⟨"BreakTimeModel", "compared", "()V"⟩, 24), (⟨"BreakTimeModel", "sum", "()V"⟩, 24), (⟨"BreakTimeModel", "product", "()V"⟩, 24), (⟨"BreakTimeModel", "one", "()V"⟩, 24)]
theorem lw_r2 : ∀ q ∈ lw_privs_2, lw_okq q := List.forall_mem_cons.mpr ⟨lw_p16, List.forall_mem_cons.mpr ⟨lw_p17, List.forall_mem_cons.mpr ⟨lw_p18, List.forall_mem_cons.mpr ⟨lw_p19, List.forall_mem_cons.mpr ⟨lw_p20, List.forall_mem_cons.mpr ⟨lw_p21, List.forall_mem_cons.mpr ⟨lw_p22, List.forall_mem_cons.mpr ⟨lw_p23, List.forall_mem_cons.mpr ⟨lw_p24, List.forall_mem_cons.mpr ⟨lw_p25, List.forall_mem_cons.mpr ⟨lw_p26, List.forall_mem_cons.mpr ⟨lw_p27, List.forall_mem_cons.mpr ⟨lw_p28, List.forall_mem_cons.mpr ⟨lw_p29, List.forall_mem_cons.mpr ⟨lw_p30, List.forall_mem_cons.mpr ⟨lw_p31, fun _ h => absurd h List.not_mem_nil⟩⟩⟩⟩⟩⟩⟩⟩⟩⟩⟩⟩⟩⟩⟩⟩
theorem lw_p32 : lw_okq (⟨"BreakTimeModel", "here", "()I"⟩, 24) := ⟨⟨by decide +kernel, by decide +kernel⟩, List.mem_of_getElem? (i := 896) (by decide +kernel), List.mem_of_getElem? (i := 1170) (by decide +kernel), List.mem_of_getElem? (i := 1171) (by decide +kernel)⟩
theorem lw_p33 : lw_okq (⟨"BreakTimeModel", "codes", "(I)V"⟩, 24) := ⟨⟨by decide +kernel, by decide +kernel⟩, List.mem_of_getElem? (i := 896) (by decide +kernel), List.mem_of_getElem? (i := 1174) (by decide +kernel), List.mem_of_getElem? (i := 1175) (by decide +kernel)⟩
theorem lw_p34 : lw_okq (⟨"BreakTimeModel", "takes", "(I)Z"⟩, 24) := ⟨⟨by decide +kernel, by decide +kernel⟩, List.mem_of_getElem? (i := 896) (by decide +kernel), List.mem_of_getElem? (i := 1178) (by decide +kernel), List.mem_of_getElem? (i := 1179) (by decide +kernel)⟩
theorem lw_p35 : lw_okq (⟨"BreakTimeModel", "nameOf", "(I)I"⟩, 24) := ⟨⟨by decide +kernel, by decide +kernel⟩, List.mem_of_getElem? (i := 896) (by decide +kernel), List.mem_of_getElem? (i := 1182) (by decide +kernel), List.mem_of_getElem? (i := 1183) (by decide +kernel)⟩
theorem lw_p36 : lw_okq (⟨"BreakTimeModel", "minutesGo", "(I)V"⟩, 24) := ⟨⟨by decide +kernel, by decide +kernel⟩, List.mem_of_getElem? (i := 896) (by decide +kernel), List.mem_of_getElem? (i := 1216) (by decide +kernel), List.mem_of_getElem? (i := 1217) (by decide +kernel)⟩
theorem lw_p37 : lw_okq (⟨"BreakTimeModel", "minute", "()V"⟩, 24) := ⟨⟨by decide +kernel, by decide +kernel⟩, List.mem_of_getElem? (i := 896) (by decide +kernel), List.mem_of_getElem? (i := 1220) (by decide +kernel), List.mem_of_getElem? (i := 1221) (by decide +kernel)⟩
theorem lw_p38 : lw_okq (⟨"BreakTimeModel", "isLetIn", "(I)Z"⟩, 24) := ⟨⟨by decide +kernel, by decide +kernel⟩, List.mem_of_getElem? (i := 896) (by decide +kernel), List.mem_of_getElem? (i := 1224) (by decide +kernel), List.mem_of_getElem? (i := 1225) (by decide +kernel)⟩
theorem lw_p39 : lw_okq (⟨"BreakTimeModel", "bestHeap", "(I)I"⟩, 24) := ⟨⟨by decide +kernel, by decide +kernel⟩, List.mem_of_getElem? (i := 896) (by decide +kernel), List.mem_of_getElem? (i := 1228) (by decide +kernel), List.mem_of_getElem? (i := 1229) (by decide +kernel)⟩
theorem lw_p40 : lw_okq (⟨"BreakTimeModel", "drawn", "(I)I"⟩, 24) := ⟨⟨by decide +kernel, by decide +kernel⟩, List.mem_of_getElem? (i := 896) (by decide +kernel), List.mem_of_getElem? (i := 1232) (by decide +kernel), List.mem_of_getElem? (i := 1233) (by decide +kernel)⟩
theorem lw_p41 : lw_okq (⟨"BreakTimeModel", "fallsApart", "(I)V"⟩, 24) := ⟨⟨by decide +kernel, by decide +kernel⟩, List.mem_of_getElem? (i := 896) (by decide +kernel), List.mem_of_getElem? (i := 1237) (by decide +kernel), List.mem_of_getElem? (i := 1238) (by decide +kernel)⟩
theorem lw_p42 : lw_okq (⟨"BreakTimeModel", "sorrowNow", "()I"⟩, 24) := ⟨⟨by decide +kernel, by decide +kernel⟩, List.mem_of_getElem? (i := 896) (by decide +kernel), List.mem_of_getElem? (i := 1241) (by decide +kernel), List.mem_of_getElem? (i := 1242) (by decide +kernel)⟩
theorem lw_p43 : lw_okq (⟨"BreakTimeModel", "term", "()V"⟩, 24) := ⟨⟨by decide +kernel, by decide +kernel⟩, List.mem_of_getElem? (i := 896) (by decide +kernel), List.mem_of_getElem? (i := 1249) (by decide +kernel), List.mem_of_getElem? (i := 1250) (by decide +kernel)⟩
theorem lw_p44 : lw_okq (⟨"BreakTimeModel", "movesTo", "(II)I"⟩, 24) := ⟨⟨by decide +kernel, by decide +kernel⟩, List.mem_of_getElem? (i := 896) (by decide +kernel), List.mem_of_getElem? (i := 1253) (by decide +kernel), List.mem_of_getElem? (i := 1254) (by decide +kernel)⟩
theorem lw_p45 : lw_okq (⟨"BreakTimeModel", "findSlips", "()V"⟩, 24) := ⟨⟨by decide +kernel, by decide +kernel⟩, List.mem_of_getElem? (i := 896) (by decide +kernel), List.mem_of_getElem? (i := 1265) (by decide +kernel), List.mem_of_getElem? (i := 1266) (by decide +kernel)⟩
theorem lw_p46 : lw_okq (⟨"BreakTimeModel", "bothOf", "(I)I"⟩, 24) := ⟨⟨by decide +kernel, by decide +kernel⟩, List.mem_of_getElem? (i := 896) (by decide +kernel), List.mem_of_getElem? (i := 1269) (by decide +kernel), List.mem_of_getElem? (i := 1270) (by decide +kernel)⟩
theorem lw_p47 : lw_okq (⟨"BreakTimeModel", "ringOf", "(I)I"⟩, 24) := ⟨⟨by decide +kernel, by decide +kernel⟩, List.mem_of_getElem? (i := 896) (by decide +kernel), List.mem_of_getElem? (i := 1277) (by decide +kernel), List.mem_of_getElem? (i := 1278) (by decide +kernel)⟩
def lw_privs_3 : List (MethodName × Nat) := [(⟨"BreakTimeModel", "here", "()I"⟩, 24), (⟨"BreakTimeModel", "codes", "(I)V"⟩, 24), (⟨"BreakTimeModel", "takes", "(I)Z"⟩, 24), (⟨"BreakTimeModel", "nameOf", "(I)I"⟩, 24), (⟨"BreakTimeModel", "minutesGo", "(I)V"⟩, 24), (⟨"BreakTimeModel", "minute", "()V"⟩, 24), (⟨"BreakTimeModel", "isLetIn", "(I)Z"⟩, 24), (⟨"BreakTimeModel", "bestHeap", "(I)I"⟩, 24), (⟨"BreakTimeModel", "drawn", "(I)I"⟩, 24), (⟨"BreakTimeModel", "fallsApart", "(I)V"⟩, 24), (⟨"BreakTimeModel", "sorrowNow", "()I"⟩, 24), (⟨"BreakTimeModel", "term", "()V"⟩, 24), (⟨"BreakTimeModel", "movesTo", "(II)I"⟩, 24), (⟨"BreakTimeModel", "findSlips", "()V"⟩, 24), (⟨"BreakTimeModel", "bothOf", "(I)I"⟩, 24), (⟨"BreakTimeModel", "ringOf", "(I)I"⟩, 24)]
theorem lw_r3 : ∀ q ∈ lw_privs_3, lw_okq q := List.forall_mem_cons.mpr ⟨lw_p32, List.forall_mem_cons.mpr ⟨lw_p33, List.forall_mem_cons.mpr ⟨lw_p34, List.forall_mem_cons.mpr ⟨lw_p35, List.forall_mem_cons.mpr ⟨lw_p36, List.forall_mem_cons.mpr ⟨lw_p37, List.forall_mem_cons.mpr ⟨lw_p38, List.forall_mem_cons.mpr ⟨lw_p39, List.forall_mem_cons.mpr ⟨lw_p40, List.forall_mem_cons.mpr ⟨lw_p41, List.forall_mem_cons.mpr ⟨lw_p42, List.forall_mem_cons.mpr ⟨lw_p43, List.forall_mem_cons.mpr ⟨lw_p44, List.forall_mem_cons.mpr ⟨lw_p45, List.forall_mem_cons.mpr ⟨lw_p46, List.forall_mem_cons.mpr ⟨lw_p47, fun _ h => absurd h List.not_mem_nil⟩⟩⟩⟩⟩⟩⟩⟩⟩⟩⟩⟩⟩⟩⟩⟩
theorem lw_p48 : lw_okq (⟨"BreakTimeModel", "putBack", "(I)I"⟩, 24) := ⟨⟨by decide +kernel, by decide +kernel⟩, List.mem_of_getElem? (i := 896) (by decide +kernel), List.mem_of_getElem? (i := 1295) (by decide +kernel), List.mem_of_getElem? (i := 1296) (by decide +kernel)⟩
theorem lw_p49 : lw_okq (⟨"BreakTimeModel", "nobodyIn", "(I)I"⟩, 24) := ⟨⟨by decide +kernel, by decide +kernel⟩, List.mem_of_getElem? (i := 896) (by decide +kernel), List.mem_of_getElem? (i := 1316) (by decide +kernel), List.mem_of_getElem? (i := 1317) (by decide +kernel)⟩
theorem lw_p50 : lw_okq (⟨"BreakTimeModel", "voiced", "(II)I"⟩, 24) := ⟨⟨by decide +kernel, by decide +kernel⟩, List.mem_of_getElem? (i := 896) (by decide +kernel), List.mem_of_getElem? (i := 1328) (by decide +kernel), List.mem_of_getElem? (i := 1329) (by decide +kernel)⟩
theorem lw_p51 : lw_okq (⟨"BreakTimeModel", "bodyFrom", "(III)I"⟩, 24) := ⟨⟨by decide +kernel, by decide +kernel⟩, List.mem_of_getElem? (i := 896) (by decide +kernel), List.mem_of_getElem? (i := 1332) (by decide +kernel), List.mem_of_getElem? (i := 1333) (by decide +kernel)⟩
theorem lw_p52 : lw_okq (⟨"BreakTimeModel", "body", "(III)I"⟩, 24) := ⟨⟨by decide +kernel, by decide +kernel⟩, List.mem_of_getElem? (i := 896) (by decide +kernel), List.mem_of_getElem? (i := 1339) (by decide +kernel), List.mem_of_getElem? (i := 1340) (by decide +kernel)⟩
theorem lw_p53 : lw_okq (⟨"BreakTimeModel", "began", "(I)V"⟩, 24) := ⟨⟨by decide +kernel, by decide +kernel⟩, List.mem_of_getElem? (i := 896) (by decide +kernel), List.mem_of_getElem? (i := 1343) (by decide +kernel), List.mem_of_getElem? (i := 1344) (by decide +kernel)⟩
def lw_privs_4 : List (MethodName × Nat) := [(⟨"BreakTimeModel", "putBack", "(I)I"⟩, 24), (⟨"BreakTimeModel", "nobodyIn", "(I)I"⟩, 24), (⟨"BreakTimeModel", "voiced", "(II)I"⟩, 24), (⟨"BreakTimeModel", "bodyFrom", "(III)I"⟩, 24), (⟨"BreakTimeModel", "body", "(III)I"⟩, 24), (⟨"BreakTimeModel", "began", "(I)V"⟩, 24)]
theorem lw_r4 : ∀ q ∈ lw_privs_4, lw_okq q := List.forall_mem_cons.mpr ⟨lw_p48, List.forall_mem_cons.mpr ⟨lw_p49, List.forall_mem_cons.mpr ⟨lw_p50, List.forall_mem_cons.mpr ⟨lw_p51, List.forall_mem_cons.mpr ⟨lw_p52, List.forall_mem_cons.mpr ⟨lw_p53, fun _ h => absurd h List.not_mem_nil⟩⟩⟩⟩⟩⟩
def lw_privs : List (MethodName × Nat) := lw_privs_1 ++ (lw_privs_2 ++ (lw_privs_3 ++ (lw_privs_4)))
def lw_tbl : List Cond := k2_sels lw_privs ++ tables_1
theorem lw_privs_ok : ∀ q ∈ lw_privs, lw_okq q := by
  show ∀ q ∈ lw_privs_1 ++ (lw_privs_2 ++ (lw_privs_3 ++ (lw_privs_4))), lw_okq q
  exact List.forall_mem_append.mpr ⟨lw_r1, List.forall_mem_append.mpr ⟨lw_r2, List.forall_mem_append.mpr ⟨lw_r3, lw_r4⟩⟩⟩

def RX0 : String := "BreakTime$Child"
def TX0 : u_T := fun k => match k with
  | 0 => ("BreakTime$Child", "kind", "I", false)
  | 1 => ("BreakTime$Child", "m", "I", false)
  | 2 => ("BreakTime$Child", "age", "I", false)
  | 3 => ("BreakTime$Child", "mind", "I", false)
  | 4 => ("BreakTime$Child", "at", "I", false)
  | 5 => ("BreakTime$Child", "alone", "I", false)
  | 6 => ("BreakTime$Child", "likes", "[I", true)
  | _ => ("BreakTime$Child", "watching", "[I", true)
def tyX0 : Nat → FieldType := fun k => match k with
  | 0 => .int
  | 1 => .int
  | 2 => .int
  | 3 => .int
  | 4 => .int
  | 5 => .int
  | 6 => .array .int
  | _ => .array .int
abbrev wsX00 : List Cond := u_ws RX0 TX0 8
theorem nmX0 : ∀ a, a < 8 → ∀ b, b < 8 → a ≠ b → (TX0 a).2.1 ≠ (TX0 b).2.1 := by decide +kernel
theorem tyX0_ok : ∀ k, k < 8 → parseFieldDescriptor (TX0 k).2.2.1 = some (tyX0 k) := by decide +kernel
abbrev cX0_init : ByteArray := prog_2_method_1_code
def yX0_init : MethodName := ⟨RX0, "<init>", "()V"⟩
abbrev cX0_takeFrom : ByteArray := prog_2_method_2_code
def yX0_takeFrom : MethodName := ⟨RX0, "takeFrom", "(LBreakTime$Child;)V"⟩
def RX1 : String := "BreakTime$Friends"
def TX1 : u_T := fun k => match k with
  | 0 => ("BreakTime$Friends", "n", "I", false)
  | 1 => ("BreakTime$Friends", "minding", "I", false)
  | 2 => ("BreakTime$Friends", "slip", "[I", true)
  | _ => ("BreakTime$Friends", "both", "[I", true)
def tyX1 : Nat → FieldType := fun k => match k with
  | 0 => .int
  | 1 => .int
  | 2 => .array .int
  | _ => .array .int
abbrev wsX10 : List Cond := u_ws RX1 TX1 4
theorem nmX1 : ∀ a, a < 4 → ∀ b, b < 4 → a ≠ b → (TX1 a).2.1 ≠ (TX1 b).2.1 := by decide +kernel
theorem tyX1_ok : ∀ k, k < 4 → parseFieldDescriptor (TX1 k).2.2.1 = some (tyX1 k) := by decide +kernel
abbrev cX1_init : ByteArray := prog_3_method_1_code
def yX1_init : MethodName := ⟨RX1, "<init>", "()V"⟩
abbrev cX1_look : ByteArray := prog_3_method_2_code
def yX1_look : MethodName := ⟨RX1, "look", "(LBreakTime$Yard;)V"⟩
abbrev cX1_slipOf : ByteArray := prog_3_method_3_code
def yX1_slipOf : MethodName := ⟨RX1, "slipOf", "([I)I"⟩
abbrev cX1_naming : ByteArray := prog_3_method_4_code
def yX1_naming : MethodName := ⟨RX1, "naming", "(I)I"⟩
abbrev cX1_countNaming : ByteArray := prog_3_method_5_code
def yX1_countNaming : MethodName := ⟨RX1, "countNaming", "(I)I"⟩
abbrev cX1_ringOf : ByteArray := prog_3_method_6_code
def yX1_ringOf : MethodName := ⟨RX1, "ringOf", "(I)I"⟩
abbrev cX1_countRings : ByteArray := prog_3_method_7_code
def yX1_countRings : MethodName := ⟨RX1, "countRings", "()I"⟩
abbrev cX1_countPairs : ByteArray := prog_3_method_8_code
def yX1_countPairs : MethodName := ⟨RX1, "countPairs", "()I"⟩
abbrev cX1_mostNamed : ByteArray := prog_3_method_9_code
def yX1_mostNamed : MethodName := ⟨RX1, "mostNamed", "()I"⟩
abbrev cX1_leftOut : ByteArray := prog_3_method_10_code
def yX1_leftOut : MethodName := ⟨RX1, "leftOut", "()I"⟩
abbrev cX1_secondClass : ByteArray := prog_3_method_11_code
def yX1_secondClass : MethodName := ⟨RX1, "secondClass", "()I"⟩
abbrev cX1_countLonely : ByteArray := prog_3_method_12_code
def yX1_countLonely : MethodName := ⟨RX1, "countLonely", "(I)I"⟩
def RX2 : String := "BreakTime$Heap"
def TX2 : u_T := fun k => match k with
  | 0 => ("BreakTime$Heap", "least", "I", false)
  | 1 => ("BreakTime$Heap", "most", "I", false)
  | 2 => ("BreakTime$Heap", "rule", "I", false)
  | 3 => ("BreakTime$Heap", "inside", "I", false)
  | _ => ("BreakTime$Heap", "few", "I", false)
def tyX2 : Nat → FieldType := fun k => match k with
  | 0 => .int
  | 1 => .int
  | 2 => .int
  | 3 => .int
  | _ => .int
abbrev wsX20 : List Cond := u_ws RX2 TX2 5
theorem nmX2 : ∀ a, a < 5 → ∀ b, b < 5 → a ≠ b → (TX2 a).2.1 ≠ (TX2 b).2.1 := by decide +kernel
theorem tyX2_ok : ∀ k, k < 5 → parseFieldDescriptor (TX2 k).2.2.1 = some (tyX2 k) := by decide +kernel
abbrev cX2_init : ByteArray := prog_4_method_1_code
def yX2_init : MethodName := ⟨RX2, "<init>", "()V"⟩
abbrev cX2_size : ByteArray := prog_4_method_2_code
def yX2_size : MethodName := ⟨RX2, "size", "()I"⟩
abbrev cX2_lacksOne : ByteArray := prog_4_method_3_code
def yX2_lacksOne : MethodName := ⟨RX2, "lacksOne", "()Z"⟩
abbrev cX2_hasTooFew : ByteArray := prog_4_method_4_code
def yX2_hasTooFew : MethodName := ⟨RX2, "hasTooFew", "()Z"⟩
abbrev cX2_change : ByteArray := prog_4_method_5_code
def yX2_change : MethodName := ⟨RX2, "change", "(I)V"⟩
abbrev cX2_takeFrom : ByteArray := prog_4_method_6_code
def yX2_takeFrom : MethodName := ⟨RX2, "takeFrom", "(LBreakTime$Heap;)V"⟩
def RX3 : String := "BreakTime$Reader"
def TX3 : u_T := fun k => match k with
  | 0 => ("BreakTime$Reader", "text", "LBreakTime$Text;", true)
  | 1 => ("BreakTime$Reader", "bytes", "[I", false)
  | 2 => ("BreakTime$Reader", "end", "I", false)
  | 3 => ("BreakTime$Reader", "at", "I", false)
  | _ => ("BreakTime$Reader", "names", "Ljava/lang/String;", false)
def tyX3 : Nat → FieldType := fun k => match k with
  | 0 => .object "BreakTime$Text"
  | 1 => .array .int
  | 2 => .int
  | 3 => .int
  | _ => .object "java/lang/String"
abbrev wsX30 : List Cond := u_ws RX3 TX3 5
theorem nmX3 : ∀ a, a < 5 → ∀ b, b < 5 → a ≠ b → (TX3 a).2.1 ≠ (TX3 b).2.1 := by decide +kernel
theorem tyX3_ok : ∀ k, k < 5 → parseFieldDescriptor (TX3 k).2.2.1 = some (tyX3 k) := by decide +kernel
abbrev cX3_init : ByteArray := prog_5_method_1_code
def yX3_init : MethodName := ⟨RX3, "<init>", "()V"⟩
abbrev cX3_read : ByteArray := prog_5_method_2_code
def yX3_read : MethodName := ⟨RX3, "read", "(LBreakTime$Row;Ljava/lang/String;)I"⟩
abbrev cX3_next : ByteArray := prog_5_method_3_code
def yX3_next : MethodName := ⟨RX3, "next", "()I"⟩
abbrev cX3_stands : ByteArray := prog_5_method_4_code
def yX3_stands : MethodName := ⟨RX3, "stands", "(Ljava/lang/String;)Z"⟩
abbrev cX3_readJoined : ByteArray := prog_5_method_5_code
def yX3_readJoined : MethodName := ⟨RX3, "readJoined", "(II)Z"⟩
abbrev cX3_signsOf : ByteArray := prog_5_method_6_code
def yX3_signsOf : MethodName := ⟨RX3, "signsOf", "(I)Ljava/lang/String;"⟩
abbrev cX3_readQ : ByteArray := prog_5_method_7_code
def yX3_readQ : MethodName := ⟨RX3, "readQ", "(I)Z"⟩
abbrev cX3_readNumber : ByteArray := prog_5_method_8_code
def yX3_readNumber : MethodName := ⟨RX3, "readNumber", "()V"⟩
abbrev cX3_isDigit : ByteArray := prog_5_method_9_code
def yX3_isDigit : MethodName := ⟨RX3, "isDigit", "(I)Z"⟩
def RX4 : String := "BreakTime$Row"
def TX4 : u_T := fun k => match k with
  | 0 => ("BreakTime$Row", "numbers", "[I", true)
  | _ => ("BreakTime$Row", "size", "I", false)
def tyX4 : Nat → FieldType := fun k => match k with
  | 0 => .array .int
  | _ => .int
abbrev wsX40 : List Cond := u_ws RX4 TX4 2
theorem nmX4 : ∀ a, a < 2 → ∀ b, b < 2 → a ≠ b → (TX4 a).2.1 ≠ (TX4 b).2.1 := by decide +kernel
theorem tyX4_ok : ∀ k, k < 2 → parseFieldDescriptor (TX4 k).2.2.1 = some (tyX4 k) := by decide +kernel
abbrev cX4_init : ByteArray := prog_6_method_1_code
def yX4_init : MethodName := ⟨RX4, "<init>", "(I)V"⟩
abbrev cX4_add : ByteArray := prog_6_method_2_code
def yX4_add : MethodName := ⟨RX4, "add", "(I)V"⟩
abbrev cX4_takeFrom : ByteArray := prog_6_method_3_code
def yX4_takeFrom : MethodName := ⟨RX4, "takeFrom", "(LBreakTime$Row;)V"⟩
def RX5 : String := "BreakTime$Sheet"
def TX5 : u_T := fun k => match k with
  | 0 => ("BreakTime$Sheet", "bits", "I", false)
  | 1 => ("BreakTime$Sheet", "size", "I", false)
  | _ => ("BreakTime$Sheet", "numbers", "[I", true)
def tyX5 : Nat → FieldType := fun k => match k with
  | 0 => .int
  | 1 => .int
  | _ => .array .int
abbrev wsX50 : List Cond := u_ws RX5 TX5 3
theorem nmX5 : ∀ a, a < 3 → ∀ b, b < 3 → a ≠ b → (TX5 a).2.1 ≠ (TX5 b).2.1 := by decide +kernel
theorem tyX5_ok : ∀ k, k < 3 → parseFieldDescriptor (TX5 k).2.2.1 = some (tyX5 k) := by decide +kernel
abbrev cX5_init : ByteArray := prog_7_method_1_code
def yX5_init : MethodName := ⟨RX5, "<init>", "()V"⟩
abbrev cX5_isMissing : ByteArray := prog_7_method_2_code
def yX5_isMissing : MethodName := ⟨RX5, "isMissing", "()Z"⟩
abbrev cX5_lay : ByteArray := prog_7_method_3_code
def yX5_lay : MethodName := ⟨RX5, "lay", "(II)V"⟩
abbrev cX5_write : ByteArray := prog_7_method_4_code
def yX5_write : MethodName := ⟨RX5, "write", "(II)V"⟩
abbrev cX5_holds : ByteArray := prog_7_method_5_code
def yX5_holds : MethodName := ⟨RX5, "holds", "(II)Z"⟩
def RX6 : String := "BreakTime$Speaker"
def TX6 : u_T := fun k => match k with
  | 0 => ("BreakTime$Speaker", "trace", "LBreakTime$Row;", true)
  | 1 => ("BreakTime$Speaker", "child", "I", false)
  | 2 => ("BreakTime$Speaker", "kind", "I", false)
  | 3 => ("BreakTime$Speaker", "m", "I", false)
  | _ => ("BreakTime$Speaker", "parted", "Z", false)
def tyX6 : Nat → FieldType := fun k => match k with
  | 0 => .object "BreakTime$Row"
  | 1 => .int
  | 2 => .int
  | 3 => .int
  | _ => .boolean
abbrev wsX60 : List Cond := u_ws RX6 TX6 5
theorem nmX6 : ∀ a, a < 5 → ∀ b, b < 5 → a ≠ b → (TX6 a).2.1 ≠ (TX6 b).2.1 := by decide +kernel
theorem tyX6_ok : ∀ k, k < 5 → parseFieldDescriptor (TX6 k).2.2.1 = some (tyX6 k) := by decide +kernel
abbrev cX6_init : ByteArray := prog_8_method_1_code
def yX6_init : MethodName := ⟨RX6, "<init>", "()V"⟩
abbrev cX6_speak : ByteArray := prog_8_method_2_code
def yX6_speak : MethodName := ⟨RX6, "speak", "(ILBreakTime$Child;II)I"⟩
abbrev cX6_say : ByteArray := prog_8_method_3_code
def yX6_say : MethodName := ⟨RX6, "say", "(IIII)I"⟩
abbrev cX6_part : ByteArray := prog_8_method_4_code
def yX6_part : MethodName := ⟨RX6, "part", "(II)I"⟩
def RX7 : String := "BreakTime$Text"
def TX7 : u_T := fun k => match k with
  | 0 => ("BreakTime$Text", "steps", "[I", true)
  | 1 => ("BreakTime$Text", "laid", "[I", true)
  | _ => ("BreakTime$Text", "size", "I", false)
def tyX7 : Nat → FieldType := fun k => match k with
  | 0 => .array .int
  | 1 => .array .int
  | _ => .int
abbrev wsX70 : List Cond := u_ws RX7 TX7 3
theorem nmX7 : ∀ a, a < 3 → ∀ b, b < 3 → a ≠ b → (TX7 a).2.1 ≠ (TX7 b).2.1 := by decide +kernel
theorem tyX7_ok : ∀ k, k < 3 → parseFieldDescriptor (TX7 k).2.2.1 = some (tyX7 k) := by decide +kernel
abbrev cX7_init : ByteArray := prog_9_method_1_code
def yX7_init : MethodName := ⟨RX7, "<init>", "()V"⟩
abbrev cX7_isThere : ByteArray := prog_9_method_2_code
def yX7_isThere : MethodName := ⟨RX7, "isThere", "()Z"⟩
abbrev cX7_add : ByteArray := prog_9_method_3_code
def yX7_add : MethodName := ⟨RX7, "add", "(I)V"⟩
abbrev cX7_takeFrom : ByteArray := prog_9_method_4_code
def yX7_takeFrom : MethodName := ⟨RX7, "takeFrom", "(LBreakTime$Text;)V"⟩
abbrev cX7_worth : ByteArray := prog_9_method_5_code
def yX7_worth : MethodName := ⟨RX7, "worth", "([I)I"⟩
abbrev cX7_named : ByteArray := prog_9_method_6_code
def yX7_named : MethodName := ⟨RX7, "named", "([II)I"⟩
abbrev cX7_apply : ByteArray := prog_9_method_7_code
def yX7_apply : MethodName := ⟨RX7, "apply", "(III)I"⟩
def RX8 : String := "BreakTime$Yard"
def TX8 : u_T := fun k => match k with
  | 0 => ("BreakTime$Yard", "children", "[LBreakTime$Child;", true)
  | 1 => ("BreakTime$Yard", "heaps", "[LBreakTime$Heap;", true)
  | 2 => ("BreakTime$Yard", "texts", "[LBreakTime$Text;", true)
  | 3 => ("BreakTime$Yard", "tape", "LBreakTime$Row;", true)
  | 4 => ("BreakTime$Yard", "waiting", "LBreakTime$Row;", true)
  | 5 => ("BreakTime$Yard", "childCount", "I", false)
  | 6 => ("BreakTime$Yard", "heapCount", "I", false)
  | 7 => ("BreakTime$Yard", "minuteCount", "I", false)
  | 8 => ("BreakTime$Yard", "termCount", "I", false)
  | 9 => ("BreakTime$Yard", "z", "I", false)
  | 10 => ("BreakTime$Yard", "names", "[I", true)
  | _ => ("BreakTime$Yard", "moved", "[[I", true)
def tyX8 : Nat → FieldType := fun k => match k with
  | 0 => .array (.object "BreakTime$Child")
  | 1 => .array (.object "BreakTime$Heap")
  | 2 => .array (.object "BreakTime$Text")
  | 3 => .object "BreakTime$Row"
  | 4 => .object "BreakTime$Row"
  | 5 => .int
  | 6 => .int
  | 7 => .int
  | 8 => .int
  | 9 => .int
  | 10 => .array .int
  | _ => .array (.array .int)
abbrev wsX80 : List Cond := u_ws RX8 TX8 12
theorem nmX8 : ∀ a, a < 12 → ∀ b, b < 12 → a ≠ b → (TX8 a).2.1 ≠ (TX8 b).2.1 := by decide +kernel
theorem tyX8_ok : ∀ k, k < 12 → parseFieldDescriptor (TX8 k).2.2.1 = some (tyX8 k) := by decide +kernel
abbrev cX8_init : ByteArray := prog_10_method_1_code
def yX8_init : MethodName := ⟨RX8, "<init>", "()V"⟩
abbrev cX8_takeFrom : ByteArray := prog_10_method_2_code
def yX8_takeFrom : MethodName := ⟨RX8, "takeFrom", "(LBreakTime$Yard;)V"⟩
abbrev cX8_wall : ByteArray := prog_10_method_3_code
def yX8_wall : MethodName := ⟨RX8, "wall", "()I"⟩
abbrev cX8_grief : ByteArray := prog_10_method_4_code
def yX8_grief : MethodName := ⟨RX8, "grief", "()I"⟩
abbrev cX8_place : ByteArray := prog_10_method_5_code
def yX8_place : MethodName := ⟨RX8, "place", "(II)V"⟩
abbrev cX8_warmth : ByteArray := prog_10_method_6_code
def yX8_warmth : MethodName := ⟨RX8, "warmth", "(II)I"⟩
abbrev cX8_fondest : ByteArray := prog_10_method_7_code
def yX8_fondest : MethodName := ⟨RX8, "fondest", "(II)I"⟩
abbrev cX8_hasFriend : ByteArray := prog_10_method_8_code
def yX8_hasFriend : MethodName := ⟨RX8, "hasFriend", "(II)Z"⟩
abbrev cX8_chance : ByteArray := prog_10_method_9_code
def yX8_chance : MethodName := ⟨RX8, "chance", "(II)I"⟩
abbrev cX8_byWay : ByteArray := prog_10_method_10_code
def yX8_byWay : MethodName := ⟨RX8, "byWay", "(III)I"⟩
abbrev cX8_letsIn : ByteArray := prog_10_method_11_code
def yX8_letsIn : MethodName := ⟨RX8, "letsIn", "(III)I"⟩
abbrev cX8_bestHeap : ByteArray := prog_10_method_12_code
def yX8_bestHeap : MethodName := ⟨RX8, "bestHeap", "(I)I"⟩
abbrev cX8_pass : ByteArray := prog_10_method_13_code
def yX8_pass : MethodName := ⟨RX8, "pass", "(I)V"⟩
abbrev cX8_tryHeap : ByteArray := prog_10_method_14_code
def yX8_tryHeap : MethodName := ⟨RX8, "tryHeap", "(I)V"⟩
abbrev cX8_wearOut : ByteArray := prog_10_method_15_code
def yX8_wearOut : MethodName := ⟨RX8, "wearOut", "(I)V"⟩
abbrev cX8_passTerm : ByteArray := prog_10_method_16_code
def yX8_passTerm : MethodName := ⟨RX8, "passTerm", "()V"⟩
abbrev cX8_likesThen : ByteArray := prog_10_method_17_code
def yX8_likesThen : MethodName := ⟨RX8, "likesThen", "(II)I"⟩
abbrev cX8_countShared : ByteArray := prog_10_method_18_code
def yX8_countShared : MethodName := ⟨RX8, "countShared", "(II)I"⟩
def RX9 : String := "BreakTime"
def TX9 : u_T := fun k => match k with
  | 0 => ("BreakTime", "now", "LBreakTime$Yard;", true)
  | 1 => ("BreakTime", "ahead", "LBreakTime$Yard;", true)
  | 2 => ("BreakTime", "kept", "LBreakTime$Yard;", true)
  | 3 => ("BreakTime", "friends", "LBreakTime$Friends;", true)
  | 4 => ("BreakTime", "reader", "LBreakTime$Reader;", true)
  | 5 => ("BreakTime", "speaker", "LBreakTime$Speaker;", true)
  | 6 => ("BreakTime", "sheets", "[LBreakTime$Sheet;", true)
  | 7 => ("BreakTime", "errors", "[I", true)
  | _ => ("BreakTime", "images", "I", false)
def tyX9 : Nat → FieldType := fun k => match k with
  | 0 => .object "BreakTime$Yard"
  | 1 => .object "BreakTime$Yard"
  | 2 => .object "BreakTime$Yard"
  | 3 => .object "BreakTime$Friends"
  | 4 => .object "BreakTime$Reader"
  | 5 => .object "BreakTime$Speaker"
  | 6 => .array (.object "BreakTime$Sheet")
  | 7 => .array .int
  | _ => .int
abbrev wsX90 : List Cond := u_ws RX9 TX9 9
theorem nmX9 : ∀ a, a < 9 → ∀ b, b < 9 → a ≠ b → (TX9 a).2.1 ≠ (TX9 b).2.1 := by decide +kernel
theorem tyX9_ok : ∀ k, k < 9 → parseFieldDescriptor (TX9 k).2.2.1 = some (tyX9 k) := by decide +kernel
abbrev cX9_init : ByteArray := prog_1_method_1_code
def yX9_init : MethodName := ⟨RX9, "<init>", "()V"⟩
abbrev cX9_child : ByteArray := prog_1_method_2_code
def yX9_child : MethodName := ⟨RX9, "child", "(III)I"⟩
abbrev cX9_childIs : ByteArray := prog_1_method_3_code
def yX9_childIs : MethodName := ⟨RX9, "childIs", "(II)I"⟩
abbrev cX9_as : ByteArray := prog_1_method_4_code
def yX9_as : MethodName := ⟨RX9, "as", "(II)I"⟩
abbrev cX9_set : ByteArray := prog_1_method_5_code
def yX9_set : MethodName := ⟨RX9, "set", "(III)I"⟩
abbrev cX9_likes : ByteArray := prog_1_method_6_code
def yX9_likes : MethodName := ⟨RX9, "likes", "(III)I"⟩
abbrev cX9_heap : ByteArray := prog_1_method_7_code
def yX9_heap : MethodName := ⟨RX9, "heap", "(II)I"⟩
abbrev cX9_heapIs : ByteArray := prog_1_method_8_code
def yX9_heapIs : MethodName := ⟨RX9, "heapIs", "(II)I"⟩
abbrev cX9_rule : ByteArray := prog_1_method_9_code
def yX9_rule : MethodName := ⟨RX9, "rule", "(II)I"⟩
abbrev cX9_join : ByteArray := prog_1_method_10_code
def yX9_join : MethodName := ⟨RX9, "join", "(II)I"⟩
abbrev cX9_leave : ByteArray := prog_1_method_11_code
def yX9_leave : MethodName := ⟨RX9, "leave", "(I)I"⟩
abbrev cX9_between : ByteArray := prog_1_method_12_code
def yX9_between : MethodName := ⟨RX9, "between", "(III)I"⟩
abbrev cX9_feed : ByteArray := prog_1_method_13_code
def yX9_feed : MethodName := ⟨RX9, "feed", "(JI)I"⟩
abbrev cX9_text : ByteArray := prog_1_method_14_code
def yX9_text : MethodName := ⟨RX9, "text", "(I)I"⟩
abbrev cX9_untell : ByteArray := prog_1_method_15_code
def yX9_untell : MethodName := ⟨RX9, "untell", "(I)I"⟩
abbrev cX9_minutes : ByteArray := prog_1_method_16_code
def yX9_minutes : MethodName := ⟨RX9, "minutes", "(I)I"⟩
abbrev cX9_terms : ByteArray := prog_1_method_17_code
def yX9_terms : MethodName := ⟨RX9, "terms", "(I)I"⟩
abbrev cX9_seed : ByteArray := prog_1_method_18_code
def yX9_seed : MethodName := ⟨RX9, "seed", "(I)I"⟩
abbrev cX9_both : ByteArray := prog_1_method_19_code
def yX9_both : MethodName := ⟨RX9, "both", "(I)I"⟩
abbrev cX9_ring : ByteArray := prog_1_method_20_code
def yX9_ring : MethodName := ⟨RX9, "ring", "(I)I"⟩
abbrev cX9_net : ByteArray := prog_1_method_21_code
def yX9_net : MethodName := ⟨RX9, "net", "(I)I"⟩
abbrev cX9_then : ByteArray := prog_1_method_22_code
def yX9_then : MethodName := ⟨RX9, "then", "(III)I"⟩
abbrev cX9_sorrow : ByteArray := prog_1_method_23_code
def yX9_sorrow : MethodName := ⟨RX9, "sorrow", "(I)I"⟩
abbrev cX9_word : ByteArray := prog_1_method_24_code
def yX9_word : MethodName := ⟨RX9, "word", "(II)I"⟩
abbrev cX9_teach : ByteArray := prog_1_method_25_code
def yX9_teach : MethodName := ⟨RX9, "teach", "(II)I"⟩
abbrev cX9_classes : ByteArray := prog_1_method_26_code
def yX9_classes : MethodName := ⟨RX9, "classes", "(I)I"⟩
abbrev cX9_best : ByteArray := prog_1_method_27_code
def yX9_best : MethodName := ⟨RX9, "best", "(I)I"⟩
abbrev cX9_voice : ByteArray := prog_1_method_28_code
def yX9_voice : MethodName := ⟨RX9, "voice", "(III)I"⟩
abbrev cX9_body : ByteArray := prog_1_method_29_code
def yX9_body : MethodName := ⟨RX9, "body", "(I)I"⟩
abbrev cX9_sheet : ByteArray := prog_1_method_30_code
def yX9_sheet : MethodName := ⟨RX9, "sheet", "(III)I"⟩
abbrev cX9_put : ByteArray := prog_1_method_31_code
def yX9_put : MethodName := ⟨RX9, "put", "(III)I"⟩
abbrev cX9_move : ByteArray := prog_1_method_32_code
def yX9_move : MethodName := ⟨RX9, "move", "(IIIII)I"⟩
abbrev cX9_slips : ByteArray := prog_1_method_33_code
def yX9_slips : MethodName := ⟨RX9, "slips", "(II)I"⟩
abbrev cX9_film : ByteArray := prog_1_method_34_code
def yX9_film : MethodName := ⟨RX9, "film", "(II)I"⟩
abbrev cX9_image : ByteArray := prog_1_method_35_code
def yX9_image : MethodName := ⟨RX9, "image", "()I"⟩
abbrev cX9_restore : ByteArray := prog_1_method_36_code
def yX9_restore : MethodName := ⟨RX9, "restore", "()I"⟩
abbrev cX9_tell : ByteArray := prog_1_method_37_code
def yX9_tell : MethodName := ⟨RX9, "tell", "(I)I"⟩
abbrev cX9_check : ByteArray := prog_1_method_38_code
def yX9_check : MethodName := ⟨RX9, "check", "(I)I"⟩
abbrev cX9_count : ByteArray := prog_1_method_39_code
def yX9_count : MethodName := ⟨RX9, "count", "(I)I"⟩
abbrev cX9_told : ByteArray := prog_1_method_40_code
def yX9_told : MethodName := ⟨RX9, "told", "(I)I"⟩
abbrev cX9_error : ByteArray := prog_1_method_41_code
def yX9_error : MethodName := ⟨RX9, "error", "(I)I"⟩
abbrev cX9_noChild : ByteArray := prog_1_method_42_code
def yX9_noChild : MethodName := ⟨RX9, "noChild", "(I)Z"⟩
abbrev cX9_noHeap : ByteArray := prog_1_method_43_code
def yX9_noHeap : MethodName := ⟨RX9, "noHeap", "(I)Z"⟩
abbrev cX9_noSheet : ByteArray := prog_1_method_44_code
def yX9_noSheet : MethodName := ⟨RX9, "noSheet", "(I)Z"⟩
abbrev cX9_notAhead : ByteArray := prog_1_method_45_code
def yX9_notAhead : MethodName := ⟨RX9, "notAhead", "(I)Z"⟩
abbrev cX9_outside : ByteArray := prog_1_method_46_code
def yX9_outside : MethodName := ⟨RX9, "outside", "(III)Z"⟩
abbrev cX9_held : ByteArray := prog_1_method_47_code
def yX9_held : MethodName := ⟨RX9, "held", "(III)I"⟩
abbrev cX9_mostOf : ByteArray := prog_1_method_48_code
def yX9_mostOf : MethodName := ⟨RX9, "mostOf", "(I)I"⟩
abbrev cX9_ofChild : ByteArray := prog_1_method_49_code
def yX9_ofChild : MethodName := ⟨RX9, "ofChild", "(LBreakTime$Yard;II)I"⟩
def RX10 : String := "BreakTimeModel"
def TX10 : u_T := fun k => match k with
  | 0 => ("BreakTimeModel", "now", "[I", true)
  | 1 => ("BreakTimeModel", "kept", "[I", true)
  | 2 => ("BreakTimeModel", "aside", "[I", true)
  | 3 => ("BreakTimeModel", "images", "I", false)
  | 4 => ("BreakTimeModel", "errors", "[I", true)
  | 5 => ("BreakTimeModel", "NAMED", "[Ljava/lang/String;", true)
  | 6 => ("BreakTimeModel", "at", "I", false)
  | 7 => ("BreakTimeModel", "open", "I", false)
  | 8 => ("BreakTimeModel", "use", "I", false)
  | 9 => ("BreakTimeModel", "isWrong", "Z", false)
  | 10 => ("BreakTimeModel", "code", "[I", true)
  | 11 => ("BreakTimeModel", "coded", "I", false)
  | 12 => ("BreakTimeModel", "named", "[I", true)
  | 13 => ("BreakTimeModel", "pile", "[I", true)
  | 14 => ("BreakTimeModel", "moved", "[I", true)
  | 15 => ("BreakTimeModel", "slip", "[I", true)
  | 16 => ("BreakTimeModel", "trace", "[I", true)
  | 17 => ("BreakTimeModel", "traced", "I", false)
  | 18 => ("BreakTimeModel", "speaker", "I", false)
  | 19 => ("BreakTimeModel", "isParted", "Z", false)
  | 20 => ("BreakTimeModel", "widths", "[I", true)
  | 21 => ("BreakTimeModel", "sizes", "[I", true)
  | 22 => ("BreakTimeModel", "numbers", "[I", true)
  | _ => ("BreakTimeModel", "carried", "[I", true)
def tyX10 : Nat → FieldType := fun k => match k with
  | 0 => .array .int
  | 1 => .array .int
  | 2 => .array .int
  | 3 => .int
  | 4 => .array .int
  | 5 => .array (.object "java/lang/String")
  | 6 => .int
  | 7 => .int
  | 8 => .int
  | 9 => .boolean
  | 10 => .array .int
  | 11 => .int
  | 12 => .array .int
  | 13 => .array .int
  | 14 => .array .int
  | 15 => .array .int
  | 16 => .array .int
  | 17 => .int
  | 18 => .int
  | 19 => .boolean
  | 20 => .array .int
  | 21 => .array .int
  | 22 => .array .int
  | _ => .array .int
abbrev wsX100 : List Cond := u_ws RX10 TX10 24
theorem nmX10 : ∀ a, a < 24 → ∀ b, b < 24 → a ≠ b → (TX10 a).2.1 ≠ (TX10 b).2.1 := by decide +kernel
theorem tyX10_ok : ∀ k, k < 24 → parseFieldDescriptor (TX10 k).2.2.1 = some (tyX10 k) := by decide +kernel
abbrev cX10_init : ByteArray := prog_12_method_1_code
def yX10_init : MethodName := ⟨RX10, "<init>", "()V"⟩
abbrev cX10_finding : ByteArray := prog_12_method_2_code
def yX10_finding : MethodName := ⟨RX10, "finding", "(I)I"⟩
abbrev cX10_within : ByteArray := prog_12_method_3_code
def yX10_within : MethodName := ⟨RX10, "within", "(III)Z"⟩
abbrev cX10_hasBit : ByteArray := prog_12_method_4_code
def yX10_hasBit : MethodName := ⟨RX10, "hasBit", "(II)Z"⟩
abbrev cX10_held : ByteArray := prog_12_method_5_code
def yX10_held : MethodName := ⟨RX10, "held", "(III)I"⟩
abbrev cX10_is : ByteArray := prog_12_method_6_code
def yX10_is : MethodName := ⟨RX10, "is", "(II)Z"⟩
abbrev cX10_copy : ByteArray := prog_12_method_7_code
def yX10_copy : MethodName := ⟨RX10, "copy", "([I[I)V"⟩
abbrev cX10_become : ByteArray := prog_12_method_8_code
def yX10_become : MethodName := ⟨RX10, "become", "(II)I"⟩
abbrev cX10_putBack : ByteArray := prog_12_method_9_code
def yX10_putBack : MethodName := ⟨RX10, "putBack", "(I)I"⟩
abbrev cX10_bits : ByteArray := prog_12_method_10_code
def yX10_bits : MethodName := ⟨RX10, "bits", "(I)I"⟩
abbrev cX10_of : ByteArray := prog_12_method_11_code
def yX10_of : MethodName := ⟨RX10, "of", "(II)I"⟩
abbrev cX10_heapOf : ByteArray := prog_12_method_12_code
def yX10_heapOf : MethodName := ⟨RX10, "heapOf", "(II)I"⟩
abbrev cX10_likesOf : ByteArray := prog_12_method_13_code
def yX10_likesOf : MethodName := ⟨RX10, "likesOf", "(II)I"⟩
abbrev cX10_child : ByteArray := prog_12_method_14_code
def yX10_child : MethodName := ⟨RX10, "child", "(III)I"⟩
abbrev cX10_childTold : ByteArray := prog_12_method_15_code
def yX10_childTold : MethodName := ⟨RX10, "childTold", "(II)I"⟩
abbrev cX10_childIs : ByteArray := prog_12_method_16_code
def yX10_childIs : MethodName := ⟨RX10, "childIs", "(II)I"⟩
abbrev cX10_above : ByteArray := prog_12_method_17_code
def yX10_above : MethodName := ⟨RX10, "above", "(I)I"⟩
abbrev cX10_as : ByteArray := prog_12_method_18_code
def yX10_as : MethodName := ⟨RX10, "as", "(II)I"⟩
abbrev cX10_set : ByteArray := prog_12_method_19_code
def yX10_set : MethodName := ⟨RX10, "set", "(III)I"⟩
abbrev cX10_likes : ByteArray := prog_12_method_20_code
def yX10_likes : MethodName := ⟨RX10, "likes", "(III)I"⟩
abbrev cX10_heap : ByteArray := prog_12_method_21_code
def yX10_heap : MethodName := ⟨RX10, "heap", "(II)I"⟩
abbrev cX10_inHeap : ByteArray := prog_12_method_22_code
def yX10_inHeap : MethodName := ⟨RX10, "inHeap", "(I)I"⟩
abbrev cX10_heapIs : ByteArray := prog_12_method_23_code
def yX10_heapIs : MethodName := ⟨RX10, "heapIs", "(II)I"⟩
abbrev cX10_rule : ByteArray := prog_12_method_24_code
def yX10_rule : MethodName := ⟨RX10, "rule", "(II)I"⟩
abbrev cX10_isFew : ByteArray := prog_12_method_25_code
def yX10_isFew : MethodName := ⟨RX10, "isFew", "(I)Z"⟩
abbrev cX10_goesTo : ByteArray := prog_12_method_26_code
def yX10_goesTo : MethodName := ⟨RX10, "goesTo", "(II)V"⟩
abbrev cX10_join : ByteArray := prog_12_method_27_code
def yX10_join : MethodName := ⟨RX10, "join", "(II)I"⟩
abbrev cX10_leave : ByteArray := prog_12_method_28_code
def yX10_leave : MethodName := ⟨RX10, "leave", "(I)I"⟩
abbrev cX10_warmth : ByteArray := prog_12_method_29_code
def yX10_warmth : MethodName := ⟨RX10, "warmth", "(II)I"⟩
abbrev cX10_fondest : ByteArray := prog_12_method_30_code
def yX10_fondest : MethodName := ⟨RX10, "fondest", "(II)I"⟩
abbrev cX10_likesNobody : ByteArray := prog_12_method_31_code
def yX10_likesNobody : MethodName := ⟨RX10, "likesNobody", "(II)Z"⟩
abbrev cX10_watching : ByteArray := prog_12_method_32_code
def yX10_watching : MethodName := ⟨RX10, "watching", "(II)I"⟩
abbrev cX10_agesApart : ByteArray := prog_12_method_33_code
def yX10_agesApart : MethodName := ⟨RX10, "agesApart", "(II)I"⟩
abbrev cX10_plainChance : ByteArray := prog_12_method_34_code
def yX10_plainChance : MethodName := ⟨RX10, "plainChance", "(II)I"⟩
abbrev cX10_chance : ByteArray := prog_12_method_35_code
def yX10_chance : MethodName := ⟨RX10, "chance", "(II)I"⟩
abbrev cX10_between : ByteArray := prog_12_method_36_code
def yX10_between : MethodName := ⟨RX10, "between", "(III)I"⟩
abbrev cX10_feed : ByteArray := prog_12_method_37_code
def yX10_feed : MethodName := ⟨RX10, "feed", "(JI)I"⟩
abbrev cX10_here : ByteArray := prog_12_method_38_code
def yX10_here : MethodName := ⟨RX10, "here", "()I"⟩
abbrev cX10_takes : ByteArray := prog_12_method_39_code
def yX10_takes : MethodName := ⟨RX10, "takes", "(I)Z"⟩
abbrev cX10_codes : ByteArray := prog_12_method_40_code
def yX10_codes : MethodName := ⟨RX10, "codes", "(I)V"⟩
abbrev cX10_either : ByteArray := prog_12_method_41_code
def yX10_either : MethodName := ⟨RX10, "either", "()V"⟩
abbrev cX10_both : ByteArray := prog_12_method_42_code
def yX10_both : MethodName := ⟨RX10, "both", "()V"⟩
abbrev cX10_compared : ByteArray := prog_12_method_43_code
def yX10_compared : MethodName := ⟨RX10, "compared", "()V"⟩
abbrev cX10_sum : ByteArray := prog_12_method_44_code
def yX10_sum : MethodName := ⟨RX10, "sum", "()V"⟩
abbrev cX10_product : ByteArray := prog_12_method_45_code
def yX10_product : MethodName := ⟨RX10, "product", "()V"⟩
abbrev cX10_nameOf : ByteArray := prog_12_method_46_code
def yX10_nameOf : MethodName := ⟨RX10, "nameOf", "(I)I"⟩
abbrev cX10_one : ByteArray := prog_12_method_47_code
def yX10_one : MethodName := ⟨RX10, "one", "()V"⟩
abbrev cX10_text : ByteArray := prog_12_method_48_code
def yX10_text : MethodName := ⟨RX10, "text", "(I)I"⟩
abbrev cX10_untell : ByteArray := prog_12_method_49_code
def yX10_untell : MethodName := ⟨RX10, "untell", "(I)I"⟩
abbrev cX10_done : ByteArray := prog_12_method_50_code
def yX10_done : MethodName := ⟨RX10, "done", "(III)I"⟩
abbrev cX10_worked : ByteArray := prog_12_method_51_code
def yX10_worked : MethodName := ⟨RX10, "worked", "(I)I"⟩
abbrev cX10_hasText : ByteArray := prog_12_method_52_code
def yX10_hasText : MethodName := ⟨RX10, "hasText", "(I)Z"⟩
abbrev cX10_given : ByteArray := prog_12_method_53_code
def yX10_given : MethodName := ⟨RX10, "given", "(IIIIII)I"⟩
abbrev cX10_bestHeap : ByteArray := prog_12_method_54_code
def yX10_bestHeap : MethodName := ⟨RX10, "bestHeap", "(I)I"⟩
abbrev cX10_drawn : ByteArray := prog_12_method_55_code
def yX10_drawn : MethodName := ⟨RX10, "drawn", "(I)I"⟩
abbrev cX10_isLetIn : ByteArray := prog_12_method_56_code
def yX10_isLetIn : MethodName := ⟨RX10, "isLetIn", "(I)Z"⟩
abbrev cX10_fallsApart : ByteArray := prog_12_method_57_code
def yX10_fallsApart : MethodName := ⟨RX10, "fallsApart", "(I)V"⟩
abbrev cX10_minute : ByteArray := prog_12_method_58_code
def yX10_minute : MethodName := ⟨RX10, "minute", "()V"⟩
abbrev cX10_minutesGo : ByteArray := prog_12_method_59_code
def yX10_minutesGo : MethodName := ⟨RX10, "minutesGo", "(I)V"⟩
abbrev cX10_sorrowNow : ByteArray := prog_12_method_60_code
def yX10_sorrowNow : MethodName := ⟨RX10, "sorrowNow", "()I"⟩
abbrev cX10_minutes : ByteArray := prog_12_method_61_code
def yX10_minutes : MethodName := ⟨RX10, "minutes", "(I)I"⟩
abbrev cX10_movesTo : ByteArray := prog_12_method_62_code
def yX10_movesTo : MethodName := ⟨RX10, "movesTo", "(II)I"⟩
abbrev cX10_term : ByteArray := prog_12_method_63_code
def yX10_term : MethodName := ⟨RX10, "term", "()V"⟩
abbrev cX10_terms : ByteArray := prog_12_method_64_code
def yX10_terms : MethodName := ⟨RX10, "terms", "(I)I"⟩
abbrev cX10_seed : ByteArray := prog_12_method_65_code
def yX10_seed : MethodName := ⟨RX10, "seed", "(I)I"⟩
abbrev cX10_slipOf : ByteArray := prog_12_method_66_code
def yX10_slipOf : MethodName := ⟨RX10, "slipOf", "(I)I"⟩
abbrev cX10_namedOf : ByteArray := prog_12_method_67_code
def yX10_namedOf : MethodName := ⟨RX10, "namedOf", "(I)I"⟩
abbrev cX10_findSlips : ByteArray := prog_12_method_68_code
def yX10_findSlips : MethodName := ⟨RX10, "findSlips", "()V"⟩
abbrev cX10_bothOf : ByteArray := prog_12_method_69_code
def yX10_bothOf : MethodName := ⟨RX10, "bothOf", "(I)I"⟩
abbrev cX10_both_ : ByteArray := prog_12_method_70_code
def yX10_both_ : MethodName := ⟨RX10, "both", "(I)I"⟩
abbrev cX10_ringOf : ByteArray := prog_12_method_71_code
def yX10_ringOf : MethodName := ⟨RX10, "ringOf", "(I)I"⟩
abbrev cX10_ring : ByteArray := prog_12_method_72_code
def yX10_ring : MethodName := ⟨RX10, "ring", "(I)I"⟩
abbrev cX10_net : ByteArray := prog_12_method_73_code
def yX10_net : MethodName := ⟨RX10, "net", "(I)I"⟩
abbrev cX10_isAhead : ByteArray := prog_12_method_74_code
def yX10_isAhead : MethodName := ⟨RX10, "isAhead", "(I)Z"⟩
abbrev cX10_then : ByteArray := prog_12_method_75_code
def yX10_then : MethodName := ⟨RX10, "then", "(III)I"⟩
abbrev cX10_sorrow : ByteArray := prog_12_method_76_code
def yX10_sorrow : MethodName := ⟨RX10, "sorrow", "(I)I"⟩
abbrev cX10_word : ByteArray := prog_12_method_77_code
def yX10_word : MethodName := ⟨RX10, "word", "(II)I"⟩
abbrev cX10_teach : ByteArray := prog_12_method_78_code
def yX10_teach : MethodName := ⟨RX10, "teach", "(II)I"⟩
abbrev cX10_nobodyIn : ByteArray := prog_12_method_79_code
def yX10_nobodyIn : MethodName := ⟨RX10, "nobodyIn", "(I)I"⟩
abbrev cX10_classes : ByteArray := prog_12_method_80_code
def yX10_classes : MethodName := ⟨RX10, "classes", "(I)I"⟩
abbrev cX10_best : ByteArray := prog_12_method_81_code
def yX10_best : MethodName := ⟨RX10, "best", "(I)I"⟩
abbrev cX10_began : ByteArray := prog_12_method_82_code
def yX10_began : MethodName := ⟨RX10, "began", "(I)V"⟩
abbrev cX10_hasOwn : ByteArray := prog_12_method_83_code
def yX10_hasOwn : MethodName := ⟨RX10, "hasOwn", "(II)Z"⟩
abbrev cX10_voiced : ByteArray := prog_12_method_84_code
def yX10_voiced : MethodName := ⟨RX10, "voiced", "(II)I"⟩
abbrev cX10_bodyFrom : ByteArray := prog_12_method_85_code
def yX10_bodyFrom : MethodName := ⟨RX10, "bodyFrom", "(III)I"⟩
abbrev cX10_body : ByteArray := prog_12_method_86_code
def yX10_body : MethodName := ⟨RX10, "body", "(III)I"⟩
abbrev cX10_voice : ByteArray := prog_12_method_87_code
def yX10_voice : MethodName := ⟨RX10, "voice", "(III)I"⟩
abbrev cX10_body_ : ByteArray := prog_12_method_88_code
def yX10_body_ : MethodName := ⟨RX10, "body", "(I)I"⟩
abbrev cX10_isSheet : ByteArray := prog_12_method_89_code
def yX10_isSheet : MethodName := ⟨RX10, "isSheet", "(I)Z"⟩
abbrev cX10_sheet : ByteArray := prog_12_method_90_code
def yX10_sheet : MethodName := ⟨RX10, "sheet", "(III)I"⟩
abbrev cX10_put : ByteArray := prog_12_method_91_code
def yX10_put : MethodName := ⟨RX10, "put", "(III)I"⟩
abbrev cX10_move : ByteArray := prog_12_method_92_code
def yX10_move : MethodName := ⟨RX10, "move", "(IIIII)I"⟩
abbrev cX10_slips : ByteArray := prog_12_method_93_code
def yX10_slips : MethodName := ⟨RX10, "slips", "(II)I"⟩
abbrev cX10_film : ByteArray := prog_12_method_94_code
def yX10_film : MethodName := ⟨RX10, "film", "(II)I"⟩
abbrev cX10_image : ByteArray := prog_12_method_95_code
def yX10_image : MethodName := ⟨RX10, "image", "()I"⟩
abbrev cX10_restore : ByteArray := prog_12_method_96_code
def yX10_restore : MethodName := ⟨RX10, "restore", "()I"⟩
abbrev cX10_tell : ByteArray := prog_12_method_97_code
def yX10_tell : MethodName := ⟨RX10, "tell", "(I)I"⟩
abbrev cX10_check : ByteArray := prog_12_method_98_code
def yX10_check : MethodName := ⟨RX10, "check", "(I)I"⟩
abbrev cX10_count : ByteArray := prog_12_method_99_code
def yX10_count : MethodName := ⟨RX10, "count", "(I)I"⟩
abbrev cX10_told : ByteArray := prog_12_method_100_code
def yX10_told : MethodName := ⟨RX10, "told", "(I)I"⟩
def RJx145de : String := "java/io/Serializable"
def TJx145de : u_T := fun k => match k with
  | _ => ("", "", "", false)
def tyJx145de : Nat → FieldType := fun k => match k with
  | _ => .int
theorem nmJx145de : ∀ a, a < 0 → ∀ b, b < 0 → a ≠ b → (TJx145de a).2.1 ≠ (TJx145de b).2.1 := by decide +kernel
theorem tyJx145de_ok : ∀ k, k < 0 → parseFieldDescriptor (TJx145de k).2.2.1 = some (tyJx145de k) := by decide +kernel
def RJx9f9b0 : String := "java/lang/CharSequence"
def TJx9f9b0 : u_T := fun k => match k with
  | _ => ("", "", "", false)
def tyJx9f9b0 : Nat → FieldType := fun k => match k with
  | _ => .int
theorem nmJx9f9b0 : ∀ a, a < 0 → ∀ b, b < 0 → a ≠ b → (TJx9f9b0 a).2.1 ≠ (TJx9f9b0 b).2.1 := by decide +kernel
theorem tyJx9f9b0_ok : ∀ k, k < 0 → parseFieldDescriptor (TJx9f9b0 k).2.2.1 = some (tyJx9f9b0 k) := by decide +kernel
def RJ11 : String := "java/lang/Character"
def TJ11 : u_T := fun k => match k with
  | _ => ("", "", "", false)
def tyJ11 : Nat → FieldType := fun k => match k with
  | _ => .int
theorem nmJ11 : ∀ a, a < 0 → ∀ b, b < 0 → a ≠ b → (TJ11 a).2.1 ≠ (TJ11 b).2.1 := by decide +kernel
theorem tyJ11_ok : ∀ k, k < 0 → parseFieldDescriptor (TJ11 k).2.2.1 = some (tyJ11 k) := by decide +kernel
abbrev cJ11_isValidCodePoint_9a6ad : ByteArray := prog_13_method_11_code
def yJ11_isValidCodePoint_9a6ad : MethodName := ⟨RJ11, "isValidCodePoint", "(I)Z"⟩
abbrev cJ11_highSurrogate_5068e : ByteArray := prog_13_method_28_code
def yJ11_highSurrogate_5068e : MethodName := ⟨RJ11, "highSurrogate", "(I)C"⟩
abbrev cJ11_lowSurrogate_5068e : ByteArray := prog_13_method_29_code
def yJ11_lowSurrogate_5068e : MethodName := ⟨RJ11, "lowSurrogate", "(I)C"⟩
def RJxb160c : String := "java/lang/Comparable"
def TJxb160c : u_T := fun k => match k with
  | _ => ("", "", "", false)
def tyJxb160c : Nat → FieldType := fun k => match k with
  | _ => .int
theorem nmJxb160c : ∀ a, a < 0 → ∀ b, b < 0 → a ≠ b → (TJxb160c a).2.1 ≠ (TJxb160c b).2.1 := by decide +kernel
theorem tyJxb160c_ok : ∀ k, k < 0 → parseFieldDescriptor (TJxb160c k).2.2.1 = some (tyJxb160c k) := by decide +kernel
def RJ6 : String := "java/lang/Integer"
def TJ6 : u_T := fun k => match k with
  | _ => ("", "", "", false)
def tyJ6 : Nat → FieldType := fun k => match k with
  | _ => .int
theorem nmJ6 : ∀ a, a < 0 → ∀ b, b < 0 → a ≠ b → (TJ6 a).2.1 ≠ (TJ6 b).2.1 := by decide +kernel
theorem tyJ6_ok : ∀ k, k < 0 → parseFieldDescriptor (TJ6 k).2.2.1 = some (tyJ6 k) := by decide +kernel
abbrev cJ6_compare_7cf53 : ByteArray := prog_14_method_40_code
def yJ6_compare_7cf53 : MethodName := ⟨RJ6, "compare", "(II)I"⟩
abbrev cJ6_numberOfTrailingZeros_0f7a4 : ByteArray := prog_14_method_48_code
def yJ6_numberOfTrailingZeros_0f7a4 : MethodName := ⟨RJ6, "numberOfTrailingZeros", "(I)I"⟩
abbrev cJ6_bitCount_0f7a4 : ByteArray := prog_14_method_49_code
def yJ6_bitCount_0f7a4 : MethodName := ⟨RJ6, "bitCount", "(I)I"⟩
def RJ9 : String := "java/lang/Math"
def TJ9 : u_T := fun k => match k with
  | _ => ("", "", "", false)
def tyJ9 : Nat → FieldType := fun k => match k with
  | _ => .int
theorem nmJ9 : ∀ a, a < 0 → ∀ b, b < 0 → a ≠ b → (TJ9 a).2.1 ≠ (TJ9 b).2.1 := by decide +kernel
theorem tyJ9_ok : ∀ k, k < 0 → parseFieldDescriptor (TJ9 k).2.2.1 = some (tyJ9 k) := by decide +kernel
abbrev cJ9_abs_0f7a4 : ByteArray := prog_15_method_59_code
def yJ9_abs_0f7a4 : MethodName := ⟨RJ9, "abs", "(I)I"⟩
abbrev cJ9_max_7cf53 : ByteArray := prog_15_method_65_code
def yJ9_max_7cf53 : MethodName := ⟨RJ9, "max", "(II)I"⟩
abbrev cJ9_min_7cf53 : ByteArray := prog_15_method_69_code
def yJ9_min_7cf53 : MethodName := ⟨RJ9, "min", "(II)I"⟩
def RJ0 : String := "java/lang/String"
def TJ0 : u_T := fun k => match k with
  | _ => ("", "", "", false)
def tyJ0 : Nat → FieldType := fun k => match k with
  | _ => .int
theorem nmJ0 : ∀ a, a < 0 → ∀ b, b < 0 → a ≠ b → (TJ0 a).2.1 ≠ (TJ0 b).2.1 := by decide +kernel
theorem tyJ0_ok : ∀ k, k < 0 → parseFieldDescriptor (TJ0 k).2.2.1 = some (tyJ0 k) := by decide +kernel
abbrev cJ0_length_8abf5 : ByteArray := prog_16_method_54_code
def yJ0_length_8abf5 : MethodName := ⟨RJ0, "length", "()I"⟩
abbrev cJ0_charAt_5068e : ByteArray := prog_16_method_56_code
def yJ0_charAt_5068e : MethodName := ⟨RJ0, "charAt", "(I)C"⟩
abbrev cJ0_indexOf_0f7a4 : ByteArray := prog_16_method_79_code
def yJ0_indexOf_0f7a4 : MethodName := ⟨RJ0, "indexOf", "(I)I"⟩
abbrev cJ0_indexOf_7cf53 : ByteArray := prog_16_method_80_code
def yJ0_indexOf_7cf53 : MethodName := ⟨RJ0, "indexOf", "(II)I"⟩
abbrev cJ0_coder_7d493 : ByteArray := prog_16_method_152_code
def yJ0_coder_7d493 : MethodName := ⟨RJ0, "coder", "()B"⟩
abbrev cJ0_isLatin1_aae02 : ByteArray := prog_16_method_154_code
def yJ0_isLatin1_aae02 : MethodName := ⟨RJ0, "isLatin1", "()Z"⟩
abbrev cJ0_checkIndex_df160 : ByteArray := prog_16_method_155_code
def yJ0_checkIndex_df160 : MethodName := ⟨RJ0, "checkIndex", "(II)V"⟩
abbrev cJ0_checkBoundsBeginEnd_23922 : ByteArray := prog_16_method_158_code
def yJ0_checkBoundsBeginEnd_23922 : MethodName := ⟨RJ0, "checkBoundsBeginEnd", "(III)V"⟩
def RJ1 : String := "java/lang/StringLatin1"
def TJ1 : u_T := fun k => match k with
  | _ => ("", "", "", false)
def tyJ1 : Nat → FieldType := fun k => match k with
  | _ => .int
theorem nmJ1 : ∀ a, a < 0 → ∀ b, b < 0 → a ≠ b → (TJ1 a).2.1 ≠ (TJ1 b).2.1 := by decide +kernel
theorem tyJ1_ok : ∀ k, k < 0 → parseFieldDescriptor (TJ1 k).2.2.1 = some (tyJ1 k) := by decide +kernel
abbrev cJ1_charAt_3b067 : ByteArray := prog_17_method_2_code
def yJ1_charAt_3b067 : MethodName := ⟨RJ1, "charAt", "([BI)C"⟩
abbrev cJ1_canEncode_9a6ad : ByteArray := prog_17_method_4_code
def yJ1_canEncode_9a6ad : MethodName := ⟨RJ1, "canEncode", "(I)Z"⟩
abbrev cJ1_indexOf_4cfef : ByteArray := prog_17_method_22_code
def yJ1_indexOf_4cfef : MethodName := ⟨RJ1, "indexOf", "([BIII)I"⟩
abbrev cJ1_indexOfChar_4cfef : ByteArray := prog_17_method_23_code
def yJ1_indexOfChar_4cfef : MethodName := ⟨RJ1, "indexOfChar", "([BIII)I"⟩
def RJ2 : String := "java/lang/StringUTF16"
def TJ2 : u_T := fun k => match k with
  | _ => ("", "", "", false)
def tyJ2 : Nat → FieldType := fun k => match k with
  | _ => .int
theorem nmJ2 : ∀ a, a < 0 → ∀ b, b < 0 → a ≠ b → (TJ2 a).2.1 ≠ (TJ2 b).2.1 := by decide +kernel
theorem tyJ2_ok : ∀ k, k < 0 → parseFieldDescriptor (TJ2 k).2.2.1 = some (tyJ2 k) := by decide +kernel
abbrev cJ2_getChar_3b067 : ByteArray := prog_18_method_5_code
def yJ2_getChar_3b067 : MethodName := ⟨RJ2, "getChar", "([BI)C"⟩
abbrev cJ2_length_9d52b : ByteArray := prog_18_method_6_code
def yJ2_length_9d52b : MethodName := ⟨RJ2, "length", "([B)I"⟩
abbrev cJ2_indexOf_4cfef : ByteArray := prog_18_method_40_code
def yJ2_indexOf_4cfef : MethodName := ⟨RJ2, "indexOf", "([BIII)I"⟩
abbrev cJ2_indexOfChar_4cfef : ByteArray := prog_18_method_47_code
def yJ2_indexOfChar_4cfef : MethodName := ⟨RJ2, "indexOfChar", "([BIII)I"⟩
abbrev cJ2_indexOfCharUnsafe_4cfef : ByteArray := prog_18_method_48_code
def yJ2_indexOfCharUnsafe_4cfef : MethodName := ⟨RJ2, "indexOfCharUnsafe", "([BIII)I"⟩
abbrev cJ2_indexOfSupplementary_4cfef : ByteArray := prog_18_method_49_code
def yJ2_indexOfSupplementary_4cfef : MethodName := ⟨RJ2, "indexOfSupplementary", "([BIII)I"⟩
abbrev cJ2_charAt_3b067 : ByteArray := prog_18_method_83_code
def yJ2_charAt_3b067 : MethodName := ⟨RJ2, "charAt", "([BI)C"⟩
abbrev cJ2_checkIndex_2214a : ByteArray := prog_18_method_91_code
def yJ2_checkIndex_2214a : MethodName := ⟨RJ2, "checkIndex", "(I[B)V"⟩
abbrev cJ2_checkBoundsBeginEnd_d044e : ByteArray := prog_18_method_93_code
def yJ2_checkBoundsBeginEnd_d044e : MethodName := ⟨RJ2, "checkBoundsBeginEnd", "(II[B)V"⟩
def RJ10 : String := "java/lang/System"
def TJ10 : u_T := fun k => match k with
  | _ => ("", "", "", false)
def tyJ10 : Nat → FieldType := fun k => match k with
  | _ => .int
theorem nmJ10 : ∀ a, a < 0 → ∀ b, b < 0 → a ≠ b → (TJ10 a).2.1 ≠ (TJ10 b).2.1 := by decide +kernel
theorem tyJ10_ok : ∀ k, k < 0 → parseFieldDescriptor (TJ10 k).2.2.1 = some (tyJ10 k) := by decide +kernel
def RJxfd54e : String := "java/lang/constant/Constable"
def TJxfd54e : u_T := fun k => match k with
  | _ => ("", "", "", false)
def tyJxfd54e : Nat → FieldType := fun k => match k with
  | _ => .int
theorem nmJxfd54e : ∀ a, a < 0 → ∀ b, b < 0 → a ≠ b → (TJxfd54e a).2.1 ≠ (TJxfd54e b).2.1 := by decide +kernel
theorem tyJxfd54e_ok : ∀ k, k < 0 → parseFieldDescriptor (TJxfd54e k).2.2.1 = some (tyJxfd54e k) := by decide +kernel
def RJx3cf43 : String := "java/lang/constant/ConstantDesc"
def TJx3cf43 : u_T := fun k => match k with
  | _ => ("", "", "", false)
def tyJx3cf43 : Nat → FieldType := fun k => match k with
  | _ => .int
theorem nmJx3cf43 : ∀ a, a < 0 → ∀ b, b < 0 → a ≠ b → (TJx3cf43 a).2.1 ≠ (TJx3cf43 b).2.1 := by decide +kernel
theorem tyJx3cf43_ok : ∀ k, k < 0 → parseFieldDescriptor (TJx3cf43 k).2.2.1 = some (tyJx3cf43 k) := by decide +kernel
def RJ7 : String := "java/util/Arrays"
def TJ7 : u_T := fun k => match k with
  | _ => ("", "", "", false)
def tyJ7 : Nat → FieldType := fun k => match k with
  | _ => .int
theorem nmJ7 : ∀ a, a < 0 → ∀ b, b < 0 → a ≠ b → (TJ7 a).2.1 ≠ (TJ7 b).2.1 := by decide +kernel
theorem tyJ7_ok : ∀ k, k < 0 → parseFieldDescriptor (TJ7 k).2.2.1 = some (tyJ7 k) := by decide +kernel
abbrev cJ7_fill_53178 : ByteArray := prog_20_method_103_code
def yJ7_fill_53178 : MethodName := ⟨RJ7, "fill", "([II)V"⟩
def RJ3 : String := "jdk/internal/util/Preconditions"
def TJ3 : u_T := fun k => match k with
  | _ => ("", "", "", false)
def tyJ3 : Nat → FieldType := fun k => match k with
  | _ => .int
theorem nmJ3 : ∀ a, a < 0 → ∀ b, b < 0 → a ≠ b → (TJ3 a).2.1 ≠ (TJ3 b).2.1 := by decide +kernel
theorem tyJ3_ok : ∀ k, k < 0 → parseFieldDescriptor (TJ3 k).2.2.1 = some (tyJ3 k) := by decide +kernel
abbrev cJ3_checkIndex_8e157 : ByteArray := prog_21_method_11_code
def yJ3_checkIndex_8e157 : MethodName := ⟨RJ3, "checkIndex", "(IILjava/util/function/BiFunction;)I"⟩
abbrev cJ3_checkFromToIndex_8c36e : ByteArray := prog_21_method_12_code
def yJ3_checkFromToIndex_8c36e : MethodName := ⟨RJ3, "checkFromToIndex", "(IIILjava/util/function/BiFunction;)I"⟩
def RL : String := "BreakTimeLaw"
abbrev cL_law : ByteArray := code
def yL_law : MethodName := ⟨RL, "law", "([I)Z"⟩
abbrev vwCl : List vw_C := [(RX0, TX0, 8), (RX1, TX1, 4), (RX2, TX2, 5), (RX3, TX3, 5), (RX4, TX4, 2), (RX5, TX5, 3), (RX6, TX6, 5), (RX7, TX7, 3), (RX8, TX8, 12), (RX9, TX9, 9), (RX10, TX10, 24)]
