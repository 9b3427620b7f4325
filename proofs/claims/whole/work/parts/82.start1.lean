theorem is_X9 : Cond.instantiable RX9 9 ∈ lw_w := lw_in (by decide +kernel) rfl
theorem is_X10 : Cond.instantiable RX10 24 ∈ lw_w := lw_in (by decide +kernel) rfl
theorem tb_62 : Cond.arrayClass .int ∈ lw_tbl := List.mem_of_getElem? (i := 116) (by decide +kernel)
theorem tb_64 : Cond.arrayOver (.array .int) ∈ lw_tbl := List.mem_of_getElem? (i := 118) (by decide +kernel)
theorem tb_36 : Cond.arrayOver (.object "BreakTime$Child") ∈ lw_tbl := List.mem_of_getElem? (i := 90) (by decide +kernel)
theorem tb_38 : Cond.arrayOver (.object "BreakTime$Heap") ∈ lw_tbl := List.mem_of_getElem? (i := 92) (by decide +kernel)
theorem tb_40 : Cond.arrayOver (.object "BreakTime$Text") ∈ lw_tbl := List.mem_of_getElem? (i := 94) (by decide +kernel)
theorem tb_286 : Cond.arrayOver (.object "BreakTime$Sheet") ∈ lw_tbl := List.mem_of_getElem? (i := 340) (by decide +kernel)
theorem tb_899 : Cond.arrayOver (.object "java/lang/String") ∈ lw_tbl := List.mem_of_getElem? (i := 956) (by decide +kernel)
theorem tb_240 : Cond.stringRef "BreakTime$Reader" 22 "" ∈ lw_tbl := List.mem_of_getElem? (i := 294) (by decide +kernel)
theorem tb_514 : Cond.stringRef "BreakTime" 161 "wrnxa" ∈ lw_tbl := List.mem_of_getElem? (i := 571) (by decide +kernel)
theorem tb_515 : Cond.stringRef "BreakTime" 163 "lofh" ∈ lw_tbl := List.mem_of_getElem? (i := 572) (by decide +kernel)
theorem tb_629 : Cond.stringRef "BreakTime$Reader" 90 "!(" ∈ lw_tbl := List.mem_of_getElem? (i := 686) (by decide +kernel)
theorem tb_630 : Cond.stringRef "BreakTime$Reader" 92 ")" ∈ lw_tbl := List.mem_of_getElem? (i := 687) (by decide +kernel)
theorem tb_634 : Cond.stringRef "BreakTime$Reader" 74 "|" ∈ lw_tbl := List.mem_of_getElem? (i := 691) (by decide +kernel)
theorem tb_635 : Cond.stringRef "BreakTime$Reader" 76 "&" ∈ lw_tbl := List.mem_of_getElem? (i := 692) (by decide +kernel)
theorem tb_636 : Cond.stringRef "BreakTime$Reader" 78 "<=>" ∈ lw_tbl := List.mem_of_getElem? (i := 693) (by decide +kernel)
theorem tb_637 : Cond.stringRef "BreakTime$Reader" 80 "+-" ∈ lw_tbl := List.mem_of_getElem? (i := 694) (by decide +kernel)
theorem tb_638 : Cond.stringRef "BreakTime$Reader" 82 "*/%" ∈ lw_tbl := List.mem_of_getElem? (i := 695) (by decide +kernel)
theorem tb_900 : Cond.stringRef "BreakTimeModel" 24 "wrnxa" ∈ lw_tbl := List.mem_of_getElem? (i := 957) (by decide +kernel)
theorem tb_901 : Cond.stringRef "BreakTimeModel" 26 "lofh" ∈ lw_tbl := List.mem_of_getElem? (i := 958) (by decide +kernel)
theorem tb_66 : Cond.methodLinkNest "BreakTime$Yard" 54 yX0_init "BreakTime" ∈ lw_tbl := List.mem_of_getElem? (i := 120) (by decide +kernel)
theorem tb_116 : Cond.methodLinkNest "BreakTime$Yard" 55 yX2_init "BreakTime" ∈ lw_tbl := List.mem_of_getElem? (i := 170) (by decide +kernel)
theorem tb_146 : Cond.methodLinkNest "BreakTime$Yard" 56 yX7_init "BreakTime" ∈ lw_tbl := List.mem_of_getElem? (i := 200) (by decide +kernel)
theorem tb_213 : Cond.methodLinkNest "BreakTime" 24 yX1_init "BreakTime" ∈ lw_tbl := List.mem_of_getElem? (i := 267) (by decide +kernel)
theorem tb_234 : Cond.methodLinkNest "BreakTime" 31 yX3_init "BreakTime" ∈ lw_tbl := List.mem_of_getElem? (i := 288) (by decide +kernel)
theorem tb_239 : Cond.methodLinkNest "BreakTime$Reader" 11 yX7_init "BreakTime" ∈ lw_tbl := List.mem_of_getElem? (i := 293) (by decide +kernel)
theorem tb_261 : Cond.methodLinkNest "BreakTime" 38 yX6_init "BreakTime" ∈ lw_tbl := List.mem_of_getElem? (i := 315) (by decide +kernel)
theorem tb_288 : Cond.methodLinkNest "BreakTime" 53 yX5_init "BreakTime" ∈ lw_tbl := List.mem_of_getElem? (i := 342) (by decide +kernel)
theorem tb_495 : Cond.methodLinkNest "BreakTime$Yard" 141 yX9_held "BreakTime" ∈ lw_tbl := List.mem_of_getElem? (i := 552) (by decide +kernel)
theorem tb_811 : Cond.fieldLinkNest "BreakTime$Speaker" 45 "BreakTime" "BODIES" "[I" "BreakTime" ∈ lw_tbl := List.mem_of_getElem? (i := 868) (by decide +kernel)
theorem tb_813 : Cond.fieldLinkNest "BreakTime$Speaker" 49 "BreakTime" "ABOVE" "[I" "BreakTime" ∈ lw_tbl := List.mem_of_getElem? (i := 870) (by decide +kernel)
theorem tb_384 : Cond.laysStatic "BreakTime" "ABOVE" "[I" ∈ lw_tbl := List.mem_of_getElem? (i := 438) (by decide +kernel)
theorem tb_812 : Cond.laysStatic "BreakTime" "BODIES" "[I" ∈ lw_tbl := List.mem_of_getElem? (i := 869) (by decide +kernel)
theorem tb_560 : Cond.laysStatic "java/lang/String" "COMPACT_STRINGS" "Z" ∈ lw_tbl := List.mem_of_getElem? (i := 617) (by decide +kernel)
theorem tb_599 : Cond.laysStatic "jdk/internal/util/Preconditions" "SIOOBE_FORMATTER" "Ljava/util/function/BiFunction;" ∈ lw_tbl := List.mem_of_getElem? (i := 656) (by decide +kernel)
theorem tb_1 : Cond.initialized "BreakTime" ∈ lw_tbl := List.mem_of_getElem? (i := 55) (by decide +kernel)
theorem tb_15 : Cond.initialized "java/lang/String" ∈ lw_tbl := List.mem_of_getElem? (i := 69) (by decide +kernel)
theorem tb_18 : Cond.initialized "jdk/internal/util/Preconditions" ∈ lw_tbl := List.mem_of_getElem? (i := 72) (by decide +kernel)
def strTm : List Term := [.string "BreakTime$Reader" 22, .string "BreakTime" 161, .string "BreakTime" 163, .string "BreakTime$Reader" 90, .string "BreakTime$Reader" 92, .string "BreakTime$Reader" 74, .string "BreakTime$Reader" 76, .string "BreakTime$Reader" 78, .string "BreakTime$Reader" 80, .string "BreakTime$Reader" 82]
def strTmA (i : Nat) : Term := strTm.getD i (.string "BreakTime$Reader" 22)
def strLen : List Nat := [0, 5, 4, 2, 1, 1, 1, 3, 2, 3]
abbrev gnC : List Cond := flatC (Jvm.Cond.and given_1 narrow_1)
theorem gn_ex : ∀ i, i < 10 → Cond.exactly (strTmA i) "java/lang/String" ∈ gnC := by decide +kernel
theorem gn_co : ∀ i, i < 10 → Cond.eq (.field (strTmA i) "java/lang/String" "coder" "B") (.int 0) ∈ gnC := by decide +kernel
theorem gn_ar : ∀ i, i < 10 → Cond.arrayOf (.field (strTmA i) "java/lang/String" "value" "[B") .byte ∈ gnC := by decide +kernel
theorem gn_le : ∀ i, i < 10 → Cond.eq (.length (.field (strTmA i) "java/lang/String" "value" "[B")) (.int (Int32.ofNat (strLen.getD i 0))) ∈ gnC := by decide +kernel
theorem gn_el : ∀ i, i < 10 → ∀ j, j < strLen.getD i 0 → Cond.eq (.elem (.field (strTmA i) "java/lang/String" "value" "[B") (.int (Int32.ofNat j))) (.int ((strT.getD i []).getD j 0)) ∈ gnC := by decide +kernel
theorem gn_ne : ∀ i, i < 10 → ∀ j, j < 10 → i ≠ j → Cond.not (.eq (strTmA i) (strTmA j)) ∈ gnC ∨ Cond.not (.eq (strTmA j) (strTmA i)) ∈ gnC := by decide +kernel
theorem gn_m1 : Cond.eq (strTmA 1) (.string "BreakTimeModel" 24) ∈ gnC := by decide +kernel
theorem gn_m2 : Cond.eq (strTmA 2) (.string "BreakTimeModel" 26) ∈ gnC := by decide +kernel
theorem gn_ab1 : Cond.arrayOf (.static "BreakTime" "ABOVE" "[I") .int ∈ gnC := by decide +kernel
theorem gn_ab2 : Cond.eq (.length (.static "BreakTime" "ABOVE" "[I")) (.int (Int32.ofNat 7)) ∈ gnC := by decide +kernel
theorem gn_ab3 : ∀ j, j < 7 → Cond.eq (.elem (.static "BreakTime" "ABOVE" "[I") (.int (Int32.ofNat j))) (.int (aboveT.getD j 0)) ∈ gnC := by decide +kernel
theorem gn_bo1 : Cond.arrayOf (.static "BreakTime" "BODIES" "[I") .int ∈ gnC := by decide +kernel
theorem gn_bo2 : Cond.eq (.length (.static "BreakTime" "BODIES" "[I")) (.int (Int32.ofNat 28)) ∈ gnC := by decide +kernel
theorem gn_bo3 : ∀ j, j < 28 → Cond.eq (.elem (.static "BreakTime" "BODIES" "[I") (.int (Int32.ofNat j))) (.int (bodiesT.getD j 0)) ∈ gnC := by decide +kernel
theorem gn_cs : Cond.eq (.static "java/lang/String" "COMPACT_STRINGS" "Z") (.int 1) ∈ gnC := by decide +kernel
theorem gn_si : Cond.isRef (.static "jdk/internal/util/Preconditions" "SIOOBE_FORMATTER" "Ljava/util/function/BiFunction;") ∈ gnC := by decide +kernel
theorem strLen_ok : ∀ i, i < 10 → strLen.getD i 0 = (strT.getD i []).length := by decide +kernel
theorem arr_of {s : State} {cA : ClassId} {kA : Class} {comp : ClassId} {ty : FieldType} (h2 : s.vm.classes[cA]? = some kA) (h3 : kA.kind = .array comp ty) : ArrOfT s cA ty := fun n z => ⟨fun k h => (by cases h), kA, h2, comp, h3⟩
set_option maxHeartbeats 4000000 in
theorem vm_cls {A : Array Value} {s : State} (htw : ∀ w ∈ lw_w, w.before A s = true) : ∃ (dC : Nat → ClassId) (dI : Nat → Nat → Nat), ∀ (k : Nat) (q : vw_C), vwCl[k]? = some q → u_Kn s q.1 q.2.1 q.2.2 (dC k) (dI k) := by
  obtain ⟨c0, iS0, k0⟩ := u_known (C := RX0) (T := TX0) (N := 8) (n := 8) htw inw_X0 (htw _ is_X0)
  obtain ⟨c1, iS1, k1⟩ := u_known (C := RX1) (T := TX1) (N := 4) (n := 4) htw inw_X1 (htw _ is_X1)
  obtain ⟨c2, iS2, k2⟩ := u_known (C := RX2) (T := TX2) (N := 5) (n := 5) htw inw_X2 (htw _ is_X2)
  obtain ⟨c3, iS3, k3⟩ := u_known (C := RX3) (T := TX3) (N := 5) (n := 5) htw inw_X3 (htw _ is_X3)
  obtain ⟨c4, iS4, k4⟩ := u_known (C := RX4) (T := TX4) (N := 2) (n := 2) htw inw_X4 (htw _ is_X4)
  obtain ⟨c5, iS5, k5⟩ := u_known (C := RX5) (T := TX5) (N := 3) (n := 3) htw inw_X5 (htw _ is_X5)
  obtain ⟨c6, iS6, k6⟩ := u_known (C := RX6) (T := TX6) (N := 5) (n := 5) htw inw_X6 (htw _ is_X6)
  obtain ⟨c7, iS7, k7⟩ := u_known (C := RX7) (T := TX7) (N := 3) (n := 3) htw inw_X7 (htw _ is_X7)
  obtain ⟨c8, iS8, k8⟩ := u_known (C := RX8) (T := TX8) (N := 12) (n := 12) htw inw_X8 (htw _ is_X8)
  obtain ⟨c9, iS9, k9⟩ := u_known (C := RX9) (T := TX9) (N := 9) (n := 9) htw inw_X9 (htw _ is_X9)
  obtain ⟨c10, iS10, k10⟩ := u_known (C := RX10) (T := TX10) (N := 24) (n := 24) htw inw_X10 (htw _ is_X10)
  refine ⟨fun k => if k = 0 then c0 else if k = 1 then c1 else if k = 2 then c2 else if k = 3 then c3 else if k = 4 then c4 else if k = 5 then c5 else if k = 6 then c6 else if k = 7 then c7 else if k = 8 then c8 else if k = 9 then c9 else c10, fun k => if k = 0 then iS0 else if k = 1 then iS1 else if k = 2 then iS2 else if k = 3 then iS3 else if k = 4 then iS4 else if k = 5 then iS5 else if k = 6 then iS6 else if k = 7 then iS7 else if k = 8 then iS8 else if k = 9 then iS9 else iS10, ?_⟩
  intro k q hq
  match k, hq with
  | 0, hq => cases hq; exact k0
  | 1, hq => cases hq; exact k1
  | 2, hq => cases hq; exact k2
  | 3, hq => cases hq; exact k3
  | 4, hq => cases hq; exact k4
  | 5, hq => cases hq; exact k5
  | 6, hq => cases hq; exact k6
  | 7, hq => cases hq; exact k7
  | 8, hq => cases hq; exact k8
  | 9, hq => cases hq; exact k9
  | 10, hq => cases hq; exact k10
  | k + 11, hq => simp at hq
set_option maxHeartbeats 4000000 in
theorem vm_tys {A : Array Value} {s : State} (hts : ∀ w ∈ lw_tbl, w.before A s = true) : ∃ gtF : Nat → ClassId, ∀ (k : Nat) (q : ClassId × FieldType), ([(gtF 0, .int), (gtF 1, .object "BreakTime$Child"), (gtF 2, .object "BreakTime$Heap"), (gtF 3, .object "BreakTime$Text"), (gtF 4, .object "BreakTime$Sheet"), (gtF 5, .array .int), (gtF 6, .object "java/lang/String")] : List (ClassId × FieldType))[k]? = some q → ArrOfT s q.1 q.2 ∧ va_RA s q.1 q.2 := by
  obtain ⟨a0, kA0, cm0, f0, g0, h0⟩ := Cond.arrayClass_spec (hts _ tb_62)
  obtain ⟨cm5, a5, kA5, f5, -, g5, h5, e5⟩ := arrayOverA_spec (hts _ tb_64)
  obtain ⟨cm1, a1, kA1, f1, -, g1, h1, e1⟩ := Cond.arrayOver_spec (hts _ tb_36)
  obtain ⟨cm2, a2, kA2, f2, -, g2, h2, e2⟩ := Cond.arrayOver_spec (hts _ tb_38)
  obtain ⟨cm3, a3, kA3, f3, -, g3, h3, e3⟩ := Cond.arrayOver_spec (hts _ tb_40)
  obtain ⟨cm4, a4, kA4, f4, -, g4, h4, e4⟩ := Cond.arrayOver_spec (hts _ tb_286)
  obtain ⟨cm6, a6, kA6, f6, -, g6, h6, e6⟩ := Cond.arrayOver_spec (hts _ tb_899)
  refine ⟨fun k => if k = 0 then a0 else if k = 1 then a1 else if k = 2 then a2 else if k = 3 then a3 else if k = 4 then a4 else if k = 5 then a5 else a6, ?_⟩
  intro k q hq
  match k, hq with
  | 0, hq => cases hq; exact ⟨arr_of g0 h0, f0⟩
  | 1, hq => cases hq; exact ⟨arr_of g1 h1, kA1, cm1, g1, h1, f1, e1⟩
  | 2, hq => cases hq; exact ⟨arr_of g2 h2, kA2, cm2, g2, h2, f2, e2⟩
  | 3, hq => cases hq; exact ⟨arr_of g3 h3, kA3, cm3, g3, h3, f3, e3⟩
  | 4, hq => cases hq; exact ⟨arr_of g4 h4, kA4, cm4, g4, h4, f4, e4⟩
  | 5, hq => cases hq; exact ⟨arr_of g5 h5, e5⟩
  | 6, hq => cases hq; exact ⟨arr_of g6 h6, kA6, cm6, g6, h6, f6, e6⟩
  | k + 7, hq => simp at hq
set_option maxHeartbeats 4000000 in
theorem vm_start {b : Nat} {s : State} (hts : ∀ w ∈ lw_tbl, w.before #[Value.ref b] s = true) (hgv : (Jvm.Cond.and given_1 narrow_1).before #[Value.ref b] s = true) : ∃ G : GC, gb G = s.heap.size ∧ gH G = s.heap ∧ VmOk G s := by
  have htw : ∀ w ∈ lw_w, w.before #[Value.ref b] s = true := fun w hw => hts w (List.mem_filter.mp hw).1
  have hs := flat_of_before _ hgv
  have hA : ∀ a : Nat, a < s.heap.size → ¬ (fun q : Nat => s.heap.size ≤ q) a := fun a h => Nat.not_le.mpr h
  obtain ⟨dC, dI, hKc⟩ := vm_cls htw
  obtain ⟨gtF, hT⟩ := vm_tys hts
  obtain ⟨adK, adV, hS, hev⟩ := vk_Sof (args := #[Value.ref b]) (s := s) (N := 10) (tm := strTmA) (len := strLen) (byt := strT) (A := fun q : Nat => s.heap.size ≤ q) (by decide +kernel) (fun i hi => hs _ (gn_ex i hi)) (fun i hi => hs _ (gn_co i hi)) (fun i hi => hs _ (gn_ar i hi)) (fun i hi => hs _ (gn_le i hi)) (fun i hi j hj => hs _ (gn_el i hi j hj)) (fun i j hi hj hij => (gn_ne i hi j hj hij).imp (fun h => hs _ h) (fun h => hs _ h)) hA
  obtain ⟨t20, e20, hT20⟩ := va_Tof (args := #[Value.ref b]) (s := s) (tm := .static "BreakTime" "ABOVE" "[I") (ty := .int) (N := 7) (f := fun j => .int (aboveT.getD j 0)) (A := fun q : Nat => s.heap.size ≤ q) (by decide) (hs _ gn_ab1) (va_eqt (hs _ gn_ab2)) (fun j hj => va_eqt (hs _ (gn_ab3 j hj))) hA
  obtain ⟨t21, e21, hT21⟩ := va_Tof (args := #[Value.ref b]) (s := s) (tm := .static "BreakTime" "BODIES" "[I") (ty := .int) (N := 28) (f := fun j => .int (bodiesT.getD j 0)) (A := fun q : Nat => s.heap.size ≤ q) (by decide) (hs _ gn_bo1) (va_eqt (hs _ gn_bo2)) (fun j hj => va_eqt (hs _ (gn_bo3 j hj))) hA
  refine ⟨((dC, dI), gtF, s.heap.size, s.heap, adK, fun i => if i = 20 then t20 else if i = 21 then t21 else adV i), rfl, rfl, ⟨hKc, hT⟩, ⟨va_Zof (hts _ tb_384) (hts _ tb_1) e20 hA, hT20⟩, ⟨va_Zof (hts _ tb_812) (hts _ tb_1) e21 hA, hT21⟩, ⟨va_Zof (hts _ tb_560) (hts _ tb_15) (va_eqi (hs _ gn_cs)) hA, va_Zqof (hts _ tb_599) (hts _ tb_18) (hs _ gn_si) hA⟩, fun i hi => ?_, fun q hq => ?_, fun q hq => ?_, fun q hq => ?_, fun q hq => ?_, hts _ tb_64⟩
  · obtain ⟨o1, o2, o3, o4⟩ := hS.1 i hi
    rw [strLen_ok i hi] at o4
    have hi0 : (if i = 20 then t20 else if i = 21 then t21 else adV i) = adV i := by rw [if_neg (by omega), if_neg (by omega)]
    refine ⟨o1, o2, ?_, ?_⟩
    · show va_OF "java/lang/String" "value" "[B" (.ref (if i = 20 then t20 else if i = 21 then t21 else adV i)) (adK i) (fun q : Nat => s.heap.size ≤ q) s s.heap
      rw [hi0]; exact o3
    · show va_T .byte (if i = 20 then t20 else if i = 21 then t21 else adV i) ((strT.getD i []).length) (fun j => .int ((strT.getD i []).getD j 0)) (fun q : Nat => s.heap.size ≤ q) s s.heap
      rw [hi0]; exact o4
  · simp only [strIdx, List.mem_cons, List.not_mem_nil, or_false] at hq
    rcases hq with rfl | rfl | rfl | rfl | rfl | rfl | rfl | rfl | rfl | rfl | rfl | rfl
    · exact vk_R.of (A := #[Value.ref b]) (hts _ tb_240) (hev 0 (by decide))
    · exact vk_R.of (A := #[Value.ref b]) (hts _ tb_514) (hev 1 (by decide))
    · exact vk_R.of (A := #[Value.ref b]) (hts _ tb_515) (hev 2 (by decide))
    · exact vk_R.of (A := #[Value.ref b]) (hts _ tb_629) (hev 3 (by decide))
    · exact vk_R.of (A := #[Value.ref b]) (hts _ tb_630) (hev 4 (by decide))
    · exact vk_R.of (A := #[Value.ref b]) (hts _ tb_634) (hev 5 (by decide))
    · exact vk_R.of (A := #[Value.ref b]) (hts _ tb_635) (hev 6 (by decide))
    · exact vk_R.of (A := #[Value.ref b]) (hts _ tb_636) (hev 7 (by decide))
    · exact vk_R.of (A := #[Value.ref b]) (hts _ tb_637) (hev 8 (by decide))
    · exact vk_R.of (A := #[Value.ref b]) (hts _ tb_638) (hev 9 (by decide))
    · exact vk_R.of (A := #[Value.ref b]) (hts _ tb_900) (va_eqR (hs _ gn_m1) (hev 1 (by decide)))
    · exact vk_R.of (A := #[Value.ref b]) (hts _ tb_901) (va_eqR (hs _ gn_m2) (hev 2 (by decide)))
  · simp only [nestM, List.mem_cons, List.not_mem_nil, or_false] at hq
    rcases hq with rfl | rfl | rfl | rfl | rfl | rfl | rfl | rfl | rfl
    · exact va_Nw.of (A := #[Value.ref b]) rfl (hts _ tb_66)
    · exact va_Nw.of (A := #[Value.ref b]) rfl (hts _ tb_116)
    · exact va_Nw.of (A := #[Value.ref b]) rfl (hts _ tb_146)
    · exact va_Nw.of (A := #[Value.ref b]) rfl (hts _ tb_213)
    · exact va_Nw.of (A := #[Value.ref b]) rfl (hts _ tb_234)
    · exact va_Nw.of (A := #[Value.ref b]) rfl (hts _ tb_239)
    · exact va_Nw.of (A := #[Value.ref b]) rfl (hts _ tb_261)
    · exact va_Nw.of (A := #[Value.ref b]) rfl (hts _ tb_288)
    · exact va_Nw.of (A := #[Value.ref b]) rfl (hts _ tb_495)
  · simp only [nestF, List.mem_cons, List.not_mem_nil, or_false] at hq
    rcases hq with rfl | rfl
    · exact va_Nw.of (A := #[Value.ref b]) rfl (hts _ tb_811)
    · exact va_Nw.of (A := #[Value.ref b]) rfl (hts _ tb_813)
  · simp only [overC, List.mem_cons, List.not_mem_nil, or_false] at hq
    rcases hq with rfl | rfl | rfl | rfl | rfl
    · exact va_AO.of (A := #[Value.ref b]) (hts _ tb_36)
    · exact va_AO.of (A := #[Value.ref b]) (hts _ tb_38)
    · exact va_AO.of (A := #[Value.ref b]) (hts _ tb_40)
    · exact va_AO.of (A := #[Value.ref b]) (hts _ tb_286)
    · exact va_AO.of (A := #[Value.ref b]) (hts _ tb_899)
