theorem vm_self (vm : Vm) (c : ClassId) : vm.assignable c c = true := by
  show Vm.assignableAux vm (255 + 1) c c = true
  rw [Vm.assignableAux, beq_self_eq_true, Bool.true_or]
/-- a text's name goes into the reference's row of texts -/
theorem v_aastS {f : FC} {G : GC} {ph : Ph} {M : Mm} {own : String} {cc : ByteArray} {nL pc : Nat} {lv : List (Nat × Value)} {rest : List Value} (C : Ctx f G own cc nL) {k j i : Nat} (hm : ph.2.2.2 = 0) (hk : k < ph.2.2.1) (hs : shp k = 25) (hj : j < 2) (hi : i < 10) (hd : decode cc pc = .ok (.aastore, 1)) (kk : Vc f G ph (up2 M k j (nI (i + 1))) (pc + 1) lv rest) : Vc f G ph M pc lv (.ref (gK G i) :: .int (nI j) :: .ref (gb G + k) :: rest) := by
  obtain ⟨p, l, e, R, s, m, args, below, meth, c, Q⟩ := f
  obtain ⟨hx, hb, hml, ho, hts, hlk, hvk, hbs, hlow⟩ := C
  intro H locs ls hW hS hl
  obtain ⟨⟨cellV, g1, g2, g3, g4⟩, -⟩ := hvk.2.2.2.2.1 i hi
  have hv : H[gK G i]? = some cellV := by rw [hW.2.2.1 _ (Nat.not_le.mp g4)]; exact g1
  obtain ⟨kA, comp, k1, k2, k3, -⟩ := (hvk.1.2 6 _ rfl).2
  have hcomp : comp = cellV.cls := Option.some.inj (k3.symm.trans g3)
  subst hcomp
  obtain ⟨kC, hkC, -⟩ := Vm.findClass_spec g3
  have hin : ¬ (nI j < 0 ∨ 2 ≤ (nI j).toNatClampNeg) := nI_in hj (by decide)
  refine W.aast hx hb (hW.arr hk hs (by decide) (by decide)) (fun q h => by cases h) (fun h => by cases h) k1 k2 rfl hkC ⟨fun q => hin (Or.inl q), by show _ < (arrV _ _ _).slots.size; rw [arrV_size, nI_clamp (by omega)]; exact hj⟩ hv (fun q h => by rw [h] at g2; cases g2) hkC (vm_self _ _) rfl rfl hd fun H1 e1 z oq => ?_
  have hne : ¬ nI (i + 1) = 0 := fun z => absurd ((nI_eq (show i + 1 < 2 ^ 31 by omega) (by decide)).mp (z.trans nI_0.symm)) (by omega)
  refine kk H1 _ ls (hW.step hk ?_ z oq (fun a ha => up2_ne M _ _ ha) (fun q q1 q2 => by omega) (fun hm1 => by rw [hm] at hm1; exact absurd hm1 (by decide))) (hS.put z oq (by unfold Ab; omega)) hl
  rw [En_arr hs (by decide) (by decide)]
  show H1[gb G + k]? = some (arrV (gt G 6) 2 (fun q => va_rf (ae G (up2 M k j (nI (i + 1))) k 25 q)))
  rw [e1, nI_clamp (by omega), arrV_store]
  congr 2
  funext q
  by_cases hq : q = j
  · subst hq
    have e2 : ae G (up2 M k q (nI (i + 1))) k 25 q = some (gK G i) := by
      unfold ae
      rw [up2_at, if_neg hne, if_pos rfl, nI_clamp (by omega), Nat.add_sub_cancel]
    rw [e2]
    simp [updV, va_rf]
  · have e2 : ae G (up2 M k j (nI (i + 1))) k 25 q = ae G M k 25 q := by
      unfold ae
      rw [up2_at_ne _ _ hq]
    rw [e2]
    simp [updV, hq]
theorem oi_X10_3 : Cond.methodLink RX10 3 Lib.objectInit ∈ lw_w := lw_in (by decide +kernel) rfl
/-- the memory of the reference as it is built -/
def x10M (M : Mm) : Mm := up2 (up2 (up2 (up2 (up2 (up2 (up2 (up2 (up2 (up2 (up2 (up2 (up2 (up2 (up2 (up2 (up2 (up2 M 205 0 (nI 1)) 205 1 (nI 1)) 205 2 (nI 1)) 205 4 (nI 1)) 210 0 (nI (1 + 1))) 210 1 (nI (2 + 1))) 205 5 (nI 1)) 205 10 (nI 1)) 205 12 (nI 1)) 205 13 (nI 1)) 205 14 (nI 1)) 205 15 (nI 1)) 205 16 (nI 1)) 205 20 (nI 1)) 205 21 (nI 1)) 205 22 (nI 1)) 205 23 (nI 1)) 206 6 (nI 1)
/-- the reference's -/
theorem c_X10_init (l : Launch) (G : GC) (M : Mm) : Con l G (205 + 1) 0 1 yX10_init cX10_init 1 none [.ref (gb G + 205)] M 15 1737 15 (fun v M2 => v = none ∧ M2 = x10M M) := by
  refine Con.of (by decide +kernel) (Nat.le_of_ble_eq_true rfl) ?_
  intro f C hRm hRt hinit
  have s5 : shp 205 = 10 := by decide +kernel
  show Vc f G (0, 0, 206, 0) M 0 [(0, .ref (gb G + 205))] []
  refine v_aload_n C 0 dX10_init_0 rfl ?_
  refine v_objI C hRm (by decide) oi_X10_3 (by decide) dX10_init_1 ?_
  refine v_aload_n C 0 dX10_init_4 rfl ?_
  refine v_sipush C (nI 445) dX10_init_5 (by decide) ?_
  refine v_newa C hRm 445 ai_arr (show shp 206 = 1000 + 445 by decide +kernel) (by decide) (by decide) (by decide) dX10_init_8 ?_
  show Vc f G (1, 445, 207, 0) _ _ _ _
  refine q_X10_9 C hinit (k := 205) (show 205 < 207 by decide) s5 dX10_init_10 ?_
  refine v_aload_n C 0 dX10_init_13 rfl ?_
  refine v_sipush C (nI 445) dX10_init_14 (by decide) ?_
  refine v_newa C hRm 445 ai_arr (show shp 207 = 1000 + 445 by decide +kernel) (by decide) (by decide) (by decide) dX10_init_17 ?_
  show Vc f G (2, 890, 208, 0) _ _ _ _
  refine q_X10_13 C hinit (k := 205) (show 205 < 208 by decide) s5 dX10_init_19 ?_
  refine v_aload_n C 0 dX10_init_22 rfl ?_
  refine v_sipush C (nI 445) dX10_init_23 (by decide) ?_
  refine v_newa C hRm 445 ai_arr (show shp 208 = 1000 + 445 by decide +kernel) (by decide) (by decide) (by decide) dX10_init_26 ?_
  show Vc f G (3, 1335, 209, 0) _ _ _ _
  refine q_X10_16 C hinit (k := 205) (show 205 < 209 by decide) s5 dX10_init_28 ?_
  refine v_aload_n C 0 dX10_init_31 rfl ?_
  refine v_bipush C (nI 7) dX10_init_32 (by decide) ?_
  refine v_newa C hRm 7 ai_arr (show shp 209 = 1000 + 7 by decide +kernel) (by decide) (by decide) (by decide) dX10_init_34 ?_
  show Vc f G (4, 1342, 210, 0) _ _ _ _
  refine q_X10_19 C hinit (k := 205) (show 205 < 210 by decide) s5 dX10_init_36 ?_
  refine v_aload_n C 0 dX10_init_39 rfl ?_
  refine v_iconst C (nI 2) dX10_init_40 (by decide) ?_
  refine v_anew C hRm 2 (show shp 210 = 25 by decide +kernel) (by decide) (by decide) rfl (by decide) rfl cl_X10_22 (by decide +kernel) (by decide) (by decide) dX10_init_41 ?_
  show Vc f G (5, 1344, 211, 0) _ _ _ _
  refine v_dup C dX10_init_44 rfl ?_
  refine v_iconst C (nI 0) dX10_init_45 (by decide) ?_
  refine v_ldcS C "wrnxa" 1 (show (_, _, _, _) ∈ strIdx from by decide +kernel) dX10_init_46 ?_
  refine v_aastS C (k := 210) (j := 0) (i := 1) rfl (show 210 < 211 by decide) (show shp 210 = 25 by decide +kernel) (by decide) (by decide) dX10_init_48 ?_
  refine v_dup C dX10_init_49 rfl ?_
  refine v_iconst C (nI 1) dX10_init_50 (by decide) ?_
  refine v_ldcS C "lofh" 2 (show (_, _, _, _) ∈ strIdx from by decide +kernel) dX10_init_51 ?_
  refine v_aastS C (k := 210) (j := 1) (i := 2) rfl (show 210 < 211 by decide) (show shp 210 = 25 by decide +kernel) (by decide) (by decide) dX10_init_53 ?_
  refine q_X10_28 C hinit (k := 205) (show 205 < 211 by decide) s5 dX10_init_54 ?_
  refine v_aload_n C 0 dX10_init_57 rfl ?_
  refine v_bipush C (nI 60) dX10_init_58 (by decide) ?_
  refine v_newa C hRm 60 ai_arr (show shp 211 = 1000 + 60 by decide +kernel) (by decide) (by decide) (by decide) dX10_init_60 ?_
  show Vc f G (6, 1404, 212, 0) _ _ _ _
  refine q_X10_32 C hinit (k := 205) (show 205 < 212 by decide) s5 dX10_init_62 ?_
  refine v_aload_n C 0 dX10_init_65 rfl ?_
  refine v_iconst C (nI 5) dX10_init_66 (by decide) ?_
  refine v_newa C hRm 5 ai_arr (show shp 212 = 1000 + 5 by decide +kernel) (by decide) (by decide) (by decide) dX10_init_67 ?_
  show Vc f G (7, 1409, 213, 0) _ _ _ _
  refine q_X10_35 C hinit (k := 205) (show 205 < 213 by decide) s5 dX10_init_69 ?_
  refine v_aload_n C 0 dX10_init_72 rfl ?_
  refine v_bipush C (nI 60) dX10_init_73 (by decide) ?_
  refine v_newa C hRm 60 ai_arr (show shp 213 = 1000 + 60 by decide +kernel) (by decide) (by decide) (by decide) dX10_init_75 ?_
  show Vc f G (8, 1469, 214, 0) _ _ _ _
  refine q_X10_38 C hinit (k := 205) (show 205 < 214 by decide) s5 dX10_init_77 ?_
  refine v_aload_n C 0 dX10_init_80 rfl ?_
  refine v_bipush C (nI 100) dX10_init_81 (by decide) ?_
  refine v_newa C hRm 100 ai_arr (show shp 214 = 1000 + 100 by decide +kernel) (by decide) (by decide) (by decide) dX10_init_83 ?_
  show Vc f G (9, 1569, 215, 0) _ _ _ _
  refine q_X10_41 C hinit (k := 205) (show 205 < 215 by decide) s5 dX10_init_85 ?_
  refine v_aload_n C 0 dX10_init_88 rfl ?_
  refine v_bipush C (nI 10) dX10_init_89 (by decide) ?_
  refine v_newa C hRm 10 ai_arr (show shp 215 = 1000 + 10 by decide +kernel) (by decide) (by decide) (by decide) dX10_init_91 ?_
  show Vc f G (10, 1579, 216, 0) _ _ _ _
  refine q_X10_44 C hinit (k := 205) (show 205 < 216 by decide) s5 dX10_init_93 ?_
  refine v_aload_n C 0 dX10_init_96 rfl ?_
  refine v_bipush C (nI 30) dX10_init_97 (by decide) ?_
  refine v_newa C hRm 30 ai_arr (show shp 216 = 1000 + 30 by decide +kernel) (by decide) (by decide) (by decide) dX10_init_99 ?_
  show Vc f G (11, 1609, 217, 0) _ _ _ _
  refine q_X10_47 C hinit (k := 205) (show 205 < 217 by decide) s5 dX10_init_101 ?_
  refine v_aload_n C 0 dX10_init_104 rfl ?_
  refine v_iconst C (nI 4) dX10_init_105 (by decide) ?_
  refine v_newa C hRm 4 ai_arr (show shp 217 = 1000 + 4 by decide +kernel) (by decide) (by decide) (by decide) dX10_init_106 ?_
  show Vc f G (12, 1613, 218, 0) _ _ _ _
  refine q_X10_50 C hinit (k := 205) (show 205 < 218 by decide) s5 dX10_init_108 ?_
  refine v_aload_n C 0 dX10_init_111 rfl ?_
  refine v_iconst C (nI 4) dX10_init_112 (by decide) ?_
  refine v_newa C hRm 4 ai_arr (show shp 218 = 1000 + 4 by decide +kernel) (by decide) (by decide) (by decide) dX10_init_113 ?_
  show Vc f G (13, 1617, 219, 0) _ _ _ _
  refine q_X10_53 C hinit (k := 205) (show 205 < 219 by decide) s5 dX10_init_115 ?_
  refine v_aload_n C 0 dX10_init_118 rfl ?_
  refine v_bipush C (nI 96) dX10_init_119 (by decide) ?_
  refine v_newa C hRm 96 ai_arr (show shp 219 = 1000 + 96 by decide +kernel) (by decide) (by decide) (by decide) dX10_init_121 ?_
  show Vc f G (14, 1713, 220, 0) _ _ _ _
  refine q_X10_56 C hinit (k := 205) (show 205 < 220 by decide) s5 dX10_init_123 ?_
  refine v_aload_n C 0 dX10_init_126 rfl ?_
  refine v_bipush C (nI 24) dX10_init_127 (by decide) ?_
  refine v_newa C hRm 24 ai_arr (show shp 220 = 1000 + 24 by decide +kernel) (by decide) (by decide) (by decide) dX10_init_129 ?_
  show Vc f G (15, 1737, 221, 0) _ _ _ _
  refine q_X10_59 C hinit (k := 205) (show 205 < 221 by decide) s5 dX10_init_131 ?_
  refine v_aload_n C 0 dX10_init_134 rfl ?_
  refine v_get0 C (k := 205) (i := 0) (show 205 < 221 by decide) s5 (by decide) rfl rfl (by decide) inw_X10 fl_X10_9 dX10_init_135 (.ref (gb G + (205 + 1))) (fun _ _ => sv_r (r := 1) (by rw [up2_at_ne _ _ (by decide), up2_at_ne _ _ (by decide), up2_at_ne _ _ (by decide), up2_at_ne _ _ (by decide), up2_at_ne _ _ (by decide), up2_at_ne _ _ (by decide), up2_at_ne _ _ (by decide), up2_at_ne _ _ (by decide), up2_at_ne _ _ (by decide), up2_at_ne _ _ (by decide), up2_at_ne _ _ (by decide), up2_ne _ _ _ (by decide), up2_ne _ _ _ (by decide), up2_at_ne _ _ (by decide), up2_at_ne _ _ (by decide), up2_at_ne _ _ (by decide), up2_at]; decide) (by decide) (by decide)) ?_
  refine v_bipush C (nI 6) dX10_init_138 (by decide) ?_
  refine v_iconst C (nI 1) dX10_init_140 (by decide) ?_
  refine v_iast C (k := 206) (L := 445) (j := 6) (show 206 < 221 by decide) (show shp 206 = 1000 + 445 by decide +kernel) (by decide) (by decide) dX10_init_141 ?_
  exact v_ret C hRt dX10_init_142 ⟨rfl, rfl⟩
