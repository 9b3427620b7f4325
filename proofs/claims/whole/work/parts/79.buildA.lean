theorem oi_X8_3 : Cond.methodLink RX8 3 Lib.objectInit ∈ lw_w := lw_in (by decide +kernel) rfl
theorem is_X0 : Cond.instantiable RX0 8 ∈ lw_w := lw_in (by decide +kernel) rfl
theorem is_X2 : Cond.instantiable RX2 5 ∈ lw_w := lw_in (by decide +kernel) rfl
theorem df_X0 : ∀ j, j < 8 → defaultValue (tyX0 j) = if rfs 0 j = 0 then .int 0 else .null := fun j hj => by rcases (show j = 0 ∨ j = 1 ∨ j = 2 ∨ j = 3 ∨ j = 4 ∨ j = 5 ∨ j = 6 ∨ j = 7 by omega) with h | h | h | h | h | h | h | h <;> subst h <;> rfl
theorem df_X2 : ∀ j, j < 5 → defaultValue (tyX2 j) = if rfs 2 j = 0 then .int 0 else .null := fun j hj => by rcases (show j = 0 ∨ j = 1 ∨ j = 2 ∨ j = 3 ∨ j = 4 by omega) with h | h | h | h | h <;> subst h <;> rfl
/-- the children -/
theorem x8_ch {f : FC} {G : GC} {l : Launch} {M : Mm} {k : Nat} (C : Ctx f G RX8 cX8_init 2) (hRm : Rm f l 3 60 721) (hy : yd k) (hM : M k 0 = nI 1) (kend : Vc f G (49, 450, k + 50, 0) (yCh M k 10) 106 [(1, .int (nI 10)), (0, .ref (gb G + k))] []) : ∀ j i, i + j = 10 → Vc f G (19 + 3 * i, 220 + 23 * i, k + 20 + 3 * i, 0) (yCh M k i) 81 [(1, .int (nI i)), (0, .ref (gb G + k))] [] := by
  intro j
  induction j with
  | zero =>
    intro i hi
    have hi2 : i = 10 := by omega
    subst hi2
    refine v_iload_n C 0 dX8_init_81 rfl ?_
    refine v_bipush C (nI 10) dX8_init_82 (by decide) ?_
    refine n_icmp_ge C (by decide) (by decide) 106 dX8_init_84 rfl (fun _ => ?_) (fun h => absurd h (by decide))
    exact kend
  | succ j ih =>
    intro i hi
    have hiN : i < 10 := by omega
    have hk : k + 60 < 221 := yd_lt hy (by decide)
    refine v_iload_n C 0 dX8_init_81 rfl ?_
    refine v_bipush C (nI 10) dX8_init_82 (by decide) ?_
    refine n_icmp_ge C (by omega) (by decide) 106 dX8_init_84 rfl (fun h => absurd h (by omega)) (fun _ => ?_)
    refine v_aload_n C 1 dX8_init_87 rfl ?_
    refine v_get0 C (i := 0) (show k < k + 20 + 3 * i by omega) (s_y hy) (by decide) rfl rfl (by decide) inw_X8 fl_X8_11 dX8_init_88 (.ref (gb G + (k + 1))) (fun _ _ => sv_r (r := 1) (by rw [yCh_own, hM]; decide) (by decide) (by decide)) ?_
    refine v_iload_n C 0 dX8_init_91 rfl ?_
    refine v_newc C hRm tyX0 tyX0_ok rfl rfl inw_X0 cl_X8_9 is_X0 cw_X0_init.1 df_X0 (s_ch hy hiN) (by decide) (show 19 + 3 * i + 1 ≤ 60 by omega) (show 220 + 23 * i + 8 ≤ 721 by omega) dX8_init_92 ?_
    refine v_dup C dX8_init_95 rfl ?_
    refine v_callIN C hRm (k := k + 20 + 3 * i) (As := []) cw_X0_init im_X0_init rfl mn_X8_54 (c_X0_init l G _ (k + 20 + 3 * i) (by omega) (s_ch hy hiN) (s_lk hy hiN) (s_wt hy hiN)) (by decide) ⟨show 19 + 3 * i + 1 + 2 ≤ 60 by omega, show 220 + 23 * i + 8 + 15 ≤ 721 by omega⟩ rfl rfl (Nat.le_of_ble_eq_true rfl) dX8_init_96 (fun v M2 hP => ?_)
    obtain ⟨rfl, rfl⟩ := hP
    refine v_aasto C (k := k + 1) (sh := 20) (j := i) (ci := 0) (k + 20 + 3 * i) rfl (show k + 1 < k + 20 + 3 * i + 1 + 2 by omega) (s_y1 hy) (by decide) (by decide) rfl (show i < aLen 20 from hiN) (by decide) (by show k + 1 + (19 + 3 * i) = k + 20 + 3 * i; omega) (show k + 20 + 3 * i < k + 20 + 3 * i + 1 + 2 by omega) (s_ch hy hiN) (by decide) rfl dX8_init_99 ?_
    refine v_iinc C (nI (i + 1)) 0 [(1, .int (nI (i + 1))), (0, .ref (gb G + k))] dX8_init_100 rfl (nI_add _ _) (by decide) rfl ?_
    refine v_goto C 81 dX8_init_103 rfl ?_
    exact v_ph (by show 19 + 3 * i + 1 + 2 = 19 + 3 * (i + 1); omega) (by show 220 + 23 * i + 8 + 15 = 220 + 23 * (i + 1); omega) (by show k + 20 + 3 * i + 1 + 2 = k + 20 + 3 * (i + 1); omega) (ih (i + 1) (by omega))
/-- the heaps -/
theorem x8_hp {f : FC} {G : GC} {l : Launch} {M : Mm} {k : Nat} (C : Ctx f G RX8 cX8_init 2) (hRm : Rm f l 3 60 721) (hy : yd k) (hM : M k 1 = nI 1) (kend : Vc f G (54, 475, k + 55, 0) (yHp M k 5) 132 [(1, .int (nI 5)), (0, .ref (gb G + k))] []) : ∀ j i, i + j = 5 → Vc f G (49 + i, 450 + 5 * i, k + 50 + i, 0) (yHp M k i) 108 [(1, .int (nI i)), (0, .ref (gb G + k))] [] := by
  intro j
  induction j with
  | zero =>
    intro i hi
    have hi2 : i = 5 := by omega
    subst hi2
    refine v_iload_n C 0 dX8_init_108 rfl ?_
    refine v_iconst C (nI 5) dX8_init_109 (by decide) ?_
    refine n_icmp_ge C (by decide) (by decide) 132 dX8_init_110 rfl (fun _ => ?_) (fun h => absurd h (by decide))
    exact kend
  | succ j ih =>
    intro i hi
    have hiN : i < 5 := by omega
    have hk : k + 60 < 221 := yd_lt hy (by decide)
    refine v_iload_n C 0 dX8_init_108 rfl ?_
    refine v_iconst C (nI 5) dX8_init_109 (by decide) ?_
    refine n_icmp_ge C (by omega) (by decide) 132 dX8_init_110 rfl (fun h => absurd h (by omega)) (fun _ => ?_)
    refine v_aload_n C 1 dX8_init_113 rfl ?_
    refine v_get0 C (i := 1) (show k < k + 50 + i by omega) (s_y hy) (by decide) rfl rfl (by decide) inw_X8 fl_X8_19 dX8_init_114 (.ref (gb G + (k + 2))) (fun _ _ => sv_r (r := 2) (by rw [yHp_own, hM]; decide) (by decide) (by decide)) ?_
    refine v_iload_n C 0 dX8_init_117 rfl ?_
    refine v_newc C hRm tyX2 tyX2_ok rfl rfl inw_X2 cl_X8_17 is_X2 cw_X2_init.1 df_X2 (s_hp hy hiN) (by decide) (show 49 + i + 1 ≤ 60 by omega) (show 450 + 5 * i + 5 ≤ 721 by omega) dX8_init_118 ?_
    refine v_dup C dX8_init_121 rfl ?_
    refine v_callIN C hRm (k := k + 50 + i) (As := []) cw_X2_init im_X2_init rfl mn_X8_55 (c_X2_init l G _ (k + 50 + i) (by omega) (s_hp hy hiN)) (by decide) ⟨show 49 + i + 1 + 0 ≤ 60 by omega, show 450 + 5 * i + 5 + 0 ≤ 721 by omega⟩ rfl rfl (Nat.le_of_ble_eq_true rfl) dX8_init_122 (fun v M2 hP => ?_)
    obtain ⟨rfl, rfl⟩ := hP
    refine v_aasto C (k := k + 2) (sh := 21) (j := i) (ci := 2) (k + 50 + i) rfl (show k + 2 < k + 50 + i + 1 + 0 by omega) (s_y2 hy) (by decide) (by decide) rfl (show i < aLen 21 from hiN) (by decide) (by show k + 2 + (48 + 1 * i) = k + 50 + i; omega) (show k + 50 + i < k + 50 + i + 1 + 0 by omega) (s_hp hy hiN) (by decide) rfl dX8_init_125 ?_
    refine v_iinc C (nI (i + 1)) 0 [(1, .int (nI (i + 1))), (0, .ref (gb G + k))] dX8_init_126 rfl (nI_add _ _) (by decide) rfl ?_
    refine v_goto C 108 dX8_init_129 rfl ?_
    exact v_ph (by show 49 + i + 1 + 0 = 49 + (i + 1); omega) (by show 450 + 5 * i + 5 + 0 = 450 + 5 * (i + 1); omega) (by show k + 50 + i + 1 + 0 = k + 50 + (i + 1); omega) (ih (i + 1) (by omega))
/-- the texts -/
theorem x8_tx {f : FC} {G : GC} {l : Launch} {M : Mm} {k : Nat} (C : Ctx f G RX8 cX8_init 2) (hRm : Rm f l 3 60 721) (hy : yd k) (hM : M k 2 = nI 1) (kend : Vc f G (60, 721, k + 61, 0) (yTx M k 2) 158 [(1, .int (nI 2)), (0, .ref (gb G + k))] []) : ∀ j i, i + j = 2 → Vc f G (54 + 3 * i, 475 + 123 * i, k + 55 + 3 * i, 0) (yTx M k i) 134 [(1, .int (nI i)), (0, .ref (gb G + k))] [] := by
  intro j
  induction j with
  | zero =>
    intro i hi
    have hi2 : i = 2 := by omega
    subst hi2
    refine v_iload_n C 0 dX8_init_134 rfl ?_
    refine v_iconst C (nI 2) dX8_init_135 (by decide) ?_
    refine n_icmp_ge C (by decide) (by decide) 158 dX8_init_136 rfl (fun _ => ?_) (fun h => absurd h (by decide))
    exact kend
  | succ j ih =>
    intro i hi
    have hiN : i < 2 := by omega
    have hk : k + 60 < 221 := yd_lt hy (by decide)
    refine v_iload_n C 0 dX8_init_134 rfl ?_
    refine v_iconst C (nI 2) dX8_init_135 (by decide) ?_
    refine n_icmp_ge C (by omega) (by decide) 158 dX8_init_136 rfl (fun h => absurd h (by omega)) (fun _ => ?_)
    refine v_aload_n C 1 dX8_init_139 rfl ?_
    refine v_get0 C (i := 2) (show k < k + 55 + 3 * i by omega) (s_y hy) (by decide) rfl rfl (by decide) inw_X8 fl_X8_25 dX8_init_140 (.ref (gb G + (k + 3))) (fun _ _ => sv_r (r := 3) (by rw [yTx_own, hM]; decide) (by decide) (by decide)) ?_
    refine v_iload_n C 0 dX8_init_143 rfl ?_
    refine v_newc C hRm tyX7 tyX7_ok rfl rfl inw_X7 cl_X8_23 is_X7 cw_X7_init.1 df_X7 (s_tx hy hiN) (by decide) (show 54 + 3 * i + 1 ≤ 60 by omega) (show 475 + 123 * i + 3 ≤ 721 by omega) dX8_init_144 ?_
    refine v_dup C dX8_init_147 rfl ?_
    refine v_callIN C hRm (k := k + 55 + 3 * i) (As := []) cw_X7_init im_X7_init rfl mn_X8_56 (c_X7_init l G _ (k + 55 + 3 * i) (by omega) (s_tx hy hiN) (s_ts hy hiN) (s_tl hy hiN)) (by decide) ⟨show 54 + 3 * i + 1 + 2 ≤ 60 by omega, show 475 + 123 * i + 3 + 120 ≤ 721 by omega⟩ rfl rfl (Nat.le_of_ble_eq_true rfl) dX8_init_148 (fun v M2 hP => ?_)
    obtain ⟨rfl, rfl⟩ := hP
    refine v_aasto C (k := k + 3) (sh := 22) (j := i) (ci := 7) (k + 55 + 3 * i) rfl (show k + 3 < k + 55 + 3 * i + 1 + 2 by omega) (s_y3 hy) (by decide) (by decide) rfl (show i < aLen 22 from hiN) (by decide) (by show k + 3 + (52 + 3 * i) = k + 55 + 3 * i; omega) (show k + 55 + 3 * i < k + 55 + 3 * i + 1 + 2 by omega) (s_tx hy hiN) (by decide) rfl dX8_init_151 ?_
    refine v_iinc C (nI (i + 1)) 0 [(1, .int (nI (i + 1))), (0, .ref (gb G + k))] dX8_init_152 rfl (nI_add _ _) (by decide) rfl ?_
    refine v_goto C 134 dX8_init_155 rfl ?_
    exact v_ph (by show 54 + 3 * i + 1 + 2 = 54 + 3 * (i + 1); omega) (by show 475 + 123 * i + 3 + 120 = 475 + 123 * (i + 1); omega) (by show k + 55 + 3 * i + 1 + 2 = k + 55 + 3 * (i + 1); omega) (ih (i + 1) (by omega))
/-- Yard's: the cell k stands, sixty follow -/
theorem c_X8_init (l : Launch) (G : GC) (M : Mm) (k : Nat) (hy : yd k) : Con l G (k + 1) 0 3 yX8_init cX8_init 2 none [.ref (gb G + k)] M 60 721 60 (fun v M' => v = none ∧ M' = yMm M k) := by
  have hk : k + 60 < 221 := yd_lt hy (by decide)
  refine Con.of (by decide +kernel) (Nat.le_of_ble_eq_true rfl) ?_
  intro f C hRm hRt hinit
  show Vc f G (0, 0, k + 1, 0) M 0 [(0, .ref (gb G + k))] []
  refine v_aload_n C 0 dX8_init_0 rfl ?_
  refine v_objI C hRm (by decide) oi_X8_3 (by decide) dX8_init_1 ?_
  refine v_aload_n C 0 dX8_init_4 rfl ?_
  refine v_bipush C (nI 10) dX8_init_5 (by decide) ?_
  refine v_anew C hRm 10 (s_y1 hy) (by decide) (by decide) rfl (by decide) rfl cl_X8_9 (by decide +kernel) (by decide) (by decide) dX8_init_7 ?_
  show Vc f G (1, 10, k + 2, 0) _ _ _ _
  refine q_X8_11 C hinit (show k < k + 2 by omega) (s_y hy) dX8_init_10 ?_
  refine v_aload_n C 0 dX8_init_13 rfl ?_
  refine v_iconst C (nI 5) dX8_init_14 (by decide) ?_
  refine v_anew C hRm 5 (s_y2 hy) (by decide) (by decide) rfl (by decide) rfl cl_X8_17 (by decide +kernel) (by decide) (by decide) dX8_init_15 ?_
  show Vc f G (2, 15, k + 3, 0) _ _ _ _
  refine q_X8_19 C hinit (show k < k + 3 by omega) (s_y hy) dX8_init_18 ?_
  refine v_aload_n C 0 dX8_init_21 rfl ?_
  refine v_iconst C (nI 2) dX8_init_22 (by decide) ?_
  refine v_anew C hRm 2 (s_y3 hy) (by decide) (by decide) rfl (by decide) rfl cl_X8_23 (by decide +kernel) (by decide) (by decide) dX8_init_23 ?_
  show Vc f G (3, 17, k + 4, 0) _ _ _ _
  refine q_X8_25 C hinit (show k < k + 4 by omega) (s_y hy) dX8_init_26 ?_
  refine v_aload_n C 0 dX8_init_29 rfl ?_
  refine v_newc C hRm tyX4 tyX4_ok rfl rfl inw_X4 cl_X8_29 is_X4 cw_X4_init.1 df_X4 (s_y4 hy) (by decide) (by decide) (by decide) dX8_init_30 ?_
  show Vc f G (4, 19, k + 5, 0) _ _ _ _
  refine v_dup C dX8_init_33 rfl ?_
  refine v_bipush C (nI 60) dX8_init_34 (by decide) ?_
  refine v_callI C hRm (k := k + 4) (As := [.int (nI 60)]) cw_X4_init im_X4_init rfl ml_X8_31 (c_X4_init l G _ (k + 4) 60 (by omega) (by decide) (s_y4 hy) (s_y41 hy)) (by decide) ⟨show 5 ≤ 60 by decide, show 79 ≤ 721 by decide⟩ rfl rfl (Nat.le_of_ble_eq_true rfl) dX8_init_36 (fun v M2 hP => ?_)
  obtain ⟨rfl, rfl⟩ := hP
  show Vc f G (5, 79, k + 6, 0) _ _ _ [.ref (gb G + (k + 4)), .ref (gb G + k)]
  refine q_X8_34 C hinit (show k < k + 6 by omega) (s_y hy) dX8_init_39 ?_
  refine v_aload_n C 0 dX8_init_42 rfl ?_
  refine v_newc C hRm tyX4 tyX4_ok rfl rfl inw_X4 cl_X8_29 is_X4 cw_X4_init.1 df_X4 (s_y6 hy) (by decide) (by decide) (by decide) dX8_init_43 ?_
  show Vc f G (6, 81, k + 7, 0) _ _ _ _
  refine v_dup C dX8_init_46 rfl ?_
  refine v_bipush C (nI 24) dX8_init_47 (by decide) ?_
  refine v_callI C hRm (k := k + 6) (As := [.int (nI 24)]) cw_X4_init im_X4_init rfl ml_X8_31 (c_X4_init l G _ (k + 6) 24 (by omega) (by decide) (s_y6 hy) (s_y61 hy)) (by decide) ⟨show 7 ≤ 60 by decide, show 105 ≤ 721 by decide⟩ rfl rfl (Nat.le_of_ble_eq_true rfl) dX8_init_49 (fun v M2 hP => ?_)
  obtain ⟨rfl, rfl⟩ := hP
  show Vc f G (7, 105, k + 8, 0) _ _ _ [.ref (gb G + (k + 6)), .ref (gb G + k)]
  refine q_X8_38 C hinit (show k < k + 8 by omega) (s_y hy) dX8_init_52 ?_
  refine v_aload_n C 0 dX8_init_55 rfl ?_
  refine v_iconst C (nI 1) dX8_init_56 (by decide) ?_
  refine q_X8_41 C (show k < k + 8 by omega) (s_y hy) dX8_init_57 ?_
  refine v_aload_n C 0 dX8_init_60 rfl ?_
  refine v_iconst C (nI 5) dX8_init_61 (by decide) ?_
  refine v_newa C hRm 5 ai_arr (s_y8 hy) (by decide) (by decide) (by decide) dX8_init_62 ?_
  show Vc f G (8, 110, k + 9, 0) _ _ _ _
  refine q_X8_45 C hinit (show k < k + 9 by omega) (s_y hy) dX8_init_64 ?_
  refine v_aload_n C 0 dX8_init_67 rfl ?_
  refine v_bipush C (nI 10) dX8_init_68 (by decide) ?_
  refine v_bipush C (nI 10) dX8_init_70 (by decide) ?_
  refine v_manew C hRm (s_y9 hy) (fun j hj => s_mv hy hj) cl_X8_49 (by decide) (by decide) dX8_init_72 ?_
  show Vc f G (19, 220, k + 20, 0) _ _ _ _
  refine q_X8_51 C hinit (show k < k + 20 by omega) (s_y hy) dX8_init_76 ?_
  refine v_iconst C (nI 0) dX8_init_79 (by decide) ?_
  refine v_istore_n C [(1, .int (nI 0)), (0, .ref (gb G + k))] dX8_init_80 rfl (by decide) rfl ?_
  show Vc f G (19 + 3 * 0, 220 + 23 * 0, k + 20 + 3 * 0, 0) (yCh (yB M k) k 0) 81 _ _
  refine x8_ch C hRm hy (yB_own M k (by decide)) ?_ 10 0 rfl
  refine v_iconst C (nI 0) dX8_init_106 (by decide) ?_
  refine v_istore_n C [(1, .int (nI 0)), (0, .ref (gb G + k))] dX8_init_107 rfl (by decide) rfl ?_
  show Vc f G (49 + 0, 450 + 5 * 0, k + 50 + 0, 0) (yHp (yCh (yB M k) k 10) k 0) 108 _ _
  refine x8_hp C hRm hy (by rw [yCh_own]; exact yB_own M k (by decide)) ?_ 5 0 rfl
  refine v_iconst C (nI 0) dX8_init_132 (by decide) ?_
  refine v_istore_n C [(1, .int (nI 0)), (0, .ref (gb G + k))] dX8_init_133 rfl (by decide) rfl ?_
  show Vc f G (54 + 3 * 0, 475 + 123 * 0, k + 55 + 3 * 0, 0) (yTx (yHp (yCh (yB M k) k 10) k 5) k 0) 134 _ _
  refine x8_tx C hRm hy (by rw [yHp_own, yCh_own]; exact yB_own M k (by decide)) ?_ 2 0 rfl
  exact v_ret C hRt dX8_init_158 ⟨rfl, rfl⟩
