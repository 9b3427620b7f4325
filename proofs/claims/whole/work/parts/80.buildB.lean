theorem oi_X9_1 : Cond.methodLink RX9 1 Lib.objectInit ∈ lw_w := lw_in (by decide +kernel) rfl
theorem is_X8 : Cond.instantiable RX8 12 ∈ lw_w := lw_in (by decide +kernel) rfl
theorem df_X8 : ∀ j, j < 12 → defaultValue (tyX8 j) = if rfs 8 j = 0 then .int 0 else .null := fun j hj => by rcases (show j = 0 ∨ j = 1 ∨ j = 2 ∨ j = 3 ∨ j = 4 ∨ j = 5 ∨ j = 6 ∨ j = 7 ∨ j = 8 ∨ j = 9 ∨ j = 10 ∨ j = 11 by omega) with h | h | h | h | h | h | h | h | h | h | h | h <;> subst h <;> rfl
theorem is_X1 : Cond.instantiable RX1 4 ∈ lw_w := lw_in (by decide +kernel) rfl
theorem df_X1 : ∀ j, j < 4 → defaultValue (tyX1 j) = if rfs 1 j = 0 then .int 0 else .null := fun j hj => by rcases (show j = 0 ∨ j = 1 ∨ j = 2 ∨ j = 3 by omega) with h | h | h | h <;> subst h <;> rfl
theorem is_X3 : Cond.instantiable RX3 5 ∈ lw_w := lw_in (by decide +kernel) rfl
theorem df_X3 : ∀ j, j < 5 → defaultValue (tyX3 j) = if rfs 3 j = 0 then .int 0 else .null := fun j hj => by rcases (show j = 0 ∨ j = 1 ∨ j = 2 ∨ j = 3 ∨ j = 4 by omega) with h | h | h | h | h <;> subst h <;> rfl
theorem is_X6 : Cond.instantiable RX6 5 ∈ lw_w := lw_in (by decide +kernel) rfl
theorem df_X6 : ∀ j, j < 5 → defaultValue (tyX6 j) = if rfs 6 j = 0 then .int 0 else .null := fun j hj => by rcases (show j = 0 ∨ j = 1 ∨ j = 2 ∨ j = 3 ∨ j = 4 by omega) with h | h | h | h | h <;> subst h <;> rfl
theorem is_X5 : Cond.instantiable RX5 3 ∈ lw_w := lw_in (by decide +kernel) rfl
theorem df_X5 : ∀ j, j < 3 → defaultValue (tyX5 j) = if rfs 5 j = 0 then .int 0 else .null := fun j hj => by rcases (show j = 0 ∨ j = 1 ∨ j = 2 by omega) with h | h | h <;> subst h <;> rfl
/-- the memory of the class as it is built -/
def x9F (M : Mm) : Mm := up2 (up2 (up2 M 184 2 (nI 1)) 184 3 (nI 1)) 0 3 (nI 1)
def x9R (M : Mm) : Mm := up2 (up2 (up2 (up2 (up2 (up2 M 188 0 (nI 1)) 188 1 (nI 1)) 187 0 (nI 1)) 187 1 (nI 191)) 187 4 (nI (0 + 1))) 0 4 (nI 1)
def x9S (M : Mm) : Mm := up2 (up2 (up2 (up2 (up2 M 193 0 (nI 1)) 192 0 (nI 1)) 0 5 (nI 1)) 0 6 (nI 1)) 0 7 (nI 1)
def x9B (M : Mm) : Mm := x9S (x9R (x9F (up2 (yMm (up2 (yMm (up2 (yMm M 1) 0 0 (nI 1)) 62) 0 1 (nI 1)) 123) 0 2 (nI 1))))
def x9Sh (M : Mm) : Nat → Mm
  | 0 => M
  | i + 1 => up2 (up2 (x9Sh M i) (197 + 2 * i) 2 (nI 1)) 195 i (nI 1)
def x9M (M : Mm) : Mm := x9Sh (x9B M) 4
theorem x9Sh_own (M : Mm) : ∀ i, x9Sh M i 0 = M 0
  | 0 => rfl
  | i + 1 => by
    show up2 (up2 (x9Sh M i) (197 + 2 * i) 2 (nI 1)) 195 i (nI 1) 0 = _
    rw [up2_ne _ _ _ (by omega), up2_ne _ _ _ (by omega), x9Sh_own M i]
theorem x9B_6 (M : Mm) : x9B M 0 6 = nI 1 := by
  unfold x9B x9S
  rw [up2_at_ne _ _ (by decide), up2_at]
theorem s_st {i : Nat} (hi : i < 4) : shp (197 + 2 * i) = 5 := by revert i; decide +kernel
theorem s_st1 {i : Nat} (hi : i < 4) : shp (197 + 2 * i + 1) = 1000 + 24 := by revert i; decide +kernel
theorem x9_sh {f : FC} {G : GC} {l : Launch} {M : Mm} (C : Ctx f G RX9 cX9_init 2) (hRm : Rm f l 4 204 2507) (hM : M 0 6 = nI 1) (kend : Vc f G (204, 2507, 205, 0) (x9Sh M 4) 112 [(1, .int (nI 4)), (0, .ref (gb G + 0))] []) : ∀ j i, i + j = 4 → Vc f G (196 + 2 * i, 2399 + 27 * i, 197 + 2 * i, 0) (x9Sh M i) 88 [(1, .int (nI i)), (0, .ref (gb G + 0))] [] := by
  intro j
  induction j with
  | zero =>
    intro i hi
    have hi2 : i = 4 := by omega
    subst hi2
    refine v_iload_n C 0 dX9_init_88 rfl ?_
    refine v_iconst C (nI 4) dX9_init_89 (by decide) ?_
    refine n_icmp_ge C (by decide) (by decide) 112 dX9_init_90 rfl (fun _ => ?_) (fun h => absurd h (by decide))
    exact kend
  | succ j ih =>
    intro i hi
    have hiN : i < 4 := by omega
    refine v_iload_n C 0 dX9_init_88 rfl ?_
    refine v_iconst C (nI 4) dX9_init_89 (by decide) ?_
    refine n_icmp_ge C (by omega) (by decide) 112 dX9_init_90 rfl (fun h => absurd h (by omega)) (fun _ => ?_)
    refine v_aload_n C 1 dX9_init_93 rfl ?_
    refine v_get0 C (k := 0) (i := 6) (show 0 < 197 + 2 * i by omega) (show shp 0 = 9 by decide +kernel) (by decide) rfl rfl (by decide) inw_X9 fl_X9_45 dX9_init_94 (.ref (gb G + (0 + 195))) (fun _ _ => sv_r (r := 195) (by rw [x9Sh_own, hM]; decide) (by decide) (by decide)) ?_
    refine v_iload_n C 0 dX9_init_97 rfl ?_
    refine v_newc C hRm tyX5 tyX5_ok rfl rfl inw_X5 cl_X9_43 is_X5 cw_X5_init.1 df_X5 (s_st hiN) (by decide) (show 196 + 2 * i + 1 ≤ 204 by omega) (show 2399 + 27 * i + 3 ≤ 2507 by omega) dX9_init_98 ?_
    refine v_dup C dX9_init_101 rfl ?_
    refine v_callIN C hRm (k := 197 + 2 * i) (As := []) cw_X5_init im_X5_init rfl mn_X9_53 (c_X5_init l G _ (197 + 2 * i) (by omega) (s_st hiN) (s_st1 hiN)) (by decide) ⟨show 196 + 2 * i + 1 + 1 ≤ 204 by omega, show 2399 + 27 * i + 3 + 24 ≤ 2507 by omega⟩ rfl rfl (Nat.le_of_ble_eq_true rfl) dX9_init_102 (fun v M2 hP => ?_)
    obtain ⟨rfl, rfl⟩ := hP
    refine v_aasto C (k := 195) (sh := 23) (j := i) (ci := 5) (197 + 2 * i) rfl (show 195 < 197 + 2 * i + 1 + 1 by omega) (show shp 195 = 23 by decide +kernel) (by decide) (by decide) rfl (show i < aLen 23 from hiN) (by decide) (by show 195 + (2 + 2 * i) = 197 + 2 * i; omega) (show 197 + 2 * i < 197 + 2 * i + 1 + 1 by omega) (s_st hiN) (by decide) rfl dX9_init_105 ?_
    refine v_iinc C (nI (i + 1)) 0 [(1, .int (nI (i + 1))), (0, .ref (gb G + 0))] dX9_init_106 rfl (nI_add _ _) (by decide) rfl ?_
    refine v_goto C 88 dX9_init_109 rfl ?_
    exact v_ph (by show 196 + 2 * i + 1 + 1 = 196 + 2 * (i + 1); omega) (by show 2399 + 27 * i + 3 + 24 = 2399 + 27 * (i + 1); omega) (by show 197 + 2 * i + 1 + 1 = 197 + 2 * (i + 1); omega) (ih (i + 1) (by omega))
/-- BreakTime's -/
theorem c_X9_init (l : Launch) (G : GC) (M : Mm) : Con l G (0 + 1) 0 4 yX9_init cX9_init 2 none [.ref (gb G + 0)] M 204 2507 204 (fun v M' => v = none ∧ M' = x9M M) := by
  refine Con.of (by decide +kernel) (Nat.le_of_ble_eq_true rfl) ?_
  intro f C hRm hRt hinit
  have s0 : shp 0 = 9 := by decide +kernel
  show Vc f G (0, 0, 1, 0) M 0 [(0, .ref (gb G + 0))] []
  refine v_aload_n C 0 dX9_init_0 rfl ?_
  refine v_objI C hRm (by decide) oi_X9_1 (by decide) dX9_init_1 ?_
  refine v_aload_n C 0 dX9_init_4 rfl ?_
  refine v_newc C hRm tyX8 tyX8_ok rfl rfl inw_X8 cl_X9_7 is_X8 cw_X8_init.1 df_X8 (show shp 1 = 8 by decide +kernel) (by decide) (by decide) (by decide) dX9_init_5 ?_
  show Vc f G (1, 12, 2, 0) _ _ _ _
  refine v_dup C dX9_init_8 rfl ?_
  refine v_callI C hRm (k := 1) (As := []) cw_X8_init im_X8_init rfl ml_X9_9 (c_X8_init l G _ 1 (by decide)) (by decide) ⟨show 1 + 60 ≤ 204 by decide, show 12 + 721 ≤ 2507 by decide⟩ rfl rfl (Nat.le_of_ble_eq_true rfl) dX9_init_9 (fun v M2 hP => ?_)
  obtain ⟨rfl, rfl⟩ := hP
  show Vc f G (61, 733, 62, 0) _ _ _ [.ref (gb G + 1), .ref (gb G + 0)]
  refine q_X9_10 C hinit (k := 0) (show 0 < 62 by decide) s0 dX9_init_12 ?_
  refine v_aload_n C 0 dX9_init_15 rfl ?_
  refine v_newc C hRm tyX8 tyX8_ok rfl rfl inw_X8 cl_X9_7 is_X8 cw_X8_init.1 df_X8 (show shp 62 = 8 by decide +kernel) (by decide) (by decide) (by decide) dX9_init_16 ?_
  show Vc f G (62, 745, 63, 0) _ _ _ _
  refine v_dup C dX9_init_19 rfl ?_
  refine v_callI C hRm (k := 62) (As := []) cw_X8_init im_X8_init rfl ml_X9_9 (c_X8_init l G _ 62 (by decide)) (by decide) ⟨show 62 + 60 ≤ 204 by decide, show 745 + 721 ≤ 2507 by decide⟩ rfl rfl (Nat.le_of_ble_eq_true rfl) dX9_init_20 (fun v M2 hP => ?_)
  obtain ⟨rfl, rfl⟩ := hP
  show Vc f G (122, 1466, 123, 0) _ _ _ [.ref (gb G + 62), .ref (gb G + 0)]
  refine q_X9_16 C hinit (k := 0) (show 0 < 123 by decide) s0 dX9_init_23 ?_
  refine v_aload_n C 0 dX9_init_26 rfl ?_
  refine v_newc C hRm tyX8 tyX8_ok rfl rfl inw_X8 cl_X9_7 is_X8 cw_X8_init.1 df_X8 (show shp 123 = 8 by decide +kernel) (by decide) (by decide) (by decide) dX9_init_27 ?_
  show Vc f G (123, 1478, 124, 0) _ _ _ _
  refine v_dup C dX9_init_30 rfl ?_
  refine v_callI C hRm (k := 123) (As := []) cw_X8_init im_X8_init rfl ml_X9_9 (c_X8_init l G _ 123 (by decide)) (by decide) ⟨show 123 + 60 ≤ 204 by decide, show 1478 + 721 ≤ 2507 by decide⟩ rfl rfl (Nat.le_of_ble_eq_true rfl) dX9_init_31 (fun v M2 hP => ?_)
  obtain ⟨rfl, rfl⟩ := hP
  show Vc f G (183, 2199, 184, 0) _ _ _ [.ref (gb G + 123), .ref (gb G + 0)]
  refine q_X9_19 C hinit (k := 0) (show 0 < 184 by decide) s0 dX9_init_34 ?_
  refine v_aload_n C 0 dX9_init_37 rfl ?_
  refine v_newc C hRm tyX1 tyX1_ok rfl rfl inw_X1 cl_X9_22 is_X1 cw_X1_init.1 df_X1 (show shp 184 = 1 by decide +kernel) (by decide) (by decide) (by decide) dX9_init_38 ?_
  show Vc f G (184, 2203, 185, 0) _ _ _ _
  refine v_dup C dX9_init_41 rfl ?_
  refine v_callIN C hRm (k := 184) (As := []) cw_X1_init im_X1_init rfl mn_X9_24 (c_X1_init l G _ 184 (by decide) (show shp 184 = 1 by decide +kernel) (show shp 185 = 1010 by decide +kernel) (show shp 186 = 1010 by decide +kernel)) (by decide) ⟨show 184 + 2 ≤ 204 by decide, show 2203 + 20 ≤ 2507 by decide⟩ rfl rfl (Nat.le_of_ble_eq_true rfl) dX9_init_42 (fun v M2 hP => ?_)
  obtain ⟨rfl, rfl⟩ := hP
  show Vc f G (186, 2223, 187, 0) _ _ _ [.ref (gb G + 184), .ref (gb G + 0)]
  refine q_X9_25 C hinit (k := 0) (show 0 < 187 by decide) s0 dX9_init_45 ?_
  refine v_aload_n C 0 dX9_init_48 rfl ?_
  refine v_newc C hRm tyX3 tyX3_ok rfl rfl inw_X3 cl_X9_29 is_X3 cw_X3_init.1 df_X3 (show shp 187 = 3 by decide +kernel) (by decide) (by decide) (by decide) dX9_init_49 ?_
  show Vc f G (187, 2228, 188, 0) _ _ _ _
  refine v_dup C dX9_init_52 rfl ?_
  refine v_callIN C hRm (k := 187) (As := []) cw_X3_init im_X3_init rfl mn_X9_31 (c_X3_init l G _ 187 (by decide) (show shp 187 = 3 by decide +kernel) (show shp 188 = 7 by decide +kernel) (show shp 189 = 1060 by decide +kernel) (show shp 190 = 1060 by decide +kernel) (show shp 191 = 1000 by decide +kernel)) (by decide) ⟨show 187 + 4 ≤ 204 by decide, show 2228 + 123 ≤ 2507 by decide⟩ rfl rfl (Nat.le_of_ble_eq_true rfl) dX9_init_53 (fun v M2 hP => ?_)
  obtain ⟨rfl, rfl⟩ := hP
  show Vc f G (191, 2351, 192, 0) _ _ _ [.ref (gb G + 187), .ref (gb G + 0)]
  refine q_X9_32 C hinit (k := 0) (show 0 < 192 by decide) s0 dX9_init_56 ?_
  refine v_aload_n C 0 dX9_init_59 rfl ?_
  refine v_newc C hRm tyX6 tyX6_ok rfl rfl inw_X6 cl_X9_36 is_X6 cw_X6_init.1 df_X6 (show shp 192 = 6 by decide +kernel) (by decide) (by decide) (by decide) dX9_init_60 ?_
  show Vc f G (192, 2356, 193, 0) _ _ _ _
  refine v_dup C dX9_init_63 rfl ?_
  refine v_callIN C hRm (k := 192) (As := []) cw_X6_init im_X6_init rfl mn_X9_38 (c_X6_init l G _ 192 (by decide) (show shp 192 = 6 by decide +kernel) (show shp 193 = 4 by decide +kernel) (show shp 194 = 1030 by decide +kernel)) (by decide) ⟨show 192 + 2 ≤ 204 by decide, show 2356 + 32 ≤ 2507 by decide⟩ rfl rfl (Nat.le_of_ble_eq_true rfl) dX9_init_64 (fun v M2 hP => ?_)
  obtain ⟨rfl, rfl⟩ := hP
  show Vc f G (194, 2388, 195, 0) _ _ _ [.ref (gb G + 192), .ref (gb G + 0)]
  refine q_X9_39 C hinit (k := 0) (show 0 < 195 by decide) s0 dX9_init_67 ?_
  refine v_aload_n C 0 dX9_init_70 rfl ?_
  refine v_iconst C (nI 4) dX9_init_71 (by decide) ?_
  refine v_anew C hRm 4 (show shp 195 = 23 by decide +kernel) (by decide) (by decide) rfl (by decide) rfl cl_X9_43 (by decide +kernel) (by decide) (by decide) dX9_init_72 ?_
  show Vc f G (195, 2392, 196, 0) _ _ _ _
  refine q_X9_45 C hinit (k := 0) (show 0 < 196 by decide) s0 dX9_init_75 ?_
  refine v_aload_n C 0 dX9_init_78 rfl ?_
  refine v_bipush C (nI 7) dX9_init_79 (by decide) ?_
  refine v_newa C hRm 7 ai_arr (show shp 196 = 1000 + 7 by decide +kernel) (by decide) (by decide) (by decide) dX9_init_81 ?_
  show Vc f G (196, 2399, 197, 0) _ _ _ _
  refine q_X9_49 C hinit (k := 0) (show 0 < 197 by decide) s0 dX9_init_83 ?_
  refine v_iconst C (nI 0) dX9_init_86 (by decide) ?_
  refine v_istore_n C [(1, .int (nI 0)), (0, .ref (gb G + 0))] dX9_init_87 rfl (by decide) rfl ?_
  show Vc f G (196 + 2 * 0, 2399 + 27 * 0, 197 + 2 * 0, 0) (x9Sh (x9B M) 0) 88 _ _
  refine x9_sh C hRm (x9B_6 M) ?_ 4 0 rfl
  exact v_ret C hRt dX9_init_112 ⟨rfl, rfl⟩
