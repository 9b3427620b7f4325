def layM (M : Mm) (k : Nat) (b s : Int32) : Mm := upA (up2 (up2 M k 0 b) k 1 s) (k + 1) (fun _ => nI 0)
def ccpM (M : Mm) (k j : Nat) : Mm := upA (upA (up2 (up2 (up2 (up2 (up2 (up2 M k 0 (M j 0)) k 1 (M j 1)) k 2 (M j 2)) k 3 (M j 3)) k 4 (M j 4)) k 5 (M j 5)) (k + 1) (va_cpy (M (j + 1)) (M (k + 1)) 0 0 10)) (k + 2) (va_cpy (M (j + 2)) (M (k + 2)) 0 0 5)
set_option maxHeartbeats 4000000 in
set_option maxRecDepth 100000 in
theorem s_missing (l : Launch) (G : GC) (M : Mm) (k : Nat) (hk : k + 1 < 221) (hs : shp k = 5) : CP l G 1 yX5_isMissing cX5_isMissing 1 .boolean [.ref (gb G + k)] M (b2i (M k 0 = 0)) := by
  refine Con.of (by decide +kernel) (Nat.le_of_ble_eq_true rfl) ?_
  intro f C hRm hRt _
  show Vc f G NPh M 0 [(0, .ref (gb G + k))] []
  refine v_aload_n C 0 dX5_isMissing_0 rfl ?_
  refine g_X5_15 C (show k < 221 from by omega) hs dX5_isMissing_1 ?_
  refine v_if_ne C 11 dX5_isMissing_4 rfl (fun h_4 => ?_) (fun h_4 => ?_)
  · skip
    refine v_iconst C (nI 0) dX5_isMissing_11 (by decide) ?_
    exact n_iret C hRt rfl dX5_isMissing_12 (b2i_F h_4) rfl
  · skip
    refine v_iconst C (nI 1) dX5_isMissing_7 (by decide) ?_
    refine v_goto C 12 dX5_isMissing_8 rfl ?_
    exact n_iret C hRt rfl dX5_isMissing_12 (b2i_T (by first | exact h_4 | exact Decidable.not_not.mp h_4)) rfl
set_option maxHeartbeats 4000000 in
set_option maxRecDepth 100000 in
theorem s_lay (l : Launch) (G : GC) (M : Mm) (k : Nat) (hk : k + 1 < 221) (hs : shp k = 5) (hs1 : shp (k + 1) = 1000 + 24) (b s : Int32) : CV l G 2 yX5_lay cX5_lay 3 [.ref (gb G + k), .int b, .int s] M (fun M' => M' = layM M k b s) := by
  refine Con.of (by decide +kernel) (Nat.le_of_ble_eq_true rfl) ?_
  intro f C hRm hRt _
  show Vc f G NPh M 0 [(0, .ref (gb G + k)), (1, .int b), (2, .int s)] []
  refine v_aload_n C 0 dX5_lay_0 rfl ?_
  refine v_iload_n C 1 dX5_lay_1 rfl ?_
  refine p_X5_15 C (show k < 221 from by omega) hs dX5_lay_2 ?_
  refine v_aload_n C 0 dX5_lay_5 rfl ?_
  refine v_iload_n C 2 dX5_lay_6 rfl ?_
  refine p_X5_19 C (show k < 221 from by omega) hs dX5_lay_7 ?_
  refine v_aload_n C 0 dX5_lay_10 rfl ?_
  refine g_X5_9 C (show k < 221 from by omega) hs dX5_lay_11 ?_
  refine v_iconst C (nI 0) dX5_lay_14 (by decide) ?_
  refine n_callSv C hRm [.ref (gb G + (k + 1)), .int (nI 0)] cw_J7_fill_53178 st_J7_fill_53178 ml_X5_22 (j_fill l G (up2 (up2 M k 0 b) k 1 s) (k + 1) 24 (show k + 1 < 221 from by omega) hs1 (by decide)) (by decide) rfl rfl (Nat.le_of_ble_eq_true rfl) dX5_lay_15 (fun M5 hP_15 => ?_)
  subst hP_15
  exact n_ret C hRt dX5_lay_18 (rfl)
set_option maxHeartbeats 4000000 in
set_option maxRecDepth 100000 in
theorem s_holds (l : Launch) (G : GC) (M : Mm) (k : Nat) (hk : k + 1 < 221) (hs : shp k = 5) (i n : Int32) : CP l G 1 yX5_holds cX5_holds 3 .boolean [.ref (gb G + k), .int i, .int n] M (b2i ((0 ≤ n ∧ n ≤ M k 1) ∧ 0 ≤ i ∧ i ≤ M k 1 - n)) := by
  refine Con.of (by decide +kernel) (Nat.le_of_ble_eq_true rfl) ?_
  intro f C hRm hRt _
  show Vc f G NPh M 0 [(0, .ref (gb G + k)), (1, .int i), (2, .int n)] []
  refine v_iload_n C 2 dX5_holds_0 rfl ?_
  refine v_if_lt C 30 dX5_holds_1 rfl (fun h_1 => ?_) (fun h_1 => ?_)
  · skip
    refine v_iconst C (nI 0) dX5_holds_30 (by decide) ?_
    exact n_iret C hRt rfl dX5_holds_31 (b2i_F (fun q => by first | exact Int32.not_lt.mpr q.1.1 h_1 | exact Int32.not_lt.mpr q.1.2 h_9 | exact Int32.not_lt.mpr q.2.1 h_13 | exact Int32.not_lt.mpr q.2.2 h_23)) rfl
  · skip
    refine v_iload_n C 2 dX5_holds_4 rfl ?_
    refine v_aload_n C 0 dX5_holds_5 rfl ?_
    refine g_X5_19 C (show k < 221 from by omega) hs dX5_holds_6 ?_
    refine v_icmp_gt C 30 dX5_holds_9 rfl (fun h_9 => ?_) (fun h_9 => ?_)
    · skip
      refine v_iconst C (nI 0) dX5_holds_30 (by decide) ?_
      exact n_iret C hRt rfl dX5_holds_31 (b2i_F (fun q => by first | exact Int32.not_lt.mpr q.1.1 h_1 | exact Int32.not_lt.mpr q.1.2 h_9 | exact Int32.not_lt.mpr q.2.1 h_13 | exact Int32.not_lt.mpr q.2.2 h_23)) rfl
    · skip
      refine v_iload_n C 1 dX5_holds_12 rfl ?_
      refine v_if_lt C 30 dX5_holds_13 rfl (fun h_13 => ?_) (fun h_13 => ?_)
      · skip
        refine v_iconst C (nI 0) dX5_holds_30 (by decide) ?_
        exact n_iret C hRt rfl dX5_holds_31 (b2i_F (fun q => by first | exact Int32.not_lt.mpr q.1.1 h_1 | exact Int32.not_lt.mpr q.1.2 h_9 | exact Int32.not_lt.mpr q.2.1 h_13 | exact Int32.not_lt.mpr q.2.2 h_23)) rfl
      · skip
        refine v_iload_n C 1 dX5_holds_16 rfl ?_
        refine v_aload_n C 0 dX5_holds_17 rfl ?_
        refine g_X5_19 C (show k < 221 from by omega) hs dX5_holds_18 ?_
        refine v_iload_n C 2 dX5_holds_21 rfl ?_
        refine v_isub C dX5_holds_22 ?_
        refine v_icmp_gt C 30 dX5_holds_23 rfl (fun h_23 => ?_) (fun h_23 => ?_)
        · skip
          refine v_iconst C (nI 0) dX5_holds_30 (by decide) ?_
          exact n_iret C hRt rfl dX5_holds_31 (b2i_F (fun q => by first | exact Int32.not_lt.mpr q.1.1 h_1 | exact Int32.not_lt.mpr q.1.2 h_9 | exact Int32.not_lt.mpr q.2.1 h_13 | exact Int32.not_lt.mpr q.2.2 h_23)) rfl
        · skip
          refine v_iconst C (nI 1) dX5_holds_26 (by decide) ?_
          refine v_goto C 31 dX5_holds_27 rfl ?_
          exact n_iret C hRt rfl dX5_holds_31 (b2i_T ⟨⟨by first | exact h_1 | exact Int32.not_lt.mp h_1, by first | exact h_9 | exact Int32.not_lt.mp h_9⟩, by first | exact h_13 | exact Int32.not_lt.mp h_13, by first | exact h_23 | exact Int32.not_lt.mp h_23⟩) rfl
set_option maxHeartbeats 4000000 in
set_option maxRecDepth 100000 in
theorem c_take (l : Launch) (G : GC) (M : Mm) (k j : Nat) (hk : k + 2 < 221) (hs : shp k = 0) (hs1 : shp (k + 1) = 1000 + 10) (hs2 : shp (k + 2) = 1000 + 5) (hj : j + 2 < 221) (hsj : shp j = 0) (hj1 : shp (j + 1) = 1000 + 10) (hj2 : shp (j + 2) = 1000 + 5) (hkj : j ≠ k) (hkj1 : j + 1 ≠ k) (hkj2 : j + 2 ≠ k) (hkj3 : j + 2 ≠ k + 1) : CV l G 2 yX0_takeFrom cX0_takeFrom 2 [.ref (gb G + k), .ref (gb G + j)] M (fun M' => M' = ccpM M k j) := by
  refine Con.of (by decide +kernel) (Nat.le_of_ble_eq_true rfl) ?_
  intro f C hRm hRt _
  show Vc f G NPh M 0 [(0, .ref (gb G + k)), (1, .ref (gb G + j))] []
  refine v_aload_n C 0 dX0_takeFrom_0 rfl ?_
  refine v_aload_n C 1 dX0_takeFrom_1 rfl ?_
  refine g_X0_22 C (show j < 221 from by omega) hsj dX0_takeFrom_2 ?_
  refine v_top (M j 0) (rfl) ?_
  refine p_X0_22 C (show k < 221 from by omega) hs dX0_takeFrom_5 ?_
  refine v_aload_n C 0 dX0_takeFrom_8 rfl ?_
  refine v_aload_n C 1 dX0_takeFrom_9 rfl ?_
  refine g_X0_25 C (show j < 221 from by omega) hsj dX0_takeFrom_10 ?_
  refine v_top (M j 1) (by rw [up2_ne _ _ _ hkj]) ?_
  refine p_X0_25 C (show k < 221 from by omega) hs dX0_takeFrom_13 ?_
  refine v_aload_n C 0 dX0_takeFrom_16 rfl ?_
  refine v_aload_n C 1 dX0_takeFrom_17 rfl ?_
  refine g_X0_28 C (show j < 221 from by omega) hsj dX0_takeFrom_18 ?_
  refine v_top (M j 2) (by rw [up2_ne _ _ _ hkj, up2_ne _ _ _ hkj]) ?_
  refine p_X0_28 C (show k < 221 from by omega) hs dX0_takeFrom_21 ?_
  refine v_aload_n C 0 dX0_takeFrom_24 rfl ?_
  refine v_aload_n C 1 dX0_takeFrom_25 rfl ?_
  refine g_X0_31 C (show j < 221 from by omega) hsj dX0_takeFrom_26 ?_
  refine v_top (M j 3) (by rw [up2_ne _ _ _ hkj, up2_ne _ _ _ hkj, up2_ne _ _ _ hkj]) ?_
  refine p_X0_31 C (show k < 221 from by omega) hs dX0_takeFrom_29 ?_
  refine v_aload_n C 0 dX0_takeFrom_32 rfl ?_
  refine v_aload_n C 1 dX0_takeFrom_33 rfl ?_
  refine g_X0_9 C (show j < 221 from by omega) hsj dX0_takeFrom_34 ?_
  refine v_top (M j 4) (by rw [up2_ne _ _ _ hkj, up2_ne _ _ _ hkj, up2_ne _ _ _ hkj, up2_ne _ _ _ hkj]) ?_
  refine p_X0_9 C (show k < 221 from by omega) hs dX0_takeFrom_37 ?_
  refine v_aload_n C 0 dX0_takeFrom_40 rfl ?_
  refine v_aload_n C 1 dX0_takeFrom_41 rfl ?_
  refine g_X0_34 C (show j < 221 from by omega) hsj dX0_takeFrom_42 ?_
  refine v_top (M j 5) (by rw [up2_ne _ _ _ hkj, up2_ne _ _ _ hkj, up2_ne _ _ _ hkj, up2_ne _ _ _ hkj, up2_ne _ _ _ hkj]) ?_
  refine p_X0_34 C (show k < 221 from by omega) hs dX0_takeFrom_45 ?_
  refine v_aload_n C 1 dX0_takeFrom_48 rfl ?_
  refine g_X0_15 C (show j < 221 from by omega) hsj dX0_takeFrom_49 ?_
  refine v_iconst C (nI 0) dX0_takeFrom_52 (by decide) ?_
  refine v_aload_n C 0 dX0_takeFrom_53 rfl ?_
  refine g_X0_15 C (show k < 221 from by omega) hs dX0_takeFrom_54 ?_
  refine v_iconst C (nI 0) dX0_takeFrom_57 (by decide) ?_
  refine v_bipush C (nI 10) dX0_takeFrom_58 (by decide) ?_
  refine v_copy C hRm (by decide) ml_X0_37 ac_nat ac_stat ac_ini (show j + 1 < 221 from by omega) hj1 (show k + 1 < 221 from by omega) hs1 (by omega) (by omega) (by decide) (by decide) (Nat.le_of_ble_eq_true rfl) dX0_takeFrom_60 ?_
  refine v_aload_n C 1 dX0_takeFrom_63 rfl ?_
  refine g_X0_19 C (show j < 221 from by omega) hsj dX0_takeFrom_64 ?_
  refine v_iconst C (nI 0) dX0_takeFrom_67 (by decide) ?_
  refine v_aload_n C 0 dX0_takeFrom_68 rfl ?_
  refine g_X0_19 C (show k < 221 from by omega) hs dX0_takeFrom_69 ?_
  refine v_iconst C (nI 0) dX0_takeFrom_72 (by decide) ?_
  refine v_iconst C (nI 5) dX0_takeFrom_73 (by decide) ?_
  refine v_copy C hRm (by decide) ml_X0_37 ac_nat ac_stat ac_ini (show j + 2 < 221 from by omega) hj2 (show k + 2 < 221 from by omega) hs2 (by omega) (by omega) (by decide) (by decide) (Nat.le_of_ble_eq_true rfl) dX0_takeFrom_74 ?_
  exact n_ret C hRt dX0_takeFrom_77 (by unfold ccpM; simp only [up2_ne _ _ _ hkj1, up2_ne _ _ _ hkj2, up2_ne _ _ _ (show k + 1 ≠ k by omega), up2_ne _ _ _ (show k + 2 ≠ k by omega), upA_ne _ _ hkj3, upA_ne _ _ (show k + 2 ≠ k + 1 by omega)])
