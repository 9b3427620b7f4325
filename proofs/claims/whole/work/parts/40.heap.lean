theorem popN_lt (m : Nat) : popN m < 2 ^ 31 := Nat.lt_of_le_of_lt (popN_le m) (by decide)
abbrev tooFew (M : Mm) (k m : Nat) : Prop := m ≠ 0 ∧ nI (popN m) < M k 0
noncomputable def chgM (M : Mm) (k m : Nat) : Mm := if tooFew M k m then up2 M k 3 (nI m) else up2 (up2 M k 3 (nI m)) k 4 (nI 0)
def hcpM (M : Mm) (k j : Nat) : Mm := up2 (up2 (up2 (up2 (up2 M k 0 (M j 0)) k 1 (M j 1)) k 2 (M j 2)) k 3 (M j 3)) k 4 (M j 4)
set_option maxHeartbeats 4000000 in
set_option maxRecDepth 100000 in
theorem h_size (l : Launch) (G : GC) (M : Mm) (k : Nat) (hk : k < 221) (hs : shp k = 2) (m : Nat) (hm : m < 1024) (h3 : M k 3 = nI m) : CP l G 2 yX2_size cX2_size 1 .int [.ref (gb G + k)] M (nI (popN m)) := by
  refine Con.of (by decide +kernel) (Nat.le_of_ble_eq_true rfl) ?_
  intro f C hRm hRt _
  show Vc f G NPh M 0 [(0, .ref (gb G + k))] []
  refine v_aload_n C 0 dX2_size_0 rfl ?_
  refine g_X2_13 C hk hs dX2_size_1 ?_
  refine v_top (nI m) h3 ?_
  refine n_callSp C hRm [.int (nI m)] cw_J6_bitCount_0f7a4 st_J6_bitCount_0f7a4 ml_X2_16 (j_bitCount l G M m (by omega)) (by decide) rfl rfl (Nat.le_of_ble_eq_true rfl) dX2_size_4 ?_
  exact n_iret C hRt (rfl) dX2_size_7 (rfl) (rfl)
set_option maxHeartbeats 4000000 in
set_option maxRecDepth 100000 in
theorem h_lacksOne (l : Launch) (G : GC) (M : Mm) (k : Nat) (hk : k < 221) (hs : shp k = 2) (m : Nat) (hm : m < 1024) (h3 : M k 3 = nI m) : CP l G 2 yX2_lacksOne cX2_lacksOne 2 .boolean [.ref (gb G + k)] M (b2i (nI (popN m + 1) = M k 0 ∨ nI (popN m + 1) = M k 1)) := by
  refine Con.of (by decide +kernel) (Nat.le_of_ble_eq_true rfl) ?_
  intro f C hRm hRt _
  show Vc f G NPh M 0 [(0, .ref (gb G + k))] []
  refine v_aload_n C 0 dX2_lacksOne_0 rfl ?_
  refine g_X2_13 C hk hs dX2_lacksOne_1 ?_
  refine v_top (nI m) h3 ?_
  refine n_callSp C hRm [.int (nI m)] cw_J6_bitCount_0f7a4 st_J6_bitCount_0f7a4 ml_X2_16 (j_bitCount l G M m (by omega)) (by decide) rfl rfl (Nat.le_of_ble_eq_true rfl) dX2_lacksOne_4 ?_
  refine v_iconst C (nI 1) dX2_lacksOne_7 (by decide) ?_
  refine n_iadd C dX2_lacksOne_8 ?_
  refine v_istore_n C [(1, .int (nI ((popN m) + 1))), (0, .ref (gb G + k))] dX2_lacksOne_9 rfl (by decide) rfl ?_
  refine v_iload_n C 0 dX2_lacksOne_10 rfl ?_
  refine v_aload_n C 1 dX2_lacksOne_11 rfl ?_
  refine g_X2_22 C hk hs dX2_lacksOne_12 ?_
  refine v_icmp_eq C 26 dX2_lacksOne_15 rfl (fun h_15 => ?_) (fun h_15 => ?_)
  · skip
    refine v_iconst C (nI 1) dX2_lacksOne_26 (by decide) ?_
    refine v_goto C 31 dX2_lacksOne_27 rfl ?_
    exact n_iret C hRt rfl dX2_lacksOne_31 (b2i_T (Or.inl h_15)) rfl
  · skip
    refine v_iload_n C 0 dX2_lacksOne_18 rfl ?_
    refine v_aload_n C 1 dX2_lacksOne_19 rfl ?_
    refine g_X2_25 C hk hs dX2_lacksOne_20 ?_
    refine v_icmp_ne C 30 dX2_lacksOne_23 rfl (fun h_23 => ?_) (fun h_23 => ?_)
    · skip
      refine v_iconst C (nI 0) dX2_lacksOne_30 (by decide) ?_
      exact n_iret C hRt rfl dX2_lacksOne_31 (b2i_F (fun q => q.elim h_15 h_23)) rfl
    · skip
      refine v_iconst C (nI 1) dX2_lacksOne_26 (by decide) ?_
      refine v_goto C 31 dX2_lacksOne_27 rfl ?_
      exact n_iret C hRt rfl dX2_lacksOne_31 (b2i_T (Or.inr h_23)) rfl
set_option maxHeartbeats 4000000 in
set_option maxRecDepth 100000 in
theorem h_few (l : Launch) (G : GC) (M : Mm) (k : Nat) (hk : k < 221) (hs : shp k = 2) (m : Nat) (hm : m < 1024) (h3 : M k 3 = nI m) : CP l G 3 yX2_hasTooFew cX2_hasTooFew 1 .boolean [.ref (gb G + k)] M (b2i (tooFew M k m)) := by
  refine Con.of (by decide +kernel) (Nat.le_of_ble_eq_true rfl) ?_
  intro f C hRm hRt _
  have hpl := popN_lt m
  show Vc f G NPh M 0 [(0, .ref (gb G + k))] []
  refine v_aload_n C 0 dX2_hasTooFew_0 rfl ?_
  refine g_X2_13 C hk hs dX2_hasTooFew_1 ?_
  refine v_top (nI m) h3 ?_
  refine n_if_eq C (by omega) 22 dX2_hasTooFew_4 rfl (fun h_4 => ?_) (fun h_4 => ?_)
  · skip
    refine v_iconst C (nI 0) dX2_hasTooFew_22 (by decide) ?_
    exact n_iret C hRt rfl dX2_hasTooFew_23 (b2i_F (fun q => q.1 h_4)) rfl
  · skip
    refine v_aload_n C 0 dX2_hasTooFew_7 rfl ?_
    refine n_callVp C hRm [] cw_X2_size ml_X2_28 hk hs (by decide) rfl (h_size l G M k hk hs m (by omega) h3) (by decide) rfl rfl (Nat.le_of_ble_eq_true rfl) dX2_hasTooFew_8 ?_
    refine v_aload_n C 0 dX2_hasTooFew_11 rfl ?_
    refine g_X2_22 C hk hs dX2_hasTooFew_12 ?_
    refine v_icmp_ge C 22 dX2_hasTooFew_15 rfl (fun h_15 => ?_) (fun h_15 => ?_)
    · skip
      refine v_iconst C (nI 0) dX2_hasTooFew_22 (by decide) ?_
      exact n_iret C hRt rfl dX2_hasTooFew_23 (b2i_F (fun q => by first | exact Int32.not_lt.mpr h_15 q.2 | exact h_15 q.2)) rfl
    · skip
      refine v_iconst C (nI 1) dX2_hasTooFew_18 (by decide) ?_
      refine v_goto C 23 dX2_hasTooFew_19 rfl ?_
      exact n_iret C hRt rfl dX2_hasTooFew_23 (b2i_T ⟨h_4, by first | exact h_15 | exact Int32.not_le.mp h_15⟩) rfl
set_option maxHeartbeats 4000000 in
set_option maxRecDepth 100000 in
theorem h_change (l : Launch) (G : GC) (M : Mm) (k : Nat) (hk : k < 221) (hs : shp k = 2) (m : Nat) (hm : m < 1024) : CV l G 4 yX2_change cX2_change 2 [.ref (gb G + k), .int (nI m)] M (fun M' => M' = chgM M k m) := by
  refine Con.of (by decide +kernel) (Nat.le_of_ble_eq_true rfl) ?_
  intro f C hRm hRt _
  show Vc f G NPh M 0 [(0, .ref (gb G + k)), (1, .int (nI m))] []
  refine v_aload_n C 0 dX2_change_0 rfl ?_
  refine v_iload_n C 1 dX2_change_1 rfl ?_
  refine p_X2_13 C hk hs dX2_change_2 ?_
  refine v_aload_n C 0 dX2_change_5 rfl ?_
  refine n_callVp C hRm [] cw_X2_hasTooFew ml_X2_32 hk hs (by decide) rfl (h_few l G (up2 M k 3 (nI m)) k hk hs m (by omega) (up2_at _ _ _ _)) (by decide) rfl rfl (Nat.le_of_ble_eq_true rfl) dX2_change_6 ?_
  refine nb_if_ne C 17 dX2_change_9 rfl (fun h_9 => ?_) (fun h_9 => ?_)
  · skip
    exact n_ret C hRt dX2_change_17 (by unfold chgM; rw [if_pos ((show tooFew (up2 M k 3 (nI m)) k m ↔ tooFew M k m from by unfold tooFew; rw [up2_at_ne _ _ (by decide)]).mp h_9)])
  · skip
    refine v_aload_n C 0 dX2_change_12 rfl ?_
    refine v_iconst C (nI 0) dX2_change_13 (by decide) ?_
    refine p_X2_36 C hk hs dX2_change_14 ?_
    exact n_ret C hRt dX2_change_17 (by unfold chgM; rw [if_neg (fun q => h_9 ((show tooFew (up2 M k 3 (nI m)) k m ↔ tooFew M k m from by unfold tooFew; rw [up2_at_ne _ _ (by decide)]).mpr q))])
set_option maxHeartbeats 4000000 in
set_option maxRecDepth 100000 in
theorem h_take (l : Launch) (G : GC) (M : Mm) (k j : Nat) (hk : k < 221) (hs : shp k = 2) (hj : j < 221) (hsj : shp j = 2) (hkj : j ≠ k) : CV l G 1 yX2_takeFrom cX2_takeFrom 2 [.ref (gb G + k), .ref (gb G + j)] M (fun M' => M' = hcpM M k j) := by
  refine Con.of (by decide +kernel) (Nat.le_of_ble_eq_true rfl) ?_
  intro f C hRm hRt _
  show Vc f G NPh M 0 [(0, .ref (gb G + k)), (1, .ref (gb G + j))] []
  refine v_aload_n C 0 dX2_takeFrom_0 rfl ?_
  refine v_aload_n C 1 dX2_takeFrom_1 rfl ?_
  refine g_X2_22 C hj hsj dX2_takeFrom_2 ?_
  refine v_top (M j 0) (rfl) ?_
  refine p_X2_22 C hk hs dX2_takeFrom_5 ?_
  refine v_aload_n C 0 dX2_takeFrom_8 rfl ?_
  refine v_aload_n C 1 dX2_takeFrom_9 rfl ?_
  refine g_X2_25 C hj hsj dX2_takeFrom_10 ?_
  refine v_top (M j 1) (by rw [up2_ne _ _ _ hkj]) ?_
  refine p_X2_25 C hk hs dX2_takeFrom_13 ?_
  refine v_aload_n C 0 dX2_takeFrom_16 rfl ?_
  refine v_aload_n C 1 dX2_takeFrom_17 rfl ?_
  refine g_X2_7 C hj hsj dX2_takeFrom_18 ?_
  refine v_top (M j 2) (by rw [up2_ne _ _ _ hkj, up2_ne _ _ _ hkj]) ?_
  refine p_X2_7 C hk hs dX2_takeFrom_21 ?_
  refine v_aload_n C 0 dX2_takeFrom_24 rfl ?_
  refine v_aload_n C 1 dX2_takeFrom_25 rfl ?_
  refine g_X2_13 C hj hsj dX2_takeFrom_26 ?_
  refine v_top (M j 3) (by rw [up2_ne _ _ _ hkj, up2_ne _ _ _ hkj, up2_ne _ _ _ hkj]) ?_
  refine p_X2_13 C hk hs dX2_takeFrom_29 ?_
  refine v_aload_n C 0 dX2_takeFrom_32 rfl ?_
  refine v_aload_n C 1 dX2_takeFrom_33 rfl ?_
  refine g_X2_36 C hj hsj dX2_takeFrom_34 ?_
  refine v_top (M j 4) (by rw [up2_ne _ _ _ hkj, up2_ne _ _ _ hkj, up2_ne _ _ _ hkj, up2_ne _ _ _ hkj]) ?_
  refine p_X2_36 C hk hs dX2_takeFrom_37 ?_
  exact n_ret C hRt dX2_takeFrom_40 (rfl)
