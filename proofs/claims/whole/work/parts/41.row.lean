def rowM (M : Mm) (k L s : Nat) (v : Int32) : Mm := if s < L then up2 (up2 M (k + 1) s v) k 1 (nI (s + 1)) else M
def rcpM (M : Mm) (k j s : Nat) : Mm := upA (up2 M k 1 (nI s)) (k + 1) (va_cpy (M (j + 1)) (M (k + 1)) 0 0 s)
def txaM (M : Mm) (k s : Nat) (v : Int32) : Mm := if s < 60 then up2 (up2 M (k + 1) s v) k 2 (nI (s + 1)) else M
def tcpM (M : Mm) (k j s : Nat) : Mm := upA (up2 M k 2 (nI s)) (k + 1) (va_cpy (M (j + 1)) (M (k + 1)) 0 0 s)
set_option maxHeartbeats 4000000 in
set_option maxRecDepth 100000 in
theorem w_add (l : Launch) (G : GC) (M : Mm) (k L : Nat) (hk : k + 1 < 221) (hs : shp k = 4) (hs1 : shp (k + 1) = 1000 + L) (hL : L < 2 ^ 31) (s : Nat) (hsz : M k 1 = nI s) (hs2 : s ≤ L) (v : Int32) : CV l G 1 yX4_add cX4_add 2 [.ref (gb G + k), .int v] M (fun M' => M' = rowM M k L s v) := by
  refine Con.of (by decide +kernel) (Nat.le_of_ble_eq_true rfl) ?_
  intro f C hRm hRt _
  show Vc f G NPh M 0 [(0, .ref (gb G + k)), (1, .int v)] []
  refine v_aload_n C 0 dX4_add_0 rfl ?_
  refine g_X4_19 C (show k < 221 from by omega) hs dX4_add_1 ?_
  refine v_top (nI s) (hsz) ?_
  refine v_aload_n C 0 dX4_add_4 rfl ?_
  refine g_X4_13 C (show k < 221 from by omega) hs dX4_add_5 ?_
  refine v_alen C hk hs1 dX4_add_8 ?_
  refine n_icmp_ge C (by omega) (by omega) 32 dX4_add_9 rfl (fun h_9 => ?_) (fun h_9 => ?_)
  · skip
    exact n_ret C hRt dX4_add_32 (by unfold rowM; rw [if_neg (by omega)])
  · skip
    refine v_aload_n C 0 dX4_add_12 rfl ?_
    refine g_X4_13 C (show k < 221 from by omega) hs dX4_add_13 ?_
    refine v_aload_n C 0 dX4_add_16 rfl ?_
    refine g_X4_19 C (show k < 221 from by omega) hs dX4_add_17 ?_
    refine v_top (nI s) (hsz) ?_
    refine v_iload_n C 1 dX4_add_20 rfl ?_
    refine v_iast C hk hs1 (by omega) hL dX4_add_21 ?_
    refine v_aload_n C 0 dX4_add_22 rfl ?_
    refine v_dup C dX4_add_23 rfl ?_
    refine g_X4_19 C (show k < 221 from by omega) hs dX4_add_24 ?_
    refine v_top (nI s) ((congrFun (up2_ne _ _ _ (by omega)) 1).trans hsz) ?_
    refine v_iconst C (nI 1) dX4_add_27 (by decide) ?_
    refine n_iadd C dX4_add_28 ?_
    refine p_X4_19 C (show k < 221 from by omega) hs dX4_add_29 ?_
    exact n_ret C hRt dX4_add_32 (by unfold rowM; rw [if_pos h_9])
set_option maxHeartbeats 4000000 in
set_option maxRecDepth 100000 in
theorem w_take (l : Launch) (G : GC) (M : Mm) (k j L : Nat) (hk : k + 1 < 221) (hs : shp k = 4) (hs1 : shp (k + 1) = 1000 + L) (hL : L < 2 ^ 31) (hj : j + 1 < 221) (hsj : shp j = 4) (hj1 : shp (j + 1) = 1000 + L) (hkj : j + 1 ≠ k) (s : Nat) (hsz : M j 1 = nI s) (hs2 : s ≤ L) : CV l G 2 yX4_takeFrom cX4_takeFrom 2 [.ref (gb G + k), .ref (gb G + j)] M (fun M' => M' = rcpM M k j s) := by
  refine Con.of (by decide +kernel) (Nat.le_of_ble_eq_true rfl) ?_
  intro f C hRm hRt _
  show Vc f G NPh M 0 [(0, .ref (gb G + k)), (1, .ref (gb G + j))] []
  refine v_aload_n C 0 dX4_takeFrom_0 rfl ?_
  refine v_aload_n C 1 dX4_takeFrom_1 rfl ?_
  refine g_X4_19 C (show j < 221 from by omega) hsj dX4_takeFrom_2 ?_
  refine v_top (nI s) (hsz) ?_
  refine v_aload_n C 0 dX4_takeFrom_5 rfl ?_
  refine g_X4_13 C (show k < 221 from by omega) hs dX4_takeFrom_6 ?_
  refine v_alen C hk hs1 dX4_takeFrom_9 ?_
  refine v_mmin C hRm (by decide) ml_X4_23 (Nat.le_of_ble_eq_true rfl) dX4_takeFrom_10 ?_
  refine v_top (minS (nI s) (nI L)) rfl ?_
  refine v_top (nI s) (by unfold minS; rw [if_neg (by rw [nI_ltI (by omega) (by omega)]; omega)]) ?_
  refine p_X4_19 C (show k < 221 from by omega) hs dX4_takeFrom_13 ?_
  refine v_aload_n C 1 dX4_takeFrom_16 rfl ?_
  refine g_X4_13 C (show j < 221 from by omega) hsj dX4_takeFrom_17 ?_
  refine v_iconst C (nI 0) dX4_takeFrom_20 (by decide) ?_
  refine v_aload_n C 0 dX4_takeFrom_21 rfl ?_
  refine g_X4_13 C (show k < 221 from by omega) hs dX4_takeFrom_22 ?_
  refine v_iconst C (nI 0) dX4_takeFrom_25 (by decide) ?_
  refine v_aload_n C 0 dX4_takeFrom_26 rfl ?_
  refine g_X4_19 C (show k < 221 from by omega) hs dX4_takeFrom_27 ?_
  refine v_top (nI s) (up2_at _ _ _ _) ?_
  refine v_copy C hRm (by decide) ml_X4_26 ac_nat ac_stat ac_ini hj hj1 hk hs1 (by omega) (by omega) hL hL (Nat.le_of_ble_eq_true rfl) dX4_takeFrom_30 ?_
  exact n_ret C hRt dX4_takeFrom_33 (by unfold rcpM; rw [up2_ne _ _ _ hkj, up2_ne _ _ _ (show k + 1 ≠ k by omega)])
set_option maxHeartbeats 4000000 in
set_option maxRecDepth 100000 in
theorem t_isThere (l : Launch) (G : GC) (M : Mm) (k : Nat) (hk : k + 2 < 221) (hs : shp k = 7) : CP l G 1 yX7_isThere cX7_isThere 1 .boolean [.ref (gb G + k)] M (b2i (¬ M k 2 ≤ 0)) := by
  refine Con.of (by decide +kernel) (Nat.le_of_ble_eq_true rfl) ?_
  intro f C hRm hRt _
  show Vc f G NPh M 0 [(0, .ref (gb G + k))] []
  refine v_aload_n C 0 dX7_isThere_0 rfl ?_
  refine g_X7_18 C (show k < 221 from by omega) hs dX7_isThere_1 ?_
  refine v_if_le C 11 dX7_isThere_4 rfl (fun h_4 => ?_) (fun h_4 => ?_)
  · skip
    refine v_iconst C (nI 0) dX7_isThere_11 (by decide) ?_
    exact n_iret C hRt rfl dX7_isThere_12 (b2i_F (fun q => q h_4)) rfl
  · skip
    refine v_iconst C (nI 1) dX7_isThere_7 (by decide) ?_
    refine v_goto C 12 dX7_isThere_8 rfl ?_
    exact n_iret C hRt rfl dX7_isThere_12 (b2i_T (by first | exact h_4 | exact Int32.not_le.mpr h_4)) rfl
set_option maxHeartbeats 4000000 in
set_option maxRecDepth 100000 in
theorem t_add (l : Launch) (G : GC) (M : Mm) (k : Nat) (hk : k + 2 < 221) (hs : shp k = 7) (hs1 : shp (k + 1) = 1000 + 60) (s : Nat) (hsz : M k 2 = nI s) (hs2 : s ≤ 60) (v : Int32) : CV l G 1 yX7_add cX7_add 2 [.ref (gb G + k), .int v] M (fun M' => M' = txaM M k s v) := by
  refine Con.of (by decide +kernel) (Nat.le_of_ble_eq_true rfl) ?_
  intro f C hRm hRt _
  show Vc f G NPh M 0 [(0, .ref (gb G + k)), (1, .int v)] []
  refine v_aload_n C 0 dX7_add_0 rfl ?_
  refine g_X7_18 C (show k < 221 from by omega) hs dX7_add_1 ?_
  refine v_top (nI s) (hsz) ?_
  refine v_bipush C (nI 60) dX7_add_4 (by decide) ?_
  refine n_icmp_ge C (by omega) (by omega) 29 dX7_add_6 rfl (fun h_6 => ?_) (fun h_6 => ?_)
  · skip
    exact n_ret C hRt dX7_add_29 (by unfold txaM; rw [if_neg (by omega)])
  · skip
    refine v_aload_n C 0 dX7_add_9 rfl ?_
    refine g_X7_9 C (show k < 221 from by omega) hs dX7_add_10 ?_
    refine v_aload_n C 0 dX7_add_13 rfl ?_
    refine g_X7_18 C (show k < 221 from by omega) hs dX7_add_14 ?_
    refine v_top (nI s) (hsz) ?_
    refine v_iload_n C 1 dX7_add_17 rfl ?_
    refine v_iast C (show k + 1 < 221 from by omega) hs1 (by omega) (by decide) dX7_add_18 ?_
    refine v_aload_n C 0 dX7_add_19 rfl ?_
    refine v_dup C dX7_add_20 rfl ?_
    refine g_X7_18 C (show k < 221 from by omega) hs dX7_add_21 ?_
    refine v_top (nI s) ((congrFun (up2_ne _ _ _ (by omega)) 2).trans hsz) ?_
    refine v_iconst C (nI 1) dX7_add_24 (by decide) ?_
    refine n_iadd C dX7_add_25 ?_
    refine p_X7_18 C (show k < 221 from by omega) hs dX7_add_26 ?_
    exact n_ret C hRt dX7_add_29 (by unfold txaM; rw [if_pos h_6])
set_option maxHeartbeats 4000000 in
set_option maxRecDepth 100000 in
theorem t_take (l : Launch) (G : GC) (M : Mm) (k : Nat) (hk : k + 2 < 221) (hs : shp k = 7) (hs1 : shp (k + 1) = 1000 + 60) (j : Nat) (hj : j + 2 < 221) (hsj : shp j = 7) (hj1 : shp (j + 1) = 1000 + 60) (hkj : j + 1 ≠ k) (s : Nat) (hsz : M j 2 = nI s) (hs2 : s ≤ 60) : CV l G 1 yX7_takeFrom cX7_takeFrom 2 [.ref (gb G + k), .ref (gb G + j)] M (fun M' => M' = tcpM M k j s) := by
  refine Con.of (by decide +kernel) (Nat.le_of_ble_eq_true rfl) ?_
  intro f C hRm hRt _
  show Vc f G NPh M 0 [(0, .ref (gb G + k)), (1, .ref (gb G + j))] []
  refine v_aload_n C 0 dX7_takeFrom_0 rfl ?_
  refine v_aload_n C 1 dX7_takeFrom_1 rfl ?_
  refine g_X7_18 C (show j < 221 from by omega) hsj dX7_takeFrom_2 ?_
  refine v_top (nI s) (hsz) ?_
  refine p_X7_18 C (show k < 221 from by omega) hs dX7_takeFrom_5 ?_
  refine v_aload_n C 1 dX7_takeFrom_8 rfl ?_
  refine g_X7_9 C (show j < 221 from by omega) hsj dX7_takeFrom_9 ?_
  refine v_iconst C (nI 0) dX7_takeFrom_12 (by decide) ?_
  refine v_aload_n C 0 dX7_takeFrom_13 rfl ?_
  refine g_X7_9 C (show k < 221 from by omega) hs dX7_takeFrom_14 ?_
  refine v_iconst C (nI 0) dX7_takeFrom_17 (by decide) ?_
  refine v_aload_n C 0 dX7_takeFrom_18 rfl ?_
  refine g_X7_18 C (show k < 221 from by omega) hs dX7_takeFrom_19 ?_
  refine v_top (nI s) (up2_at _ _ _ _) ?_
  refine v_copy C hRm (by decide) ml_X7_22 ac_nat ac_stat ac_ini (show j + 1 < 221 from by omega) hj1 (show k + 1 < 221 from by omega) hs1 (by omega) (by omega) (by decide) (by decide) (Nat.le_of_ble_eq_true rfl) dX7_takeFrom_22 ?_
  exact n_ret C hRt dX7_takeFrom_25 (by unfold tcpM; rw [up2_ne _ _ _ hkj, up2_ne _ _ _ (show k + 1 ≠ k by omega)])
