/-- Friends -/
theorem c_X1_init (l : Launch) (G : GC) (M : Mm) (k : Nat) (hk : k + 3 ≤ 221) (hs : shp k = 1) (h1 : shp (k + 1) = 1000 + 10) (h2 : shp (k + 2) = 1000 + 10) : Con l G (k + 1) 0 1 yX1_init cX1_init 1 none [.ref (gb G + k)] M 2 20 2 (fun v M' => v = none ∧ M' = up2 (up2 M k 2 (nI 1)) k 3 (nI 1)) := by
  refine Con.of (by decide +kernel) (Nat.le_of_ble_eq_true rfl) ?_
  intro f C hRm hRt hinit
  show Vc f G (0, 0, k + 1, 0) M 0 [(0, .ref (gb G + k))] []
  refine v_aload_n C 0 dX1_init_0 rfl ?_
  refine v_objI C hRm (by decide) oi_X1_3 (by decide) dX1_init_1 ?_
  refine v_aload_n C 0 dX1_init_4 rfl ?_
  refine v_bipush C (nI 10) dX1_init_5 (by decide) ?_
  refine v_newa C hRm 10 ai_arr h1 (by decide) (by decide) (by decide) dX1_init_7 ?_
  refine q_X1_9 C hinit (show k < k + 1 + 1 from by omega) hs dX1_init_9 ?_
  refine v_aload_n C 0 dX1_init_12 rfl ?_
  refine v_bipush C (nI 10) dX1_init_13 (by decide) ?_
  refine v_newa C hRm 10 ai_arr h2 (by decide) (by decide) (by decide) dX1_init_15 ?_
  refine q_X1_15 C hinit (show k < k + 1 + 1 + 1 from by omega) hs dX1_init_17 ?_
  exact v_ret C hRt dX1_init_20 ⟨rfl, rfl⟩
/-- Heap -/
theorem c_X2_init (l : Launch) (G : GC) (M : Mm) (k : Nat) (hk : k + 1 ≤ 221) (hs : shp k = 2) : Con l G (k + 1) 0 1 yX2_init cX2_init 1 none [.ref (gb G + k)] M 0 0 0 (fun v M' => v = none ∧ M' = up2 M k 2 (nI 30)) := by
  refine Con.of (by decide +kernel) (Nat.le_of_ble_eq_true rfl) ?_
  intro f C hRm hRt hinit
  show Vc f G (0, 0, k + 1, 0) M 0 [(0, .ref (gb G + k))] []
  refine v_aload_n C 0 dX2_init_0 rfl ?_
  refine v_objI C hRm (by decide) oi_X2_1 (by decide) dX2_init_1 ?_
  refine v_aload_n C 0 dX2_init_4 rfl ?_
  refine v_bipush C (nI 30) dX2_init_5 (by decide) ?_
  refine q_X2_7 C (show k < k + 1 from by omega) hs dX2_init_7 ?_
  exact v_ret C hRt dX2_init_10 ⟨rfl, rfl⟩
/-- Sheet -/
theorem c_X5_init (l : Launch) (G : GC) (M : Mm) (k : Nat) (hk : k + 2 ≤ 221) (hs : shp k = 5) (h1 : shp (k + 1) = 1000 + 24) : Con l G (k + 1) 0 1 yX5_init cX5_init 1 none [.ref (gb G + k)] M 1 24 1 (fun v M' => v = none ∧ M' = up2 M k 2 (nI 1)) := by
  refine Con.of (by decide +kernel) (Nat.le_of_ble_eq_true rfl) ?_
  intro f C hRm hRt hinit
  show Vc f G (0, 0, k + 1, 0) M 0 [(0, .ref (gb G + k))] []
  refine v_aload_n C 0 dX5_init_0 rfl ?_
  refine v_objI C hRm (by decide) oi_X5_3 (by decide) dX5_init_1 ?_
  refine v_aload_n C 0 dX5_init_4 rfl ?_
  refine v_bipush C (nI 24) dX5_init_5 (by decide) ?_
  refine v_newa C hRm 24 ai_arr h1 (by decide) (by decide) (by decide) dX5_init_7 ?_
  refine q_X5_9 C hinit (show k < k + 1 + 1 from by omega) hs dX5_init_9 ?_
  exact v_ret C hRt dX5_init_12 ⟨rfl, rfl⟩
/-- Text -/
theorem c_X7_init (l : Launch) (G : GC) (M : Mm) (k : Nat) (hk : k + 3 ≤ 221) (hs : shp k = 7) (h1 : shp (k + 1) = 1000 + 60) (h2 : shp (k + 2) = 1000 + 60) : Con l G (k + 1) 0 1 yX7_init cX7_init 1 none [.ref (gb G + k)] M 2 120 2 (fun v M' => v = none ∧ M' = up2 (up2 M k 0 (nI 1)) k 1 (nI 1)) := by
  refine Con.of (by decide +kernel) (Nat.le_of_ble_eq_true rfl) ?_
  intro f C hRm hRt hinit
  show Vc f G (0, 0, k + 1, 0) M 0 [(0, .ref (gb G + k))] []
  refine v_aload_n C 0 dX7_init_0 rfl ?_
  refine v_objI C hRm (by decide) oi_X7_3 (by decide) dX7_init_1 ?_
  refine v_aload_n C 0 dX7_init_4 rfl ?_
  refine v_bipush C (nI 60) dX7_init_5 (by decide) ?_
  refine v_newa C hRm 60 ai_arr h1 (by decide) (by decide) (by decide) dX7_init_7 ?_
  refine q_X7_9 C hinit (show k < k + 1 + 1 from by omega) hs dX7_init_9 ?_
  refine v_aload_n C 0 dX7_init_12 rfl ?_
  refine v_bipush C (nI 60) dX7_init_13 (by decide) ?_
  refine v_newa C hRm 60 ai_arr h2 (by decide) (by decide) (by decide) dX7_init_15 ?_
  refine q_X7_15 C hinit (show k < k + 1 + 1 + 1 from by omega) hs dX7_init_17 ?_
  exact v_ret C hRt dX7_init_20 ⟨rfl, rfl⟩
